/-! Rebuilder: unfit (printed by gen/s17.py) -/
set_option maxHeartbeats 4000000 in
set_option maxRecDepth 100000 in
theorem c_unfit (l : Launch) (G : Gx) (hr hp ap av he aw al af as_ : Nat) (ar : Nat → Nat) (E : Scr) (h a : Nat) (sh : Nat → Int32) (nu : Int32) (t : Nat) (hok : Sok E) (C T : Nat) (hC : C < 256) (hT : T < 256) (bC : HB sh C) (bT : HB sh T) : Ct l G SF0 yX8_unfit wsX8_unfit ({ frames := 2, cells := 0, slots := 0, locals := 49 }) [.ref hr, .ref h, .int (nI C), .int (nI T)] ((rbW G hr hp ap av he aw al af as_ ar E) ++ [(h, .inr (10, [.ref a, .int nu, .int (nI t)])), (a, .inl (gI G, 8, .inl sh))]) mkI (fun (r : Int32) (u : Scr) => r = nI (unf C (svn sh) T 8) ∧ Sok u) (fun u : Scr => ((rbW G hr hp ap av he aw al af as_ ar u) ++ [(h, .inr (10, [.ref a, .int nu, .int (nI t)])), (a, .inl (gI G, 8, .inl sh))])) 0 0 := by
  refine Ct.ofI (cc := cX8_unfit) (maxL := 6) (by decide) rfl ⟨by simp [Value.category], Nat.le_of_ble_eq_true rfl⟩ ?_
  intro K hl hC hSF hnm hE
  subst hl
  have q0_ : ∀ w ∈ u_ws RX8 TX8 2, w ∈ wsX8_unfit := by decide +kernel
  have q1_ : Cond.fieldLink RX8 12 "FeatherShares$Rebuilder" "points" "LFeatherShares$Points;" ∈ wsX8_unfit := by decide +kernel
  show V G K 6 0 0 0 [some (.ref hr), some (.ref h), some (.int (nI C)), some (.int (nI T)), none, none] [] ((rbW G hr hp ap av he aw al af as_ ar E) ++ [(h, .inr (10, [.ref a, .int nu, .int (nI t)])), (a, .inl (gI G, 8, .inl sh))])
  refine V.iconst hC 0 dX8_unfit_0 rfl ?_
  refine V.istore hC dX8_unfit_1 [some (.ref hr), some (.ref h), some (.int (nI C)), some (.int (nI T)), some (.int 0), none] (Nat.le_of_ble_eq_true rfl) rfl ?_
  refine V.aload_n hC (x := hr) dX8_unfit_3 rfl ?_
  refine V.getf hC (T := TX8) q0_ 0 q1_ rfl (0) rfl rfl (by decide) (.ref hp) rfl dX8_unfit_4 ?_
  refine V.aload_n hC (x := h) dX8_unfit_7 rfl ?_
  refine V.iload_n hC (x := nI C) dX8_unfit_8 rfl ?_
  refine V.callV (n := 2) (As := [.ref h, .int (nI C)]) (rest := []) hC (c_takeFrom (kl K) G hp ap av (E.1) (E.2.1) (E.2.2.1) h a sh nu (nI t) C (by first | assumption | exact fh_256 _ _ _ (Nat.le_refl 8)) (svn sh) (fun b hb q => (bC b hb q).1)) SFk0 SFgo0 gX8_unfit_X5_takeFrom rfl ⟨rfl, rfl⟩ (by decide +kernel) ⟨by decide, by decide, by decide, by decide⟩ [1, 2, 3, 13, 14] rfl (by decide) (fun _ => rfl) rfl rfl rfl rfl (Nat.le_of_ble_eq_true rfl) dX8_unfit_9 (fun r_9 u_9 hp_9 => ?_)
  show V G K 6 0 0 12 [some (.ref hr), some (.ref h), some (.int (nI C)), some (.int (nI T)), some (.int 0), none] [] ((rbW G hr hp ap av he aw al af as_ ar (popb C 8, plr C (E.2.1) 8, vlr C (svn sh) (E.2.2.1) 8, E.2.2.2.1, E.2.2.2.2.1, E.2.2.2.2.2.1, E.2.2.2.2.2.2.1, E.2.2.2.2.2.2.2)) ++ [(h, .inr (10, [.ref a, .int nu, .int (nI t)])), (a, .inl (gI G, 8, .inl sh))])
  refine V.iconst hC 0 dX8_unfit_12 rfl ?_
  refine V.istore hC dX8_unfit_13 [some (.ref hr), some (.ref h), some (.int (nI C)), some (.int (nI T)), some (.int 0), some (.int 0)] (Nat.le_of_ble_eq_true rfl) rfl ?_
  have loop15 : ∀ (n : Nat) (b : Nat), 9 - b < n → (b ≤ 8) → V G K 6 0 0 15 [some (.ref hr), some (.ref h), some (.int (nI C)), some (.int (nI T)), some (.int (nI (unf C (svn sh) T b))), some (.int (nI b))] [] ((rbW G hr hp ap av he aw al af as_ ar (popb C 8, plr C E.2.1 8, vlr C (svn sh) E.2.2.1 8, E.2.2.2.1, E.2.2.2.2.1, E.2.2.2.2.2.1, E.2.2.2.2.2.2.1, E.2.2.2.2.2.2.2)) ++ [(h, .inr (10, [.ref a, .int nu, .int (nI t)])), (a, .inl (gI G, 8, .inl sh))]) := by
    intro n
    induction n with
    | zero => intro b hlt; exact absurd hlt (Nat.not_lt_zero _)
    | succ n ih15 =>
      intro b hlt15 hbb
      have hu8 := unf_le C (svn sh) T b
      refine V.iload hC (x := nI b) dX8_unfit_15 rfl ?_
      refine V.bipush hC 8 dX8_unfit_17 rfl ?_
      refine V.icmpN_ge hC b 8 61 dX8_unfit_19 rfl rfl rfl (by omega) (by omega) (fun c_19 => ?_) (fun c_19 => ?_)
      · refine V.lset 4 (x := .int (nI (unf C (svn sh) T b))) (y := .int (nI (unf C (svn sh) T 8))) (congrArg Value.int (by rw [show b = 8 by omega])) rfl (lv' := [some (.ref hr), some (.ref h), some (.int (nI C)), some (.int (nI T)), some (.int (nI (unf C (svn sh) T 8))), some (.int (nI b))]) rfl ?_
        refine V.iload hC (x := nI (unf C (svn sh) T 8)) dX8_unfit_61 rfl ?_
        exact hE 63 _ (nI (unf C (svn sh) T 8)) (popb C 8, plr C E.2.1 8, vlr C (svn sh) E.2.2.1 8, E.2.2.2.1, E.2.2.2.2.1, E.2.2.2.2.2.1, E.2.2.2.2.2.2.1, E.2.2.2.2.2.2.2) dX8_unfit_63 rfl ⟨rfl, hok⟩
      · refine V.iload_n hC (x := nI T) dX8_unfit_22 rfl ?_
        refine V.iload hC (x := nI b) dX8_unfit_23 rfl ?_
        refine V.ishr hC dX8_unfit_25 ?_
        refine V.iconst hC 1 dX8_unfit_26 rfl ?_
        refine V.iand hC dX8_unfit_27 ?_
        refine V.topeq (nI (T / 2 ^ b % 2)) (bit8 b (by omega) T hT) ?_
        refine V.iconst hC 1 dX8_unfit_28 rfl ?_
        refine V.icmpN_ne hC (T / 2 ^ b % 2) 1 55 dX8_unfit_29 rfl rfl rfl (r31 (by decide) (by decide)) (by omega) (fun c_29 => ?_) (fun c_29 => ?_)
        · refine V.lset 4 (x := .int (nI (unf C (svn sh) T b))) (y := .int (nI (unf C (svn sh) T (b + 1)))) (congrArg Value.int (congrArg nI (unf_n c_29))) rfl (lv' := [some (.ref hr), some (.ref h), some (.int (nI C)), some (.int (nI T)), some (.int (nI (unf C (svn sh) T (b + 1)))), some (.int (nI b))]) rfl ?_
          refine V.iincN hC b 1 dX8_unfit_55 rfl [some (.ref hr), some (.ref h), some (.int (nI C)), some (.int (nI T)), some (.int (nI (unf C (svn sh) T (b + 1)))), some (.int (nI (b + 1)))] (Nat.le_of_ble_eq_true rfl) rfl rfl rfl ?_
          refine V.goto hC 15 dX8_unfit_58 rfl ?_
          exact ih15 (b + 1) (by omega) (by omega)
        · refine V.aload_n hC (x := hr) dX8_unfit_32 rfl ?_
          refine V.getf hC (T := TX8) q0_ 0 q1_ rfl (0) rfl rfl (by decide) (.ref hp) rfl dX8_unfit_33 ?_
          refine V.iload hC (x := nI b) dX8_unfit_36 rfl ?_
          refine V.iconst hC 1 dX8_unfit_38 rfl ?_
          refine V.iaddN hC b 1 dX8_unfit_39 rfl rfl ?_
          refine V.callVr (n := 1) (As := [.int (nI (b + 1))]) (rest := []) hC (c_pointsAt (kl K) G hp ap av (popb C 8) (plr C E.2.1 8) (vlr C (svn sh) E.2.2.1 8) (popb_le _ _) (fun j q => plr_le q) (fun j q => vlr_lt (fun b hb y => (bC b hb y).2) q) (b + 1) (by omega)) SFk0 SFgo0 gX8_unfit_X5_valueAt rfl ⟨rfl, rfl⟩ (by decide +kernel) ⟨by decide, by decide, by decide, by decide⟩ [1, 2, 3] rfl (by decide) rfl rfl rfl rfl (Nat.le_of_ble_eq_true rfl) dX8_unfit_40 (fun r_40 u_40 hp_40 => ?_)
          subst hp_40
          show V G K 6 0 0 43 [some (.ref hr), some (.ref h), some (.int (nI C)), some (.int (nI T)), some (.int (nI (unf C (svn sh) T b))), some (.int (nI b))] [.int (nI (lgv (plr C E.2.1 8) (vlr C (svn sh) E.2.2.1 8) (popb C 8) (b + 1) (popb C 8)))] ((rbW G hr hp ap av he aw al af as_ ar (popb C 8, plr C E.2.1 8, vlr C (svn sh) E.2.2.1 8, E.2.2.2.1, E.2.2.2.2.1, E.2.2.2.2.2.1, E.2.2.2.2.2.2.1, E.2.2.2.2.2.2.2)) ++ [(h, .inr (10, [.ref a, .int nu, .int (nI t)])), (a, .inl (gI G, 8, .inl sh))])
          refine V.topeq (nI (lagS C (svn sh) (b + 1))) (congrArg nI (lgv_lagS _ _ _ _ _)) ?_
          refine V.aload_n hC (x := h) dX8_unfit_43 rfl ?_
          refine V.iload hC (x := nI b) dX8_unfit_44 rfl ?_
          refine V.callVr (n := 1) (As := [.int (nI b)]) (rest := [.int (nI (lagS C (svn sh) (b + 1)))]) hC (c_shareWith (kl K) G h a sh nu (nI t) b (by omega)) SFk0 SFgo0 gX8_unfit_X10_shareWith rfl ⟨rfl, rfl⟩ (by decide +kernel) ⟨by decide, by decide, by decide, by decide⟩ [13, 14] rfl (by decide) rfl rfl rfl rfl (Nat.le_of_ble_eq_true rfl) dX8_unfit_46 (fun r_46 u_46 hp_46 => ?_)
          subst hp_46
          show V G K 6 0 0 49 [some (.ref hr), some (.ref h), some (.int (nI C)), some (.int (nI T)), some (.int (nI (unf C (svn sh) T b))), some (.int (nI b))] [.int (sh b), .int (nI (lagS C (svn sh) (b + 1)))] ((rbW G hr hp ap av he aw al af as_ ar (popb C 8, plr C E.2.1 8, vlr C (svn sh) E.2.2.1 8, E.2.2.2.1, E.2.2.2.2.1, E.2.2.2.2.2.1, E.2.2.2.2.2.2.1, E.2.2.2.2.2.2.2)) ++ [(h, .inr (10, [.ref a, .int nu, .int (nI t)])), (a, .inl (gI G, 8, .inl sh))])
          refine V.topeq (nI (svn sh b)) ((bT b (by omega) c_29).1) ?_
          refine V.icmpN_eq hC (lagS C (svn sh) (b + 1)) (svn sh b) 55 dX8_unfit_49 rfl rfl rfl (Nat.lt_trans (lagS_lt _ _ _) (by decide)) (Nat.lt_trans (bT b (by omega) c_29).2 (by decide)) (fun c_49 => ?_) (fun c_49 => ?_)
          · refine V.lset 4 (x := .int (nI (unf C (svn sh) T b))) (y := .int (nI (unf C (svn sh) T (b + 1)))) (congrArg Value.int (congrArg nI (unf_e c_49))) rfl (lv' := [some (.ref hr), some (.ref h), some (.int (nI C)), some (.int (nI T)), some (.int (nI (unf C (svn sh) T (b + 1)))), some (.int (nI b))]) rfl ?_
            refine V.iincN hC b 1 dX8_unfit_55 rfl [some (.ref hr), some (.ref h), some (.int (nI C)), some (.int (nI T)), some (.int (nI (unf C (svn sh) T (b + 1)))), some (.int (nI (b + 1)))] (Nat.le_of_ble_eq_true rfl) rfl rfl rfl ?_
            refine V.goto hC 15 dX8_unfit_58 rfl ?_
            exact ih15 (b + 1) (by omega) (by omega)
          · refine V.iincN hC (unf C (svn sh) T b) 1 dX8_unfit_52 rfl [some (.ref hr), some (.ref h), some (.int (nI C)), some (.int (nI T)), some (.int (nI (unf C (svn sh) T b + 1))), some (.int (nI b))] (Nat.le_of_ble_eq_true rfl) rfl rfl rfl ?_
            refine V.lset 4 (x := .int (nI (unf C (svn sh) T b + 1))) (y := .int (nI (unf C (svn sh) T (b + 1)))) (congrArg Value.int (congrArg nI (unf_y c_29 c_49))) rfl (lv' := [some (.ref hr), some (.ref h), some (.int (nI C)), some (.int (nI T)), some (.int (nI (unf C (svn sh) T (b + 1)))), some (.int (nI b))]) rfl ?_
            refine V.iincN hC b 1 dX8_unfit_55 rfl [some (.ref hr), some (.ref h), some (.int (nI C)), some (.int (nI T)), some (.int (nI (unf C (svn sh) T (b + 1)))), some (.int (nI (b + 1)))] (Nat.le_of_ble_eq_true rfl) rfl rfl rfl ?_
            refine V.goto hC 15 dX8_unfit_58 rfl ?_
            exact ih15 (b + 1) (by omega) (by omega)
  exact loop15 _ 0 (Nat.lt_succ_self _) (by omega)
