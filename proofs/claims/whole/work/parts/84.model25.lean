/-! the document's model: a command read (printed by gen/s84.py) -/
/-- how many arguments a command has -/
def nar (i : Nat) : Nat := ([1, 2, 3, 2, 3, 2, 2, 1] : List Nat).getD i 0
theorem wl_v : wl 0 = 5 ∧ wl 1 = 5 ∧ wl 2 = 6 ∧ wl 3 = 5 ∧ wl 4 = 6 ∧ wl 5 = 6 ∧ wl 6 = 8 ∧ wl 7 = 7 := by decide
/-- what a command's numbers are -/
def Gd (tf : Nat → Int32) (ln sr i : Nat) (μ : Nat → Int32) (b : Nat) : Prop := μ b = nI i ∧ (∀ j, j < nar i → μ (b + 1 + j) = agx tf ln sr i j) ∧ ∀ j, nar i ≤ j → agx tf ln sr i j = 0
theorem agx_in {tf : Nat → Int32} {ln sr w n p a : Nat} {g : Nat → Int32} (hn : n = fLen.getD w 0) (h : hfm tf ln sr (fun _ => 0) w n = (1, p, a, g)) {j : Nat} (hj : j < a) : agx tf ln sr w j = g j := by
  subst hn
  have e : hk tf ln sr w = (1, p, a, g) := h
  rw [agx, e]
  exact if_pos hj
theorem agx_out {tf : Nat → Int32} {ln sr w n p a : Nat} {g : Nat → Int32} (hn : n = fLen.getD w 0) (h : hfm tf ln sr (fun _ => 0) w n = (1, p, a, g)) {j : Nat} (hj : a ≤ j) : agx tf ln sr w j = 0 := by
  subst hn
  have e : hk tf ln sr w = (1, p, a, g) := h
  rw [agx, e]
  exact if_neg (by show ¬ j < a; omega)
theorem hk_1 {tf : Nat → Int32} {ln sr w n p a : Nat} {g : Nat → Int32} (hn : n = fLen.getD w 0) (h : hfm tf ln sr (fun _ => 0) w n = (1, p, a, g)) : ¬ (hk tf ln sr w).1 = 0 ∧ (hk tf ln sr w).2.1 = p := by
  subst hn
  have e : hk tf ln sr w = (1, p, a, g) := h
  rw [e]
  exact ⟨Nat.one_ne_zero, rfl⟩
theorem hk_0 {tf : Nat → Int32} {ln sr w n p : Nat} (hn : n = fLen.getD w 0) (h : (hfm tf ln sr (fun _ => 0) w n).1 = 0 ∧ (hfm tf ln sr (fun _ => 0) w n).2.1 = p) : (hk tf ln sr w).1 = 0 ∧ (hk tf ln sr w).2.1 = p := by
  subst hn
  exact h
theorem sg32 {x : Int32} : (¬ x < 32 ∧ ¬ 32 < x) ↔ x = nI 32 := by
  rw [← Int32.toInt_inj, Int32.lt_iff_toInt_lt, Int32.lt_iff_toInt_lt, show (32 : Int32).toInt = 32 by decide, show (nI 32).toInt = 32 by decide]
  omega
set_option maxHeartbeats 16000000 in
set_option maxRecDepth 100000 in
theorem m_readsCommand (l : Launch) (G : Gx) (m nw bf sv hy tx li nmb : Nat) (iS rmb eA fA tyd ldd thr : Int32) (ln sr c : Nat) (hln : ln ≤ 60) (hsr : sr ≤ ln) (hc : c ≤ 20) (τ μ : Nat → Int32) : Ct l G (SFt G) yX13_readsCommand wsX13_readsCommand ({ frames := 5, cells := 0, slots := 0, locals := 110 }) [.ref m] [(m, .inr (13, [.ref nw, .ref bf, .ref sv, .ref hy, .int iS, .int rmb, .int eA, .int fA, .ref tx, .int tyd, .ref li, .int ldd, .int thr, .int (nI ln), .int (nI sr), .int (-1), .int (nI c), .ref nmb])), (tx, .inl (gI G, 60, .inl τ)), (nmb, .inl (gI G, 120, .inl μ))] mkV (fun (_ : Unit) (u : Nat × Int32 × (Nat → Int32)) => (∃ i, kf τ ln sr 8 = some i ∧ u.1 = (hk τ ln sr i).2.1 ∧ u.2.1 = -1 ∧ Gd τ ln sr i u.2.2 (4 * c) ∧ ∀ z, z < 4 * c → u.2.2 z = μ z) ∨ (kf τ ln sr 8 = none ∧ u.2.1 = nI (kr τ ln sr 8) ∧ u.1 ≤ 60 ∧ ∀ z, z < 4 * c → u.2.2 z = μ z)) (fun u : Nat × Int32 × (Nat → Int32) => [(m, .inr (13, [.ref nw, .ref bf, .ref sv, .ref hy, .int iS, .int rmb, .int eA, .int fA, .ref tx, .int tyd, .ref li, .int ldd, .int thr, .int (nI ln), .int (nI (u.1)), .int (u.2.1), .int (nI (c + 1)), .ref nmb])), (tx, .inl (gI G, 60, .inl τ)), (nmb, .inl (gI G, 120, .inl (u.2.2)))]) 0 0 := by
  refine Ct.ofV (cc := cX13_readsCommand) (maxL := 4) (by decide) rfl ⟨by simp [Value.category], Nat.le_of_ble_eq_true rfl⟩ ?_
  intro K hl hC hSF hnm hE
  subst hl
  have hgot := SFgoS (SFt.k G) hSF
  have hgo := SFgo.x hgot
  have hSFt := hSF
  replace hSF := hSF.1
  have q0_ : ∀ w ∈ u_ws RX13 TX13 18, w ∈ wsX13_readsCommand := by decide +kernel
  have q1_ : Cond.fieldLink RX13 217 "FeatherSharesModel" "told" "I" ∈ wsX13_readsCommand := by decide +kernel
  have q2_ : Cond.fieldLink RX13 35 "FeatherSharesModel" "numbers" "[I" ∈ wsX13_readsCommand := by decide +kernel
  have q3_ : Cond.fieldLink RX13 194 "FeatherSharesModel" "wrong" "I" ∈ wsX13_readsCommand := by decide +kernel
  show V G K 4 0 0 0 [some (.ref m), none, none, none] [] [(m, .inr (13, [.ref nw, .ref bf, .ref sv, .ref hy, .int iS, .int rmb, .int eA, .int fA, .ref tx, .int tyd, .ref li, .int ldd, .int thr, .int (nI ln), .int (nI sr), .int (-1), .int (nI c), .ref nmb])), (tx, .inl (gI G, 60, .inl τ)), (nmb, .inl (gI G, 120, .inl μ))]
  refine V.iconst hC 4 dX13_readsCommand_0 rfl ?_
  refine V.aload_n hC (x := m) dX13_readsCommand_1 rfl ?_
  refine V.getf hC (T := TX13) q0_ 16 q1_ rfl (0) rfl rfl (by decide) (.int (nI c)) rfl dX13_readsCommand_2 ?_
  refine V.imulN hC 4 c dX13_readsCommand_5 rfl rfl ?_
  refine V.istore_n hC dX13_readsCommand_6 [some (.ref m), some (.int (nI (4 * c))), none, none] (Nat.le_of_ble_eq_true rfl) rfl ?_
  refine V.aload_n hC (x := m) dX13_readsCommand_7 rfl ?_
  refine V.callV (n := 0) (As := []) (rest := []) hC (m_kindHere (kl K) G m nw bf sv hy tx li nmb iS rmb eA fA tyd ldd thr (nI c) ln sr hln hsr τ) (SFt.k G) hgot gX13_readsCommand_X13_kindHere rfl ⟨rfl, rfl⟩ (by decide +kernel) ⟨by decide, by decide, by decide, by decide⟩ [0, 1] rfl (by decide) (fun _ => rfl) rfl rfl rfl rfl (Nat.le_of_ble_eq_true rfl) dX13_readsCommand_8 (fun r_8 u_8 hp_8 => ?_)
  rcases hp_8 with ⟨k, hk8, hr, hu1, hu2⟩ | ⟨hk8, hr, hu1, hu2⟩
  · have hks := wkf_some hk8
    subst hr
    obtain rfl | rfl | rfl | rfl | rfl | rfl | rfl | rfl := lt8 hks.1
    · have hs0 := hk_yes (by decide) hks.2
      rw [wl_v.1] at hu1 hs0
      refine V.eqw (ws' := [(m, .inr (13, [.ref nw, .ref bf, .ref sv, .ref hy, .int iS, .int rmb, .int eA, .int fA, .ref tx, .int tyd, .ref li, .int ldd, .int thr, .int (nI ln), .int (nI (sr + 5)), .int (-1), .int (nI c), .ref nmb])), (tx, .inl (gI G, 60, .inl τ)), (nmb, .inl (gI G, 120, .inl μ))]) (by rw [hu1, hu2]; rfl) ?_
      have hp_w : sr + 5 ≤ ln := by have := hfm_ln (tf := τ) (ln := ln) (sr := sr) (af := fun _ => 0) (i := 0) hsr (fun j => chr_m1 0 (by decide) j) 5; rw [hs0] at this; exact this
      refine V.istore_n hC dX13_readsCommand_11 [some (.ref m), some (.int (nI (4 * c))), some (.int (nI 0)), none] (Nat.le_of_ble_eq_true rfl) rfl ?_
      refine V.aload_n hC (x := m) dX13_readsCommand_12 rfl ?_
      refine V.getf hC (T := TX13) q0_ 17 q2_ rfl (0) rfl rfl (by decide) (.ref nmb) rfl dX13_readsCommand_13 ?_
      refine V.iload_n hC (x := nI (4 * c)) dX13_readsCommand_16 rfl ?_
      refine V.iload_n hC (x := nI 0) dX13_readsCommand_17 rfl ?_
      refine V.iast hC dX13_readsCommand_18 (2) rfl (4 * c) rfl (by omega) (by decide) [(m, .inr (13, [.ref nw, .ref bf, .ref sv, .ref hy, .int iS, .int rmb, .int eA, .int fA, .ref tx, .int tyd, .ref li, .int ldd, .int thr, .int (nI ln), .int (nI (sr + 5)), .int (-1), .int (nI c), .ref nmb])), (tx, .inl (gI G, 60, .inl τ)), (nmb, .inl (gI G, 120, .inl (upd μ (4 * c) (nI 0))))] rfl ?_
      refine V.aload_n hC (x := m) dX13_readsCommand_19 rfl ?_
      refine V.dup hC dX13_readsCommand_20 rfl ?_
      refine V.getf hC (T := TX13) q0_ 16 q1_ rfl (0) rfl rfl (by decide) (.int (nI c)) rfl dX13_readsCommand_21 ?_
      refine V.iconst hC 1 dX13_readsCommand_24 rfl ?_
      refine V.iaddN hC c 1 dX13_readsCommand_25 rfl rfl ?_
      refine V.putf hC (T := TX13) q0_ tyX13 tyX13_ok nmX13 16 q1_ rfl rfl (0) rfl rfl (by decide) (by simp) rfl rfl dX13_readsCommand_26 [(m, .inr (13, [.ref nw, .ref bf, .ref sv, .ref hy, .int iS, .int rmb, .int eA, .int fA, .ref tx, .int tyd, .ref li, .int ldd, .int thr, .int (nI ln), .int (nI (sr + 5)), .int (-1), .int (nI (c + 1)), .ref nmb])), (tx, .inl (gI G, 60, .inl τ)), (nmb, .inl (gI G, 120, .inl (upd μ (4 * c) (nI 0))))] rfl ?_
      refine V.aload_n hC (x := m) dX13_readsCommand_29 rfl ?_
      refine V.getf hC (T := TX13) q0_ 15 q3_ rfl (0) rfl rfl (by decide) (.int (-1)) rfl dX13_readsCommand_30 ?_
      refine V.iconst hC (-1) dX13_readsCommand_33 rfl ?_
      refine V.icmp_eq hC 38 dX13_readsCommand_34 rfl (fun c_34 => ?_) (fun c_34 => ?_)
      · refine V.iload_n hC (x := nI 0) dX13_readsCommand_38 rfl ?_
        refine V.iconst hC 2 dX13_readsCommand_39 rfl ?_
        refine V.icmpN_eq hC 0 2 55 dX13_readsCommand_40 rfl rfl rfl (by omega) (by omega) (fun c_40 => ?_) (fun c_40 => ?_)
        · exact absurd c_40 (by decide)
        · refine V.iload_n hC (x := nI 0) dX13_readsCommand_43 rfl ?_
          refine V.bipush hC 6 dX13_readsCommand_44 rfl ?_
          refine V.icmpN_eq hC 0 6 55 dX13_readsCommand_46 rfl rfl rfl (by omega) (by omega) (fun c_46 => ?_) (fun c_46 => ?_)
          · exact absurd c_46 (by decide)
          · refine V.iload_n hC (x := nI 0) dX13_readsCommand_49 rfl ?_
            refine V.bipush hC 7 dX13_readsCommand_50 rfl ?_
            refine V.icmpN_ne hC 0 7 59 dX13_readsCommand_52 rfl rfl rfl (by omega) (by omega) (fun c_52 => ?_) (fun c_52 => ?_)
            · refine V.iconst hC 0 dX13_readsCommand_59 rfl ?_
              refine V.istore_n hC dX13_readsCommand_60 [some (.ref m), some (.int (nI (4 * c))), some (.int (nI 0)), some (.int 0)] (Nat.le_of_ble_eq_true rfl) rfl ?_
              refine V.aload_n hC (x := m) dX13_readsCommand_61 rfl ?_
              refine V.getf hC (T := TX13) q0_ 17 q2_ rfl (0) rfl rfl (by decide) (.ref nmb) rfl dX13_readsCommand_62 ?_
              refine V.iload_n hC (x := nI (4 * c)) dX13_readsCommand_65 rfl ?_
              refine V.iconst hC 1 dX13_readsCommand_66 rfl ?_
              refine V.iaddN hC (4 * c) 1 dX13_readsCommand_67 rfl rfl ?_
              refine V.iload_n hC (x := 0) dX13_readsCommand_68 rfl ?_
              refine V.ifN_eq hC 0 79 dX13_readsCommand_69 rfl rfl (by omega) (fun c_69 => ?_) (fun c_69 => ?_)
              · refine V.aload_n hC (x := m) dX13_readsCommand_79 rfl ?_
                by_cases hd_80 : dct τ ln (sr + 5) 1 = 0
                · have hF := hk_0 (n := 6) (by decide) (hf_d hs0 (by decide) hd_80 (by decide))
                  refine V.callV (n := 0) (As := []) (rest := [.int (nI ((4 * c) + 1)), .ref nmb]) hC (m_digitN (kl K) G m nw bf sv hy tx li nmb iS rmb eA fA tyd ldd thr (nI (c + 1)) ln (sr + 5) hln hp_w τ (dct1n hd_80)) SFk0 SFgo0 gX13_readsCommand_X13_digit rfl ⟨rfl, rfl⟩ (by decide +kernel) ⟨by decide, by decide, by decide, by decide⟩ [0, 1] rfl (by decide) (fun _ => rfl) rfl rfl rfl rfl (Nat.le_of_ble_eq_true rfl) dX13_readsCommand_80 (fun r_80 u_80 hp_80 => ?_)
                  subst hp_80
                  show V G K 4 0 0 83 [some (.ref m), some (.int (nI (4 * c))), some (.int (nI 0)), some (.int 0)] [.int (nI 0), .int (nI ((4 * c) + 1)), .ref nmb] [(m, .inr (13, [.ref nw, .ref bf, .ref sv, .ref hy, .int iS, .int rmb, .int eA, .int fA, .ref tx, .int tyd, .ref li, .int ldd, .int thr, .int (nI ln), .int (nI (sr + 5)), .int (nI (sr + 5)), .int (nI (c + 1)), .ref nmb])), (tx, .inl (gI G, 60, .inl τ)), (nmb, .inl (gI G, 120, .inl (upd μ (4 * c) (nI 0))))]
                  refine V.iast hC dX13_readsCommand_83 (2) rfl ((4 * c) + 1) rfl (by omega) (by decide) [(m, .inr (13, [.ref nw, .ref bf, .ref sv, .ref hy, .int iS, .int rmb, .int eA, .int fA, .ref tx, .int tyd, .ref li, .int ldd, .int thr, .int (nI ln), .int (nI (sr + 5)), .int (nI (sr + 5)), .int (nI (c + 1)), .ref nmb])), (tx, .inl (gI G, 60, .inl τ)), (nmb, .inl (gI G, 120, .inl (upd (upd μ (4 * c) (nI 0)) ((4 * c) + 1) (nI 0))))] rfl ?_
                  refine V.iload_n hC (x := nI 0) dX13_readsCommand_84 rfl ?_
                  refine V.ifN_eq hC 0 94 dX13_readsCommand_85 rfl rfl (by omega) (fun c_85 => ?_) (fun c_85 => ?_)
                  · have hL : ∀ z, z < 4 * c → (upd (upd μ (4 * c) (nI 0)) ((4 * c) + 1) (nI 0)) z = μ z := fun z hz => (pk_un (by omega)).trans ((pk_un (by omega)).trans (rfl))
                    have hB : sr + 5 ≤ 60 := by omega
                    exact hE 94 _ (sr + 5, nI (sr + 5), upd (upd μ (4 * c) (nI 0)) ((4 * c) + 1) (nI 0)) dX13_readsCommand_94 (Or.inr ⟨(rd_no hk8 hF (by omega)).1, congrArg nI (rd_no hk8 hF (by omega)).2.symm, hB, hL⟩)
                  · exact absurd c_85 (by decide)
                · refine V.callV (n := 0) (As := []) (rest := [.int (nI ((4 * c) + 1)), .ref nmb]) hC (m_digitY (kl K) G m nw bf sv hy tx li nmb iS rmb eA fA tyd ldd thr (nI (c + 1)) ln (sr + 5) hln hp_w τ hd_80) SFk0 SFgo0 gX13_readsCommand_X13_digit rfl ⟨rfl, rfl⟩ (by decide +kernel) ⟨by decide, by decide, by decide, by decide⟩ [0, 1] rfl (by decide) (fun _ => rfl) rfl rfl rfl rfl (Nat.le_of_ble_eq_true rfl) dX13_readsCommand_80 (fun r_80 u_80 hp_80 => ?_)
                  obtain ⟨hr_80, hu_80, hl_80⟩ := hp_80
                  have hs_80 := hs_d hs0 (by decide) hd_80 hr_80 hu_80
                  have hg_80 : sr + 5 ≤ u_80 := by omega
                  show V G K 4 0 0 83 [some (.ref m), some (.int (nI (4 * c))), some (.int (nI 0)), some (.int 0)] [.int r_80, .int (nI ((4 * c) + 1)), .ref nmb] [(m, .inr (13, [.ref nw, .ref bf, .ref sv, .ref hy, .int iS, .int rmb, .int eA, .int fA, .ref tx, .int tyd, .ref li, .int ldd, .int thr, .int (nI ln), .int (nI u_80), .int (-1), .int (nI (c + 1)), .ref nmb])), (tx, .inl (gI G, 60, .inl τ)), (nmb, .inl (gI G, 120, .inl (upd μ (4 * c) (nI 0))))]
                  refine V.iast hC dX13_readsCommand_83 (2) rfl ((4 * c) + 1) rfl (by omega) (by decide) [(m, .inr (13, [.ref nw, .ref bf, .ref sv, .ref hy, .int iS, .int rmb, .int eA, .int fA, .ref tx, .int tyd, .ref li, .int ldd, .int thr, .int (nI ln), .int (nI u_80), .int (-1), .int (nI (c + 1)), .ref nmb])), (tx, .inl (gI G, 60, .inl τ)), (nmb, .inl (gI G, 120, .inl (upd (upd μ (4 * c) (nI 0)) ((4 * c) + 1) r_80)))] rfl ?_
                  refine V.iload_n hC (x := nI 0) dX13_readsCommand_84 rfl ?_
                  refine V.ifN_eq hC 0 94 dX13_readsCommand_85 rfl rfl (by omega) (fun c_85 => ?_) (fun c_85 => ?_)
                  · have hL : ∀ z, z < 4 * c → (upd (upd μ (4 * c) (nI 0)) ((4 * c) + 1) r_80) z = μ z := fun z hz => (pk_un (by omega)).trans ((pk_un (by omega)).trans (rfl))
                    have hB : u_80 ≤ 60 := by omega
                    have hK : (upd (upd μ (4 * c) (nI 0)) ((4 * c) + 1) r_80) (4 * c) = nI 0 := (pk_un (by omega)).trans (pk_us)
                    have hJ : ∀ j, j < nar 0 → (upd (upd μ (4 * c) (nI 0)) ((4 * c) + 1) r_80) (4 * c + 1 + j) = agx τ ln sr 0 j := by
                      intro j hj
                      have hj2 : j < 1 := hj
                      obtain rfl : j = 0 := by omega
                      · exact (pk_us).trans ((agx_in (n := 6) (by decide) hs_80 (by decide)).trans (pk_us)).symm
                    exact hE 94 _ (u_80, -1, upd (upd μ (4 * c) (nI 0)) ((4 * c) + 1) r_80) dX13_readsCommand_94 (Or.inl ⟨0, rd_yes hk8 (hk_1 (n := 6) (by decide) hs_80).1, (hk_1 (n := 6) (by decide) hs_80).2.symm, rfl, ⟨hK, hJ, fun j hj => agx_out (n := 6) (by decide) hs_80 hj⟩, hL⟩)
                  · exact absurd c_85 (by decide)
              · exact absurd c_69 (by decide)
            · exact absurd c_52 (by decide)
      · exact absurd rfl c_34
    · have hs0 := hk_yes (by decide) hks.2
      rw [wl_v.2.1] at hu1 hs0
      refine V.eqw (ws' := [(m, .inr (13, [.ref nw, .ref bf, .ref sv, .ref hy, .int iS, .int rmb, .int eA, .int fA, .ref tx, .int tyd, .ref li, .int ldd, .int thr, .int (nI ln), .int (nI (sr + 5)), .int (-1), .int (nI c), .ref nmb])), (tx, .inl (gI G, 60, .inl τ)), (nmb, .inl (gI G, 120, .inl μ))]) (by rw [hu1, hu2]; rfl) ?_
      have hp_w : sr + 5 ≤ ln := by have := hfm_ln (tf := τ) (ln := ln) (sr := sr) (af := fun _ => 0) (i := 1) hsr (fun j => chr_m1 1 (by decide) j) 5; rw [hs0] at this; exact this
      refine V.istore_n hC dX13_readsCommand_11 [some (.ref m), some (.int (nI (4 * c))), some (.int (nI 1)), none] (Nat.le_of_ble_eq_true rfl) rfl ?_
      refine V.aload_n hC (x := m) dX13_readsCommand_12 rfl ?_
      refine V.getf hC (T := TX13) q0_ 17 q2_ rfl (0) rfl rfl (by decide) (.ref nmb) rfl dX13_readsCommand_13 ?_
      refine V.iload_n hC (x := nI (4 * c)) dX13_readsCommand_16 rfl ?_
      refine V.iload_n hC (x := nI 1) dX13_readsCommand_17 rfl ?_
      refine V.iast hC dX13_readsCommand_18 (2) rfl (4 * c) rfl (by omega) (by decide) [(m, .inr (13, [.ref nw, .ref bf, .ref sv, .ref hy, .int iS, .int rmb, .int eA, .int fA, .ref tx, .int tyd, .ref li, .int ldd, .int thr, .int (nI ln), .int (nI (sr + 5)), .int (-1), .int (nI c), .ref nmb])), (tx, .inl (gI G, 60, .inl τ)), (nmb, .inl (gI G, 120, .inl (upd μ (4 * c) (nI 1))))] rfl ?_
      refine V.aload_n hC (x := m) dX13_readsCommand_19 rfl ?_
      refine V.dup hC dX13_readsCommand_20 rfl ?_
      refine V.getf hC (T := TX13) q0_ 16 q1_ rfl (0) rfl rfl (by decide) (.int (nI c)) rfl dX13_readsCommand_21 ?_
      refine V.iconst hC 1 dX13_readsCommand_24 rfl ?_
      refine V.iaddN hC c 1 dX13_readsCommand_25 rfl rfl ?_
      refine V.putf hC (T := TX13) q0_ tyX13 tyX13_ok nmX13 16 q1_ rfl rfl (0) rfl rfl (by decide) (by simp) rfl rfl dX13_readsCommand_26 [(m, .inr (13, [.ref nw, .ref bf, .ref sv, .ref hy, .int iS, .int rmb, .int eA, .int fA, .ref tx, .int tyd, .ref li, .int ldd, .int thr, .int (nI ln), .int (nI (sr + 5)), .int (-1), .int (nI (c + 1)), .ref nmb])), (tx, .inl (gI G, 60, .inl τ)), (nmb, .inl (gI G, 120, .inl (upd μ (4 * c) (nI 1))))] rfl ?_
      refine V.aload_n hC (x := m) dX13_readsCommand_29 rfl ?_
      refine V.getf hC (T := TX13) q0_ 15 q3_ rfl (0) rfl rfl (by decide) (.int (-1)) rfl dX13_readsCommand_30 ?_
      refine V.iconst hC (-1) dX13_readsCommand_33 rfl ?_
      refine V.icmp_eq hC 38 dX13_readsCommand_34 rfl (fun c_34 => ?_) (fun c_34 => ?_)
      · refine V.iload_n hC (x := nI 1) dX13_readsCommand_38 rfl ?_
        refine V.iconst hC 2 dX13_readsCommand_39 rfl ?_
        refine V.icmpN_eq hC 1 2 55 dX13_readsCommand_40 rfl rfl rfl (by omega) (by omega) (fun c_40 => ?_) (fun c_40 => ?_)
        · exact absurd c_40 (by decide)
        · refine V.iload_n hC (x := nI 1) dX13_readsCommand_43 rfl ?_
          refine V.bipush hC 6 dX13_readsCommand_44 rfl ?_
          refine V.icmpN_eq hC 1 6 55 dX13_readsCommand_46 rfl rfl rfl (by omega) (by omega) (fun c_46 => ?_) (fun c_46 => ?_)
          · exact absurd c_46 (by decide)
          · refine V.iload_n hC (x := nI 1) dX13_readsCommand_49 rfl ?_
            refine V.bipush hC 7 dX13_readsCommand_50 rfl ?_
            refine V.icmpN_ne hC 1 7 59 dX13_readsCommand_52 rfl rfl rfl (by omega) (by omega) (fun c_52 => ?_) (fun c_52 => ?_)
            · refine V.iconst hC 0 dX13_readsCommand_59 rfl ?_
              refine V.istore_n hC dX13_readsCommand_60 [some (.ref m), some (.int (nI (4 * c))), some (.int (nI 1)), some (.int 0)] (Nat.le_of_ble_eq_true rfl) rfl ?_
              refine V.aload_n hC (x := m) dX13_readsCommand_61 rfl ?_
              refine V.getf hC (T := TX13) q0_ 17 q2_ rfl (0) rfl rfl (by decide) (.ref nmb) rfl dX13_readsCommand_62 ?_
              refine V.iload_n hC (x := nI (4 * c)) dX13_readsCommand_65 rfl ?_
              refine V.iconst hC 1 dX13_readsCommand_66 rfl ?_
              refine V.iaddN hC (4 * c) 1 dX13_readsCommand_67 rfl rfl ?_
              refine V.iload_n hC (x := 0) dX13_readsCommand_68 rfl ?_
              refine V.ifN_eq hC 0 79 dX13_readsCommand_69 rfl rfl (by omega) (fun c_69 => ?_) (fun c_69 => ?_)
              · refine V.aload_n hC (x := m) dX13_readsCommand_79 rfl ?_
                by_cases hd_80 : dct τ ln (sr + 5) 1 = 0
                · have hF := hk_0 (n := 8) (by decide) (hf_d hs0 (by decide) hd_80 (by decide))
                  refine V.callV (n := 0) (As := []) (rest := [.int (nI ((4 * c) + 1)), .ref nmb]) hC (m_digitN (kl K) G m nw bf sv hy tx li nmb iS rmb eA fA tyd ldd thr (nI (c + 1)) ln (sr + 5) hln hp_w τ (dct1n hd_80)) SFk0 SFgo0 gX13_readsCommand_X13_digit rfl ⟨rfl, rfl⟩ (by decide +kernel) ⟨by decide, by decide, by decide, by decide⟩ [0, 1] rfl (by decide) (fun _ => rfl) rfl rfl rfl rfl (Nat.le_of_ble_eq_true rfl) dX13_readsCommand_80 (fun r_80 u_80 hp_80 => ?_)
                  subst hp_80
                  show V G K 4 0 0 83 [some (.ref m), some (.int (nI (4 * c))), some (.int (nI 1)), some (.int 0)] [.int (nI 0), .int (nI ((4 * c) + 1)), .ref nmb] [(m, .inr (13, [.ref nw, .ref bf, .ref sv, .ref hy, .int iS, .int rmb, .int eA, .int fA, .ref tx, .int tyd, .ref li, .int ldd, .int thr, .int (nI ln), .int (nI (sr + 5)), .int (nI (sr + 5)), .int (nI (c + 1)), .ref nmb])), (tx, .inl (gI G, 60, .inl τ)), (nmb, .inl (gI G, 120, .inl (upd μ (4 * c) (nI 1))))]
                  refine V.iast hC dX13_readsCommand_83 (2) rfl ((4 * c) + 1) rfl (by omega) (by decide) [(m, .inr (13, [.ref nw, .ref bf, .ref sv, .ref hy, .int iS, .int rmb, .int eA, .int fA, .ref tx, .int tyd, .ref li, .int ldd, .int thr, .int (nI ln), .int (nI (sr + 5)), .int (nI (sr + 5)), .int (nI (c + 1)), .ref nmb])), (tx, .inl (gI G, 60, .inl τ)), (nmb, .inl (gI G, 120, .inl (upd (upd μ (4 * c) (nI 1)) ((4 * c) + 1) (nI 0))))] rfl ?_
                  refine V.iload_n hC (x := nI 1) dX13_readsCommand_84 rfl ?_
                  refine V.ifN_eq hC 1 94 dX13_readsCommand_85 rfl rfl (by omega) (fun c_85 => ?_) (fun c_85 => ?_)
                  · exact absurd c_85 (by decide)
                  · refine V.iload_n hC (x := nI 1) dX13_readsCommand_88 rfl ?_
                    refine V.bipush hC 7 dX13_readsCommand_89 rfl ?_
                    refine V.icmpN_ne hC 1 7 95 dX13_readsCommand_91 rfl rfl rfl (by omega) (by omega) (fun c_91 => ?_) (fun c_91 => ?_)
                    · refine V.aload_n hC (x := m) dX13_readsCommand_95 rfl ?_
                      refine V.callV (n := 0) (As := []) (rest := []) hC (m_blankW (kl K) G m nw bf sv hy tx li nmb iS rmb eA fA tyd ldd thr (nI (c + 1)) ln (sr + 5) hln hp_w τ (sr + 5) (by omega)) SFk0 SFgo0 gX13_readsCommand_X13_blank rfl ⟨rfl, rfl⟩ (by decide +kernel) ⟨by decide, by decide, by decide, by decide⟩ [0, 1] rfl (by decide) (fun _ => rfl) rfl rfl rfl rfl (Nat.le_of_ble_eq_true rfl) dX13_readsCommand_96 (fun r_96 u_96 hp_96 => ?_)
                      show V G K 4 0 0 99 [some (.ref m), some (.int (nI (4 * c))), some (.int (nI 1)), some (.int 0)] [] [(m, .inr (13, [.ref nw, .ref bf, .ref sv, .ref hy, .int iS, .int rmb, .int eA, .int fA, .ref tx, .int tyd, .ref li, .int ldd, .int thr, .int (nI ln), .int (nI (sr + 5)), .int (nI (sr + 5)), .int (nI (c + 1)), .ref nmb])), (tx, .inl (gI G, 60, .inl τ)), (nmb, .inl (gI G, 120, .inl (upd (upd μ (4 * c) (nI 1)) ((4 * c) + 1) (nI 0))))]
                      refine V.aload_n hC (x := m) dX13_readsCommand_99 rfl ?_
                      refine V.getf hC (T := TX13) q0_ 17 q2_ rfl (0) rfl rfl (by decide) (.ref nmb) rfl dX13_readsCommand_100 ?_
                      refine V.iload_n hC (x := nI (4 * c)) dX13_readsCommand_103 rfl ?_
                      refine V.iconst hC 2 dX13_readsCommand_104 rfl ?_
                      refine V.iaddN hC (4 * c) 2 dX13_readsCommand_105 rfl rfl ?_
                      refine V.iload_n hC (x := nI 1) dX13_readsCommand_106 rfl ?_
                      refine V.iconst hC 1 dX13_readsCommand_107 rfl ?_
                      refine V.icmpN_eq hC 1 1 116 dX13_readsCommand_108 rfl rfl rfl (by omega) (by omega) (fun c_108 => ?_) (fun c_108 => ?_)
                      · refine V.aload_n hC (x := m) dX13_readsCommand_116 rfl ?_
                        refine V.callV (n := 0) (As := []) (rest := [.int (nI ((4 * c) + 2)), .ref nmb]) hC (m_digitW (kl K) G m nw bf sv hy tx li nmb iS rmb eA fA tyd ldd thr (nI (c + 1)) ln (sr + 5) hln hp_w τ (sr + 5) (by omega)) SFk0 SFgo0 gX13_readsCommand_X13_digit rfl ⟨rfl, rfl⟩ (by decide +kernel) ⟨by decide, by decide, by decide, by decide⟩ [0, 1] rfl (by decide) (fun _ => rfl) rfl rfl rfl rfl (Nat.le_of_ble_eq_true rfl) dX13_readsCommand_117 (fun r_117 u_117 hp_117 => ?_)
                        subst hp_117
                        show V G K 4 0 0 120 [some (.ref m), some (.int (nI (4 * c))), some (.int (nI 1)), some (.int 0)] [.int (nI 0), .int (nI ((4 * c) + 2)), .ref nmb] [(m, .inr (13, [.ref nw, .ref bf, .ref sv, .ref hy, .int iS, .int rmb, .int eA, .int fA, .ref tx, .int tyd, .ref li, .int ldd, .int thr, .int (nI ln), .int (nI (sr + 5)), .int (nI (sr + 5)), .int (nI (c + 1)), .ref nmb])), (tx, .inl (gI G, 60, .inl τ)), (nmb, .inl (gI G, 120, .inl (upd (upd μ (4 * c) (nI 1)) ((4 * c) + 1) (nI 0))))]
                        refine V.goto hC 127 dX13_readsCommand_120 rfl ?_
                        refine V.iast hC dX13_readsCommand_127 (2) rfl ((4 * c) + 2) rfl (by omega) (by decide) [(m, .inr (13, [.ref nw, .ref bf, .ref sv, .ref hy, .int iS, .int rmb, .int eA, .int fA, .ref tx, .int tyd, .ref li, .int ldd, .int thr, .int (nI ln), .int (nI (sr + 5)), .int (nI (sr + 5)), .int (nI (c + 1)), .ref nmb])), (tx, .inl (gI G, 60, .inl τ)), (nmb, .inl (gI G, 120, .inl (upd (upd (upd μ (4 * c) (nI 1)) ((4 * c) + 1) (nI 0)) ((4 * c) + 2) (nI 0))))] rfl ?_
                        refine V.iload_n hC (x := nI 1) dX13_readsCommand_128 rfl ?_
                        refine V.iconst hC 2 dX13_readsCommand_129 rfl ?_
                        refine V.icmpN_eq hC 1 2 138 dX13_readsCommand_130 rfl rfl rfl (by omega) (by omega) (fun c_130 => ?_) (fun c_130 => ?_)
                        · exact absurd c_130 (by decide)
                        · refine V.iload_n hC (x := nI 1) dX13_readsCommand_133 rfl ?_
                          refine V.iconst hC 4 dX13_readsCommand_134 rfl ?_
                          refine V.icmpN_ne hC 1 4 154 dX13_readsCommand_135 rfl rfl rfl (by omega) (by omega) (fun c_135 => ?_) (fun c_135 => ?_)
                          · have hL : ∀ z, z < 4 * c → (upd (upd (upd μ (4 * c) (nI 1)) ((4 * c) + 1) (nI 0)) ((4 * c) + 2) (nI 0)) z = μ z := fun z hz => (pk_un (by omega)).trans ((pk_un (by omega)).trans ((pk_un (by omega)).trans (rfl)))
                            have hB : sr + 5 ≤ 60 := by omega
                            exact hE 154 _ (sr + 5, nI (sr + 5), upd (upd (upd μ (4 * c) (nI 1)) ((4 * c) + 1) (nI 0)) ((4 * c) + 2) (nI 0)) dX13_readsCommand_154 (Or.inr ⟨(rd_no hk8 hF (by omega)).1, congrArg nI (rd_no hk8 hF (by omega)).2.symm, hB, hL⟩)
                          · exact absurd c_135 (by decide)
                      · exact absurd c_108 (by decide)
                    · exact absurd c_91 (by decide)
                · refine V.callV (n := 0) (As := []) (rest := [.int (nI ((4 * c) + 1)), .ref nmb]) hC (m_digitY (kl K) G m nw bf sv hy tx li nmb iS rmb eA fA tyd ldd thr (nI (c + 1)) ln (sr + 5) hln hp_w τ hd_80) SFk0 SFgo0 gX13_readsCommand_X13_digit rfl ⟨rfl, rfl⟩ (by decide +kernel) ⟨by decide, by decide, by decide, by decide⟩ [0, 1] rfl (by decide) (fun _ => rfl) rfl rfl rfl rfl (Nat.le_of_ble_eq_true rfl) dX13_readsCommand_80 (fun r_80 u_80 hp_80 => ?_)
                  obtain ⟨hr_80, hu_80, hl_80⟩ := hp_80
                  have hs_80 := hs_d hs0 (by decide) hd_80 hr_80 hu_80
                  have hg_80 : sr + 5 ≤ u_80 := by omega
                  show V G K 4 0 0 83 [some (.ref m), some (.int (nI (4 * c))), some (.int (nI 1)), some (.int 0)] [.int r_80, .int (nI ((4 * c) + 1)), .ref nmb] [(m, .inr (13, [.ref nw, .ref bf, .ref sv, .ref hy, .int iS, .int rmb, .int eA, .int fA, .ref tx, .int tyd, .ref li, .int ldd, .int thr, .int (nI ln), .int (nI u_80), .int (-1), .int (nI (c + 1)), .ref nmb])), (tx, .inl (gI G, 60, .inl τ)), (nmb, .inl (gI G, 120, .inl (upd μ (4 * c) (nI 1))))]
                  refine V.iast hC dX13_readsCommand_83 (2) rfl ((4 * c) + 1) rfl (by omega) (by decide) [(m, .inr (13, [.ref nw, .ref bf, .ref sv, .ref hy, .int iS, .int rmb, .int eA, .int fA, .ref tx, .int tyd, .ref li, .int ldd, .int thr, .int (nI ln), .int (nI u_80), .int (-1), .int (nI (c + 1)), .ref nmb])), (tx, .inl (gI G, 60, .inl τ)), (nmb, .inl (gI G, 120, .inl (upd (upd μ (4 * c) (nI 1)) ((4 * c) + 1) r_80)))] rfl ?_
                  refine V.iload_n hC (x := nI 1) dX13_readsCommand_84 rfl ?_
                  refine V.ifN_eq hC 1 94 dX13_readsCommand_85 rfl rfl (by omega) (fun c_85 => ?_) (fun c_85 => ?_)
                  · exact absurd c_85 (by decide)
                  · refine V.iload_n hC (x := nI 1) dX13_readsCommand_88 rfl ?_
                    refine V.bipush hC 7 dX13_readsCommand_89 rfl ?_
                    refine V.icmpN_ne hC 1 7 95 dX13_readsCommand_91 rfl rfl rfl (by omega) (by omega) (fun c_91 => ?_) (fun c_91 => ?_)
                    · refine V.aload_n hC (x := m) dX13_readsCommand_95 rfl ?_
                      by_cases hd_96 : sgn τ ln u_80 = nI 32
                      · have hs_96 := hs_c hs_80 (c := 32) (by decide) (by decide) (by decide) hd_96
                        have hl_96 : u_80 < ln := sgn_lt (fun z => by rw [hd_96] at z; exact absurd z (by decide))
                        refine V.callV (n := 0) (As := []) (rest := []) hC (m_blankY (kl K) G m nw bf sv hy tx li nmb iS rmb eA fA tyd ldd thr (nI (c + 1)) ln u_80 hln hl_80 τ (sg32.mpr hd_96) hl_96) SFk0 SFgo0 gX13_readsCommand_X13_blank rfl ⟨rfl, rfl⟩ (by decide +kernel) ⟨by decide, by decide, by decide, by decide⟩ [0, 1] rfl (by decide) (fun _ => rfl) rfl rfl rfl rfl (Nat.le_of_ble_eq_true rfl) dX13_readsCommand_96 (fun r_96 u_96 hp_96 => ?_)
                        show V G K 4 0 0 99 [some (.ref m), some (.int (nI (4 * c))), some (.int (nI 1)), some (.int 0)] [] [(m, .inr (13, [.ref nw, .ref bf, .ref sv, .ref hy, .int iS, .int rmb, .int eA, .int fA, .ref tx, .int tyd, .ref li, .int ldd, .int thr, .int (nI ln), .int (nI (u_80 + 1)), .int (-1), .int (nI (c + 1)), .ref nmb])), (tx, .inl (gI G, 60, .inl τ)), (nmb, .inl (gI G, 120, .inl (upd (upd μ (4 * c) (nI 1)) ((4 * c) + 1) r_80)))]
                        refine V.aload_n hC (x := m) dX13_readsCommand_99 rfl ?_
                        refine V.getf hC (T := TX13) q0_ 17 q2_ rfl (0) rfl rfl (by decide) (.ref nmb) rfl dX13_readsCommand_100 ?_
                        refine V.iload_n hC (x := nI (4 * c)) dX13_readsCommand_103 rfl ?_
                        refine V.iconst hC 2 dX13_readsCommand_104 rfl ?_
                        refine V.iaddN hC (4 * c) 2 dX13_readsCommand_105 rfl rfl ?_
                        refine V.iload_n hC (x := nI 1) dX13_readsCommand_106 rfl ?_
                        refine V.iconst hC 1 dX13_readsCommand_107 rfl ?_
                        refine V.icmpN_eq hC 1 1 116 dX13_readsCommand_108 rfl rfl rfl (by omega) (by omega) (fun c_108 => ?_) (fun c_108 => ?_)
                        · refine V.aload_n hC (x := m) dX13_readsCommand_116 rfl ?_
                          by_cases hd_117 : dct τ ln (u_80 + 1) 1 = 0
                          · have hF := hk_0 (n := 8) (by decide) (hf_d hs_96 (by decide) hd_117 (by decide))
                            refine V.callV (n := 0) (As := []) (rest := [.int (nI ((4 * c) + 2)), .ref nmb]) hC (m_digitN (kl K) G m nw bf sv hy tx li nmb iS rmb eA fA tyd ldd thr (nI (c + 1)) ln (u_80 + 1) hln hl_96 τ (dct1n hd_117)) SFk0 SFgo0 gX13_readsCommand_X13_digit rfl ⟨rfl, rfl⟩ (by decide +kernel) ⟨by decide, by decide, by decide, by decide⟩ [0, 1] rfl (by decide) (fun _ => rfl) rfl rfl rfl rfl (Nat.le_of_ble_eq_true rfl) dX13_readsCommand_117 (fun r_117 u_117 hp_117 => ?_)
                            subst hp_117
                            show V G K 4 0 0 120 [some (.ref m), some (.int (nI (4 * c))), some (.int (nI 1)), some (.int 0)] [.int (nI 0), .int (nI ((4 * c) + 2)), .ref nmb] [(m, .inr (13, [.ref nw, .ref bf, .ref sv, .ref hy, .int iS, .int rmb, .int eA, .int fA, .ref tx, .int tyd, .ref li, .int ldd, .int thr, .int (nI ln), .int (nI (u_80 + 1)), .int (nI (u_80 + 1)), .int (nI (c + 1)), .ref nmb])), (tx, .inl (gI G, 60, .inl τ)), (nmb, .inl (gI G, 120, .inl (upd (upd μ (4 * c) (nI 1)) ((4 * c) + 1) r_80)))]
                            refine V.goto hC 127 dX13_readsCommand_120 rfl ?_
                            refine V.iast hC dX13_readsCommand_127 (2) rfl ((4 * c) + 2) rfl (by omega) (by decide) [(m, .inr (13, [.ref nw, .ref bf, .ref sv, .ref hy, .int iS, .int rmb, .int eA, .int fA, .ref tx, .int tyd, .ref li, .int ldd, .int thr, .int (nI ln), .int (nI (u_80 + 1)), .int (nI (u_80 + 1)), .int (nI (c + 1)), .ref nmb])), (tx, .inl (gI G, 60, .inl τ)), (nmb, .inl (gI G, 120, .inl (upd (upd (upd μ (4 * c) (nI 1)) ((4 * c) + 1) r_80) ((4 * c) + 2) (nI 0))))] rfl ?_
                            refine V.iload_n hC (x := nI 1) dX13_readsCommand_128 rfl ?_
                            refine V.iconst hC 2 dX13_readsCommand_129 rfl ?_
                            refine V.icmpN_eq hC 1 2 138 dX13_readsCommand_130 rfl rfl rfl (by omega) (by omega) (fun c_130 => ?_) (fun c_130 => ?_)
                            · exact absurd c_130 (by decide)
                            · refine V.iload_n hC (x := nI 1) dX13_readsCommand_133 rfl ?_
                              refine V.iconst hC 4 dX13_readsCommand_134 rfl ?_
                              refine V.icmpN_ne hC 1 4 154 dX13_readsCommand_135 rfl rfl rfl (by omega) (by omega) (fun c_135 => ?_) (fun c_135 => ?_)
                              · have hL : ∀ z, z < 4 * c → (upd (upd (upd μ (4 * c) (nI 1)) ((4 * c) + 1) r_80) ((4 * c) + 2) (nI 0)) z = μ z := fun z hz => (pk_un (by omega)).trans ((pk_un (by omega)).trans ((pk_un (by omega)).trans (rfl)))
                                have hB : u_80 + 1 ≤ 60 := by omega
                                exact hE 154 _ (u_80 + 1, nI (u_80 + 1), upd (upd (upd μ (4 * c) (nI 1)) ((4 * c) + 1) r_80) ((4 * c) + 2) (nI 0)) dX13_readsCommand_154 (Or.inr ⟨(rd_no hk8 hF (by omega)).1, congrArg nI (rd_no hk8 hF (by omega)).2.symm, hB, hL⟩)
                              · exact absurd c_135 (by decide)
                          · refine V.callV (n := 0) (As := []) (rest := [.int (nI ((4 * c) + 2)), .ref nmb]) hC (m_digitY (kl K) G m nw bf sv hy tx li nmb iS rmb eA fA tyd ldd thr (nI (c + 1)) ln (u_80 + 1) hln hl_96 τ hd_117) SFk0 SFgo0 gX13_readsCommand_X13_digit rfl ⟨rfl, rfl⟩ (by decide +kernel) ⟨by decide, by decide, by decide, by decide⟩ [0, 1] rfl (by decide) (fun _ => rfl) rfl rfl rfl rfl (Nat.le_of_ble_eq_true rfl) dX13_readsCommand_117 (fun r_117 u_117 hp_117 => ?_)
                            obtain ⟨hr_117, hu_117, hl_117⟩ := hp_117
                            have hs_117 := hs_d hs_96 (by decide) hd_117 hr_117 hu_117
                            have hg_117 : u_80 + 1 ≤ u_117 := by omega
                            show V G K 4 0 0 120 [some (.ref m), some (.int (nI (4 * c))), some (.int (nI 1)), some (.int 0)] [.int r_117, .int (nI ((4 * c) + 2)), .ref nmb] [(m, .inr (13, [.ref nw, .ref bf, .ref sv, .ref hy, .int iS, .int rmb, .int eA, .int fA, .ref tx, .int tyd, .ref li, .int ldd, .int thr, .int (nI ln), .int (nI u_117), .int (-1), .int (nI (c + 1)), .ref nmb])), (tx, .inl (gI G, 60, .inl τ)), (nmb, .inl (gI G, 120, .inl (upd (upd μ (4 * c) (nI 1)) ((4 * c) + 1) r_80)))]
                            refine V.goto hC 127 dX13_readsCommand_120 rfl ?_
                            refine V.iast hC dX13_readsCommand_127 (2) rfl ((4 * c) + 2) rfl (by omega) (by decide) [(m, .inr (13, [.ref nw, .ref bf, .ref sv, .ref hy, .int iS, .int rmb, .int eA, .int fA, .ref tx, .int tyd, .ref li, .int ldd, .int thr, .int (nI ln), .int (nI u_117), .int (-1), .int (nI (c + 1)), .ref nmb])), (tx, .inl (gI G, 60, .inl τ)), (nmb, .inl (gI G, 120, .inl (upd (upd (upd μ (4 * c) (nI 1)) ((4 * c) + 1) r_80) ((4 * c) + 2) r_117)))] rfl ?_
                            refine V.iload_n hC (x := nI 1) dX13_readsCommand_128 rfl ?_
                            refine V.iconst hC 2 dX13_readsCommand_129 rfl ?_
                            refine V.icmpN_eq hC 1 2 138 dX13_readsCommand_130 rfl rfl rfl (by omega) (by omega) (fun c_130 => ?_) (fun c_130 => ?_)
                            · exact absurd c_130 (by decide)
                            · refine V.iload_n hC (x := nI 1) dX13_readsCommand_133 rfl ?_
                              refine V.iconst hC 4 dX13_readsCommand_134 rfl ?_
                              refine V.icmpN_ne hC 1 4 154 dX13_readsCommand_135 rfl rfl rfl (by omega) (by omega) (fun c_135 => ?_) (fun c_135 => ?_)
                              · have hL : ∀ z, z < 4 * c → (upd (upd (upd μ (4 * c) (nI 1)) ((4 * c) + 1) r_80) ((4 * c) + 2) r_117) z = μ z := fun z hz => (pk_un (by omega)).trans ((pk_un (by omega)).trans ((pk_un (by omega)).trans (rfl)))
                                have hB : u_117 ≤ 60 := by omega
                                have hK : (upd (upd (upd μ (4 * c) (nI 1)) ((4 * c) + 1) r_80) ((4 * c) + 2) r_117) (4 * c) = nI 1 := (pk_un (by omega)).trans ((pk_un (by omega)).trans (pk_us))
                                have hJ : ∀ j, j < nar 1 → (upd (upd (upd μ (4 * c) (nI 1)) ((4 * c) + 1) r_80) ((4 * c) + 2) r_117) (4 * c + 1 + j) = agx τ ln sr 1 j := by
                                  intro j hj
                                  have hj2 : j < 2 := hj
                                  obtain rfl | rfl : j = 0 ∨ j = 1 := by omega
                                  · exact ((pk_un (by omega)).trans (pk_us)).trans ((agx_in (n := 8) (by decide) hs_117 (by decide)).trans ((pk_un (by decide)).trans (pk_us))).symm
                                  · exact (pk_us).trans ((agx_in (n := 8) (by decide) hs_117 (by decide)).trans (pk_us)).symm
                                exact hE 154 _ (u_117, -1, upd (upd (upd μ (4 * c) (nI 1)) ((4 * c) + 1) r_80) ((4 * c) + 2) r_117) dX13_readsCommand_154 (Or.inl ⟨1, rd_yes hk8 (hk_1 (n := 8) (by decide) hs_117).1, (hk_1 (n := 8) (by decide) hs_117).2.symm, rfl, ⟨hK, hJ, fun j hj => agx_out (n := 8) (by decide) hs_117 hj⟩, hL⟩)
                              · exact absurd c_135 (by decide)
                        · exact absurd c_108 (by decide)
                      · have hF := hk_0 (n := 8) (by decide) (hf_c hs_80 (c := 32) (by decide) (by decide) (by decide) hd_96 (by decide))
                        refine V.callV (n := 0) (As := []) (rest := []) hC (m_blankN (kl K) G m nw bf sv hy tx li nmb iS rmb eA fA tyd ldd thr (nI (c + 1)) ln u_80 hln hl_80 τ (fun q => hd_96 (sg32.mp q))) SFk0 SFgo0 gX13_readsCommand_X13_blank rfl ⟨rfl, rfl⟩ (by decide +kernel) ⟨by decide, by decide, by decide, by decide⟩ [0, 1] rfl (by decide) (fun _ => rfl) rfl rfl rfl rfl (Nat.le_of_ble_eq_true rfl) dX13_readsCommand_96 (fun r_96 u_96 hp_96 => ?_)
                        show V G K 4 0 0 99 [some (.ref m), some (.int (nI (4 * c))), some (.int (nI 1)), some (.int 0)] [] [(m, .inr (13, [.ref nw, .ref bf, .ref sv, .ref hy, .int iS, .int rmb, .int eA, .int fA, .ref tx, .int tyd, .ref li, .int ldd, .int thr, .int (nI ln), .int (nI u_80), .int (nI u_80), .int (nI (c + 1)), .ref nmb])), (tx, .inl (gI G, 60, .inl τ)), (nmb, .inl (gI G, 120, .inl (upd (upd μ (4 * c) (nI 1)) ((4 * c) + 1) r_80)))]
                        refine V.aload_n hC (x := m) dX13_readsCommand_99 rfl ?_
                        refine V.getf hC (T := TX13) q0_ 17 q2_ rfl (0) rfl rfl (by decide) (.ref nmb) rfl dX13_readsCommand_100 ?_
                        refine V.iload_n hC (x := nI (4 * c)) dX13_readsCommand_103 rfl ?_
                        refine V.iconst hC 2 dX13_readsCommand_104 rfl ?_
                        refine V.iaddN hC (4 * c) 2 dX13_readsCommand_105 rfl rfl ?_
                        refine V.iload_n hC (x := nI 1) dX13_readsCommand_106 rfl ?_
                        refine V.iconst hC 1 dX13_readsCommand_107 rfl ?_
                        refine V.icmpN_eq hC 1 1 116 dX13_readsCommand_108 rfl rfl rfl (by omega) (by omega) (fun c_108 => ?_) (fun c_108 => ?_)
                        · refine V.aload_n hC (x := m) dX13_readsCommand_116 rfl ?_
                          refine V.callV (n := 0) (As := []) (rest := [.int (nI ((4 * c) + 2)), .ref nmb]) hC (m_digitW (kl K) G m nw bf sv hy tx li nmb iS rmb eA fA tyd ldd thr (nI (c + 1)) ln u_80 hln hl_80 τ u_80 (by omega)) SFk0 SFgo0 gX13_readsCommand_X13_digit rfl ⟨rfl, rfl⟩ (by decide +kernel) ⟨by decide, by decide, by decide, by decide⟩ [0, 1] rfl (by decide) (fun _ => rfl) rfl rfl rfl rfl (Nat.le_of_ble_eq_true rfl) dX13_readsCommand_117 (fun r_117 u_117 hp_117 => ?_)
                          subst hp_117
                          show V G K 4 0 0 120 [some (.ref m), some (.int (nI (4 * c))), some (.int (nI 1)), some (.int 0)] [.int (nI 0), .int (nI ((4 * c) + 2)), .ref nmb] [(m, .inr (13, [.ref nw, .ref bf, .ref sv, .ref hy, .int iS, .int rmb, .int eA, .int fA, .ref tx, .int tyd, .ref li, .int ldd, .int thr, .int (nI ln), .int (nI u_80), .int (nI u_80), .int (nI (c + 1)), .ref nmb])), (tx, .inl (gI G, 60, .inl τ)), (nmb, .inl (gI G, 120, .inl (upd (upd μ (4 * c) (nI 1)) ((4 * c) + 1) r_80)))]
                          refine V.goto hC 127 dX13_readsCommand_120 rfl ?_
                          refine V.iast hC dX13_readsCommand_127 (2) rfl ((4 * c) + 2) rfl (by omega) (by decide) [(m, .inr (13, [.ref nw, .ref bf, .ref sv, .ref hy, .int iS, .int rmb, .int eA, .int fA, .ref tx, .int tyd, .ref li, .int ldd, .int thr, .int (nI ln), .int (nI u_80), .int (nI u_80), .int (nI (c + 1)), .ref nmb])), (tx, .inl (gI G, 60, .inl τ)), (nmb, .inl (gI G, 120, .inl (upd (upd (upd μ (4 * c) (nI 1)) ((4 * c) + 1) r_80) ((4 * c) + 2) (nI 0))))] rfl ?_
                          refine V.iload_n hC (x := nI 1) dX13_readsCommand_128 rfl ?_
                          refine V.iconst hC 2 dX13_readsCommand_129 rfl ?_
                          refine V.icmpN_eq hC 1 2 138 dX13_readsCommand_130 rfl rfl rfl (by omega) (by omega) (fun c_130 => ?_) (fun c_130 => ?_)
                          · exact absurd c_130 (by decide)
                          · refine V.iload_n hC (x := nI 1) dX13_readsCommand_133 rfl ?_
                            refine V.iconst hC 4 dX13_readsCommand_134 rfl ?_
                            refine V.icmpN_ne hC 1 4 154 dX13_readsCommand_135 rfl rfl rfl (by omega) (by omega) (fun c_135 => ?_) (fun c_135 => ?_)
                            · have hL : ∀ z, z < 4 * c → (upd (upd (upd μ (4 * c) (nI 1)) ((4 * c) + 1) r_80) ((4 * c) + 2) (nI 0)) z = μ z := fun z hz => (pk_un (by omega)).trans ((pk_un (by omega)).trans ((pk_un (by omega)).trans (rfl)))
                              have hB : u_80 ≤ 60 := by omega
                              exact hE 154 _ (u_80, nI u_80, upd (upd (upd μ (4 * c) (nI 1)) ((4 * c) + 1) r_80) ((4 * c) + 2) (nI 0)) dX13_readsCommand_154 (Or.inr ⟨(rd_no hk8 hF (by omega)).1, congrArg nI (rd_no hk8 hF (by omega)).2.symm, hB, hL⟩)
                            · exact absurd c_135 (by decide)
                        · exact absurd c_108 (by decide)
                    · exact absurd c_91 (by decide)
              · exact absurd c_69 (by decide)
            · exact absurd c_52 (by decide)
      · exact absurd rfl c_34
    · have hs0 := hk_yes (by decide) hks.2
      rw [wl_v.2.2.1] at hu1 hs0
      refine V.eqw (ws' := [(m, .inr (13, [.ref nw, .ref bf, .ref sv, .ref hy, .int iS, .int rmb, .int eA, .int fA, .ref tx, .int tyd, .ref li, .int ldd, .int thr, .int (nI ln), .int (nI (sr + 6)), .int (-1), .int (nI c), .ref nmb])), (tx, .inl (gI G, 60, .inl τ)), (nmb, .inl (gI G, 120, .inl μ))]) (by rw [hu1, hu2]; rfl) ?_
      have hp_w : sr + 6 ≤ ln := by have := hfm_ln (tf := τ) (ln := ln) (sr := sr) (af := fun _ => 0) (i := 2) hsr (fun j => chr_m1 2 (by decide) j) 6; rw [hs0] at this; exact this
      refine V.istore_n hC dX13_readsCommand_11 [some (.ref m), some (.int (nI (4 * c))), some (.int (nI 2)), none] (Nat.le_of_ble_eq_true rfl) rfl ?_
      refine V.aload_n hC (x := m) dX13_readsCommand_12 rfl ?_
      refine V.getf hC (T := TX13) q0_ 17 q2_ rfl (0) rfl rfl (by decide) (.ref nmb) rfl dX13_readsCommand_13 ?_
      refine V.iload_n hC (x := nI (4 * c)) dX13_readsCommand_16 rfl ?_
      refine V.iload_n hC (x := nI 2) dX13_readsCommand_17 rfl ?_
      refine V.iast hC dX13_readsCommand_18 (2) rfl (4 * c) rfl (by omega) (by decide) [(m, .inr (13, [.ref nw, .ref bf, .ref sv, .ref hy, .int iS, .int rmb, .int eA, .int fA, .ref tx, .int tyd, .ref li, .int ldd, .int thr, .int (nI ln), .int (nI (sr + 6)), .int (-1), .int (nI c), .ref nmb])), (tx, .inl (gI G, 60, .inl τ)), (nmb, .inl (gI G, 120, .inl (upd μ (4 * c) (nI 2))))] rfl ?_
      refine V.aload_n hC (x := m) dX13_readsCommand_19 rfl ?_
      refine V.dup hC dX13_readsCommand_20 rfl ?_
      refine V.getf hC (T := TX13) q0_ 16 q1_ rfl (0) rfl rfl (by decide) (.int (nI c)) rfl dX13_readsCommand_21 ?_
      refine V.iconst hC 1 dX13_readsCommand_24 rfl ?_
      refine V.iaddN hC c 1 dX13_readsCommand_25 rfl rfl ?_
      refine V.putf hC (T := TX13) q0_ tyX13 tyX13_ok nmX13 16 q1_ rfl rfl (0) rfl rfl (by decide) (by simp) rfl rfl dX13_readsCommand_26 [(m, .inr (13, [.ref nw, .ref bf, .ref sv, .ref hy, .int iS, .int rmb, .int eA, .int fA, .ref tx, .int tyd, .ref li, .int ldd, .int thr, .int (nI ln), .int (nI (sr + 6)), .int (-1), .int (nI (c + 1)), .ref nmb])), (tx, .inl (gI G, 60, .inl τ)), (nmb, .inl (gI G, 120, .inl (upd μ (4 * c) (nI 2))))] rfl ?_
      refine V.aload_n hC (x := m) dX13_readsCommand_29 rfl ?_
      refine V.getf hC (T := TX13) q0_ 15 q3_ rfl (0) rfl rfl (by decide) (.int (-1)) rfl dX13_readsCommand_30 ?_
      refine V.iconst hC (-1) dX13_readsCommand_33 rfl ?_
      refine V.icmp_eq hC 38 dX13_readsCommand_34 rfl (fun c_34 => ?_) (fun c_34 => ?_)
      · refine V.iload_n hC (x := nI 2) dX13_readsCommand_38 rfl ?_
        refine V.iconst hC 2 dX13_readsCommand_39 rfl ?_
        refine V.icmpN_eq hC 2 2 55 dX13_readsCommand_40 rfl rfl rfl (by omega) (by omega) (fun c_40 => ?_) (fun c_40 => ?_)
        · refine V.iconst hC 1 dX13_readsCommand_55 rfl ?_
          refine V.goto hC 60 dX13_readsCommand_56 rfl ?_
          refine V.istore_n hC dX13_readsCommand_60 [some (.ref m), some (.int (nI (4 * c))), some (.int (nI 2)), some (.int 1)] (Nat.le_of_ble_eq_true rfl) rfl ?_
          refine V.aload_n hC (x := m) dX13_readsCommand_61 rfl ?_
          refine V.getf hC (T := TX13) q0_ 17 q2_ rfl (0) rfl rfl (by decide) (.ref nmb) rfl dX13_readsCommand_62 ?_
          refine V.iload_n hC (x := nI (4 * c)) dX13_readsCommand_65 rfl ?_
          refine V.iconst hC 1 dX13_readsCommand_66 rfl ?_
          refine V.iaddN hC (4 * c) 1 dX13_readsCommand_67 rfl rfl ?_
          refine V.iload_n hC (x := 1) dX13_readsCommand_68 rfl ?_
          refine V.ifN_eq hC 1 79 dX13_readsCommand_69 rfl rfl (by omega) (fun c_69 => ?_) (fun c_69 => ?_)
          · exact absurd c_69 (by decide)
          · refine V.aload_n hC (x := m) dX13_readsCommand_72 rfl ?_
            by_cases hd_73 : dct τ ln (sr + 6) 2 = 0
            · have hF := hk_0 (n := 11) (by decide) (hf_n hs0 (by decide) hd_73 (by decide))
              refine V.callV (n := 0) (As := []) (rest := [.int (nI ((4 * c) + 1)), .ref nmb]) hC (m_numberN (kl K) G m nw bf sv hy tx li nmb iS rmb eA fA tyd ldd thr (nI (c + 1)) ln (sr + 6) hln hp_w τ hd_73) SFk0 SFgo0 gX13_readsCommand_X13_number rfl ⟨rfl, rfl⟩ (by decide +kernel) ⟨by decide, by decide, by decide, by decide⟩ [0, 1] rfl (by decide) (fun _ => rfl) rfl rfl rfl rfl (Nat.le_of_ble_eq_true rfl) dX13_readsCommand_73 (fun r_73 u_73 hp_73 => ?_)
              subst hp_73
              show V G K 4 0 0 76 [some (.ref m), some (.int (nI (4 * c))), some (.int (nI 2)), some (.int 1)] [.int (nI 0), .int (nI ((4 * c) + 1)), .ref nmb] [(m, .inr (13, [.ref nw, .ref bf, .ref sv, .ref hy, .int iS, .int rmb, .int eA, .int fA, .ref tx, .int tyd, .ref li, .int ldd, .int thr, .int (nI ln), .int (nI (sr + 6)), .int (nI (sr + 6)), .int (nI (c + 1)), .ref nmb])), (tx, .inl (gI G, 60, .inl τ)), (nmb, .inl (gI G, 120, .inl (upd μ (4 * c) (nI 2))))]
              refine V.goto hC 83 dX13_readsCommand_76 rfl ?_
              refine V.iast hC dX13_readsCommand_83 (2) rfl ((4 * c) + 1) rfl (by omega) (by decide) [(m, .inr (13, [.ref nw, .ref bf, .ref sv, .ref hy, .int iS, .int rmb, .int eA, .int fA, .ref tx, .int tyd, .ref li, .int ldd, .int thr, .int (nI ln), .int (nI (sr + 6)), .int (nI (sr + 6)), .int (nI (c + 1)), .ref nmb])), (tx, .inl (gI G, 60, .inl τ)), (nmb, .inl (gI G, 120, .inl (upd (upd μ (4 * c) (nI 2)) ((4 * c) + 1) (nI 0))))] rfl ?_
              refine V.iload_n hC (x := nI 2) dX13_readsCommand_84 rfl ?_
              refine V.ifN_eq hC 2 94 dX13_readsCommand_85 rfl rfl (by omega) (fun c_85 => ?_) (fun c_85 => ?_)
              · exact absurd c_85 (by decide)
              · refine V.iload_n hC (x := nI 2) dX13_readsCommand_88 rfl ?_
                refine V.bipush hC 7 dX13_readsCommand_89 rfl ?_
                refine V.icmpN_ne hC 2 7 95 dX13_readsCommand_91 rfl rfl rfl (by omega) (by omega) (fun c_91 => ?_) (fun c_91 => ?_)
                · refine V.aload_n hC (x := m) dX13_readsCommand_95 rfl ?_
                  refine V.callV (n := 0) (As := []) (rest := []) hC (m_blankW (kl K) G m nw bf sv hy tx li nmb iS rmb eA fA tyd ldd thr (nI (c + 1)) ln (sr + 6) hln hp_w τ (sr + 6) (by omega)) SFk0 SFgo0 gX13_readsCommand_X13_blank rfl ⟨rfl, rfl⟩ (by decide +kernel) ⟨by decide, by decide, by decide, by decide⟩ [0, 1] rfl (by decide) (fun _ => rfl) rfl rfl rfl rfl (Nat.le_of_ble_eq_true rfl) dX13_readsCommand_96 (fun r_96 u_96 hp_96 => ?_)
                  show V G K 4 0 0 99 [some (.ref m), some (.int (nI (4 * c))), some (.int (nI 2)), some (.int 1)] [] [(m, .inr (13, [.ref nw, .ref bf, .ref sv, .ref hy, .int iS, .int rmb, .int eA, .int fA, .ref tx, .int tyd, .ref li, .int ldd, .int thr, .int (nI ln), .int (nI (sr + 6)), .int (nI (sr + 6)), .int (nI (c + 1)), .ref nmb])), (tx, .inl (gI G, 60, .inl τ)), (nmb, .inl (gI G, 120, .inl (upd (upd μ (4 * c) (nI 2)) ((4 * c) + 1) (nI 0))))]
                  refine V.aload_n hC (x := m) dX13_readsCommand_99 rfl ?_
                  refine V.getf hC (T := TX13) q0_ 17 q2_ rfl (0) rfl rfl (by decide) (.ref nmb) rfl dX13_readsCommand_100 ?_
                  refine V.iload_n hC (x := nI (4 * c)) dX13_readsCommand_103 rfl ?_
                  refine V.iconst hC 2 dX13_readsCommand_104 rfl ?_
                  refine V.iaddN hC (4 * c) 2 dX13_readsCommand_105 rfl rfl ?_
                  refine V.iload_n hC (x := nI 2) dX13_readsCommand_106 rfl ?_
                  refine V.iconst hC 1 dX13_readsCommand_107 rfl ?_
                  refine V.icmpN_eq hC 2 1 116 dX13_readsCommand_108 rfl rfl rfl (by omega) (by omega) (fun c_108 => ?_) (fun c_108 => ?_)
                  · exact absurd c_108 (by decide)
                  · refine V.iload_n hC (x := nI 2) dX13_readsCommand_111 rfl ?_
                    refine V.iconst hC 2 dX13_readsCommand_112 rfl ?_
                    refine V.icmpN_ne hC 2 2 123 dX13_readsCommand_113 rfl rfl rfl (by omega) (by omega) (fun c_113 => ?_) (fun c_113 => ?_)
                    · exact absurd c_113 (by decide)
                    · refine V.aload_n hC (x := m) dX13_readsCommand_116 rfl ?_
                      refine V.callV (n := 0) (As := []) (rest := [.int (nI ((4 * c) + 2)), .ref nmb]) hC (m_digitW (kl K) G m nw bf sv hy tx li nmb iS rmb eA fA tyd ldd thr (nI (c + 1)) ln (sr + 6) hln hp_w τ (sr + 6) (by omega)) SFk0 SFgo0 gX13_readsCommand_X13_digit rfl ⟨rfl, rfl⟩ (by decide +kernel) ⟨by decide, by decide, by decide, by decide⟩ [0, 1] rfl (by decide) (fun _ => rfl) rfl rfl rfl rfl (Nat.le_of_ble_eq_true rfl) dX13_readsCommand_117 (fun r_117 u_117 hp_117 => ?_)
                      subst hp_117
                      show V G K 4 0 0 120 [some (.ref m), some (.int (nI (4 * c))), some (.int (nI 2)), some (.int 1)] [.int (nI 0), .int (nI ((4 * c) + 2)), .ref nmb] [(m, .inr (13, [.ref nw, .ref bf, .ref sv, .ref hy, .int iS, .int rmb, .int eA, .int fA, .ref tx, .int tyd, .ref li, .int ldd, .int thr, .int (nI ln), .int (nI (sr + 6)), .int (nI (sr + 6)), .int (nI (c + 1)), .ref nmb])), (tx, .inl (gI G, 60, .inl τ)), (nmb, .inl (gI G, 120, .inl (upd (upd μ (4 * c) (nI 2)) ((4 * c) + 1) (nI 0))))]
                      refine V.goto hC 127 dX13_readsCommand_120 rfl ?_
                      refine V.iast hC dX13_readsCommand_127 (2) rfl ((4 * c) + 2) rfl (by omega) (by decide) [(m, .inr (13, [.ref nw, .ref bf, .ref sv, .ref hy, .int iS, .int rmb, .int eA, .int fA, .ref tx, .int tyd, .ref li, .int ldd, .int thr, .int (nI ln), .int (nI (sr + 6)), .int (nI (sr + 6)), .int (nI (c + 1)), .ref nmb])), (tx, .inl (gI G, 60, .inl τ)), (nmb, .inl (gI G, 120, .inl (upd (upd (upd μ (4 * c) (nI 2)) ((4 * c) + 1) (nI 0)) ((4 * c) + 2) (nI 0))))] rfl ?_
                      refine V.iload_n hC (x := nI 2) dX13_readsCommand_128 rfl ?_
                      refine V.iconst hC 2 dX13_readsCommand_129 rfl ?_
                      refine V.icmpN_eq hC 2 2 138 dX13_readsCommand_130 rfl rfl rfl (by omega) (by omega) (fun c_130 => ?_) (fun c_130 => ?_)
                      · refine V.aload_n hC (x := m) dX13_readsCommand_138 rfl ?_
                        refine V.callV (n := 0) (As := []) (rest := []) hC (m_blankW (kl K) G m nw bf sv hy tx li nmb iS rmb eA fA tyd ldd thr (nI (c + 1)) ln (sr + 6) hln hp_w τ (sr + 6) (by omega)) SFk0 SFgo0 gX13_readsCommand_X13_blank rfl ⟨rfl, rfl⟩ (by decide +kernel) ⟨by decide, by decide, by decide, by decide⟩ [0, 1] rfl (by decide) (fun _ => rfl) rfl rfl rfl rfl (Nat.le_of_ble_eq_true rfl) dX13_readsCommand_139 (fun r_139 u_139 hp_139 => ?_)
                        show V G K 4 0 0 142 [some (.ref m), some (.int (nI (4 * c))), some (.int (nI 2)), some (.int 1)] [] [(m, .inr (13, [.ref nw, .ref bf, .ref sv, .ref hy, .int iS, .int rmb, .int eA, .int fA, .ref tx, .int tyd, .ref li, .int ldd, .int thr, .int (nI ln), .int (nI (sr + 6)), .int (nI (sr + 6)), .int (nI (c + 1)), .ref nmb])), (tx, .inl (gI G, 60, .inl τ)), (nmb, .inl (gI G, 120, .inl (upd (upd (upd μ (4 * c) (nI 2)) ((4 * c) + 1) (nI 0)) ((4 * c) + 2) (nI 0))))]
                        refine V.aload_n hC (x := m) dX13_readsCommand_142 rfl ?_
                        refine V.getf hC (T := TX13) q0_ 17 q2_ rfl (0) rfl rfl (by decide) (.ref nmb) rfl dX13_readsCommand_143 ?_
                        refine V.iload_n hC (x := nI (4 * c)) dX13_readsCommand_146 rfl ?_
                        refine V.iconst hC 3 dX13_readsCommand_147 rfl ?_
                        refine V.iaddN hC (4 * c) 3 dX13_readsCommand_148 rfl rfl ?_
                        refine V.aload_n hC (x := m) dX13_readsCommand_149 rfl ?_
                        refine V.callV (n := 0) (As := []) (rest := [.int (nI ((4 * c) + 3)), .ref nmb]) hC (m_numberW (kl K) G m nw bf sv hy tx li nmb iS rmb eA fA tyd ldd thr (nI (c + 1)) ln (sr + 6) hln hp_w τ (sr + 6) (by omega)) SFk0 SFgo0 gX13_readsCommand_X13_number rfl ⟨rfl, rfl⟩ (by decide +kernel) ⟨by decide, by decide, by decide, by decide⟩ [0, 1] rfl (by decide) (fun _ => rfl) rfl rfl rfl rfl (Nat.le_of_ble_eq_true rfl) dX13_readsCommand_150 (fun r_150 u_150 hp_150 => ?_)
                        subst hp_150
                        show V G K 4 0 0 153 [some (.ref m), some (.int (nI (4 * c))), some (.int (nI 2)), some (.int 1)] [.int (nI 0), .int (nI ((4 * c) + 3)), .ref nmb] [(m, .inr (13, [.ref nw, .ref bf, .ref sv, .ref hy, .int iS, .int rmb, .int eA, .int fA, .ref tx, .int tyd, .ref li, .int ldd, .int thr, .int (nI ln), .int (nI (sr + 6)), .int (nI (sr + 6)), .int (nI (c + 1)), .ref nmb])), (tx, .inl (gI G, 60, .inl τ)), (nmb, .inl (gI G, 120, .inl (upd (upd (upd μ (4 * c) (nI 2)) ((4 * c) + 1) (nI 0)) ((4 * c) + 2) (nI 0))))]
                        refine V.iast hC dX13_readsCommand_153 (2) rfl ((4 * c) + 3) rfl (by omega) (by decide) [(m, .inr (13, [.ref nw, .ref bf, .ref sv, .ref hy, .int iS, .int rmb, .int eA, .int fA, .ref tx, .int tyd, .ref li, .int ldd, .int thr, .int (nI ln), .int (nI (sr + 6)), .int (nI (sr + 6)), .int (nI (c + 1)), .ref nmb])), (tx, .inl (gI G, 60, .inl τ)), (nmb, .inl (gI G, 120, .inl (upd (upd (upd (upd μ (4 * c) (nI 2)) ((4 * c) + 1) (nI 0)) ((4 * c) + 2) (nI 0)) ((4 * c) + 3) (nI 0))))] rfl ?_
                        have hL : ∀ z, z < 4 * c → (upd (upd (upd (upd μ (4 * c) (nI 2)) ((4 * c) + 1) (nI 0)) ((4 * c) + 2) (nI 0)) ((4 * c) + 3) (nI 0)) z = μ z := fun z hz => (pk_un (by omega)).trans ((pk_un (by omega)).trans ((pk_un (by omega)).trans ((pk_un (by omega)).trans (rfl))))
                        have hB : sr + 6 ≤ 60 := by omega
                        exact hE 154 _ (sr + 6, nI (sr + 6), upd (upd (upd (upd μ (4 * c) (nI 2)) ((4 * c) + 1) (nI 0)) ((4 * c) + 2) (nI 0)) ((4 * c) + 3) (nI 0)) dX13_readsCommand_154 (Or.inr ⟨(rd_no hk8 hF (by omega)).1, congrArg nI (rd_no hk8 hF (by omega)).2.symm, hB, hL⟩)
                      · exact absurd c_130 (by decide)
                · exact absurd c_91 (by decide)
            · refine V.callV (n := 0) (As := []) (rest := [.int (nI ((4 * c) + 1)), .ref nmb]) hC (m_numberY (kl K) G m nw bf sv hy tx li nmb iS rmb eA fA tyd ldd thr (nI (c + 1)) ln (sr + 6) hln hp_w τ hd_73) SFk0 SFgo0 gX13_readsCommand_X13_number rfl ⟨rfl, rfl⟩ (by decide +kernel) ⟨by decide, by decide, by decide, by decide⟩ [0, 1] rfl (by decide) (fun _ => rfl) rfl rfl rfl rfl (Nat.le_of_ble_eq_true rfl) dX13_readsCommand_73 (fun r_73 u_73 hp_73 => ?_)
              obtain ⟨hr_73, hu_73, hl_73⟩ := hp_73
              have hs_73 := hs_n hs0 (by decide) hd_73 hr_73 hu_73
              have hg_73 : sr + 6 ≤ u_73 := by omega
              show V G K 4 0 0 76 [some (.ref m), some (.int (nI (4 * c))), some (.int (nI 2)), some (.int 1)] [.int r_73, .int (nI ((4 * c) + 1)), .ref nmb] [(m, .inr (13, [.ref nw, .ref bf, .ref sv, .ref hy, .int iS, .int rmb, .int eA, .int fA, .ref tx, .int tyd, .ref li, .int ldd, .int thr, .int (nI ln), .int (nI u_73), .int (-1), .int (nI (c + 1)), .ref nmb])), (tx, .inl (gI G, 60, .inl τ)), (nmb, .inl (gI G, 120, .inl (upd μ (4 * c) (nI 2))))]
              refine V.goto hC 83 dX13_readsCommand_76 rfl ?_
              refine V.iast hC dX13_readsCommand_83 (2) rfl ((4 * c) + 1) rfl (by omega) (by decide) [(m, .inr (13, [.ref nw, .ref bf, .ref sv, .ref hy, .int iS, .int rmb, .int eA, .int fA, .ref tx, .int tyd, .ref li, .int ldd, .int thr, .int (nI ln), .int (nI u_73), .int (-1), .int (nI (c + 1)), .ref nmb])), (tx, .inl (gI G, 60, .inl τ)), (nmb, .inl (gI G, 120, .inl (upd (upd μ (4 * c) (nI 2)) ((4 * c) + 1) r_73)))] rfl ?_
              refine V.iload_n hC (x := nI 2) dX13_readsCommand_84 rfl ?_
              refine V.ifN_eq hC 2 94 dX13_readsCommand_85 rfl rfl (by omega) (fun c_85 => ?_) (fun c_85 => ?_)
              · exact absurd c_85 (by decide)
              · refine V.iload_n hC (x := nI 2) dX13_readsCommand_88 rfl ?_
                refine V.bipush hC 7 dX13_readsCommand_89 rfl ?_
                refine V.icmpN_ne hC 2 7 95 dX13_readsCommand_91 rfl rfl rfl (by omega) (by omega) (fun c_91 => ?_) (fun c_91 => ?_)
                · refine V.aload_n hC (x := m) dX13_readsCommand_95 rfl ?_
                  by_cases hd_96 : sgn τ ln u_73 = nI 32
                  · have hs_96 := hs_c hs_73 (c := 32) (by decide) (by decide) (by decide) hd_96
                    have hl_96 : u_73 < ln := sgn_lt (fun z => by rw [hd_96] at z; exact absurd z (by decide))
                    refine V.callV (n := 0) (As := []) (rest := []) hC (m_blankY (kl K) G m nw bf sv hy tx li nmb iS rmb eA fA tyd ldd thr (nI (c + 1)) ln u_73 hln hl_73 τ (sg32.mpr hd_96) hl_96) SFk0 SFgo0 gX13_readsCommand_X13_blank rfl ⟨rfl, rfl⟩ (by decide +kernel) ⟨by decide, by decide, by decide, by decide⟩ [0, 1] rfl (by decide) (fun _ => rfl) rfl rfl rfl rfl (Nat.le_of_ble_eq_true rfl) dX13_readsCommand_96 (fun r_96 u_96 hp_96 => ?_)
                    show V G K 4 0 0 99 [some (.ref m), some (.int (nI (4 * c))), some (.int (nI 2)), some (.int 1)] [] [(m, .inr (13, [.ref nw, .ref bf, .ref sv, .ref hy, .int iS, .int rmb, .int eA, .int fA, .ref tx, .int tyd, .ref li, .int ldd, .int thr, .int (nI ln), .int (nI (u_73 + 1)), .int (-1), .int (nI (c + 1)), .ref nmb])), (tx, .inl (gI G, 60, .inl τ)), (nmb, .inl (gI G, 120, .inl (upd (upd μ (4 * c) (nI 2)) ((4 * c) + 1) r_73)))]
                    refine V.aload_n hC (x := m) dX13_readsCommand_99 rfl ?_
                    refine V.getf hC (T := TX13) q0_ 17 q2_ rfl (0) rfl rfl (by decide) (.ref nmb) rfl dX13_readsCommand_100 ?_
                    refine V.iload_n hC (x := nI (4 * c)) dX13_readsCommand_103 rfl ?_
                    refine V.iconst hC 2 dX13_readsCommand_104 rfl ?_
                    refine V.iaddN hC (4 * c) 2 dX13_readsCommand_105 rfl rfl ?_
                    refine V.iload_n hC (x := nI 2) dX13_readsCommand_106 rfl ?_
                    refine V.iconst hC 1 dX13_readsCommand_107 rfl ?_
                    refine V.icmpN_eq hC 2 1 116 dX13_readsCommand_108 rfl rfl rfl (by omega) (by omega) (fun c_108 => ?_) (fun c_108 => ?_)
                    · exact absurd c_108 (by decide)
                    · refine V.iload_n hC (x := nI 2) dX13_readsCommand_111 rfl ?_
                      refine V.iconst hC 2 dX13_readsCommand_112 rfl ?_
                      refine V.icmpN_ne hC 2 2 123 dX13_readsCommand_113 rfl rfl rfl (by omega) (by omega) (fun c_113 => ?_) (fun c_113 => ?_)
                      · exact absurd c_113 (by decide)
                      · refine V.aload_n hC (x := m) dX13_readsCommand_116 rfl ?_
                        by_cases hd_117 : dct τ ln (u_73 + 1) 1 = 0
                        · have hF := hk_0 (n := 11) (by decide) (hf_d hs_96 (by decide) hd_117 (by decide))
                          refine V.callV (n := 0) (As := []) (rest := [.int (nI ((4 * c) + 2)), .ref nmb]) hC (m_digitN (kl K) G m nw bf sv hy tx li nmb iS rmb eA fA tyd ldd thr (nI (c + 1)) ln (u_73 + 1) hln hl_96 τ (dct1n hd_117)) SFk0 SFgo0 gX13_readsCommand_X13_digit rfl ⟨rfl, rfl⟩ (by decide +kernel) ⟨by decide, by decide, by decide, by decide⟩ [0, 1] rfl (by decide) (fun _ => rfl) rfl rfl rfl rfl (Nat.le_of_ble_eq_true rfl) dX13_readsCommand_117 (fun r_117 u_117 hp_117 => ?_)
                          subst hp_117
                          show V G K 4 0 0 120 [some (.ref m), some (.int (nI (4 * c))), some (.int (nI 2)), some (.int 1)] [.int (nI 0), .int (nI ((4 * c) + 2)), .ref nmb] [(m, .inr (13, [.ref nw, .ref bf, .ref sv, .ref hy, .int iS, .int rmb, .int eA, .int fA, .ref tx, .int tyd, .ref li, .int ldd, .int thr, .int (nI ln), .int (nI (u_73 + 1)), .int (nI (u_73 + 1)), .int (nI (c + 1)), .ref nmb])), (tx, .inl (gI G, 60, .inl τ)), (nmb, .inl (gI G, 120, .inl (upd (upd μ (4 * c) (nI 2)) ((4 * c) + 1) r_73)))]
                          refine V.goto hC 127 dX13_readsCommand_120 rfl ?_
                          refine V.iast hC dX13_readsCommand_127 (2) rfl ((4 * c) + 2) rfl (by omega) (by decide) [(m, .inr (13, [.ref nw, .ref bf, .ref sv, .ref hy, .int iS, .int rmb, .int eA, .int fA, .ref tx, .int tyd, .ref li, .int ldd, .int thr, .int (nI ln), .int (nI (u_73 + 1)), .int (nI (u_73 + 1)), .int (nI (c + 1)), .ref nmb])), (tx, .inl (gI G, 60, .inl τ)), (nmb, .inl (gI G, 120, .inl (upd (upd (upd μ (4 * c) (nI 2)) ((4 * c) + 1) r_73) ((4 * c) + 2) (nI 0))))] rfl ?_
                          refine V.iload_n hC (x := nI 2) dX13_readsCommand_128 rfl ?_
                          refine V.iconst hC 2 dX13_readsCommand_129 rfl ?_
                          refine V.icmpN_eq hC 2 2 138 dX13_readsCommand_130 rfl rfl rfl (by omega) (by omega) (fun c_130 => ?_) (fun c_130 => ?_)
                          · refine V.aload_n hC (x := m) dX13_readsCommand_138 rfl ?_
                            refine V.callV (n := 0) (As := []) (rest := []) hC (m_blankW (kl K) G m nw bf sv hy tx li nmb iS rmb eA fA tyd ldd thr (nI (c + 1)) ln (u_73 + 1) hln hl_96 τ (u_73 + 1) (by omega)) SFk0 SFgo0 gX13_readsCommand_X13_blank rfl ⟨rfl, rfl⟩ (by decide +kernel) ⟨by decide, by decide, by decide, by decide⟩ [0, 1] rfl (by decide) (fun _ => rfl) rfl rfl rfl rfl (Nat.le_of_ble_eq_true rfl) dX13_readsCommand_139 (fun r_139 u_139 hp_139 => ?_)
                            show V G K 4 0 0 142 [some (.ref m), some (.int (nI (4 * c))), some (.int (nI 2)), some (.int 1)] [] [(m, .inr (13, [.ref nw, .ref bf, .ref sv, .ref hy, .int iS, .int rmb, .int eA, .int fA, .ref tx, .int tyd, .ref li, .int ldd, .int thr, .int (nI ln), .int (nI (u_73 + 1)), .int (nI (u_73 + 1)), .int (nI (c + 1)), .ref nmb])), (tx, .inl (gI G, 60, .inl τ)), (nmb, .inl (gI G, 120, .inl (upd (upd (upd μ (4 * c) (nI 2)) ((4 * c) + 1) r_73) ((4 * c) + 2) (nI 0))))]
                            refine V.aload_n hC (x := m) dX13_readsCommand_142 rfl ?_
                            refine V.getf hC (T := TX13) q0_ 17 q2_ rfl (0) rfl rfl (by decide) (.ref nmb) rfl dX13_readsCommand_143 ?_
                            refine V.iload_n hC (x := nI (4 * c)) dX13_readsCommand_146 rfl ?_
                            refine V.iconst hC 3 dX13_readsCommand_147 rfl ?_
                            refine V.iaddN hC (4 * c) 3 dX13_readsCommand_148 rfl rfl ?_
                            refine V.aload_n hC (x := m) dX13_readsCommand_149 rfl ?_
                            refine V.callV (n := 0) (As := []) (rest := [.int (nI ((4 * c) + 3)), .ref nmb]) hC (m_numberW (kl K) G m nw bf sv hy tx li nmb iS rmb eA fA tyd ldd thr (nI (c + 1)) ln (u_73 + 1) hln hl_96 τ (u_73 + 1) (by omega)) SFk0 SFgo0 gX13_readsCommand_X13_number rfl ⟨rfl, rfl⟩ (by decide +kernel) ⟨by decide, by decide, by decide, by decide⟩ [0, 1] rfl (by decide) (fun _ => rfl) rfl rfl rfl rfl (Nat.le_of_ble_eq_true rfl) dX13_readsCommand_150 (fun r_150 u_150 hp_150 => ?_)
                            subst hp_150
                            show V G K 4 0 0 153 [some (.ref m), some (.int (nI (4 * c))), some (.int (nI 2)), some (.int 1)] [.int (nI 0), .int (nI ((4 * c) + 3)), .ref nmb] [(m, .inr (13, [.ref nw, .ref bf, .ref sv, .ref hy, .int iS, .int rmb, .int eA, .int fA, .ref tx, .int tyd, .ref li, .int ldd, .int thr, .int (nI ln), .int (nI (u_73 + 1)), .int (nI (u_73 + 1)), .int (nI (c + 1)), .ref nmb])), (tx, .inl (gI G, 60, .inl τ)), (nmb, .inl (gI G, 120, .inl (upd (upd (upd μ (4 * c) (nI 2)) ((4 * c) + 1) r_73) ((4 * c) + 2) (nI 0))))]
                            refine V.iast hC dX13_readsCommand_153 (2) rfl ((4 * c) + 3) rfl (by omega) (by decide) [(m, .inr (13, [.ref nw, .ref bf, .ref sv, .ref hy, .int iS, .int rmb, .int eA, .int fA, .ref tx, .int tyd, .ref li, .int ldd, .int thr, .int (nI ln), .int (nI (u_73 + 1)), .int (nI (u_73 + 1)), .int (nI (c + 1)), .ref nmb])), (tx, .inl (gI G, 60, .inl τ)), (nmb, .inl (gI G, 120, .inl (upd (upd (upd (upd μ (4 * c) (nI 2)) ((4 * c) + 1) r_73) ((4 * c) + 2) (nI 0)) ((4 * c) + 3) (nI 0))))] rfl ?_
                            have hL : ∀ z, z < 4 * c → (upd (upd (upd (upd μ (4 * c) (nI 2)) ((4 * c) + 1) r_73) ((4 * c) + 2) (nI 0)) ((4 * c) + 3) (nI 0)) z = μ z := fun z hz => (pk_un (by omega)).trans ((pk_un (by omega)).trans ((pk_un (by omega)).trans ((pk_un (by omega)).trans (rfl))))
                            have hB : u_73 + 1 ≤ 60 := by omega
                            exact hE 154 _ (u_73 + 1, nI (u_73 + 1), upd (upd (upd (upd μ (4 * c) (nI 2)) ((4 * c) + 1) r_73) ((4 * c) + 2) (nI 0)) ((4 * c) + 3) (nI 0)) dX13_readsCommand_154 (Or.inr ⟨(rd_no hk8 hF (by omega)).1, congrArg nI (rd_no hk8 hF (by omega)).2.symm, hB, hL⟩)
                          · exact absurd c_130 (by decide)
                        · refine V.callV (n := 0) (As := []) (rest := [.int (nI ((4 * c) + 2)), .ref nmb]) hC (m_digitY (kl K) G m nw bf sv hy tx li nmb iS rmb eA fA tyd ldd thr (nI (c + 1)) ln (u_73 + 1) hln hl_96 τ hd_117) SFk0 SFgo0 gX13_readsCommand_X13_digit rfl ⟨rfl, rfl⟩ (by decide +kernel) ⟨by decide, by decide, by decide, by decide⟩ [0, 1] rfl (by decide) (fun _ => rfl) rfl rfl rfl rfl (Nat.le_of_ble_eq_true rfl) dX13_readsCommand_117 (fun r_117 u_117 hp_117 => ?_)
                          obtain ⟨hr_117, hu_117, hl_117⟩ := hp_117
                          have hs_117 := hs_d hs_96 (by decide) hd_117 hr_117 hu_117
                          have hg_117 : u_73 + 1 ≤ u_117 := by omega
                          show V G K 4 0 0 120 [some (.ref m), some (.int (nI (4 * c))), some (.int (nI 2)), some (.int 1)] [.int r_117, .int (nI ((4 * c) + 2)), .ref nmb] [(m, .inr (13, [.ref nw, .ref bf, .ref sv, .ref hy, .int iS, .int rmb, .int eA, .int fA, .ref tx, .int tyd, .ref li, .int ldd, .int thr, .int (nI ln), .int (nI u_117), .int (-1), .int (nI (c + 1)), .ref nmb])), (tx, .inl (gI G, 60, .inl τ)), (nmb, .inl (gI G, 120, .inl (upd (upd μ (4 * c) (nI 2)) ((4 * c) + 1) r_73)))]
                          refine V.goto hC 127 dX13_readsCommand_120 rfl ?_
                          refine V.iast hC dX13_readsCommand_127 (2) rfl ((4 * c) + 2) rfl (by omega) (by decide) [(m, .inr (13, [.ref nw, .ref bf, .ref sv, .ref hy, .int iS, .int rmb, .int eA, .int fA, .ref tx, .int tyd, .ref li, .int ldd, .int thr, .int (nI ln), .int (nI u_117), .int (-1), .int (nI (c + 1)), .ref nmb])), (tx, .inl (gI G, 60, .inl τ)), (nmb, .inl (gI G, 120, .inl (upd (upd (upd μ (4 * c) (nI 2)) ((4 * c) + 1) r_73) ((4 * c) + 2) r_117)))] rfl ?_
                          refine V.iload_n hC (x := nI 2) dX13_readsCommand_128 rfl ?_
                          refine V.iconst hC 2 dX13_readsCommand_129 rfl ?_
                          refine V.icmpN_eq hC 2 2 138 dX13_readsCommand_130 rfl rfl rfl (by omega) (by omega) (fun c_130 => ?_) (fun c_130 => ?_)
                          · refine V.aload_n hC (x := m) dX13_readsCommand_138 rfl ?_
                            by_cases hd_139 : sgn τ ln u_117 = nI 32
                            · have hs_139 := hs_c hs_117 (c := 32) (by decide) (by decide) (by decide) hd_139
                              have hl_139 : u_117 < ln := sgn_lt (fun z => by rw [hd_139] at z; exact absurd z (by decide))
                              refine V.callV (n := 0) (As := []) (rest := []) hC (m_blankY (kl K) G m nw bf sv hy tx li nmb iS rmb eA fA tyd ldd thr (nI (c + 1)) ln u_117 hln hl_117 τ (sg32.mpr hd_139) hl_139) SFk0 SFgo0 gX13_readsCommand_X13_blank rfl ⟨rfl, rfl⟩ (by decide +kernel) ⟨by decide, by decide, by decide, by decide⟩ [0, 1] rfl (by decide) (fun _ => rfl) rfl rfl rfl rfl (Nat.le_of_ble_eq_true rfl) dX13_readsCommand_139 (fun r_139 u_139 hp_139 => ?_)
                              show V G K 4 0 0 142 [some (.ref m), some (.int (nI (4 * c))), some (.int (nI 2)), some (.int 1)] [] [(m, .inr (13, [.ref nw, .ref bf, .ref sv, .ref hy, .int iS, .int rmb, .int eA, .int fA, .ref tx, .int tyd, .ref li, .int ldd, .int thr, .int (nI ln), .int (nI (u_117 + 1)), .int (-1), .int (nI (c + 1)), .ref nmb])), (tx, .inl (gI G, 60, .inl τ)), (nmb, .inl (gI G, 120, .inl (upd (upd (upd μ (4 * c) (nI 2)) ((4 * c) + 1) r_73) ((4 * c) + 2) r_117)))]
                              refine V.aload_n hC (x := m) dX13_readsCommand_142 rfl ?_
                              refine V.getf hC (T := TX13) q0_ 17 q2_ rfl (0) rfl rfl (by decide) (.ref nmb) rfl dX13_readsCommand_143 ?_
                              refine V.iload_n hC (x := nI (4 * c)) dX13_readsCommand_146 rfl ?_
                              refine V.iconst hC 3 dX13_readsCommand_147 rfl ?_
                              refine V.iaddN hC (4 * c) 3 dX13_readsCommand_148 rfl rfl ?_
                              refine V.aload_n hC (x := m) dX13_readsCommand_149 rfl ?_
                              by_cases hd_150 : dct τ ln (u_117 + 1) 2 = 0
                              · have hF := hk_0 (n := 11) (by decide) (hf_n hs_139 (by decide) hd_150 (by decide))
                                refine V.callV (n := 0) (As := []) (rest := [.int (nI ((4 * c) + 3)), .ref nmb]) hC (m_numberN (kl K) G m nw bf sv hy tx li nmb iS rmb eA fA tyd ldd thr (nI (c + 1)) ln (u_117 + 1) hln hl_139 τ hd_150) SFk0 SFgo0 gX13_readsCommand_X13_number rfl ⟨rfl, rfl⟩ (by decide +kernel) ⟨by decide, by decide, by decide, by decide⟩ [0, 1] rfl (by decide) (fun _ => rfl) rfl rfl rfl rfl (Nat.le_of_ble_eq_true rfl) dX13_readsCommand_150 (fun r_150 u_150 hp_150 => ?_)
                                subst hp_150
                                show V G K 4 0 0 153 [some (.ref m), some (.int (nI (4 * c))), some (.int (nI 2)), some (.int 1)] [.int (nI 0), .int (nI ((4 * c) + 3)), .ref nmb] [(m, .inr (13, [.ref nw, .ref bf, .ref sv, .ref hy, .int iS, .int rmb, .int eA, .int fA, .ref tx, .int tyd, .ref li, .int ldd, .int thr, .int (nI ln), .int (nI (u_117 + 1)), .int (nI (u_117 + 1)), .int (nI (c + 1)), .ref nmb])), (tx, .inl (gI G, 60, .inl τ)), (nmb, .inl (gI G, 120, .inl (upd (upd (upd μ (4 * c) (nI 2)) ((4 * c) + 1) r_73) ((4 * c) + 2) r_117)))]
                                refine V.iast hC dX13_readsCommand_153 (2) rfl ((4 * c) + 3) rfl (by omega) (by decide) [(m, .inr (13, [.ref nw, .ref bf, .ref sv, .ref hy, .int iS, .int rmb, .int eA, .int fA, .ref tx, .int tyd, .ref li, .int ldd, .int thr, .int (nI ln), .int (nI (u_117 + 1)), .int (nI (u_117 + 1)), .int (nI (c + 1)), .ref nmb])), (tx, .inl (gI G, 60, .inl τ)), (nmb, .inl (gI G, 120, .inl (upd (upd (upd (upd μ (4 * c) (nI 2)) ((4 * c) + 1) r_73) ((4 * c) + 2) r_117) ((4 * c) + 3) (nI 0))))] rfl ?_
                                have hL : ∀ z, z < 4 * c → (upd (upd (upd (upd μ (4 * c) (nI 2)) ((4 * c) + 1) r_73) ((4 * c) + 2) r_117) ((4 * c) + 3) (nI 0)) z = μ z := fun z hz => (pk_un (by omega)).trans ((pk_un (by omega)).trans ((pk_un (by omega)).trans ((pk_un (by omega)).trans (rfl))))
                                have hB : u_117 + 1 ≤ 60 := by omega
                                exact hE 154 _ (u_117 + 1, nI (u_117 + 1), upd (upd (upd (upd μ (4 * c) (nI 2)) ((4 * c) + 1) r_73) ((4 * c) + 2) r_117) ((4 * c) + 3) (nI 0)) dX13_readsCommand_154 (Or.inr ⟨(rd_no hk8 hF (by omega)).1, congrArg nI (rd_no hk8 hF (by omega)).2.symm, hB, hL⟩)
                              · refine V.callV (n := 0) (As := []) (rest := [.int (nI ((4 * c) + 3)), .ref nmb]) hC (m_numberY (kl K) G m nw bf sv hy tx li nmb iS rmb eA fA tyd ldd thr (nI (c + 1)) ln (u_117 + 1) hln hl_139 τ hd_150) SFk0 SFgo0 gX13_readsCommand_X13_number rfl ⟨rfl, rfl⟩ (by decide +kernel) ⟨by decide, by decide, by decide, by decide⟩ [0, 1] rfl (by decide) (fun _ => rfl) rfl rfl rfl rfl (Nat.le_of_ble_eq_true rfl) dX13_readsCommand_150 (fun r_150 u_150 hp_150 => ?_)
                                obtain ⟨hr_150, hu_150, hl_150⟩ := hp_150
                                have hs_150 := hs_n hs_139 (by decide) hd_150 hr_150 hu_150
                                have hg_150 : u_117 + 1 ≤ u_150 := by omega
                                show V G K 4 0 0 153 [some (.ref m), some (.int (nI (4 * c))), some (.int (nI 2)), some (.int 1)] [.int r_150, .int (nI ((4 * c) + 3)), .ref nmb] [(m, .inr (13, [.ref nw, .ref bf, .ref sv, .ref hy, .int iS, .int rmb, .int eA, .int fA, .ref tx, .int tyd, .ref li, .int ldd, .int thr, .int (nI ln), .int (nI u_150), .int (-1), .int (nI (c + 1)), .ref nmb])), (tx, .inl (gI G, 60, .inl τ)), (nmb, .inl (gI G, 120, .inl (upd (upd (upd μ (4 * c) (nI 2)) ((4 * c) + 1) r_73) ((4 * c) + 2) r_117)))]
                                refine V.iast hC dX13_readsCommand_153 (2) rfl ((4 * c) + 3) rfl (by omega) (by decide) [(m, .inr (13, [.ref nw, .ref bf, .ref sv, .ref hy, .int iS, .int rmb, .int eA, .int fA, .ref tx, .int tyd, .ref li, .int ldd, .int thr, .int (nI ln), .int (nI u_150), .int (-1), .int (nI (c + 1)), .ref nmb])), (tx, .inl (gI G, 60, .inl τ)), (nmb, .inl (gI G, 120, .inl (upd (upd (upd (upd μ (4 * c) (nI 2)) ((4 * c) + 1) r_73) ((4 * c) + 2) r_117) ((4 * c) + 3) r_150)))] rfl ?_
                                have hL : ∀ z, z < 4 * c → (upd (upd (upd (upd μ (4 * c) (nI 2)) ((4 * c) + 1) r_73) ((4 * c) + 2) r_117) ((4 * c) + 3) r_150) z = μ z := fun z hz => (pk_un (by omega)).trans ((pk_un (by omega)).trans ((pk_un (by omega)).trans ((pk_un (by omega)).trans (rfl))))
                                have hB : u_150 ≤ 60 := by omega
                                have hK : (upd (upd (upd (upd μ (4 * c) (nI 2)) ((4 * c) + 1) r_73) ((4 * c) + 2) r_117) ((4 * c) + 3) r_150) (4 * c) = nI 2 := (pk_un (by omega)).trans ((pk_un (by omega)).trans ((pk_un (by omega)).trans (pk_us)))
                                have hJ : ∀ j, j < nar 2 → (upd (upd (upd (upd μ (4 * c) (nI 2)) ((4 * c) + 1) r_73) ((4 * c) + 2) r_117) ((4 * c) + 3) r_150) (4 * c + 1 + j) = agx τ ln sr 2 j := by
                                  intro j hj
                                  have hj2 : j < 3 := hj
                                  obtain rfl | rfl | rfl : j = 0 ∨ j = 1 ∨ j = 2 := by omega
                                  · exact ((pk_un (by omega)).trans ((pk_un (by omega)).trans (pk_us))).trans ((agx_in (n := 11) (by decide) hs_150 (by decide)).trans ((pk_un (by decide)).trans ((pk_un (by decide)).trans (pk_us)))).symm
                                  · exact ((pk_un (by omega)).trans (pk_us)).trans ((agx_in (n := 11) (by decide) hs_150 (by decide)).trans ((pk_un (by decide)).trans (pk_us))).symm
                                  · exact (pk_us).trans ((agx_in (n := 11) (by decide) hs_150 (by decide)).trans (pk_us)).symm
                                exact hE 154 _ (u_150, -1, upd (upd (upd (upd μ (4 * c) (nI 2)) ((4 * c) + 1) r_73) ((4 * c) + 2) r_117) ((4 * c) + 3) r_150) dX13_readsCommand_154 (Or.inl ⟨2, rd_yes hk8 (hk_1 (n := 11) (by decide) hs_150).1, (hk_1 (n := 11) (by decide) hs_150).2.symm, rfl, ⟨hK, hJ, fun j hj => agx_out (n := 11) (by decide) hs_150 hj⟩, hL⟩)
                            · have hF := hk_0 (n := 11) (by decide) (hf_c hs_117 (c := 32) (by decide) (by decide) (by decide) hd_139 (by decide))
                              refine V.callV (n := 0) (As := []) (rest := []) hC (m_blankN (kl K) G m nw bf sv hy tx li nmb iS rmb eA fA tyd ldd thr (nI (c + 1)) ln u_117 hln hl_117 τ (fun q => hd_139 (sg32.mp q))) SFk0 SFgo0 gX13_readsCommand_X13_blank rfl ⟨rfl, rfl⟩ (by decide +kernel) ⟨by decide, by decide, by decide, by decide⟩ [0, 1] rfl (by decide) (fun _ => rfl) rfl rfl rfl rfl (Nat.le_of_ble_eq_true rfl) dX13_readsCommand_139 (fun r_139 u_139 hp_139 => ?_)
                              show V G K 4 0 0 142 [some (.ref m), some (.int (nI (4 * c))), some (.int (nI 2)), some (.int 1)] [] [(m, .inr (13, [.ref nw, .ref bf, .ref sv, .ref hy, .int iS, .int rmb, .int eA, .int fA, .ref tx, .int tyd, .ref li, .int ldd, .int thr, .int (nI ln), .int (nI u_117), .int (nI u_117), .int (nI (c + 1)), .ref nmb])), (tx, .inl (gI G, 60, .inl τ)), (nmb, .inl (gI G, 120, .inl (upd (upd (upd μ (4 * c) (nI 2)) ((4 * c) + 1) r_73) ((4 * c) + 2) r_117)))]
                              refine V.aload_n hC (x := m) dX13_readsCommand_142 rfl ?_
                              refine V.getf hC (T := TX13) q0_ 17 q2_ rfl (0) rfl rfl (by decide) (.ref nmb) rfl dX13_readsCommand_143 ?_
                              refine V.iload_n hC (x := nI (4 * c)) dX13_readsCommand_146 rfl ?_
                              refine V.iconst hC 3 dX13_readsCommand_147 rfl ?_
                              refine V.iaddN hC (4 * c) 3 dX13_readsCommand_148 rfl rfl ?_
                              refine V.aload_n hC (x := m) dX13_readsCommand_149 rfl ?_
                              refine V.callV (n := 0) (As := []) (rest := [.int (nI ((4 * c) + 3)), .ref nmb]) hC (m_numberW (kl K) G m nw bf sv hy tx li nmb iS rmb eA fA tyd ldd thr (nI (c + 1)) ln u_117 hln hl_117 τ u_117 (by omega)) SFk0 SFgo0 gX13_readsCommand_X13_number rfl ⟨rfl, rfl⟩ (by decide +kernel) ⟨by decide, by decide, by decide, by decide⟩ [0, 1] rfl (by decide) (fun _ => rfl) rfl rfl rfl rfl (Nat.le_of_ble_eq_true rfl) dX13_readsCommand_150 (fun r_150 u_150 hp_150 => ?_)
                              subst hp_150
                              show V G K 4 0 0 153 [some (.ref m), some (.int (nI (4 * c))), some (.int (nI 2)), some (.int 1)] [.int (nI 0), .int (nI ((4 * c) + 3)), .ref nmb] [(m, .inr (13, [.ref nw, .ref bf, .ref sv, .ref hy, .int iS, .int rmb, .int eA, .int fA, .ref tx, .int tyd, .ref li, .int ldd, .int thr, .int (nI ln), .int (nI u_117), .int (nI u_117), .int (nI (c + 1)), .ref nmb])), (tx, .inl (gI G, 60, .inl τ)), (nmb, .inl (gI G, 120, .inl (upd (upd (upd μ (4 * c) (nI 2)) ((4 * c) + 1) r_73) ((4 * c) + 2) r_117)))]
                              refine V.iast hC dX13_readsCommand_153 (2) rfl ((4 * c) + 3) rfl (by omega) (by decide) [(m, .inr (13, [.ref nw, .ref bf, .ref sv, .ref hy, .int iS, .int rmb, .int eA, .int fA, .ref tx, .int tyd, .ref li, .int ldd, .int thr, .int (nI ln), .int (nI u_117), .int (nI u_117), .int (nI (c + 1)), .ref nmb])), (tx, .inl (gI G, 60, .inl τ)), (nmb, .inl (gI G, 120, .inl (upd (upd (upd (upd μ (4 * c) (nI 2)) ((4 * c) + 1) r_73) ((4 * c) + 2) r_117) ((4 * c) + 3) (nI 0))))] rfl ?_
                              have hL : ∀ z, z < 4 * c → (upd (upd (upd (upd μ (4 * c) (nI 2)) ((4 * c) + 1) r_73) ((4 * c) + 2) r_117) ((4 * c) + 3) (nI 0)) z = μ z := fun z hz => (pk_un (by omega)).trans ((pk_un (by omega)).trans ((pk_un (by omega)).trans ((pk_un (by omega)).trans (rfl))))
                              have hB : u_117 ≤ 60 := by omega
                              exact hE 154 _ (u_117, nI u_117, upd (upd (upd (upd μ (4 * c) (nI 2)) ((4 * c) + 1) r_73) ((4 * c) + 2) r_117) ((4 * c) + 3) (nI 0)) dX13_readsCommand_154 (Or.inr ⟨(rd_no hk8 hF (by omega)).1, congrArg nI (rd_no hk8 hF (by omega)).2.symm, hB, hL⟩)
                          · exact absurd c_130 (by decide)
                  · have hF := hk_0 (n := 11) (by decide) (hf_c hs_73 (c := 32) (by decide) (by decide) (by decide) hd_96 (by decide))
                    refine V.callV (n := 0) (As := []) (rest := []) hC (m_blankN (kl K) G m nw bf sv hy tx li nmb iS rmb eA fA tyd ldd thr (nI (c + 1)) ln u_73 hln hl_73 τ (fun q => hd_96 (sg32.mp q))) SFk0 SFgo0 gX13_readsCommand_X13_blank rfl ⟨rfl, rfl⟩ (by decide +kernel) ⟨by decide, by decide, by decide, by decide⟩ [0, 1] rfl (by decide) (fun _ => rfl) rfl rfl rfl rfl (Nat.le_of_ble_eq_true rfl) dX13_readsCommand_96 (fun r_96 u_96 hp_96 => ?_)
                    show V G K 4 0 0 99 [some (.ref m), some (.int (nI (4 * c))), some (.int (nI 2)), some (.int 1)] [] [(m, .inr (13, [.ref nw, .ref bf, .ref sv, .ref hy, .int iS, .int rmb, .int eA, .int fA, .ref tx, .int tyd, .ref li, .int ldd, .int thr, .int (nI ln), .int (nI u_73), .int (nI u_73), .int (nI (c + 1)), .ref nmb])), (tx, .inl (gI G, 60, .inl τ)), (nmb, .inl (gI G, 120, .inl (upd (upd μ (4 * c) (nI 2)) ((4 * c) + 1) r_73)))]
                    refine V.aload_n hC (x := m) dX13_readsCommand_99 rfl ?_
                    refine V.getf hC (T := TX13) q0_ 17 q2_ rfl (0) rfl rfl (by decide) (.ref nmb) rfl dX13_readsCommand_100 ?_
                    refine V.iload_n hC (x := nI (4 * c)) dX13_readsCommand_103 rfl ?_
                    refine V.iconst hC 2 dX13_readsCommand_104 rfl ?_
                    refine V.iaddN hC (4 * c) 2 dX13_readsCommand_105 rfl rfl ?_
                    refine V.iload_n hC (x := nI 2) dX13_readsCommand_106 rfl ?_
                    refine V.iconst hC 1 dX13_readsCommand_107 rfl ?_
                    refine V.icmpN_eq hC 2 1 116 dX13_readsCommand_108 rfl rfl rfl (by omega) (by omega) (fun c_108 => ?_) (fun c_108 => ?_)
                    · exact absurd c_108 (by decide)
                    · refine V.iload_n hC (x := nI 2) dX13_readsCommand_111 rfl ?_
                      refine V.iconst hC 2 dX13_readsCommand_112 rfl ?_
                      refine V.icmpN_ne hC 2 2 123 dX13_readsCommand_113 rfl rfl rfl (by omega) (by omega) (fun c_113 => ?_) (fun c_113 => ?_)
                      · exact absurd c_113 (by decide)
                      · refine V.aload_n hC (x := m) dX13_readsCommand_116 rfl ?_
                        refine V.callV (n := 0) (As := []) (rest := [.int (nI ((4 * c) + 2)), .ref nmb]) hC (m_digitW (kl K) G m nw bf sv hy tx li nmb iS rmb eA fA tyd ldd thr (nI (c + 1)) ln u_73 hln hl_73 τ u_73 (by omega)) SFk0 SFgo0 gX13_readsCommand_X13_digit rfl ⟨rfl, rfl⟩ (by decide +kernel) ⟨by decide, by decide, by decide, by decide⟩ [0, 1] rfl (by decide) (fun _ => rfl) rfl rfl rfl rfl (Nat.le_of_ble_eq_true rfl) dX13_readsCommand_117 (fun r_117 u_117 hp_117 => ?_)
                        subst hp_117
                        show V G K 4 0 0 120 [some (.ref m), some (.int (nI (4 * c))), some (.int (nI 2)), some (.int 1)] [.int (nI 0), .int (nI ((4 * c) + 2)), .ref nmb] [(m, .inr (13, [.ref nw, .ref bf, .ref sv, .ref hy, .int iS, .int rmb, .int eA, .int fA, .ref tx, .int tyd, .ref li, .int ldd, .int thr, .int (nI ln), .int (nI u_73), .int (nI u_73), .int (nI (c + 1)), .ref nmb])), (tx, .inl (gI G, 60, .inl τ)), (nmb, .inl (gI G, 120, .inl (upd (upd μ (4 * c) (nI 2)) ((4 * c) + 1) r_73)))]
                        refine V.goto hC 127 dX13_readsCommand_120 rfl ?_
                        refine V.iast hC dX13_readsCommand_127 (2) rfl ((4 * c) + 2) rfl (by omega) (by decide) [(m, .inr (13, [.ref nw, .ref bf, .ref sv, .ref hy, .int iS, .int rmb, .int eA, .int fA, .ref tx, .int tyd, .ref li, .int ldd, .int thr, .int (nI ln), .int (nI u_73), .int (nI u_73), .int (nI (c + 1)), .ref nmb])), (tx, .inl (gI G, 60, .inl τ)), (nmb, .inl (gI G, 120, .inl (upd (upd (upd μ (4 * c) (nI 2)) ((4 * c) + 1) r_73) ((4 * c) + 2) (nI 0))))] rfl ?_
                        refine V.iload_n hC (x := nI 2) dX13_readsCommand_128 rfl ?_
                        refine V.iconst hC 2 dX13_readsCommand_129 rfl ?_
                        refine V.icmpN_eq hC 2 2 138 dX13_readsCommand_130 rfl rfl rfl (by omega) (by omega) (fun c_130 => ?_) (fun c_130 => ?_)
                        · refine V.aload_n hC (x := m) dX13_readsCommand_138 rfl ?_
                          refine V.callV (n := 0) (As := []) (rest := []) hC (m_blankW (kl K) G m nw bf sv hy tx li nmb iS rmb eA fA tyd ldd thr (nI (c + 1)) ln u_73 hln hl_73 τ u_73 (by omega)) SFk0 SFgo0 gX13_readsCommand_X13_blank rfl ⟨rfl, rfl⟩ (by decide +kernel) ⟨by decide, by decide, by decide, by decide⟩ [0, 1] rfl (by decide) (fun _ => rfl) rfl rfl rfl rfl (Nat.le_of_ble_eq_true rfl) dX13_readsCommand_139 (fun r_139 u_139 hp_139 => ?_)
                          show V G K 4 0 0 142 [some (.ref m), some (.int (nI (4 * c))), some (.int (nI 2)), some (.int 1)] [] [(m, .inr (13, [.ref nw, .ref bf, .ref sv, .ref hy, .int iS, .int rmb, .int eA, .int fA, .ref tx, .int tyd, .ref li, .int ldd, .int thr, .int (nI ln), .int (nI u_73), .int (nI u_73), .int (nI (c + 1)), .ref nmb])), (tx, .inl (gI G, 60, .inl τ)), (nmb, .inl (gI G, 120, .inl (upd (upd (upd μ (4 * c) (nI 2)) ((4 * c) + 1) r_73) ((4 * c) + 2) (nI 0))))]
                          refine V.aload_n hC (x := m) dX13_readsCommand_142 rfl ?_
                          refine V.getf hC (T := TX13) q0_ 17 q2_ rfl (0) rfl rfl (by decide) (.ref nmb) rfl dX13_readsCommand_143 ?_
                          refine V.iload_n hC (x := nI (4 * c)) dX13_readsCommand_146 rfl ?_
                          refine V.iconst hC 3 dX13_readsCommand_147 rfl ?_
                          refine V.iaddN hC (4 * c) 3 dX13_readsCommand_148 rfl rfl ?_
                          refine V.aload_n hC (x := m) dX13_readsCommand_149 rfl ?_
                          refine V.callV (n := 0) (As := []) (rest := [.int (nI ((4 * c) + 3)), .ref nmb]) hC (m_numberW (kl K) G m nw bf sv hy tx li nmb iS rmb eA fA tyd ldd thr (nI (c + 1)) ln u_73 hln hl_73 τ u_73 (by omega)) SFk0 SFgo0 gX13_readsCommand_X13_number rfl ⟨rfl, rfl⟩ (by decide +kernel) ⟨by decide, by decide, by decide, by decide⟩ [0, 1] rfl (by decide) (fun _ => rfl) rfl rfl rfl rfl (Nat.le_of_ble_eq_true rfl) dX13_readsCommand_150 (fun r_150 u_150 hp_150 => ?_)
                          subst hp_150
                          show V G K 4 0 0 153 [some (.ref m), some (.int (nI (4 * c))), some (.int (nI 2)), some (.int 1)] [.int (nI 0), .int (nI ((4 * c) + 3)), .ref nmb] [(m, .inr (13, [.ref nw, .ref bf, .ref sv, .ref hy, .int iS, .int rmb, .int eA, .int fA, .ref tx, .int tyd, .ref li, .int ldd, .int thr, .int (nI ln), .int (nI u_73), .int (nI u_73), .int (nI (c + 1)), .ref nmb])), (tx, .inl (gI G, 60, .inl τ)), (nmb, .inl (gI G, 120, .inl (upd (upd (upd μ (4 * c) (nI 2)) ((4 * c) + 1) r_73) ((4 * c) + 2) (nI 0))))]
                          refine V.iast hC dX13_readsCommand_153 (2) rfl ((4 * c) + 3) rfl (by omega) (by decide) [(m, .inr (13, [.ref nw, .ref bf, .ref sv, .ref hy, .int iS, .int rmb, .int eA, .int fA, .ref tx, .int tyd, .ref li, .int ldd, .int thr, .int (nI ln), .int (nI u_73), .int (nI u_73), .int (nI (c + 1)), .ref nmb])), (tx, .inl (gI G, 60, .inl τ)), (nmb, .inl (gI G, 120, .inl (upd (upd (upd (upd μ (4 * c) (nI 2)) ((4 * c) + 1) r_73) ((4 * c) + 2) (nI 0)) ((4 * c) + 3) (nI 0))))] rfl ?_
                          have hL : ∀ z, z < 4 * c → (upd (upd (upd (upd μ (4 * c) (nI 2)) ((4 * c) + 1) r_73) ((4 * c) + 2) (nI 0)) ((4 * c) + 3) (nI 0)) z = μ z := fun z hz => (pk_un (by omega)).trans ((pk_un (by omega)).trans ((pk_un (by omega)).trans ((pk_un (by omega)).trans (rfl))))
                          have hB : u_73 ≤ 60 := by omega
                          exact hE 154 _ (u_73, nI u_73, upd (upd (upd (upd μ (4 * c) (nI 2)) ((4 * c) + 1) r_73) ((4 * c) + 2) (nI 0)) ((4 * c) + 3) (nI 0)) dX13_readsCommand_154 (Or.inr ⟨(rd_no hk8 hF (by omega)).1, congrArg nI (rd_no hk8 hF (by omega)).2.symm, hB, hL⟩)
                        · exact absurd c_130 (by decide)
                · exact absurd c_91 (by decide)
        · exact absurd c_40 (by decide)
      · exact absurd rfl c_34
    · have hs0 := hk_yes (by decide) hks.2
      rw [wl_v.2.2.2.1] at hu1 hs0
      refine V.eqw (ws' := [(m, .inr (13, [.ref nw, .ref bf, .ref sv, .ref hy, .int iS, .int rmb, .int eA, .int fA, .ref tx, .int tyd, .ref li, .int ldd, .int thr, .int (nI ln), .int (nI (sr + 5)), .int (-1), .int (nI c), .ref nmb])), (tx, .inl (gI G, 60, .inl τ)), (nmb, .inl (gI G, 120, .inl μ))]) (by rw [hu1, hu2]; rfl) ?_
      have hp_w : sr + 5 ≤ ln := by have := hfm_ln (tf := τ) (ln := ln) (sr := sr) (af := fun _ => 0) (i := 3) hsr (fun j => chr_m1 3 (by decide) j) 5; rw [hs0] at this; exact this
      refine V.istore_n hC dX13_readsCommand_11 [some (.ref m), some (.int (nI (4 * c))), some (.int (nI 3)), none] (Nat.le_of_ble_eq_true rfl) rfl ?_
      refine V.aload_n hC (x := m) dX13_readsCommand_12 rfl ?_
      refine V.getf hC (T := TX13) q0_ 17 q2_ rfl (0) rfl rfl (by decide) (.ref nmb) rfl dX13_readsCommand_13 ?_
      refine V.iload_n hC (x := nI (4 * c)) dX13_readsCommand_16 rfl ?_
      refine V.iload_n hC (x := nI 3) dX13_readsCommand_17 rfl ?_
      refine V.iast hC dX13_readsCommand_18 (2) rfl (4 * c) rfl (by omega) (by decide) [(m, .inr (13, [.ref nw, .ref bf, .ref sv, .ref hy, .int iS, .int rmb, .int eA, .int fA, .ref tx, .int tyd, .ref li, .int ldd, .int thr, .int (nI ln), .int (nI (sr + 5)), .int (-1), .int (nI c), .ref nmb])), (tx, .inl (gI G, 60, .inl τ)), (nmb, .inl (gI G, 120, .inl (upd μ (4 * c) (nI 3))))] rfl ?_
      refine V.aload_n hC (x := m) dX13_readsCommand_19 rfl ?_
      refine V.dup hC dX13_readsCommand_20 rfl ?_
      refine V.getf hC (T := TX13) q0_ 16 q1_ rfl (0) rfl rfl (by decide) (.int (nI c)) rfl dX13_readsCommand_21 ?_
      refine V.iconst hC 1 dX13_readsCommand_24 rfl ?_
      refine V.iaddN hC c 1 dX13_readsCommand_25 rfl rfl ?_
      refine V.putf hC (T := TX13) q0_ tyX13 tyX13_ok nmX13 16 q1_ rfl rfl (0) rfl rfl (by decide) (by simp) rfl rfl dX13_readsCommand_26 [(m, .inr (13, [.ref nw, .ref bf, .ref sv, .ref hy, .int iS, .int rmb, .int eA, .int fA, .ref tx, .int tyd, .ref li, .int ldd, .int thr, .int (nI ln), .int (nI (sr + 5)), .int (-1), .int (nI (c + 1)), .ref nmb])), (tx, .inl (gI G, 60, .inl τ)), (nmb, .inl (gI G, 120, .inl (upd μ (4 * c) (nI 3))))] rfl ?_
      refine V.aload_n hC (x := m) dX13_readsCommand_29 rfl ?_
      refine V.getf hC (T := TX13) q0_ 15 q3_ rfl (0) rfl rfl (by decide) (.int (-1)) rfl dX13_readsCommand_30 ?_
      refine V.iconst hC (-1) dX13_readsCommand_33 rfl ?_
      refine V.icmp_eq hC 38 dX13_readsCommand_34 rfl (fun c_34 => ?_) (fun c_34 => ?_)
      · refine V.iload_n hC (x := nI 3) dX13_readsCommand_38 rfl ?_
        refine V.iconst hC 2 dX13_readsCommand_39 rfl ?_
        refine V.icmpN_eq hC 3 2 55 dX13_readsCommand_40 rfl rfl rfl (by omega) (by omega) (fun c_40 => ?_) (fun c_40 => ?_)
        · exact absurd c_40 (by decide)
        · refine V.iload_n hC (x := nI 3) dX13_readsCommand_43 rfl ?_
          refine V.bipush hC 6 dX13_readsCommand_44 rfl ?_
          refine V.icmpN_eq hC 3 6 55 dX13_readsCommand_46 rfl rfl rfl (by omega) (by omega) (fun c_46 => ?_) (fun c_46 => ?_)
          · exact absurd c_46 (by decide)
          · refine V.iload_n hC (x := nI 3) dX13_readsCommand_49 rfl ?_
            refine V.bipush hC 7 dX13_readsCommand_50 rfl ?_
            refine V.icmpN_ne hC 3 7 59 dX13_readsCommand_52 rfl rfl rfl (by omega) (by omega) (fun c_52 => ?_) (fun c_52 => ?_)
            · refine V.iconst hC 0 dX13_readsCommand_59 rfl ?_
              refine V.istore_n hC dX13_readsCommand_60 [some (.ref m), some (.int (nI (4 * c))), some (.int (nI 3)), some (.int 0)] (Nat.le_of_ble_eq_true rfl) rfl ?_
              refine V.aload_n hC (x := m) dX13_readsCommand_61 rfl ?_
              refine V.getf hC (T := TX13) q0_ 17 q2_ rfl (0) rfl rfl (by decide) (.ref nmb) rfl dX13_readsCommand_62 ?_
              refine V.iload_n hC (x := nI (4 * c)) dX13_readsCommand_65 rfl ?_
              refine V.iconst hC 1 dX13_readsCommand_66 rfl ?_
              refine V.iaddN hC (4 * c) 1 dX13_readsCommand_67 rfl rfl ?_
              refine V.iload_n hC (x := 0) dX13_readsCommand_68 rfl ?_
              refine V.ifN_eq hC 0 79 dX13_readsCommand_69 rfl rfl (by omega) (fun c_69 => ?_) (fun c_69 => ?_)
              · refine V.aload_n hC (x := m) dX13_readsCommand_79 rfl ?_
                by_cases hd_80 : dct τ ln (sr + 5) 1 = 0
                · have hF := hk_0 (n := 8) (by decide) (hf_d hs0 (by decide) hd_80 (by decide))
                  refine V.callV (n := 0) (As := []) (rest := [.int (nI ((4 * c) + 1)), .ref nmb]) hC (m_digitN (kl K) G m nw bf sv hy tx li nmb iS rmb eA fA tyd ldd thr (nI (c + 1)) ln (sr + 5) hln hp_w τ (dct1n hd_80)) SFk0 SFgo0 gX13_readsCommand_X13_digit rfl ⟨rfl, rfl⟩ (by decide +kernel) ⟨by decide, by decide, by decide, by decide⟩ [0, 1] rfl (by decide) (fun _ => rfl) rfl rfl rfl rfl (Nat.le_of_ble_eq_true rfl) dX13_readsCommand_80 (fun r_80 u_80 hp_80 => ?_)
                  subst hp_80
                  show V G K 4 0 0 83 [some (.ref m), some (.int (nI (4 * c))), some (.int (nI 3)), some (.int 0)] [.int (nI 0), .int (nI ((4 * c) + 1)), .ref nmb] [(m, .inr (13, [.ref nw, .ref bf, .ref sv, .ref hy, .int iS, .int rmb, .int eA, .int fA, .ref tx, .int tyd, .ref li, .int ldd, .int thr, .int (nI ln), .int (nI (sr + 5)), .int (nI (sr + 5)), .int (nI (c + 1)), .ref nmb])), (tx, .inl (gI G, 60, .inl τ)), (nmb, .inl (gI G, 120, .inl (upd μ (4 * c) (nI 3))))]
                  refine V.iast hC dX13_readsCommand_83 (2) rfl ((4 * c) + 1) rfl (by omega) (by decide) [(m, .inr (13, [.ref nw, .ref bf, .ref sv, .ref hy, .int iS, .int rmb, .int eA, .int fA, .ref tx, .int tyd, .ref li, .int ldd, .int thr, .int (nI ln), .int (nI (sr + 5)), .int (nI (sr + 5)), .int (nI (c + 1)), .ref nmb])), (tx, .inl (gI G, 60, .inl τ)), (nmb, .inl (gI G, 120, .inl (upd (upd μ (4 * c) (nI 3)) ((4 * c) + 1) (nI 0))))] rfl ?_
                  refine V.iload_n hC (x := nI 3) dX13_readsCommand_84 rfl ?_
                  refine V.ifN_eq hC 3 94 dX13_readsCommand_85 rfl rfl (by omega) (fun c_85 => ?_) (fun c_85 => ?_)
                  · exact absurd c_85 (by decide)
                  · refine V.iload_n hC (x := nI 3) dX13_readsCommand_88 rfl ?_
                    refine V.bipush hC 7 dX13_readsCommand_89 rfl ?_
                    refine V.icmpN_ne hC 3 7 95 dX13_readsCommand_91 rfl rfl rfl (by omega) (by omega) (fun c_91 => ?_) (fun c_91 => ?_)
                    · refine V.aload_n hC (x := m) dX13_readsCommand_95 rfl ?_
                      refine V.callV (n := 0) (As := []) (rest := []) hC (m_blankW (kl K) G m nw bf sv hy tx li nmb iS rmb eA fA tyd ldd thr (nI (c + 1)) ln (sr + 5) hln hp_w τ (sr + 5) (by omega)) SFk0 SFgo0 gX13_readsCommand_X13_blank rfl ⟨rfl, rfl⟩ (by decide +kernel) ⟨by decide, by decide, by decide, by decide⟩ [0, 1] rfl (by decide) (fun _ => rfl) rfl rfl rfl rfl (Nat.le_of_ble_eq_true rfl) dX13_readsCommand_96 (fun r_96 u_96 hp_96 => ?_)
                      show V G K 4 0 0 99 [some (.ref m), some (.int (nI (4 * c))), some (.int (nI 3)), some (.int 0)] [] [(m, .inr (13, [.ref nw, .ref bf, .ref sv, .ref hy, .int iS, .int rmb, .int eA, .int fA, .ref tx, .int tyd, .ref li, .int ldd, .int thr, .int (nI ln), .int (nI (sr + 5)), .int (nI (sr + 5)), .int (nI (c + 1)), .ref nmb])), (tx, .inl (gI G, 60, .inl τ)), (nmb, .inl (gI G, 120, .inl (upd (upd μ (4 * c) (nI 3)) ((4 * c) + 1) (nI 0))))]
                      refine V.aload_n hC (x := m) dX13_readsCommand_99 rfl ?_
                      refine V.getf hC (T := TX13) q0_ 17 q2_ rfl (0) rfl rfl (by decide) (.ref nmb) rfl dX13_readsCommand_100 ?_
                      refine V.iload_n hC (x := nI (4 * c)) dX13_readsCommand_103 rfl ?_
                      refine V.iconst hC 2 dX13_readsCommand_104 rfl ?_
                      refine V.iaddN hC (4 * c) 2 dX13_readsCommand_105 rfl rfl ?_
                      refine V.iload_n hC (x := nI 3) dX13_readsCommand_106 rfl ?_
                      refine V.iconst hC 1 dX13_readsCommand_107 rfl ?_
                      refine V.icmpN_eq hC 3 1 116 dX13_readsCommand_108 rfl rfl rfl (by omega) (by omega) (fun c_108 => ?_) (fun c_108 => ?_)
                      · exact absurd c_108 (by decide)
                      · refine V.iload_n hC (x := nI 3) dX13_readsCommand_111 rfl ?_
                        refine V.iconst hC 2 dX13_readsCommand_112 rfl ?_
                        refine V.icmpN_ne hC 3 2 123 dX13_readsCommand_113 rfl rfl rfl (by omega) (by omega) (fun c_113 => ?_) (fun c_113 => ?_)
                        · refine V.aload_n hC (x := m) dX13_readsCommand_123 rfl ?_
                          refine V.callV (n := 0) (As := []) (rest := [.int (nI ((4 * c) + 2)), .ref nmb]) hC (m_numberW (kl K) G m nw bf sv hy tx li nmb iS rmb eA fA tyd ldd thr (nI (c + 1)) ln (sr + 5) hln hp_w τ (sr + 5) (by omega)) SFk0 SFgo0 gX13_readsCommand_X13_number rfl ⟨rfl, rfl⟩ (by decide +kernel) ⟨by decide, by decide, by decide, by decide⟩ [0, 1] rfl (by decide) (fun _ => rfl) rfl rfl rfl rfl (Nat.le_of_ble_eq_true rfl) dX13_readsCommand_124 (fun r_124 u_124 hp_124 => ?_)
                          subst hp_124
                          show V G K 4 0 0 127 [some (.ref m), some (.int (nI (4 * c))), some (.int (nI 3)), some (.int 0)] [.int (nI 0), .int (nI ((4 * c) + 2)), .ref nmb] [(m, .inr (13, [.ref nw, .ref bf, .ref sv, .ref hy, .int iS, .int rmb, .int eA, .int fA, .ref tx, .int tyd, .ref li, .int ldd, .int thr, .int (nI ln), .int (nI (sr + 5)), .int (nI (sr + 5)), .int (nI (c + 1)), .ref nmb])), (tx, .inl (gI G, 60, .inl τ)), (nmb, .inl (gI G, 120, .inl (upd (upd μ (4 * c) (nI 3)) ((4 * c) + 1) (nI 0))))]
                          refine V.iast hC dX13_readsCommand_127 (2) rfl ((4 * c) + 2) rfl (by omega) (by decide) [(m, .inr (13, [.ref nw, .ref bf, .ref sv, .ref hy, .int iS, .int rmb, .int eA, .int fA, .ref tx, .int tyd, .ref li, .int ldd, .int thr, .int (nI ln), .int (nI (sr + 5)), .int (nI (sr + 5)), .int (nI (c + 1)), .ref nmb])), (tx, .inl (gI G, 60, .inl τ)), (nmb, .inl (gI G, 120, .inl (upd (upd (upd μ (4 * c) (nI 3)) ((4 * c) + 1) (nI 0)) ((4 * c) + 2) (nI 0))))] rfl ?_
                          refine V.iload_n hC (x := nI 3) dX13_readsCommand_128 rfl ?_
                          refine V.iconst hC 2 dX13_readsCommand_129 rfl ?_
                          refine V.icmpN_eq hC 3 2 138 dX13_readsCommand_130 rfl rfl rfl (by omega) (by omega) (fun c_130 => ?_) (fun c_130 => ?_)
                          · exact absurd c_130 (by decide)
                          · refine V.iload_n hC (x := nI 3) dX13_readsCommand_133 rfl ?_
                            refine V.iconst hC 4 dX13_readsCommand_134 rfl ?_
                            refine V.icmpN_ne hC 3 4 154 dX13_readsCommand_135 rfl rfl rfl (by omega) (by omega) (fun c_135 => ?_) (fun c_135 => ?_)
                            · have hL : ∀ z, z < 4 * c → (upd (upd (upd μ (4 * c) (nI 3)) ((4 * c) + 1) (nI 0)) ((4 * c) + 2) (nI 0)) z = μ z := fun z hz => (pk_un (by omega)).trans ((pk_un (by omega)).trans ((pk_un (by omega)).trans (rfl)))
                              have hB : sr + 5 ≤ 60 := by omega
                              exact hE 154 _ (sr + 5, nI (sr + 5), upd (upd (upd μ (4 * c) (nI 3)) ((4 * c) + 1) (nI 0)) ((4 * c) + 2) (nI 0)) dX13_readsCommand_154 (Or.inr ⟨(rd_no hk8 hF (by omega)).1, congrArg nI (rd_no hk8 hF (by omega)).2.symm, hB, hL⟩)
                            · exact absurd c_135 (by decide)
                        · exact absurd c_113 (by decide)
                    · exact absurd c_91 (by decide)
                · refine V.callV (n := 0) (As := []) (rest := [.int (nI ((4 * c) + 1)), .ref nmb]) hC (m_digitY (kl K) G m nw bf sv hy tx li nmb iS rmb eA fA tyd ldd thr (nI (c + 1)) ln (sr + 5) hln hp_w τ hd_80) SFk0 SFgo0 gX13_readsCommand_X13_digit rfl ⟨rfl, rfl⟩ (by decide +kernel) ⟨by decide, by decide, by decide, by decide⟩ [0, 1] rfl (by decide) (fun _ => rfl) rfl rfl rfl rfl (Nat.le_of_ble_eq_true rfl) dX13_readsCommand_80 (fun r_80 u_80 hp_80 => ?_)
                  obtain ⟨hr_80, hu_80, hl_80⟩ := hp_80
                  have hs_80 := hs_d hs0 (by decide) hd_80 hr_80 hu_80
                  have hg_80 : sr + 5 ≤ u_80 := by omega
                  show V G K 4 0 0 83 [some (.ref m), some (.int (nI (4 * c))), some (.int (nI 3)), some (.int 0)] [.int r_80, .int (nI ((4 * c) + 1)), .ref nmb] [(m, .inr (13, [.ref nw, .ref bf, .ref sv, .ref hy, .int iS, .int rmb, .int eA, .int fA, .ref tx, .int tyd, .ref li, .int ldd, .int thr, .int (nI ln), .int (nI u_80), .int (-1), .int (nI (c + 1)), .ref nmb])), (tx, .inl (gI G, 60, .inl τ)), (nmb, .inl (gI G, 120, .inl (upd μ (4 * c) (nI 3))))]
                  refine V.iast hC dX13_readsCommand_83 (2) rfl ((4 * c) + 1) rfl (by omega) (by decide) [(m, .inr (13, [.ref nw, .ref bf, .ref sv, .ref hy, .int iS, .int rmb, .int eA, .int fA, .ref tx, .int tyd, .ref li, .int ldd, .int thr, .int (nI ln), .int (nI u_80), .int (-1), .int (nI (c + 1)), .ref nmb])), (tx, .inl (gI G, 60, .inl τ)), (nmb, .inl (gI G, 120, .inl (upd (upd μ (4 * c) (nI 3)) ((4 * c) + 1) r_80)))] rfl ?_
                  refine V.iload_n hC (x := nI 3) dX13_readsCommand_84 rfl ?_
                  refine V.ifN_eq hC 3 94 dX13_readsCommand_85 rfl rfl (by omega) (fun c_85 => ?_) (fun c_85 => ?_)
                  · exact absurd c_85 (by decide)
                  · refine V.iload_n hC (x := nI 3) dX13_readsCommand_88 rfl ?_
                    refine V.bipush hC 7 dX13_readsCommand_89 rfl ?_
                    refine V.icmpN_ne hC 3 7 95 dX13_readsCommand_91 rfl rfl rfl (by omega) (by omega) (fun c_91 => ?_) (fun c_91 => ?_)
                    · refine V.aload_n hC (x := m) dX13_readsCommand_95 rfl ?_
                      by_cases hd_96 : sgn τ ln u_80 = nI 32
                      · have hs_96 := hs_c hs_80 (c := 32) (by decide) (by decide) (by decide) hd_96
                        have hl_96 : u_80 < ln := sgn_lt (fun z => by rw [hd_96] at z; exact absurd z (by decide))
                        refine V.callV (n := 0) (As := []) (rest := []) hC (m_blankY (kl K) G m nw bf sv hy tx li nmb iS rmb eA fA tyd ldd thr (nI (c + 1)) ln u_80 hln hl_80 τ (sg32.mpr hd_96) hl_96) SFk0 SFgo0 gX13_readsCommand_X13_blank rfl ⟨rfl, rfl⟩ (by decide +kernel) ⟨by decide, by decide, by decide, by decide⟩ [0, 1] rfl (by decide) (fun _ => rfl) rfl rfl rfl rfl (Nat.le_of_ble_eq_true rfl) dX13_readsCommand_96 (fun r_96 u_96 hp_96 => ?_)
                        show V G K 4 0 0 99 [some (.ref m), some (.int (nI (4 * c))), some (.int (nI 3)), some (.int 0)] [] [(m, .inr (13, [.ref nw, .ref bf, .ref sv, .ref hy, .int iS, .int rmb, .int eA, .int fA, .ref tx, .int tyd, .ref li, .int ldd, .int thr, .int (nI ln), .int (nI (u_80 + 1)), .int (-1), .int (nI (c + 1)), .ref nmb])), (tx, .inl (gI G, 60, .inl τ)), (nmb, .inl (gI G, 120, .inl (upd (upd μ (4 * c) (nI 3)) ((4 * c) + 1) r_80)))]
                        refine V.aload_n hC (x := m) dX13_readsCommand_99 rfl ?_
                        refine V.getf hC (T := TX13) q0_ 17 q2_ rfl (0) rfl rfl (by decide) (.ref nmb) rfl dX13_readsCommand_100 ?_
                        refine V.iload_n hC (x := nI (4 * c)) dX13_readsCommand_103 rfl ?_
                        refine V.iconst hC 2 dX13_readsCommand_104 rfl ?_
                        refine V.iaddN hC (4 * c) 2 dX13_readsCommand_105 rfl rfl ?_
                        refine V.iload_n hC (x := nI 3) dX13_readsCommand_106 rfl ?_
                        refine V.iconst hC 1 dX13_readsCommand_107 rfl ?_
                        refine V.icmpN_eq hC 3 1 116 dX13_readsCommand_108 rfl rfl rfl (by omega) (by omega) (fun c_108 => ?_) (fun c_108 => ?_)
                        · exact absurd c_108 (by decide)
                        · refine V.iload_n hC (x := nI 3) dX13_readsCommand_111 rfl ?_
                          refine V.iconst hC 2 dX13_readsCommand_112 rfl ?_
                          refine V.icmpN_ne hC 3 2 123 dX13_readsCommand_113 rfl rfl rfl (by omega) (by omega) (fun c_113 => ?_) (fun c_113 => ?_)
                          · refine V.aload_n hC (x := m) dX13_readsCommand_123 rfl ?_
                            by_cases hd_124 : dct τ ln (u_80 + 1) 2 = 0
                            · have hF := hk_0 (n := 8) (by decide) (hf_n hs_96 (by decide) hd_124 (by decide))
                              refine V.callV (n := 0) (As := []) (rest := [.int (nI ((4 * c) + 2)), .ref nmb]) hC (m_numberN (kl K) G m nw bf sv hy tx li nmb iS rmb eA fA tyd ldd thr (nI (c + 1)) ln (u_80 + 1) hln hl_96 τ hd_124) SFk0 SFgo0 gX13_readsCommand_X13_number rfl ⟨rfl, rfl⟩ (by decide +kernel) ⟨by decide, by decide, by decide, by decide⟩ [0, 1] rfl (by decide) (fun _ => rfl) rfl rfl rfl rfl (Nat.le_of_ble_eq_true rfl) dX13_readsCommand_124 (fun r_124 u_124 hp_124 => ?_)
                              subst hp_124
                              show V G K 4 0 0 127 [some (.ref m), some (.int (nI (4 * c))), some (.int (nI 3)), some (.int 0)] [.int (nI 0), .int (nI ((4 * c) + 2)), .ref nmb] [(m, .inr (13, [.ref nw, .ref bf, .ref sv, .ref hy, .int iS, .int rmb, .int eA, .int fA, .ref tx, .int tyd, .ref li, .int ldd, .int thr, .int (nI ln), .int (nI (u_80 + 1)), .int (nI (u_80 + 1)), .int (nI (c + 1)), .ref nmb])), (tx, .inl (gI G, 60, .inl τ)), (nmb, .inl (gI G, 120, .inl (upd (upd μ (4 * c) (nI 3)) ((4 * c) + 1) r_80)))]
                              refine V.iast hC dX13_readsCommand_127 (2) rfl ((4 * c) + 2) rfl (by omega) (by decide) [(m, .inr (13, [.ref nw, .ref bf, .ref sv, .ref hy, .int iS, .int rmb, .int eA, .int fA, .ref tx, .int tyd, .ref li, .int ldd, .int thr, .int (nI ln), .int (nI (u_80 + 1)), .int (nI (u_80 + 1)), .int (nI (c + 1)), .ref nmb])), (tx, .inl (gI G, 60, .inl τ)), (nmb, .inl (gI G, 120, .inl (upd (upd (upd μ (4 * c) (nI 3)) ((4 * c) + 1) r_80) ((4 * c) + 2) (nI 0))))] rfl ?_
                              refine V.iload_n hC (x := nI 3) dX13_readsCommand_128 rfl ?_
                              refine V.iconst hC 2 dX13_readsCommand_129 rfl ?_
                              refine V.icmpN_eq hC 3 2 138 dX13_readsCommand_130 rfl rfl rfl (by omega) (by omega) (fun c_130 => ?_) (fun c_130 => ?_)
                              · exact absurd c_130 (by decide)
                              · refine V.iload_n hC (x := nI 3) dX13_readsCommand_133 rfl ?_
                                refine V.iconst hC 4 dX13_readsCommand_134 rfl ?_
                                refine V.icmpN_ne hC 3 4 154 dX13_readsCommand_135 rfl rfl rfl (by omega) (by omega) (fun c_135 => ?_) (fun c_135 => ?_)
                                · have hL : ∀ z, z < 4 * c → (upd (upd (upd μ (4 * c) (nI 3)) ((4 * c) + 1) r_80) ((4 * c) + 2) (nI 0)) z = μ z := fun z hz => (pk_un (by omega)).trans ((pk_un (by omega)).trans ((pk_un (by omega)).trans (rfl)))
                                  have hB : u_80 + 1 ≤ 60 := by omega
                                  exact hE 154 _ (u_80 + 1, nI (u_80 + 1), upd (upd (upd μ (4 * c) (nI 3)) ((4 * c) + 1) r_80) ((4 * c) + 2) (nI 0)) dX13_readsCommand_154 (Or.inr ⟨(rd_no hk8 hF (by omega)).1, congrArg nI (rd_no hk8 hF (by omega)).2.symm, hB, hL⟩)
                                · exact absurd c_135 (by decide)
                            · refine V.callV (n := 0) (As := []) (rest := [.int (nI ((4 * c) + 2)), .ref nmb]) hC (m_numberY (kl K) G m nw bf sv hy tx li nmb iS rmb eA fA tyd ldd thr (nI (c + 1)) ln (u_80 + 1) hln hl_96 τ hd_124) SFk0 SFgo0 gX13_readsCommand_X13_number rfl ⟨rfl, rfl⟩ (by decide +kernel) ⟨by decide, by decide, by decide, by decide⟩ [0, 1] rfl (by decide) (fun _ => rfl) rfl rfl rfl rfl (Nat.le_of_ble_eq_true rfl) dX13_readsCommand_124 (fun r_124 u_124 hp_124 => ?_)
                              obtain ⟨hr_124, hu_124, hl_124⟩ := hp_124
                              have hs_124 := hs_n hs_96 (by decide) hd_124 hr_124 hu_124
                              have hg_124 : u_80 + 1 ≤ u_124 := by omega
                              show V G K 4 0 0 127 [some (.ref m), some (.int (nI (4 * c))), some (.int (nI 3)), some (.int 0)] [.int r_124, .int (nI ((4 * c) + 2)), .ref nmb] [(m, .inr (13, [.ref nw, .ref bf, .ref sv, .ref hy, .int iS, .int rmb, .int eA, .int fA, .ref tx, .int tyd, .ref li, .int ldd, .int thr, .int (nI ln), .int (nI u_124), .int (-1), .int (nI (c + 1)), .ref nmb])), (tx, .inl (gI G, 60, .inl τ)), (nmb, .inl (gI G, 120, .inl (upd (upd μ (4 * c) (nI 3)) ((4 * c) + 1) r_80)))]
                              refine V.iast hC dX13_readsCommand_127 (2) rfl ((4 * c) + 2) rfl (by omega) (by decide) [(m, .inr (13, [.ref nw, .ref bf, .ref sv, .ref hy, .int iS, .int rmb, .int eA, .int fA, .ref tx, .int tyd, .ref li, .int ldd, .int thr, .int (nI ln), .int (nI u_124), .int (-1), .int (nI (c + 1)), .ref nmb])), (tx, .inl (gI G, 60, .inl τ)), (nmb, .inl (gI G, 120, .inl (upd (upd (upd μ (4 * c) (nI 3)) ((4 * c) + 1) r_80) ((4 * c) + 2) r_124)))] rfl ?_
                              refine V.iload_n hC (x := nI 3) dX13_readsCommand_128 rfl ?_
                              refine V.iconst hC 2 dX13_readsCommand_129 rfl ?_
                              refine V.icmpN_eq hC 3 2 138 dX13_readsCommand_130 rfl rfl rfl (by omega) (by omega) (fun c_130 => ?_) (fun c_130 => ?_)
                              · exact absurd c_130 (by decide)
                              · refine V.iload_n hC (x := nI 3) dX13_readsCommand_133 rfl ?_
                                refine V.iconst hC 4 dX13_readsCommand_134 rfl ?_
                                refine V.icmpN_ne hC 3 4 154 dX13_readsCommand_135 rfl rfl rfl (by omega) (by omega) (fun c_135 => ?_) (fun c_135 => ?_)
                                · have hL : ∀ z, z < 4 * c → (upd (upd (upd μ (4 * c) (nI 3)) ((4 * c) + 1) r_80) ((4 * c) + 2) r_124) z = μ z := fun z hz => (pk_un (by omega)).trans ((pk_un (by omega)).trans ((pk_un (by omega)).trans (rfl)))
                                  have hB : u_124 ≤ 60 := by omega
                                  have hK : (upd (upd (upd μ (4 * c) (nI 3)) ((4 * c) + 1) r_80) ((4 * c) + 2) r_124) (4 * c) = nI 3 := (pk_un (by omega)).trans ((pk_un (by omega)).trans (pk_us))
                                  have hJ : ∀ j, j < nar 3 → (upd (upd (upd μ (4 * c) (nI 3)) ((4 * c) + 1) r_80) ((4 * c) + 2) r_124) (4 * c + 1 + j) = agx τ ln sr 3 j := by
                                    intro j hj
                                    have hj2 : j < 2 := hj
                                    obtain rfl | rfl : j = 0 ∨ j = 1 := by omega
                                    · exact ((pk_un (by omega)).trans (pk_us)).trans ((agx_in (n := 8) (by decide) hs_124 (by decide)).trans ((pk_un (by decide)).trans (pk_us))).symm
                                    · exact (pk_us).trans ((agx_in (n := 8) (by decide) hs_124 (by decide)).trans (pk_us)).symm
                                  exact hE 154 _ (u_124, -1, upd (upd (upd μ (4 * c) (nI 3)) ((4 * c) + 1) r_80) ((4 * c) + 2) r_124) dX13_readsCommand_154 (Or.inl ⟨3, rd_yes hk8 (hk_1 (n := 8) (by decide) hs_124).1, (hk_1 (n := 8) (by decide) hs_124).2.symm, rfl, ⟨hK, hJ, fun j hj => agx_out (n := 8) (by decide) hs_124 hj⟩, hL⟩)
                                · exact absurd c_135 (by decide)
                          · exact absurd c_113 (by decide)
                      · have hF := hk_0 (n := 8) (by decide) (hf_c hs_80 (c := 32) (by decide) (by decide) (by decide) hd_96 (by decide))
                        refine V.callV (n := 0) (As := []) (rest := []) hC (m_blankN (kl K) G m nw bf sv hy tx li nmb iS rmb eA fA tyd ldd thr (nI (c + 1)) ln u_80 hln hl_80 τ (fun q => hd_96 (sg32.mp q))) SFk0 SFgo0 gX13_readsCommand_X13_blank rfl ⟨rfl, rfl⟩ (by decide +kernel) ⟨by decide, by decide, by decide, by decide⟩ [0, 1] rfl (by decide) (fun _ => rfl) rfl rfl rfl rfl (Nat.le_of_ble_eq_true rfl) dX13_readsCommand_96 (fun r_96 u_96 hp_96 => ?_)
                        show V G K 4 0 0 99 [some (.ref m), some (.int (nI (4 * c))), some (.int (nI 3)), some (.int 0)] [] [(m, .inr (13, [.ref nw, .ref bf, .ref sv, .ref hy, .int iS, .int rmb, .int eA, .int fA, .ref tx, .int tyd, .ref li, .int ldd, .int thr, .int (nI ln), .int (nI u_80), .int (nI u_80), .int (nI (c + 1)), .ref nmb])), (tx, .inl (gI G, 60, .inl τ)), (nmb, .inl (gI G, 120, .inl (upd (upd μ (4 * c) (nI 3)) ((4 * c) + 1) r_80)))]
                        refine V.aload_n hC (x := m) dX13_readsCommand_99 rfl ?_
                        refine V.getf hC (T := TX13) q0_ 17 q2_ rfl (0) rfl rfl (by decide) (.ref nmb) rfl dX13_readsCommand_100 ?_
                        refine V.iload_n hC (x := nI (4 * c)) dX13_readsCommand_103 rfl ?_
                        refine V.iconst hC 2 dX13_readsCommand_104 rfl ?_
                        refine V.iaddN hC (4 * c) 2 dX13_readsCommand_105 rfl rfl ?_
                        refine V.iload_n hC (x := nI 3) dX13_readsCommand_106 rfl ?_
                        refine V.iconst hC 1 dX13_readsCommand_107 rfl ?_
                        refine V.icmpN_eq hC 3 1 116 dX13_readsCommand_108 rfl rfl rfl (by omega) (by omega) (fun c_108 => ?_) (fun c_108 => ?_)
                        · exact absurd c_108 (by decide)
                        · refine V.iload_n hC (x := nI 3) dX13_readsCommand_111 rfl ?_
                          refine V.iconst hC 2 dX13_readsCommand_112 rfl ?_
                          refine V.icmpN_ne hC 3 2 123 dX13_readsCommand_113 rfl rfl rfl (by omega) (by omega) (fun c_113 => ?_) (fun c_113 => ?_)
                          · refine V.aload_n hC (x := m) dX13_readsCommand_123 rfl ?_
                            refine V.callV (n := 0) (As := []) (rest := [.int (nI ((4 * c) + 2)), .ref nmb]) hC (m_numberW (kl K) G m nw bf sv hy tx li nmb iS rmb eA fA tyd ldd thr (nI (c + 1)) ln u_80 hln hl_80 τ u_80 (by omega)) SFk0 SFgo0 gX13_readsCommand_X13_number rfl ⟨rfl, rfl⟩ (by decide +kernel) ⟨by decide, by decide, by decide, by decide⟩ [0, 1] rfl (by decide) (fun _ => rfl) rfl rfl rfl rfl (Nat.le_of_ble_eq_true rfl) dX13_readsCommand_124 (fun r_124 u_124 hp_124 => ?_)
                            subst hp_124
                            show V G K 4 0 0 127 [some (.ref m), some (.int (nI (4 * c))), some (.int (nI 3)), some (.int 0)] [.int (nI 0), .int (nI ((4 * c) + 2)), .ref nmb] [(m, .inr (13, [.ref nw, .ref bf, .ref sv, .ref hy, .int iS, .int rmb, .int eA, .int fA, .ref tx, .int tyd, .ref li, .int ldd, .int thr, .int (nI ln), .int (nI u_80), .int (nI u_80), .int (nI (c + 1)), .ref nmb])), (tx, .inl (gI G, 60, .inl τ)), (nmb, .inl (gI G, 120, .inl (upd (upd μ (4 * c) (nI 3)) ((4 * c) + 1) r_80)))]
                            refine V.iast hC dX13_readsCommand_127 (2) rfl ((4 * c) + 2) rfl (by omega) (by decide) [(m, .inr (13, [.ref nw, .ref bf, .ref sv, .ref hy, .int iS, .int rmb, .int eA, .int fA, .ref tx, .int tyd, .ref li, .int ldd, .int thr, .int (nI ln), .int (nI u_80), .int (nI u_80), .int (nI (c + 1)), .ref nmb])), (tx, .inl (gI G, 60, .inl τ)), (nmb, .inl (gI G, 120, .inl (upd (upd (upd μ (4 * c) (nI 3)) ((4 * c) + 1) r_80) ((4 * c) + 2) (nI 0))))] rfl ?_
                            refine V.iload_n hC (x := nI 3) dX13_readsCommand_128 rfl ?_
                            refine V.iconst hC 2 dX13_readsCommand_129 rfl ?_
                            refine V.icmpN_eq hC 3 2 138 dX13_readsCommand_130 rfl rfl rfl (by omega) (by omega) (fun c_130 => ?_) (fun c_130 => ?_)
                            · exact absurd c_130 (by decide)
                            · refine V.iload_n hC (x := nI 3) dX13_readsCommand_133 rfl ?_
                              refine V.iconst hC 4 dX13_readsCommand_134 rfl ?_
                              refine V.icmpN_ne hC 3 4 154 dX13_readsCommand_135 rfl rfl rfl (by omega) (by omega) (fun c_135 => ?_) (fun c_135 => ?_)
                              · have hL : ∀ z, z < 4 * c → (upd (upd (upd μ (4 * c) (nI 3)) ((4 * c) + 1) r_80) ((4 * c) + 2) (nI 0)) z = μ z := fun z hz => (pk_un (by omega)).trans ((pk_un (by omega)).trans ((pk_un (by omega)).trans (rfl)))
                                have hB : u_80 ≤ 60 := by omega
                                exact hE 154 _ (u_80, nI u_80, upd (upd (upd μ (4 * c) (nI 3)) ((4 * c) + 1) r_80) ((4 * c) + 2) (nI 0)) dX13_readsCommand_154 (Or.inr ⟨(rd_no hk8 hF (by omega)).1, congrArg nI (rd_no hk8 hF (by omega)).2.symm, hB, hL⟩)
                              · exact absurd c_135 (by decide)
                          · exact absurd c_113 (by decide)
                    · exact absurd c_91 (by decide)
              · exact absurd c_69 (by decide)
            · exact absurd c_52 (by decide)
      · exact absurd rfl c_34
    · have hs0 := hk_yes (by decide) hks.2
      rw [wl_v.2.2.2.2.1] at hu1 hs0
      refine V.eqw (ws' := [(m, .inr (13, [.ref nw, .ref bf, .ref sv, .ref hy, .int iS, .int rmb, .int eA, .int fA, .ref tx, .int tyd, .ref li, .int ldd, .int thr, .int (nI ln), .int (nI (sr + 6)), .int (-1), .int (nI c), .ref nmb])), (tx, .inl (gI G, 60, .inl τ)), (nmb, .inl (gI G, 120, .inl μ))]) (by rw [hu1, hu2]; rfl) ?_
      have hp_w : sr + 6 ≤ ln := by have := hfm_ln (tf := τ) (ln := ln) (sr := sr) (af := fun _ => 0) (i := 4) hsr (fun j => chr_m1 4 (by decide) j) 6; rw [hs0] at this; exact this
      refine V.istore_n hC dX13_readsCommand_11 [some (.ref m), some (.int (nI (4 * c))), some (.int (nI 4)), none] (Nat.le_of_ble_eq_true rfl) rfl ?_
      refine V.aload_n hC (x := m) dX13_readsCommand_12 rfl ?_
      refine V.getf hC (T := TX13) q0_ 17 q2_ rfl (0) rfl rfl (by decide) (.ref nmb) rfl dX13_readsCommand_13 ?_
      refine V.iload_n hC (x := nI (4 * c)) dX13_readsCommand_16 rfl ?_
      refine V.iload_n hC (x := nI 4) dX13_readsCommand_17 rfl ?_
      refine V.iast hC dX13_readsCommand_18 (2) rfl (4 * c) rfl (by omega) (by decide) [(m, .inr (13, [.ref nw, .ref bf, .ref sv, .ref hy, .int iS, .int rmb, .int eA, .int fA, .ref tx, .int tyd, .ref li, .int ldd, .int thr, .int (nI ln), .int (nI (sr + 6)), .int (-1), .int (nI c), .ref nmb])), (tx, .inl (gI G, 60, .inl τ)), (nmb, .inl (gI G, 120, .inl (upd μ (4 * c) (nI 4))))] rfl ?_
      refine V.aload_n hC (x := m) dX13_readsCommand_19 rfl ?_
      refine V.dup hC dX13_readsCommand_20 rfl ?_
      refine V.getf hC (T := TX13) q0_ 16 q1_ rfl (0) rfl rfl (by decide) (.int (nI c)) rfl dX13_readsCommand_21 ?_
      refine V.iconst hC 1 dX13_readsCommand_24 rfl ?_
      refine V.iaddN hC c 1 dX13_readsCommand_25 rfl rfl ?_
      refine V.putf hC (T := TX13) q0_ tyX13 tyX13_ok nmX13 16 q1_ rfl rfl (0) rfl rfl (by decide) (by simp) rfl rfl dX13_readsCommand_26 [(m, .inr (13, [.ref nw, .ref bf, .ref sv, .ref hy, .int iS, .int rmb, .int eA, .int fA, .ref tx, .int tyd, .ref li, .int ldd, .int thr, .int (nI ln), .int (nI (sr + 6)), .int (-1), .int (nI (c + 1)), .ref nmb])), (tx, .inl (gI G, 60, .inl τ)), (nmb, .inl (gI G, 120, .inl (upd μ (4 * c) (nI 4))))] rfl ?_
      refine V.aload_n hC (x := m) dX13_readsCommand_29 rfl ?_
      refine V.getf hC (T := TX13) q0_ 15 q3_ rfl (0) rfl rfl (by decide) (.int (-1)) rfl dX13_readsCommand_30 ?_
      refine V.iconst hC (-1) dX13_readsCommand_33 rfl ?_
      refine V.icmp_eq hC 38 dX13_readsCommand_34 rfl (fun c_34 => ?_) (fun c_34 => ?_)
      · refine V.iload_n hC (x := nI 4) dX13_readsCommand_38 rfl ?_
        refine V.iconst hC 2 dX13_readsCommand_39 rfl ?_
        refine V.icmpN_eq hC 4 2 55 dX13_readsCommand_40 rfl rfl rfl (by omega) (by omega) (fun c_40 => ?_) (fun c_40 => ?_)
        · exact absurd c_40 (by decide)
        · refine V.iload_n hC (x := nI 4) dX13_readsCommand_43 rfl ?_
          refine V.bipush hC 6 dX13_readsCommand_44 rfl ?_
          refine V.icmpN_eq hC 4 6 55 dX13_readsCommand_46 rfl rfl rfl (by omega) (by omega) (fun c_46 => ?_) (fun c_46 => ?_)
          · exact absurd c_46 (by decide)
          · refine V.iload_n hC (x := nI 4) dX13_readsCommand_49 rfl ?_
            refine V.bipush hC 7 dX13_readsCommand_50 rfl ?_
            refine V.icmpN_ne hC 4 7 59 dX13_readsCommand_52 rfl rfl rfl (by omega) (by omega) (fun c_52 => ?_) (fun c_52 => ?_)
            · refine V.iconst hC 0 dX13_readsCommand_59 rfl ?_
              refine V.istore_n hC dX13_readsCommand_60 [some (.ref m), some (.int (nI (4 * c))), some (.int (nI 4)), some (.int 0)] (Nat.le_of_ble_eq_true rfl) rfl ?_
              refine V.aload_n hC (x := m) dX13_readsCommand_61 rfl ?_
              refine V.getf hC (T := TX13) q0_ 17 q2_ rfl (0) rfl rfl (by decide) (.ref nmb) rfl dX13_readsCommand_62 ?_
              refine V.iload_n hC (x := nI (4 * c)) dX13_readsCommand_65 rfl ?_
              refine V.iconst hC 1 dX13_readsCommand_66 rfl ?_
              refine V.iaddN hC (4 * c) 1 dX13_readsCommand_67 rfl rfl ?_
              refine V.iload_n hC (x := 0) dX13_readsCommand_68 rfl ?_
              refine V.ifN_eq hC 0 79 dX13_readsCommand_69 rfl rfl (by omega) (fun c_69 => ?_) (fun c_69 => ?_)
              · refine V.aload_n hC (x := m) dX13_readsCommand_79 rfl ?_
                by_cases hd_80 : dct τ ln (sr + 6) 1 = 0
                · have hF := hk_0 (n := 11) (by decide) (hf_d hs0 (by decide) hd_80 (by decide))
                  refine V.callV (n := 0) (As := []) (rest := [.int (nI ((4 * c) + 1)), .ref nmb]) hC (m_digitN (kl K) G m nw bf sv hy tx li nmb iS rmb eA fA tyd ldd thr (nI (c + 1)) ln (sr + 6) hln hp_w τ (dct1n hd_80)) SFk0 SFgo0 gX13_readsCommand_X13_digit rfl ⟨rfl, rfl⟩ (by decide +kernel) ⟨by decide, by decide, by decide, by decide⟩ [0, 1] rfl (by decide) (fun _ => rfl) rfl rfl rfl rfl (Nat.le_of_ble_eq_true rfl) dX13_readsCommand_80 (fun r_80 u_80 hp_80 => ?_)
                  subst hp_80
                  show V G K 4 0 0 83 [some (.ref m), some (.int (nI (4 * c))), some (.int (nI 4)), some (.int 0)] [.int (nI 0), .int (nI ((4 * c) + 1)), .ref nmb] [(m, .inr (13, [.ref nw, .ref bf, .ref sv, .ref hy, .int iS, .int rmb, .int eA, .int fA, .ref tx, .int tyd, .ref li, .int ldd, .int thr, .int (nI ln), .int (nI (sr + 6)), .int (nI (sr + 6)), .int (nI (c + 1)), .ref nmb])), (tx, .inl (gI G, 60, .inl τ)), (nmb, .inl (gI G, 120, .inl (upd μ (4 * c) (nI 4))))]
                  refine V.iast hC dX13_readsCommand_83 (2) rfl ((4 * c) + 1) rfl (by omega) (by decide) [(m, .inr (13, [.ref nw, .ref bf, .ref sv, .ref hy, .int iS, .int rmb, .int eA, .int fA, .ref tx, .int tyd, .ref li, .int ldd, .int thr, .int (nI ln), .int (nI (sr + 6)), .int (nI (sr + 6)), .int (nI (c + 1)), .ref nmb])), (tx, .inl (gI G, 60, .inl τ)), (nmb, .inl (gI G, 120, .inl (upd (upd μ (4 * c) (nI 4)) ((4 * c) + 1) (nI 0))))] rfl ?_
                  refine V.iload_n hC (x := nI 4) dX13_readsCommand_84 rfl ?_
                  refine V.ifN_eq hC 4 94 dX13_readsCommand_85 rfl rfl (by omega) (fun c_85 => ?_) (fun c_85 => ?_)
                  · exact absurd c_85 (by decide)
                  · refine V.iload_n hC (x := nI 4) dX13_readsCommand_88 rfl ?_
                    refine V.bipush hC 7 dX13_readsCommand_89 rfl ?_
                    refine V.icmpN_ne hC 4 7 95 dX13_readsCommand_91 rfl rfl rfl (by omega) (by omega) (fun c_91 => ?_) (fun c_91 => ?_)
                    · refine V.aload_n hC (x := m) dX13_readsCommand_95 rfl ?_
                      refine V.callV (n := 0) (As := []) (rest := []) hC (m_blankW (kl K) G m nw bf sv hy tx li nmb iS rmb eA fA tyd ldd thr (nI (c + 1)) ln (sr + 6) hln hp_w τ (sr + 6) (by omega)) SFk0 SFgo0 gX13_readsCommand_X13_blank rfl ⟨rfl, rfl⟩ (by decide +kernel) ⟨by decide, by decide, by decide, by decide⟩ [0, 1] rfl (by decide) (fun _ => rfl) rfl rfl rfl rfl (Nat.le_of_ble_eq_true rfl) dX13_readsCommand_96 (fun r_96 u_96 hp_96 => ?_)
                      show V G K 4 0 0 99 [some (.ref m), some (.int (nI (4 * c))), some (.int (nI 4)), some (.int 0)] [] [(m, .inr (13, [.ref nw, .ref bf, .ref sv, .ref hy, .int iS, .int rmb, .int eA, .int fA, .ref tx, .int tyd, .ref li, .int ldd, .int thr, .int (nI ln), .int (nI (sr + 6)), .int (nI (sr + 6)), .int (nI (c + 1)), .ref nmb])), (tx, .inl (gI G, 60, .inl τ)), (nmb, .inl (gI G, 120, .inl (upd (upd μ (4 * c) (nI 4)) ((4 * c) + 1) (nI 0))))]
                      refine V.aload_n hC (x := m) dX13_readsCommand_99 rfl ?_
                      refine V.getf hC (T := TX13) q0_ 17 q2_ rfl (0) rfl rfl (by decide) (.ref nmb) rfl dX13_readsCommand_100 ?_
                      refine V.iload_n hC (x := nI (4 * c)) dX13_readsCommand_103 rfl ?_
                      refine V.iconst hC 2 dX13_readsCommand_104 rfl ?_
                      refine V.iaddN hC (4 * c) 2 dX13_readsCommand_105 rfl rfl ?_
                      refine V.iload_n hC (x := nI 4) dX13_readsCommand_106 rfl ?_
                      refine V.iconst hC 1 dX13_readsCommand_107 rfl ?_
                      refine V.icmpN_eq hC 4 1 116 dX13_readsCommand_108 rfl rfl rfl (by omega) (by omega) (fun c_108 => ?_) (fun c_108 => ?_)
                      · exact absurd c_108 (by decide)
                      · refine V.iload_n hC (x := nI 4) dX13_readsCommand_111 rfl ?_
                        refine V.iconst hC 2 dX13_readsCommand_112 rfl ?_
                        refine V.icmpN_ne hC 4 2 123 dX13_readsCommand_113 rfl rfl rfl (by omega) (by omega) (fun c_113 => ?_) (fun c_113 => ?_)
                        · refine V.aload_n hC (x := m) dX13_readsCommand_123 rfl ?_
                          refine V.callV (n := 0) (As := []) (rest := [.int (nI ((4 * c) + 2)), .ref nmb]) hC (m_numberW (kl K) G m nw bf sv hy tx li nmb iS rmb eA fA tyd ldd thr (nI (c + 1)) ln (sr + 6) hln hp_w τ (sr + 6) (by omega)) SFk0 SFgo0 gX13_readsCommand_X13_number rfl ⟨rfl, rfl⟩ (by decide +kernel) ⟨by decide, by decide, by decide, by decide⟩ [0, 1] rfl (by decide) (fun _ => rfl) rfl rfl rfl rfl (Nat.le_of_ble_eq_true rfl) dX13_readsCommand_124 (fun r_124 u_124 hp_124 => ?_)
                          subst hp_124
                          show V G K 4 0 0 127 [some (.ref m), some (.int (nI (4 * c))), some (.int (nI 4)), some (.int 0)] [.int (nI 0), .int (nI ((4 * c) + 2)), .ref nmb] [(m, .inr (13, [.ref nw, .ref bf, .ref sv, .ref hy, .int iS, .int rmb, .int eA, .int fA, .ref tx, .int tyd, .ref li, .int ldd, .int thr, .int (nI ln), .int (nI (sr + 6)), .int (nI (sr + 6)), .int (nI (c + 1)), .ref nmb])), (tx, .inl (gI G, 60, .inl τ)), (nmb, .inl (gI G, 120, .inl (upd (upd μ (4 * c) (nI 4)) ((4 * c) + 1) (nI 0))))]
                          refine V.iast hC dX13_readsCommand_127 (2) rfl ((4 * c) + 2) rfl (by omega) (by decide) [(m, .inr (13, [.ref nw, .ref bf, .ref sv, .ref hy, .int iS, .int rmb, .int eA, .int fA, .ref tx, .int tyd, .ref li, .int ldd, .int thr, .int (nI ln), .int (nI (sr + 6)), .int (nI (sr + 6)), .int (nI (c + 1)), .ref nmb])), (tx, .inl (gI G, 60, .inl τ)), (nmb, .inl (gI G, 120, .inl (upd (upd (upd μ (4 * c) (nI 4)) ((4 * c) + 1) (nI 0)) ((4 * c) + 2) (nI 0))))] rfl ?_
                          refine V.iload_n hC (x := nI 4) dX13_readsCommand_128 rfl ?_
                          refine V.iconst hC 2 dX13_readsCommand_129 rfl ?_
                          refine V.icmpN_eq hC 4 2 138 dX13_readsCommand_130 rfl rfl rfl (by omega) (by omega) (fun c_130 => ?_) (fun c_130 => ?_)
                          · exact absurd c_130 (by decide)
                          · refine V.iload_n hC (x := nI 4) dX13_readsCommand_133 rfl ?_
                            refine V.iconst hC 4 dX13_readsCommand_134 rfl ?_
                            refine V.icmpN_ne hC 4 4 154 dX13_readsCommand_135 rfl rfl rfl (by omega) (by omega) (fun c_135 => ?_) (fun c_135 => ?_)
                            · exact absurd c_135 (by decide)
                            · refine V.aload_n hC (x := m) dX13_readsCommand_138 rfl ?_
                              refine V.callV (n := 0) (As := []) (rest := []) hC (m_blankW (kl K) G m nw bf sv hy tx li nmb iS rmb eA fA tyd ldd thr (nI (c + 1)) ln (sr + 6) hln hp_w τ (sr + 6) (by omega)) SFk0 SFgo0 gX13_readsCommand_X13_blank rfl ⟨rfl, rfl⟩ (by decide +kernel) ⟨by decide, by decide, by decide, by decide⟩ [0, 1] rfl (by decide) (fun _ => rfl) rfl rfl rfl rfl (Nat.le_of_ble_eq_true rfl) dX13_readsCommand_139 (fun r_139 u_139 hp_139 => ?_)
                              show V G K 4 0 0 142 [some (.ref m), some (.int (nI (4 * c))), some (.int (nI 4)), some (.int 0)] [] [(m, .inr (13, [.ref nw, .ref bf, .ref sv, .ref hy, .int iS, .int rmb, .int eA, .int fA, .ref tx, .int tyd, .ref li, .int ldd, .int thr, .int (nI ln), .int (nI (sr + 6)), .int (nI (sr + 6)), .int (nI (c + 1)), .ref nmb])), (tx, .inl (gI G, 60, .inl τ)), (nmb, .inl (gI G, 120, .inl (upd (upd (upd μ (4 * c) (nI 4)) ((4 * c) + 1) (nI 0)) ((4 * c) + 2) (nI 0))))]
                              refine V.aload_n hC (x := m) dX13_readsCommand_142 rfl ?_
                              refine V.getf hC (T := TX13) q0_ 17 q2_ rfl (0) rfl rfl (by decide) (.ref nmb) rfl dX13_readsCommand_143 ?_
                              refine V.iload_n hC (x := nI (4 * c)) dX13_readsCommand_146 rfl ?_
                              refine V.iconst hC 3 dX13_readsCommand_147 rfl ?_
                              refine V.iaddN hC (4 * c) 3 dX13_readsCommand_148 rfl rfl ?_
                              refine V.aload_n hC (x := m) dX13_readsCommand_149 rfl ?_
                              refine V.callV (n := 0) (As := []) (rest := [.int (nI ((4 * c) + 3)), .ref nmb]) hC (m_numberW (kl K) G m nw bf sv hy tx li nmb iS rmb eA fA tyd ldd thr (nI (c + 1)) ln (sr + 6) hln hp_w τ (sr + 6) (by omega)) SFk0 SFgo0 gX13_readsCommand_X13_number rfl ⟨rfl, rfl⟩ (by decide +kernel) ⟨by decide, by decide, by decide, by decide⟩ [0, 1] rfl (by decide) (fun _ => rfl) rfl rfl rfl rfl (Nat.le_of_ble_eq_true rfl) dX13_readsCommand_150 (fun r_150 u_150 hp_150 => ?_)
                              subst hp_150
                              show V G K 4 0 0 153 [some (.ref m), some (.int (nI (4 * c))), some (.int (nI 4)), some (.int 0)] [.int (nI 0), .int (nI ((4 * c) + 3)), .ref nmb] [(m, .inr (13, [.ref nw, .ref bf, .ref sv, .ref hy, .int iS, .int rmb, .int eA, .int fA, .ref tx, .int tyd, .ref li, .int ldd, .int thr, .int (nI ln), .int (nI (sr + 6)), .int (nI (sr + 6)), .int (nI (c + 1)), .ref nmb])), (tx, .inl (gI G, 60, .inl τ)), (nmb, .inl (gI G, 120, .inl (upd (upd (upd μ (4 * c) (nI 4)) ((4 * c) + 1) (nI 0)) ((4 * c) + 2) (nI 0))))]
                              refine V.iast hC dX13_readsCommand_153 (2) rfl ((4 * c) + 3) rfl (by omega) (by decide) [(m, .inr (13, [.ref nw, .ref bf, .ref sv, .ref hy, .int iS, .int rmb, .int eA, .int fA, .ref tx, .int tyd, .ref li, .int ldd, .int thr, .int (nI ln), .int (nI (sr + 6)), .int (nI (sr + 6)), .int (nI (c + 1)), .ref nmb])), (tx, .inl (gI G, 60, .inl τ)), (nmb, .inl (gI G, 120, .inl (upd (upd (upd (upd μ (4 * c) (nI 4)) ((4 * c) + 1) (nI 0)) ((4 * c) + 2) (nI 0)) ((4 * c) + 3) (nI 0))))] rfl ?_
                              have hL : ∀ z, z < 4 * c → (upd (upd (upd (upd μ (4 * c) (nI 4)) ((4 * c) + 1) (nI 0)) ((4 * c) + 2) (nI 0)) ((4 * c) + 3) (nI 0)) z = μ z := fun z hz => (pk_un (by omega)).trans ((pk_un (by omega)).trans ((pk_un (by omega)).trans ((pk_un (by omega)).trans (rfl))))
                              have hB : sr + 6 ≤ 60 := by omega
                              exact hE 154 _ (sr + 6, nI (sr + 6), upd (upd (upd (upd μ (4 * c) (nI 4)) ((4 * c) + 1) (nI 0)) ((4 * c) + 2) (nI 0)) ((4 * c) + 3) (nI 0)) dX13_readsCommand_154 (Or.inr ⟨(rd_no hk8 hF (by omega)).1, congrArg nI (rd_no hk8 hF (by omega)).2.symm, hB, hL⟩)
                        · exact absurd c_113 (by decide)
                    · exact absurd c_91 (by decide)
                · refine V.callV (n := 0) (As := []) (rest := [.int (nI ((4 * c) + 1)), .ref nmb]) hC (m_digitY (kl K) G m nw bf sv hy tx li nmb iS rmb eA fA tyd ldd thr (nI (c + 1)) ln (sr + 6) hln hp_w τ hd_80) SFk0 SFgo0 gX13_readsCommand_X13_digit rfl ⟨rfl, rfl⟩ (by decide +kernel) ⟨by decide, by decide, by decide, by decide⟩ [0, 1] rfl (by decide) (fun _ => rfl) rfl rfl rfl rfl (Nat.le_of_ble_eq_true rfl) dX13_readsCommand_80 (fun r_80 u_80 hp_80 => ?_)
                  obtain ⟨hr_80, hu_80, hl_80⟩ := hp_80
                  have hs_80 := hs_d hs0 (by decide) hd_80 hr_80 hu_80
                  have hg_80 : sr + 6 ≤ u_80 := by omega
                  show V G K 4 0 0 83 [some (.ref m), some (.int (nI (4 * c))), some (.int (nI 4)), some (.int 0)] [.int r_80, .int (nI ((4 * c) + 1)), .ref nmb] [(m, .inr (13, [.ref nw, .ref bf, .ref sv, .ref hy, .int iS, .int rmb, .int eA, .int fA, .ref tx, .int tyd, .ref li, .int ldd, .int thr, .int (nI ln), .int (nI u_80), .int (-1), .int (nI (c + 1)), .ref nmb])), (tx, .inl (gI G, 60, .inl τ)), (nmb, .inl (gI G, 120, .inl (upd μ (4 * c) (nI 4))))]
                  refine V.iast hC dX13_readsCommand_83 (2) rfl ((4 * c) + 1) rfl (by omega) (by decide) [(m, .inr (13, [.ref nw, .ref bf, .ref sv, .ref hy, .int iS, .int rmb, .int eA, .int fA, .ref tx, .int tyd, .ref li, .int ldd, .int thr, .int (nI ln), .int (nI u_80), .int (-1), .int (nI (c + 1)), .ref nmb])), (tx, .inl (gI G, 60, .inl τ)), (nmb, .inl (gI G, 120, .inl (upd (upd μ (4 * c) (nI 4)) ((4 * c) + 1) r_80)))] rfl ?_
                  refine V.iload_n hC (x := nI 4) dX13_readsCommand_84 rfl ?_
                  refine V.ifN_eq hC 4 94 dX13_readsCommand_85 rfl rfl (by omega) (fun c_85 => ?_) (fun c_85 => ?_)
                  · exact absurd c_85 (by decide)
                  · refine V.iload_n hC (x := nI 4) dX13_readsCommand_88 rfl ?_
                    refine V.bipush hC 7 dX13_readsCommand_89 rfl ?_
                    refine V.icmpN_ne hC 4 7 95 dX13_readsCommand_91 rfl rfl rfl (by omega) (by omega) (fun c_91 => ?_) (fun c_91 => ?_)
                    · refine V.aload_n hC (x := m) dX13_readsCommand_95 rfl ?_
                      by_cases hd_96 : sgn τ ln u_80 = nI 32
                      · have hs_96 := hs_c hs_80 (c := 32) (by decide) (by decide) (by decide) hd_96
                        have hl_96 : u_80 < ln := sgn_lt (fun z => by rw [hd_96] at z; exact absurd z (by decide))
                        refine V.callV (n := 0) (As := []) (rest := []) hC (m_blankY (kl K) G m nw bf sv hy tx li nmb iS rmb eA fA tyd ldd thr (nI (c + 1)) ln u_80 hln hl_80 τ (sg32.mpr hd_96) hl_96) SFk0 SFgo0 gX13_readsCommand_X13_blank rfl ⟨rfl, rfl⟩ (by decide +kernel) ⟨by decide, by decide, by decide, by decide⟩ [0, 1] rfl (by decide) (fun _ => rfl) rfl rfl rfl rfl (Nat.le_of_ble_eq_true rfl) dX13_readsCommand_96 (fun r_96 u_96 hp_96 => ?_)
                        show V G K 4 0 0 99 [some (.ref m), some (.int (nI (4 * c))), some (.int (nI 4)), some (.int 0)] [] [(m, .inr (13, [.ref nw, .ref bf, .ref sv, .ref hy, .int iS, .int rmb, .int eA, .int fA, .ref tx, .int tyd, .ref li, .int ldd, .int thr, .int (nI ln), .int (nI (u_80 + 1)), .int (-1), .int (nI (c + 1)), .ref nmb])), (tx, .inl (gI G, 60, .inl τ)), (nmb, .inl (gI G, 120, .inl (upd (upd μ (4 * c) (nI 4)) ((4 * c) + 1) r_80)))]
                        refine V.aload_n hC (x := m) dX13_readsCommand_99 rfl ?_
                        refine V.getf hC (T := TX13) q0_ 17 q2_ rfl (0) rfl rfl (by decide) (.ref nmb) rfl dX13_readsCommand_100 ?_
                        refine V.iload_n hC (x := nI (4 * c)) dX13_readsCommand_103 rfl ?_
                        refine V.iconst hC 2 dX13_readsCommand_104 rfl ?_
                        refine V.iaddN hC (4 * c) 2 dX13_readsCommand_105 rfl rfl ?_
                        refine V.iload_n hC (x := nI 4) dX13_readsCommand_106 rfl ?_
                        refine V.iconst hC 1 dX13_readsCommand_107 rfl ?_
                        refine V.icmpN_eq hC 4 1 116 dX13_readsCommand_108 rfl rfl rfl (by omega) (by omega) (fun c_108 => ?_) (fun c_108 => ?_)
                        · exact absurd c_108 (by decide)
                        · refine V.iload_n hC (x := nI 4) dX13_readsCommand_111 rfl ?_
                          refine V.iconst hC 2 dX13_readsCommand_112 rfl ?_
                          refine V.icmpN_ne hC 4 2 123 dX13_readsCommand_113 rfl rfl rfl (by omega) (by omega) (fun c_113 => ?_) (fun c_113 => ?_)
                          · refine V.aload_n hC (x := m) dX13_readsCommand_123 rfl ?_
                            by_cases hd_124 : dct τ ln (u_80 + 1) 2 = 0
                            · have hF := hk_0 (n := 11) (by decide) (hf_n hs_96 (by decide) hd_124 (by decide))
                              refine V.callV (n := 0) (As := []) (rest := [.int (nI ((4 * c) + 2)), .ref nmb]) hC (m_numberN (kl K) G m nw bf sv hy tx li nmb iS rmb eA fA tyd ldd thr (nI (c + 1)) ln (u_80 + 1) hln hl_96 τ hd_124) SFk0 SFgo0 gX13_readsCommand_X13_number rfl ⟨rfl, rfl⟩ (by decide +kernel) ⟨by decide, by decide, by decide, by decide⟩ [0, 1] rfl (by decide) (fun _ => rfl) rfl rfl rfl rfl (Nat.le_of_ble_eq_true rfl) dX13_readsCommand_124 (fun r_124 u_124 hp_124 => ?_)
                              subst hp_124
                              show V G K 4 0 0 127 [some (.ref m), some (.int (nI (4 * c))), some (.int (nI 4)), some (.int 0)] [.int (nI 0), .int (nI ((4 * c) + 2)), .ref nmb] [(m, .inr (13, [.ref nw, .ref bf, .ref sv, .ref hy, .int iS, .int rmb, .int eA, .int fA, .ref tx, .int tyd, .ref li, .int ldd, .int thr, .int (nI ln), .int (nI (u_80 + 1)), .int (nI (u_80 + 1)), .int (nI (c + 1)), .ref nmb])), (tx, .inl (gI G, 60, .inl τ)), (nmb, .inl (gI G, 120, .inl (upd (upd μ (4 * c) (nI 4)) ((4 * c) + 1) r_80)))]
                              refine V.iast hC dX13_readsCommand_127 (2) rfl ((4 * c) + 2) rfl (by omega) (by decide) [(m, .inr (13, [.ref nw, .ref bf, .ref sv, .ref hy, .int iS, .int rmb, .int eA, .int fA, .ref tx, .int tyd, .ref li, .int ldd, .int thr, .int (nI ln), .int (nI (u_80 + 1)), .int (nI (u_80 + 1)), .int (nI (c + 1)), .ref nmb])), (tx, .inl (gI G, 60, .inl τ)), (nmb, .inl (gI G, 120, .inl (upd (upd (upd μ (4 * c) (nI 4)) ((4 * c) + 1) r_80) ((4 * c) + 2) (nI 0))))] rfl ?_
                              refine V.iload_n hC (x := nI 4) dX13_readsCommand_128 rfl ?_
                              refine V.iconst hC 2 dX13_readsCommand_129 rfl ?_
                              refine V.icmpN_eq hC 4 2 138 dX13_readsCommand_130 rfl rfl rfl (by omega) (by omega) (fun c_130 => ?_) (fun c_130 => ?_)
                              · exact absurd c_130 (by decide)
                              · refine V.iload_n hC (x := nI 4) dX13_readsCommand_133 rfl ?_
                                refine V.iconst hC 4 dX13_readsCommand_134 rfl ?_
                                refine V.icmpN_ne hC 4 4 154 dX13_readsCommand_135 rfl rfl rfl (by omega) (by omega) (fun c_135 => ?_) (fun c_135 => ?_)
                                · exact absurd c_135 (by decide)
                                · refine V.aload_n hC (x := m) dX13_readsCommand_138 rfl ?_
                                  refine V.callV (n := 0) (As := []) (rest := []) hC (m_blankW (kl K) G m nw bf sv hy tx li nmb iS rmb eA fA tyd ldd thr (nI (c + 1)) ln (u_80 + 1) hln hl_96 τ (u_80 + 1) (by omega)) SFk0 SFgo0 gX13_readsCommand_X13_blank rfl ⟨rfl, rfl⟩ (by decide +kernel) ⟨by decide, by decide, by decide, by decide⟩ [0, 1] rfl (by decide) (fun _ => rfl) rfl rfl rfl rfl (Nat.le_of_ble_eq_true rfl) dX13_readsCommand_139 (fun r_139 u_139 hp_139 => ?_)
                                  show V G K 4 0 0 142 [some (.ref m), some (.int (nI (4 * c))), some (.int (nI 4)), some (.int 0)] [] [(m, .inr (13, [.ref nw, .ref bf, .ref sv, .ref hy, .int iS, .int rmb, .int eA, .int fA, .ref tx, .int tyd, .ref li, .int ldd, .int thr, .int (nI ln), .int (nI (u_80 + 1)), .int (nI (u_80 + 1)), .int (nI (c + 1)), .ref nmb])), (tx, .inl (gI G, 60, .inl τ)), (nmb, .inl (gI G, 120, .inl (upd (upd (upd μ (4 * c) (nI 4)) ((4 * c) + 1) r_80) ((4 * c) + 2) (nI 0))))]
                                  refine V.aload_n hC (x := m) dX13_readsCommand_142 rfl ?_
                                  refine V.getf hC (T := TX13) q0_ 17 q2_ rfl (0) rfl rfl (by decide) (.ref nmb) rfl dX13_readsCommand_143 ?_
                                  refine V.iload_n hC (x := nI (4 * c)) dX13_readsCommand_146 rfl ?_
                                  refine V.iconst hC 3 dX13_readsCommand_147 rfl ?_
                                  refine V.iaddN hC (4 * c) 3 dX13_readsCommand_148 rfl rfl ?_
                                  refine V.aload_n hC (x := m) dX13_readsCommand_149 rfl ?_
                                  refine V.callV (n := 0) (As := []) (rest := [.int (nI ((4 * c) + 3)), .ref nmb]) hC (m_numberW (kl K) G m nw bf sv hy tx li nmb iS rmb eA fA tyd ldd thr (nI (c + 1)) ln (u_80 + 1) hln hl_96 τ (u_80 + 1) (by omega)) SFk0 SFgo0 gX13_readsCommand_X13_number rfl ⟨rfl, rfl⟩ (by decide +kernel) ⟨by decide, by decide, by decide, by decide⟩ [0, 1] rfl (by decide) (fun _ => rfl) rfl rfl rfl rfl (Nat.le_of_ble_eq_true rfl) dX13_readsCommand_150 (fun r_150 u_150 hp_150 => ?_)
                                  subst hp_150
                                  show V G K 4 0 0 153 [some (.ref m), some (.int (nI (4 * c))), some (.int (nI 4)), some (.int 0)] [.int (nI 0), .int (nI ((4 * c) + 3)), .ref nmb] [(m, .inr (13, [.ref nw, .ref bf, .ref sv, .ref hy, .int iS, .int rmb, .int eA, .int fA, .ref tx, .int tyd, .ref li, .int ldd, .int thr, .int (nI ln), .int (nI (u_80 + 1)), .int (nI (u_80 + 1)), .int (nI (c + 1)), .ref nmb])), (tx, .inl (gI G, 60, .inl τ)), (nmb, .inl (gI G, 120, .inl (upd (upd (upd μ (4 * c) (nI 4)) ((4 * c) + 1) r_80) ((4 * c) + 2) (nI 0))))]
                                  refine V.iast hC dX13_readsCommand_153 (2) rfl ((4 * c) + 3) rfl (by omega) (by decide) [(m, .inr (13, [.ref nw, .ref bf, .ref sv, .ref hy, .int iS, .int rmb, .int eA, .int fA, .ref tx, .int tyd, .ref li, .int ldd, .int thr, .int (nI ln), .int (nI (u_80 + 1)), .int (nI (u_80 + 1)), .int (nI (c + 1)), .ref nmb])), (tx, .inl (gI G, 60, .inl τ)), (nmb, .inl (gI G, 120, .inl (upd (upd (upd (upd μ (4 * c) (nI 4)) ((4 * c) + 1) r_80) ((4 * c) + 2) (nI 0)) ((4 * c) + 3) (nI 0))))] rfl ?_
                                  have hL : ∀ z, z < 4 * c → (upd (upd (upd (upd μ (4 * c) (nI 4)) ((4 * c) + 1) r_80) ((4 * c) + 2) (nI 0)) ((4 * c) + 3) (nI 0)) z = μ z := fun z hz => (pk_un (by omega)).trans ((pk_un (by omega)).trans ((pk_un (by omega)).trans ((pk_un (by omega)).trans (rfl))))
                                  have hB : u_80 + 1 ≤ 60 := by omega
                                  exact hE 154 _ (u_80 + 1, nI (u_80 + 1), upd (upd (upd (upd μ (4 * c) (nI 4)) ((4 * c) + 1) r_80) ((4 * c) + 2) (nI 0)) ((4 * c) + 3) (nI 0)) dX13_readsCommand_154 (Or.inr ⟨(rd_no hk8 hF (by omega)).1, congrArg nI (rd_no hk8 hF (by omega)).2.symm, hB, hL⟩)
                            · refine V.callV (n := 0) (As := []) (rest := [.int (nI ((4 * c) + 2)), .ref nmb]) hC (m_numberY (kl K) G m nw bf sv hy tx li nmb iS rmb eA fA tyd ldd thr (nI (c + 1)) ln (u_80 + 1) hln hl_96 τ hd_124) SFk0 SFgo0 gX13_readsCommand_X13_number rfl ⟨rfl, rfl⟩ (by decide +kernel) ⟨by decide, by decide, by decide, by decide⟩ [0, 1] rfl (by decide) (fun _ => rfl) rfl rfl rfl rfl (Nat.le_of_ble_eq_true rfl) dX13_readsCommand_124 (fun r_124 u_124 hp_124 => ?_)
                              obtain ⟨hr_124, hu_124, hl_124⟩ := hp_124
                              have hs_124 := hs_n hs_96 (by decide) hd_124 hr_124 hu_124
                              have hg_124 : u_80 + 1 ≤ u_124 := by omega
                              show V G K 4 0 0 127 [some (.ref m), some (.int (nI (4 * c))), some (.int (nI 4)), some (.int 0)] [.int r_124, .int (nI ((4 * c) + 2)), .ref nmb] [(m, .inr (13, [.ref nw, .ref bf, .ref sv, .ref hy, .int iS, .int rmb, .int eA, .int fA, .ref tx, .int tyd, .ref li, .int ldd, .int thr, .int (nI ln), .int (nI u_124), .int (-1), .int (nI (c + 1)), .ref nmb])), (tx, .inl (gI G, 60, .inl τ)), (nmb, .inl (gI G, 120, .inl (upd (upd μ (4 * c) (nI 4)) ((4 * c) + 1) r_80)))]
                              refine V.iast hC dX13_readsCommand_127 (2) rfl ((4 * c) + 2) rfl (by omega) (by decide) [(m, .inr (13, [.ref nw, .ref bf, .ref sv, .ref hy, .int iS, .int rmb, .int eA, .int fA, .ref tx, .int tyd, .ref li, .int ldd, .int thr, .int (nI ln), .int (nI u_124), .int (-1), .int (nI (c + 1)), .ref nmb])), (tx, .inl (gI G, 60, .inl τ)), (nmb, .inl (gI G, 120, .inl (upd (upd (upd μ (4 * c) (nI 4)) ((4 * c) + 1) r_80) ((4 * c) + 2) r_124)))] rfl ?_
                              refine V.iload_n hC (x := nI 4) dX13_readsCommand_128 rfl ?_
                              refine V.iconst hC 2 dX13_readsCommand_129 rfl ?_
                              refine V.icmpN_eq hC 4 2 138 dX13_readsCommand_130 rfl rfl rfl (by omega) (by omega) (fun c_130 => ?_) (fun c_130 => ?_)
                              · exact absurd c_130 (by decide)
                              · refine V.iload_n hC (x := nI 4) dX13_readsCommand_133 rfl ?_
                                refine V.iconst hC 4 dX13_readsCommand_134 rfl ?_
                                refine V.icmpN_ne hC 4 4 154 dX13_readsCommand_135 rfl rfl rfl (by omega) (by omega) (fun c_135 => ?_) (fun c_135 => ?_)
                                · exact absurd c_135 (by decide)
                                · refine V.aload_n hC (x := m) dX13_readsCommand_138 rfl ?_
                                  by_cases hd_139 : sgn τ ln u_124 = nI 32
                                  · have hs_139 := hs_c hs_124 (c := 32) (by decide) (by decide) (by decide) hd_139
                                    have hl_139 : u_124 < ln := sgn_lt (fun z => by rw [hd_139] at z; exact absurd z (by decide))
                                    refine V.callV (n := 0) (As := []) (rest := []) hC (m_blankY (kl K) G m nw bf sv hy tx li nmb iS rmb eA fA tyd ldd thr (nI (c + 1)) ln u_124 hln hl_124 τ (sg32.mpr hd_139) hl_139) SFk0 SFgo0 gX13_readsCommand_X13_blank rfl ⟨rfl, rfl⟩ (by decide +kernel) ⟨by decide, by decide, by decide, by decide⟩ [0, 1] rfl (by decide) (fun _ => rfl) rfl rfl rfl rfl (Nat.le_of_ble_eq_true rfl) dX13_readsCommand_139 (fun r_139 u_139 hp_139 => ?_)
                                    show V G K 4 0 0 142 [some (.ref m), some (.int (nI (4 * c))), some (.int (nI 4)), some (.int 0)] [] [(m, .inr (13, [.ref nw, .ref bf, .ref sv, .ref hy, .int iS, .int rmb, .int eA, .int fA, .ref tx, .int tyd, .ref li, .int ldd, .int thr, .int (nI ln), .int (nI (u_124 + 1)), .int (-1), .int (nI (c + 1)), .ref nmb])), (tx, .inl (gI G, 60, .inl τ)), (nmb, .inl (gI G, 120, .inl (upd (upd (upd μ (4 * c) (nI 4)) ((4 * c) + 1) r_80) ((4 * c) + 2) r_124)))]
                                    refine V.aload_n hC (x := m) dX13_readsCommand_142 rfl ?_
                                    refine V.getf hC (T := TX13) q0_ 17 q2_ rfl (0) rfl rfl (by decide) (.ref nmb) rfl dX13_readsCommand_143 ?_
                                    refine V.iload_n hC (x := nI (4 * c)) dX13_readsCommand_146 rfl ?_
                                    refine V.iconst hC 3 dX13_readsCommand_147 rfl ?_
                                    refine V.iaddN hC (4 * c) 3 dX13_readsCommand_148 rfl rfl ?_
                                    refine V.aload_n hC (x := m) dX13_readsCommand_149 rfl ?_
                                    by_cases hd_150 : dct τ ln (u_124 + 1) 2 = 0
                                    · have hF := hk_0 (n := 11) (by decide) (hf_n hs_139 (by decide) hd_150 (by decide))
                                      refine V.callV (n := 0) (As := []) (rest := [.int (nI ((4 * c) + 3)), .ref nmb]) hC (m_numberN (kl K) G m nw bf sv hy tx li nmb iS rmb eA fA tyd ldd thr (nI (c + 1)) ln (u_124 + 1) hln hl_139 τ hd_150) SFk0 SFgo0 gX13_readsCommand_X13_number rfl ⟨rfl, rfl⟩ (by decide +kernel) ⟨by decide, by decide, by decide, by decide⟩ [0, 1] rfl (by decide) (fun _ => rfl) rfl rfl rfl rfl (Nat.le_of_ble_eq_true rfl) dX13_readsCommand_150 (fun r_150 u_150 hp_150 => ?_)
                                      subst hp_150
                                      show V G K 4 0 0 153 [some (.ref m), some (.int (nI (4 * c))), some (.int (nI 4)), some (.int 0)] [.int (nI 0), .int (nI ((4 * c) + 3)), .ref nmb] [(m, .inr (13, [.ref nw, .ref bf, .ref sv, .ref hy, .int iS, .int rmb, .int eA, .int fA, .ref tx, .int tyd, .ref li, .int ldd, .int thr, .int (nI ln), .int (nI (u_124 + 1)), .int (nI (u_124 + 1)), .int (nI (c + 1)), .ref nmb])), (tx, .inl (gI G, 60, .inl τ)), (nmb, .inl (gI G, 120, .inl (upd (upd (upd μ (4 * c) (nI 4)) ((4 * c) + 1) r_80) ((4 * c) + 2) r_124)))]
                                      refine V.iast hC dX13_readsCommand_153 (2) rfl ((4 * c) + 3) rfl (by omega) (by decide) [(m, .inr (13, [.ref nw, .ref bf, .ref sv, .ref hy, .int iS, .int rmb, .int eA, .int fA, .ref tx, .int tyd, .ref li, .int ldd, .int thr, .int (nI ln), .int (nI (u_124 + 1)), .int (nI (u_124 + 1)), .int (nI (c + 1)), .ref nmb])), (tx, .inl (gI G, 60, .inl τ)), (nmb, .inl (gI G, 120, .inl (upd (upd (upd (upd μ (4 * c) (nI 4)) ((4 * c) + 1) r_80) ((4 * c) + 2) r_124) ((4 * c) + 3) (nI 0))))] rfl ?_
                                      have hL : ∀ z, z < 4 * c → (upd (upd (upd (upd μ (4 * c) (nI 4)) ((4 * c) + 1) r_80) ((4 * c) + 2) r_124) ((4 * c) + 3) (nI 0)) z = μ z := fun z hz => (pk_un (by omega)).trans ((pk_un (by omega)).trans ((pk_un (by omega)).trans ((pk_un (by omega)).trans (rfl))))
                                      have hB : u_124 + 1 ≤ 60 := by omega
                                      exact hE 154 _ (u_124 + 1, nI (u_124 + 1), upd (upd (upd (upd μ (4 * c) (nI 4)) ((4 * c) + 1) r_80) ((4 * c) + 2) r_124) ((4 * c) + 3) (nI 0)) dX13_readsCommand_154 (Or.inr ⟨(rd_no hk8 hF (by omega)).1, congrArg nI (rd_no hk8 hF (by omega)).2.symm, hB, hL⟩)
                                    · refine V.callV (n := 0) (As := []) (rest := [.int (nI ((4 * c) + 3)), .ref nmb]) hC (m_numberY (kl K) G m nw bf sv hy tx li nmb iS rmb eA fA tyd ldd thr (nI (c + 1)) ln (u_124 + 1) hln hl_139 τ hd_150) SFk0 SFgo0 gX13_readsCommand_X13_number rfl ⟨rfl, rfl⟩ (by decide +kernel) ⟨by decide, by decide, by decide, by decide⟩ [0, 1] rfl (by decide) (fun _ => rfl) rfl rfl rfl rfl (Nat.le_of_ble_eq_true rfl) dX13_readsCommand_150 (fun r_150 u_150 hp_150 => ?_)
                                      obtain ⟨hr_150, hu_150, hl_150⟩ := hp_150
                                      have hs_150 := hs_n hs_139 (by decide) hd_150 hr_150 hu_150
                                      have hg_150 : u_124 + 1 ≤ u_150 := by omega
                                      show V G K 4 0 0 153 [some (.ref m), some (.int (nI (4 * c))), some (.int (nI 4)), some (.int 0)] [.int r_150, .int (nI ((4 * c) + 3)), .ref nmb] [(m, .inr (13, [.ref nw, .ref bf, .ref sv, .ref hy, .int iS, .int rmb, .int eA, .int fA, .ref tx, .int tyd, .ref li, .int ldd, .int thr, .int (nI ln), .int (nI u_150), .int (-1), .int (nI (c + 1)), .ref nmb])), (tx, .inl (gI G, 60, .inl τ)), (nmb, .inl (gI G, 120, .inl (upd (upd (upd μ (4 * c) (nI 4)) ((4 * c) + 1) r_80) ((4 * c) + 2) r_124)))]
                                      refine V.iast hC dX13_readsCommand_153 (2) rfl ((4 * c) + 3) rfl (by omega) (by decide) [(m, .inr (13, [.ref nw, .ref bf, .ref sv, .ref hy, .int iS, .int rmb, .int eA, .int fA, .ref tx, .int tyd, .ref li, .int ldd, .int thr, .int (nI ln), .int (nI u_150), .int (-1), .int (nI (c + 1)), .ref nmb])), (tx, .inl (gI G, 60, .inl τ)), (nmb, .inl (gI G, 120, .inl (upd (upd (upd (upd μ (4 * c) (nI 4)) ((4 * c) + 1) r_80) ((4 * c) + 2) r_124) ((4 * c) + 3) r_150)))] rfl ?_
                                      have hL : ∀ z, z < 4 * c → (upd (upd (upd (upd μ (4 * c) (nI 4)) ((4 * c) + 1) r_80) ((4 * c) + 2) r_124) ((4 * c) + 3) r_150) z = μ z := fun z hz => (pk_un (by omega)).trans ((pk_un (by omega)).trans ((pk_un (by omega)).trans ((pk_un (by omega)).trans (rfl))))
                                      have hB : u_150 ≤ 60 := by omega
                                      have hK : (upd (upd (upd (upd μ (4 * c) (nI 4)) ((4 * c) + 1) r_80) ((4 * c) + 2) r_124) ((4 * c) + 3) r_150) (4 * c) = nI 4 := (pk_un (by omega)).trans ((pk_un (by omega)).trans ((pk_un (by omega)).trans (pk_us)))
                                      have hJ : ∀ j, j < nar 4 → (upd (upd (upd (upd μ (4 * c) (nI 4)) ((4 * c) + 1) r_80) ((4 * c) + 2) r_124) ((4 * c) + 3) r_150) (4 * c + 1 + j) = agx τ ln sr 4 j := by
                                        intro j hj
                                        have hj2 : j < 3 := hj
                                        obtain rfl | rfl | rfl : j = 0 ∨ j = 1 ∨ j = 2 := by omega
                                        · exact ((pk_un (by omega)).trans ((pk_un (by omega)).trans (pk_us))).trans ((agx_in (n := 11) (by decide) hs_150 (by decide)).trans ((pk_un (by decide)).trans ((pk_un (by decide)).trans (pk_us)))).symm
                                        · exact ((pk_un (by omega)).trans (pk_us)).trans ((agx_in (n := 11) (by decide) hs_150 (by decide)).trans ((pk_un (by decide)).trans (pk_us))).symm
                                        · exact (pk_us).trans ((agx_in (n := 11) (by decide) hs_150 (by decide)).trans (pk_us)).symm
                                      exact hE 154 _ (u_150, -1, upd (upd (upd (upd μ (4 * c) (nI 4)) ((4 * c) + 1) r_80) ((4 * c) + 2) r_124) ((4 * c) + 3) r_150) dX13_readsCommand_154 (Or.inl ⟨4, rd_yes hk8 (hk_1 (n := 11) (by decide) hs_150).1, (hk_1 (n := 11) (by decide) hs_150).2.symm, rfl, ⟨hK, hJ, fun j hj => agx_out (n := 11) (by decide) hs_150 hj⟩, hL⟩)
                                  · have hF := hk_0 (n := 11) (by decide) (hf_c hs_124 (c := 32) (by decide) (by decide) (by decide) hd_139 (by decide))
                                    refine V.callV (n := 0) (As := []) (rest := []) hC (m_blankN (kl K) G m nw bf sv hy tx li nmb iS rmb eA fA tyd ldd thr (nI (c + 1)) ln u_124 hln hl_124 τ (fun q => hd_139 (sg32.mp q))) SFk0 SFgo0 gX13_readsCommand_X13_blank rfl ⟨rfl, rfl⟩ (by decide +kernel) ⟨by decide, by decide, by decide, by decide⟩ [0, 1] rfl (by decide) (fun _ => rfl) rfl rfl rfl rfl (Nat.le_of_ble_eq_true rfl) dX13_readsCommand_139 (fun r_139 u_139 hp_139 => ?_)
                                    show V G K 4 0 0 142 [some (.ref m), some (.int (nI (4 * c))), some (.int (nI 4)), some (.int 0)] [] [(m, .inr (13, [.ref nw, .ref bf, .ref sv, .ref hy, .int iS, .int rmb, .int eA, .int fA, .ref tx, .int tyd, .ref li, .int ldd, .int thr, .int (nI ln), .int (nI u_124), .int (nI u_124), .int (nI (c + 1)), .ref nmb])), (tx, .inl (gI G, 60, .inl τ)), (nmb, .inl (gI G, 120, .inl (upd (upd (upd μ (4 * c) (nI 4)) ((4 * c) + 1) r_80) ((4 * c) + 2) r_124)))]
                                    refine V.aload_n hC (x := m) dX13_readsCommand_142 rfl ?_
                                    refine V.getf hC (T := TX13) q0_ 17 q2_ rfl (0) rfl rfl (by decide) (.ref nmb) rfl dX13_readsCommand_143 ?_
                                    refine V.iload_n hC (x := nI (4 * c)) dX13_readsCommand_146 rfl ?_
                                    refine V.iconst hC 3 dX13_readsCommand_147 rfl ?_
                                    refine V.iaddN hC (4 * c) 3 dX13_readsCommand_148 rfl rfl ?_
                                    refine V.aload_n hC (x := m) dX13_readsCommand_149 rfl ?_
                                    refine V.callV (n := 0) (As := []) (rest := [.int (nI ((4 * c) + 3)), .ref nmb]) hC (m_numberW (kl K) G m nw bf sv hy tx li nmb iS rmb eA fA tyd ldd thr (nI (c + 1)) ln u_124 hln hl_124 τ u_124 (by omega)) SFk0 SFgo0 gX13_readsCommand_X13_number rfl ⟨rfl, rfl⟩ (by decide +kernel) ⟨by decide, by decide, by decide, by decide⟩ [0, 1] rfl (by decide) (fun _ => rfl) rfl rfl rfl rfl (Nat.le_of_ble_eq_true rfl) dX13_readsCommand_150 (fun r_150 u_150 hp_150 => ?_)
                                    subst hp_150
                                    show V G K 4 0 0 153 [some (.ref m), some (.int (nI (4 * c))), some (.int (nI 4)), some (.int 0)] [.int (nI 0), .int (nI ((4 * c) + 3)), .ref nmb] [(m, .inr (13, [.ref nw, .ref bf, .ref sv, .ref hy, .int iS, .int rmb, .int eA, .int fA, .ref tx, .int tyd, .ref li, .int ldd, .int thr, .int (nI ln), .int (nI u_124), .int (nI u_124), .int (nI (c + 1)), .ref nmb])), (tx, .inl (gI G, 60, .inl τ)), (nmb, .inl (gI G, 120, .inl (upd (upd (upd μ (4 * c) (nI 4)) ((4 * c) + 1) r_80) ((4 * c) + 2) r_124)))]
                                    refine V.iast hC dX13_readsCommand_153 (2) rfl ((4 * c) + 3) rfl (by omega) (by decide) [(m, .inr (13, [.ref nw, .ref bf, .ref sv, .ref hy, .int iS, .int rmb, .int eA, .int fA, .ref tx, .int tyd, .ref li, .int ldd, .int thr, .int (nI ln), .int (nI u_124), .int (nI u_124), .int (nI (c + 1)), .ref nmb])), (tx, .inl (gI G, 60, .inl τ)), (nmb, .inl (gI G, 120, .inl (upd (upd (upd (upd μ (4 * c) (nI 4)) ((4 * c) + 1) r_80) ((4 * c) + 2) r_124) ((4 * c) + 3) (nI 0))))] rfl ?_
                                    have hL : ∀ z, z < 4 * c → (upd (upd (upd (upd μ (4 * c) (nI 4)) ((4 * c) + 1) r_80) ((4 * c) + 2) r_124) ((4 * c) + 3) (nI 0)) z = μ z := fun z hz => (pk_un (by omega)).trans ((pk_un (by omega)).trans ((pk_un (by omega)).trans ((pk_un (by omega)).trans (rfl))))
                                    have hB : u_124 ≤ 60 := by omega
                                    exact hE 154 _ (u_124, nI u_124, upd (upd (upd (upd μ (4 * c) (nI 4)) ((4 * c) + 1) r_80) ((4 * c) + 2) r_124) ((4 * c) + 3) (nI 0)) dX13_readsCommand_154 (Or.inr ⟨(rd_no hk8 hF (by omega)).1, congrArg nI (rd_no hk8 hF (by omega)).2.symm, hB, hL⟩)
                          · exact absurd c_113 (by decide)
                      · have hF := hk_0 (n := 11) (by decide) (hf_c hs_80 (c := 32) (by decide) (by decide) (by decide) hd_96 (by decide))
                        refine V.callV (n := 0) (As := []) (rest := []) hC (m_blankN (kl K) G m nw bf sv hy tx li nmb iS rmb eA fA tyd ldd thr (nI (c + 1)) ln u_80 hln hl_80 τ (fun q => hd_96 (sg32.mp q))) SFk0 SFgo0 gX13_readsCommand_X13_blank rfl ⟨rfl, rfl⟩ (by decide +kernel) ⟨by decide, by decide, by decide, by decide⟩ [0, 1] rfl (by decide) (fun _ => rfl) rfl rfl rfl rfl (Nat.le_of_ble_eq_true rfl) dX13_readsCommand_96 (fun r_96 u_96 hp_96 => ?_)
                        show V G K 4 0 0 99 [some (.ref m), some (.int (nI (4 * c))), some (.int (nI 4)), some (.int 0)] [] [(m, .inr (13, [.ref nw, .ref bf, .ref sv, .ref hy, .int iS, .int rmb, .int eA, .int fA, .ref tx, .int tyd, .ref li, .int ldd, .int thr, .int (nI ln), .int (nI u_80), .int (nI u_80), .int (nI (c + 1)), .ref nmb])), (tx, .inl (gI G, 60, .inl τ)), (nmb, .inl (gI G, 120, .inl (upd (upd μ (4 * c) (nI 4)) ((4 * c) + 1) r_80)))]
                        refine V.aload_n hC (x := m) dX13_readsCommand_99 rfl ?_
                        refine V.getf hC (T := TX13) q0_ 17 q2_ rfl (0) rfl rfl (by decide) (.ref nmb) rfl dX13_readsCommand_100 ?_
                        refine V.iload_n hC (x := nI (4 * c)) dX13_readsCommand_103 rfl ?_
                        refine V.iconst hC 2 dX13_readsCommand_104 rfl ?_
                        refine V.iaddN hC (4 * c) 2 dX13_readsCommand_105 rfl rfl ?_
                        refine V.iload_n hC (x := nI 4) dX13_readsCommand_106 rfl ?_
                        refine V.iconst hC 1 dX13_readsCommand_107 rfl ?_
                        refine V.icmpN_eq hC 4 1 116 dX13_readsCommand_108 rfl rfl rfl (by omega) (by omega) (fun c_108 => ?_) (fun c_108 => ?_)
                        · exact absurd c_108 (by decide)
                        · refine V.iload_n hC (x := nI 4) dX13_readsCommand_111 rfl ?_
                          refine V.iconst hC 2 dX13_readsCommand_112 rfl ?_
                          refine V.icmpN_ne hC 4 2 123 dX13_readsCommand_113 rfl rfl rfl (by omega) (by omega) (fun c_113 => ?_) (fun c_113 => ?_)
                          · refine V.aload_n hC (x := m) dX13_readsCommand_123 rfl ?_
                            refine V.callV (n := 0) (As := []) (rest := [.int (nI ((4 * c) + 2)), .ref nmb]) hC (m_numberW (kl K) G m nw bf sv hy tx li nmb iS rmb eA fA tyd ldd thr (nI (c + 1)) ln u_80 hln hl_80 τ u_80 (by omega)) SFk0 SFgo0 gX13_readsCommand_X13_number rfl ⟨rfl, rfl⟩ (by decide +kernel) ⟨by decide, by decide, by decide, by decide⟩ [0, 1] rfl (by decide) (fun _ => rfl) rfl rfl rfl rfl (Nat.le_of_ble_eq_true rfl) dX13_readsCommand_124 (fun r_124 u_124 hp_124 => ?_)
                            subst hp_124
                            show V G K 4 0 0 127 [some (.ref m), some (.int (nI (4 * c))), some (.int (nI 4)), some (.int 0)] [.int (nI 0), .int (nI ((4 * c) + 2)), .ref nmb] [(m, .inr (13, [.ref nw, .ref bf, .ref sv, .ref hy, .int iS, .int rmb, .int eA, .int fA, .ref tx, .int tyd, .ref li, .int ldd, .int thr, .int (nI ln), .int (nI u_80), .int (nI u_80), .int (nI (c + 1)), .ref nmb])), (tx, .inl (gI G, 60, .inl τ)), (nmb, .inl (gI G, 120, .inl (upd (upd μ (4 * c) (nI 4)) ((4 * c) + 1) r_80)))]
                            refine V.iast hC dX13_readsCommand_127 (2) rfl ((4 * c) + 2) rfl (by omega) (by decide) [(m, .inr (13, [.ref nw, .ref bf, .ref sv, .ref hy, .int iS, .int rmb, .int eA, .int fA, .ref tx, .int tyd, .ref li, .int ldd, .int thr, .int (nI ln), .int (nI u_80), .int (nI u_80), .int (nI (c + 1)), .ref nmb])), (tx, .inl (gI G, 60, .inl τ)), (nmb, .inl (gI G, 120, .inl (upd (upd (upd μ (4 * c) (nI 4)) ((4 * c) + 1) r_80) ((4 * c) + 2) (nI 0))))] rfl ?_
                            refine V.iload_n hC (x := nI 4) dX13_readsCommand_128 rfl ?_
                            refine V.iconst hC 2 dX13_readsCommand_129 rfl ?_
                            refine V.icmpN_eq hC 4 2 138 dX13_readsCommand_130 rfl rfl rfl (by omega) (by omega) (fun c_130 => ?_) (fun c_130 => ?_)
                            · exact absurd c_130 (by decide)
                            · refine V.iload_n hC (x := nI 4) dX13_readsCommand_133 rfl ?_
                              refine V.iconst hC 4 dX13_readsCommand_134 rfl ?_
                              refine V.icmpN_ne hC 4 4 154 dX13_readsCommand_135 rfl rfl rfl (by omega) (by omega) (fun c_135 => ?_) (fun c_135 => ?_)
                              · exact absurd c_135 (by decide)
                              · refine V.aload_n hC (x := m) dX13_readsCommand_138 rfl ?_
                                refine V.callV (n := 0) (As := []) (rest := []) hC (m_blankW (kl K) G m nw bf sv hy tx li nmb iS rmb eA fA tyd ldd thr (nI (c + 1)) ln u_80 hln hl_80 τ u_80 (by omega)) SFk0 SFgo0 gX13_readsCommand_X13_blank rfl ⟨rfl, rfl⟩ (by decide +kernel) ⟨by decide, by decide, by decide, by decide⟩ [0, 1] rfl (by decide) (fun _ => rfl) rfl rfl rfl rfl (Nat.le_of_ble_eq_true rfl) dX13_readsCommand_139 (fun r_139 u_139 hp_139 => ?_)
                                show V G K 4 0 0 142 [some (.ref m), some (.int (nI (4 * c))), some (.int (nI 4)), some (.int 0)] [] [(m, .inr (13, [.ref nw, .ref bf, .ref sv, .ref hy, .int iS, .int rmb, .int eA, .int fA, .ref tx, .int tyd, .ref li, .int ldd, .int thr, .int (nI ln), .int (nI u_80), .int (nI u_80), .int (nI (c + 1)), .ref nmb])), (tx, .inl (gI G, 60, .inl τ)), (nmb, .inl (gI G, 120, .inl (upd (upd (upd μ (4 * c) (nI 4)) ((4 * c) + 1) r_80) ((4 * c) + 2) (nI 0))))]
                                refine V.aload_n hC (x := m) dX13_readsCommand_142 rfl ?_
                                refine V.getf hC (T := TX13) q0_ 17 q2_ rfl (0) rfl rfl (by decide) (.ref nmb) rfl dX13_readsCommand_143 ?_
                                refine V.iload_n hC (x := nI (4 * c)) dX13_readsCommand_146 rfl ?_
                                refine V.iconst hC 3 dX13_readsCommand_147 rfl ?_
                                refine V.iaddN hC (4 * c) 3 dX13_readsCommand_148 rfl rfl ?_
                                refine V.aload_n hC (x := m) dX13_readsCommand_149 rfl ?_
                                refine V.callV (n := 0) (As := []) (rest := [.int (nI ((4 * c) + 3)), .ref nmb]) hC (m_numberW (kl K) G m nw bf sv hy tx li nmb iS rmb eA fA tyd ldd thr (nI (c + 1)) ln u_80 hln hl_80 τ u_80 (by omega)) SFk0 SFgo0 gX13_readsCommand_X13_number rfl ⟨rfl, rfl⟩ (by decide +kernel) ⟨by decide, by decide, by decide, by decide⟩ [0, 1] rfl (by decide) (fun _ => rfl) rfl rfl rfl rfl (Nat.le_of_ble_eq_true rfl) dX13_readsCommand_150 (fun r_150 u_150 hp_150 => ?_)
                                subst hp_150
                                show V G K 4 0 0 153 [some (.ref m), some (.int (nI (4 * c))), some (.int (nI 4)), some (.int 0)] [.int (nI 0), .int (nI ((4 * c) + 3)), .ref nmb] [(m, .inr (13, [.ref nw, .ref bf, .ref sv, .ref hy, .int iS, .int rmb, .int eA, .int fA, .ref tx, .int tyd, .ref li, .int ldd, .int thr, .int (nI ln), .int (nI u_80), .int (nI u_80), .int (nI (c + 1)), .ref nmb])), (tx, .inl (gI G, 60, .inl τ)), (nmb, .inl (gI G, 120, .inl (upd (upd (upd μ (4 * c) (nI 4)) ((4 * c) + 1) r_80) ((4 * c) + 2) (nI 0))))]
                                refine V.iast hC dX13_readsCommand_153 (2) rfl ((4 * c) + 3) rfl (by omega) (by decide) [(m, .inr (13, [.ref nw, .ref bf, .ref sv, .ref hy, .int iS, .int rmb, .int eA, .int fA, .ref tx, .int tyd, .ref li, .int ldd, .int thr, .int (nI ln), .int (nI u_80), .int (nI u_80), .int (nI (c + 1)), .ref nmb])), (tx, .inl (gI G, 60, .inl τ)), (nmb, .inl (gI G, 120, .inl (upd (upd (upd (upd μ (4 * c) (nI 4)) ((4 * c) + 1) r_80) ((4 * c) + 2) (nI 0)) ((4 * c) + 3) (nI 0))))] rfl ?_
                                have hL : ∀ z, z < 4 * c → (upd (upd (upd (upd μ (4 * c) (nI 4)) ((4 * c) + 1) r_80) ((4 * c) + 2) (nI 0)) ((4 * c) + 3) (nI 0)) z = μ z := fun z hz => (pk_un (by omega)).trans ((pk_un (by omega)).trans ((pk_un (by omega)).trans ((pk_un (by omega)).trans (rfl))))
                                have hB : u_80 ≤ 60 := by omega
                                exact hE 154 _ (u_80, nI u_80, upd (upd (upd (upd μ (4 * c) (nI 4)) ((4 * c) + 1) r_80) ((4 * c) + 2) (nI 0)) ((4 * c) + 3) (nI 0)) dX13_readsCommand_154 (Or.inr ⟨(rd_no hk8 hF (by omega)).1, congrArg nI (rd_no hk8 hF (by omega)).2.symm, hB, hL⟩)
                          · exact absurd c_113 (by decide)
                    · exact absurd c_91 (by decide)
              · exact absurd c_69 (by decide)
            · exact absurd c_52 (by decide)
      · exact absurd rfl c_34
    · have hs0 := hk_yes (by decide) hks.2
      rw [wl_v.2.2.2.2.2.1] at hu1 hs0
      refine V.eqw (ws' := [(m, .inr (13, [.ref nw, .ref bf, .ref sv, .ref hy, .int iS, .int rmb, .int eA, .int fA, .ref tx, .int tyd, .ref li, .int ldd, .int thr, .int (nI ln), .int (nI (sr + 6)), .int (-1), .int (nI c), .ref nmb])), (tx, .inl (gI G, 60, .inl τ)), (nmb, .inl (gI G, 120, .inl μ))]) (by rw [hu1, hu2]; rfl) ?_
      have hp_w : sr + 6 ≤ ln := by have := hfm_ln (tf := τ) (ln := ln) (sr := sr) (af := fun _ => 0) (i := 5) hsr (fun j => chr_m1 5 (by decide) j) 6; rw [hs0] at this; exact this
      refine V.istore_n hC dX13_readsCommand_11 [some (.ref m), some (.int (nI (4 * c))), some (.int (nI 5)), none] (Nat.le_of_ble_eq_true rfl) rfl ?_
      refine V.aload_n hC (x := m) dX13_readsCommand_12 rfl ?_
      refine V.getf hC (T := TX13) q0_ 17 q2_ rfl (0) rfl rfl (by decide) (.ref nmb) rfl dX13_readsCommand_13 ?_
      refine V.iload_n hC (x := nI (4 * c)) dX13_readsCommand_16 rfl ?_
      refine V.iload_n hC (x := nI 5) dX13_readsCommand_17 rfl ?_
      refine V.iast hC dX13_readsCommand_18 (2) rfl (4 * c) rfl (by omega) (by decide) [(m, .inr (13, [.ref nw, .ref bf, .ref sv, .ref hy, .int iS, .int rmb, .int eA, .int fA, .ref tx, .int tyd, .ref li, .int ldd, .int thr, .int (nI ln), .int (nI (sr + 6)), .int (-1), .int (nI c), .ref nmb])), (tx, .inl (gI G, 60, .inl τ)), (nmb, .inl (gI G, 120, .inl (upd μ (4 * c) (nI 5))))] rfl ?_
      refine V.aload_n hC (x := m) dX13_readsCommand_19 rfl ?_
      refine V.dup hC dX13_readsCommand_20 rfl ?_
      refine V.getf hC (T := TX13) q0_ 16 q1_ rfl (0) rfl rfl (by decide) (.int (nI c)) rfl dX13_readsCommand_21 ?_
      refine V.iconst hC 1 dX13_readsCommand_24 rfl ?_
      refine V.iaddN hC c 1 dX13_readsCommand_25 rfl rfl ?_
      refine V.putf hC (T := TX13) q0_ tyX13 tyX13_ok nmX13 16 q1_ rfl rfl (0) rfl rfl (by decide) (by simp) rfl rfl dX13_readsCommand_26 [(m, .inr (13, [.ref nw, .ref bf, .ref sv, .ref hy, .int iS, .int rmb, .int eA, .int fA, .ref tx, .int tyd, .ref li, .int ldd, .int thr, .int (nI ln), .int (nI (sr + 6)), .int (-1), .int (nI (c + 1)), .ref nmb])), (tx, .inl (gI G, 60, .inl τ)), (nmb, .inl (gI G, 120, .inl (upd μ (4 * c) (nI 5))))] rfl ?_
      refine V.aload_n hC (x := m) dX13_readsCommand_29 rfl ?_
      refine V.getf hC (T := TX13) q0_ 15 q3_ rfl (0) rfl rfl (by decide) (.int (-1)) rfl dX13_readsCommand_30 ?_
      refine V.iconst hC (-1) dX13_readsCommand_33 rfl ?_
      refine V.icmp_eq hC 38 dX13_readsCommand_34 rfl (fun c_34 => ?_) (fun c_34 => ?_)
      · refine V.iload_n hC (x := nI 5) dX13_readsCommand_38 rfl ?_
        refine V.iconst hC 2 dX13_readsCommand_39 rfl ?_
        refine V.icmpN_eq hC 5 2 55 dX13_readsCommand_40 rfl rfl rfl (by omega) (by omega) (fun c_40 => ?_) (fun c_40 => ?_)
        · exact absurd c_40 (by decide)
        · refine V.iload_n hC (x := nI 5) dX13_readsCommand_43 rfl ?_
          refine V.bipush hC 6 dX13_readsCommand_44 rfl ?_
          refine V.icmpN_eq hC 5 6 55 dX13_readsCommand_46 rfl rfl rfl (by omega) (by omega) (fun c_46 => ?_) (fun c_46 => ?_)
          · exact absurd c_46 (by decide)
          · refine V.iload_n hC (x := nI 5) dX13_readsCommand_49 rfl ?_
            refine V.bipush hC 7 dX13_readsCommand_50 rfl ?_
            refine V.icmpN_ne hC 5 7 59 dX13_readsCommand_52 rfl rfl rfl (by omega) (by omega) (fun c_52 => ?_) (fun c_52 => ?_)
            · refine V.iconst hC 0 dX13_readsCommand_59 rfl ?_
              refine V.istore_n hC dX13_readsCommand_60 [some (.ref m), some (.int (nI (4 * c))), some (.int (nI 5)), some (.int 0)] (Nat.le_of_ble_eq_true rfl) rfl ?_
              refine V.aload_n hC (x := m) dX13_readsCommand_61 rfl ?_
              refine V.getf hC (T := TX13) q0_ 17 q2_ rfl (0) rfl rfl (by decide) (.ref nmb) rfl dX13_readsCommand_62 ?_
              refine V.iload_n hC (x := nI (4 * c)) dX13_readsCommand_65 rfl ?_
              refine V.iconst hC 1 dX13_readsCommand_66 rfl ?_
              refine V.iaddN hC (4 * c) 1 dX13_readsCommand_67 rfl rfl ?_
              refine V.iload_n hC (x := 0) dX13_readsCommand_68 rfl ?_
              refine V.ifN_eq hC 0 79 dX13_readsCommand_69 rfl rfl (by omega) (fun c_69 => ?_) (fun c_69 => ?_)
              · refine V.aload_n hC (x := m) dX13_readsCommand_79 rfl ?_
                by_cases hd_80 : dct τ ln (sr + 6) 1 = 0
                · have hF := hk_0 (n := 9) (by decide) (hf_d hs0 (by decide) hd_80 (by decide))
                  refine V.callV (n := 0) (As := []) (rest := [.int (nI ((4 * c) + 1)), .ref nmb]) hC (m_digitN (kl K) G m nw bf sv hy tx li nmb iS rmb eA fA tyd ldd thr (nI (c + 1)) ln (sr + 6) hln hp_w τ (dct1n hd_80)) SFk0 SFgo0 gX13_readsCommand_X13_digit rfl ⟨rfl, rfl⟩ (by decide +kernel) ⟨by decide, by decide, by decide, by decide⟩ [0, 1] rfl (by decide) (fun _ => rfl) rfl rfl rfl rfl (Nat.le_of_ble_eq_true rfl) dX13_readsCommand_80 (fun r_80 u_80 hp_80 => ?_)
                  subst hp_80
                  show V G K 4 0 0 83 [some (.ref m), some (.int (nI (4 * c))), some (.int (nI 5)), some (.int 0)] [.int (nI 0), .int (nI ((4 * c) + 1)), .ref nmb] [(m, .inr (13, [.ref nw, .ref bf, .ref sv, .ref hy, .int iS, .int rmb, .int eA, .int fA, .ref tx, .int tyd, .ref li, .int ldd, .int thr, .int (nI ln), .int (nI (sr + 6)), .int (nI (sr + 6)), .int (nI (c + 1)), .ref nmb])), (tx, .inl (gI G, 60, .inl τ)), (nmb, .inl (gI G, 120, .inl (upd μ (4 * c) (nI 5))))]
                  refine V.iast hC dX13_readsCommand_83 (2) rfl ((4 * c) + 1) rfl (by omega) (by decide) [(m, .inr (13, [.ref nw, .ref bf, .ref sv, .ref hy, .int iS, .int rmb, .int eA, .int fA, .ref tx, .int tyd, .ref li, .int ldd, .int thr, .int (nI ln), .int (nI (sr + 6)), .int (nI (sr + 6)), .int (nI (c + 1)), .ref nmb])), (tx, .inl (gI G, 60, .inl τ)), (nmb, .inl (gI G, 120, .inl (upd (upd μ (4 * c) (nI 5)) ((4 * c) + 1) (nI 0))))] rfl ?_
                  refine V.iload_n hC (x := nI 5) dX13_readsCommand_84 rfl ?_
                  refine V.ifN_eq hC 5 94 dX13_readsCommand_85 rfl rfl (by omega) (fun c_85 => ?_) (fun c_85 => ?_)
                  · exact absurd c_85 (by decide)
                  · refine V.iload_n hC (x := nI 5) dX13_readsCommand_88 rfl ?_
                    refine V.bipush hC 7 dX13_readsCommand_89 rfl ?_
                    refine V.icmpN_ne hC 5 7 95 dX13_readsCommand_91 rfl rfl rfl (by omega) (by omega) (fun c_91 => ?_) (fun c_91 => ?_)
                    · refine V.aload_n hC (x := m) dX13_readsCommand_95 rfl ?_
                      refine V.callV (n := 0) (As := []) (rest := []) hC (m_blankW (kl K) G m nw bf sv hy tx li nmb iS rmb eA fA tyd ldd thr (nI (c + 1)) ln (sr + 6) hln hp_w τ (sr + 6) (by omega)) SFk0 SFgo0 gX13_readsCommand_X13_blank rfl ⟨rfl, rfl⟩ (by decide +kernel) ⟨by decide, by decide, by decide, by decide⟩ [0, 1] rfl (by decide) (fun _ => rfl) rfl rfl rfl rfl (Nat.le_of_ble_eq_true rfl) dX13_readsCommand_96 (fun r_96 u_96 hp_96 => ?_)
                      show V G K 4 0 0 99 [some (.ref m), some (.int (nI (4 * c))), some (.int (nI 5)), some (.int 0)] [] [(m, .inr (13, [.ref nw, .ref bf, .ref sv, .ref hy, .int iS, .int rmb, .int eA, .int fA, .ref tx, .int tyd, .ref li, .int ldd, .int thr, .int (nI ln), .int (nI (sr + 6)), .int (nI (sr + 6)), .int (nI (c + 1)), .ref nmb])), (tx, .inl (gI G, 60, .inl τ)), (nmb, .inl (gI G, 120, .inl (upd (upd μ (4 * c) (nI 5)) ((4 * c) + 1) (nI 0))))]
                      refine V.aload_n hC (x := m) dX13_readsCommand_99 rfl ?_
                      refine V.getf hC (T := TX13) q0_ 17 q2_ rfl (0) rfl rfl (by decide) (.ref nmb) rfl dX13_readsCommand_100 ?_
                      refine V.iload_n hC (x := nI (4 * c)) dX13_readsCommand_103 rfl ?_
                      refine V.iconst hC 2 dX13_readsCommand_104 rfl ?_
                      refine V.iaddN hC (4 * c) 2 dX13_readsCommand_105 rfl rfl ?_
                      refine V.iload_n hC (x := nI 5) dX13_readsCommand_106 rfl ?_
                      refine V.iconst hC 1 dX13_readsCommand_107 rfl ?_
                      refine V.icmpN_eq hC 5 1 116 dX13_readsCommand_108 rfl rfl rfl (by omega) (by omega) (fun c_108 => ?_) (fun c_108 => ?_)
                      · exact absurd c_108 (by decide)
                      · refine V.iload_n hC (x := nI 5) dX13_readsCommand_111 rfl ?_
                        refine V.iconst hC 2 dX13_readsCommand_112 rfl ?_
                        refine V.icmpN_ne hC 5 2 123 dX13_readsCommand_113 rfl rfl rfl (by omega) (by omega) (fun c_113 => ?_) (fun c_113 => ?_)
                        · refine V.aload_n hC (x := m) dX13_readsCommand_123 rfl ?_
                          refine V.callV (n := 0) (As := []) (rest := [.int (nI ((4 * c) + 2)), .ref nmb]) hC (m_numberW (kl K) G m nw bf sv hy tx li nmb iS rmb eA fA tyd ldd thr (nI (c + 1)) ln (sr + 6) hln hp_w τ (sr + 6) (by omega)) SFk0 SFgo0 gX13_readsCommand_X13_number rfl ⟨rfl, rfl⟩ (by decide +kernel) ⟨by decide, by decide, by decide, by decide⟩ [0, 1] rfl (by decide) (fun _ => rfl) rfl rfl rfl rfl (Nat.le_of_ble_eq_true rfl) dX13_readsCommand_124 (fun r_124 u_124 hp_124 => ?_)
                          subst hp_124
                          show V G K 4 0 0 127 [some (.ref m), some (.int (nI (4 * c))), some (.int (nI 5)), some (.int 0)] [.int (nI 0), .int (nI ((4 * c) + 2)), .ref nmb] [(m, .inr (13, [.ref nw, .ref bf, .ref sv, .ref hy, .int iS, .int rmb, .int eA, .int fA, .ref tx, .int tyd, .ref li, .int ldd, .int thr, .int (nI ln), .int (nI (sr + 6)), .int (nI (sr + 6)), .int (nI (c + 1)), .ref nmb])), (tx, .inl (gI G, 60, .inl τ)), (nmb, .inl (gI G, 120, .inl (upd (upd μ (4 * c) (nI 5)) ((4 * c) + 1) (nI 0))))]
                          refine V.iast hC dX13_readsCommand_127 (2) rfl ((4 * c) + 2) rfl (by omega) (by decide) [(m, .inr (13, [.ref nw, .ref bf, .ref sv, .ref hy, .int iS, .int rmb, .int eA, .int fA, .ref tx, .int tyd, .ref li, .int ldd, .int thr, .int (nI ln), .int (nI (sr + 6)), .int (nI (sr + 6)), .int (nI (c + 1)), .ref nmb])), (tx, .inl (gI G, 60, .inl τ)), (nmb, .inl (gI G, 120, .inl (upd (upd (upd μ (4 * c) (nI 5)) ((4 * c) + 1) (nI 0)) ((4 * c) + 2) (nI 0))))] rfl ?_
                          refine V.iload_n hC (x := nI 5) dX13_readsCommand_128 rfl ?_
                          refine V.iconst hC 2 dX13_readsCommand_129 rfl ?_
                          refine V.icmpN_eq hC 5 2 138 dX13_readsCommand_130 rfl rfl rfl (by omega) (by omega) (fun c_130 => ?_) (fun c_130 => ?_)
                          · exact absurd c_130 (by decide)
                          · refine V.iload_n hC (x := nI 5) dX13_readsCommand_133 rfl ?_
                            refine V.iconst hC 4 dX13_readsCommand_134 rfl ?_
                            refine V.icmpN_ne hC 5 4 154 dX13_readsCommand_135 rfl rfl rfl (by omega) (by omega) (fun c_135 => ?_) (fun c_135 => ?_)
                            · have hL : ∀ z, z < 4 * c → (upd (upd (upd μ (4 * c) (nI 5)) ((4 * c) + 1) (nI 0)) ((4 * c) + 2) (nI 0)) z = μ z := fun z hz => (pk_un (by omega)).trans ((pk_un (by omega)).trans ((pk_un (by omega)).trans (rfl)))
                              have hB : sr + 6 ≤ 60 := by omega
                              exact hE 154 _ (sr + 6, nI (sr + 6), upd (upd (upd μ (4 * c) (nI 5)) ((4 * c) + 1) (nI 0)) ((4 * c) + 2) (nI 0)) dX13_readsCommand_154 (Or.inr ⟨(rd_no hk8 hF (by omega)).1, congrArg nI (rd_no hk8 hF (by omega)).2.symm, hB, hL⟩)
                            · exact absurd c_135 (by decide)
                        · exact absurd c_113 (by decide)
                    · exact absurd c_91 (by decide)
                · refine V.callV (n := 0) (As := []) (rest := [.int (nI ((4 * c) + 1)), .ref nmb]) hC (m_digitY (kl K) G m nw bf sv hy tx li nmb iS rmb eA fA tyd ldd thr (nI (c + 1)) ln (sr + 6) hln hp_w τ hd_80) SFk0 SFgo0 gX13_readsCommand_X13_digit rfl ⟨rfl, rfl⟩ (by decide +kernel) ⟨by decide, by decide, by decide, by decide⟩ [0, 1] rfl (by decide) (fun _ => rfl) rfl rfl rfl rfl (Nat.le_of_ble_eq_true rfl) dX13_readsCommand_80 (fun r_80 u_80 hp_80 => ?_)
                  obtain ⟨hr_80, hu_80, hl_80⟩ := hp_80
                  have hs_80 := hs_d hs0 (by decide) hd_80 hr_80 hu_80
                  have hg_80 : sr + 6 ≤ u_80 := by omega
                  show V G K 4 0 0 83 [some (.ref m), some (.int (nI (4 * c))), some (.int (nI 5)), some (.int 0)] [.int r_80, .int (nI ((4 * c) + 1)), .ref nmb] [(m, .inr (13, [.ref nw, .ref bf, .ref sv, .ref hy, .int iS, .int rmb, .int eA, .int fA, .ref tx, .int tyd, .ref li, .int ldd, .int thr, .int (nI ln), .int (nI u_80), .int (-1), .int (nI (c + 1)), .ref nmb])), (tx, .inl (gI G, 60, .inl τ)), (nmb, .inl (gI G, 120, .inl (upd μ (4 * c) (nI 5))))]
                  refine V.iast hC dX13_readsCommand_83 (2) rfl ((4 * c) + 1) rfl (by omega) (by decide) [(m, .inr (13, [.ref nw, .ref bf, .ref sv, .ref hy, .int iS, .int rmb, .int eA, .int fA, .ref tx, .int tyd, .ref li, .int ldd, .int thr, .int (nI ln), .int (nI u_80), .int (-1), .int (nI (c + 1)), .ref nmb])), (tx, .inl (gI G, 60, .inl τ)), (nmb, .inl (gI G, 120, .inl (upd (upd μ (4 * c) (nI 5)) ((4 * c) + 1) r_80)))] rfl ?_
                  refine V.iload_n hC (x := nI 5) dX13_readsCommand_84 rfl ?_
                  refine V.ifN_eq hC 5 94 dX13_readsCommand_85 rfl rfl (by omega) (fun c_85 => ?_) (fun c_85 => ?_)
                  · exact absurd c_85 (by decide)
                  · refine V.iload_n hC (x := nI 5) dX13_readsCommand_88 rfl ?_
                    refine V.bipush hC 7 dX13_readsCommand_89 rfl ?_
                    refine V.icmpN_ne hC 5 7 95 dX13_readsCommand_91 rfl rfl rfl (by omega) (by omega) (fun c_91 => ?_) (fun c_91 => ?_)
                    · refine V.aload_n hC (x := m) dX13_readsCommand_95 rfl ?_
                      by_cases hd_96 : sgn τ ln u_80 = nI 32
                      · have hs_96 := hs_c hs_80 (c := 32) (by decide) (by decide) (by decide) hd_96
                        have hl_96 : u_80 < ln := sgn_lt (fun z => by rw [hd_96] at z; exact absurd z (by decide))
                        refine V.callV (n := 0) (As := []) (rest := []) hC (m_blankY (kl K) G m nw bf sv hy tx li nmb iS rmb eA fA tyd ldd thr (nI (c + 1)) ln u_80 hln hl_80 τ (sg32.mpr hd_96) hl_96) SFk0 SFgo0 gX13_readsCommand_X13_blank rfl ⟨rfl, rfl⟩ (by decide +kernel) ⟨by decide, by decide, by decide, by decide⟩ [0, 1] rfl (by decide) (fun _ => rfl) rfl rfl rfl rfl (Nat.le_of_ble_eq_true rfl) dX13_readsCommand_96 (fun r_96 u_96 hp_96 => ?_)
                        show V G K 4 0 0 99 [some (.ref m), some (.int (nI (4 * c))), some (.int (nI 5)), some (.int 0)] [] [(m, .inr (13, [.ref nw, .ref bf, .ref sv, .ref hy, .int iS, .int rmb, .int eA, .int fA, .ref tx, .int tyd, .ref li, .int ldd, .int thr, .int (nI ln), .int (nI (u_80 + 1)), .int (-1), .int (nI (c + 1)), .ref nmb])), (tx, .inl (gI G, 60, .inl τ)), (nmb, .inl (gI G, 120, .inl (upd (upd μ (4 * c) (nI 5)) ((4 * c) + 1) r_80)))]
                        refine V.aload_n hC (x := m) dX13_readsCommand_99 rfl ?_
                        refine V.getf hC (T := TX13) q0_ 17 q2_ rfl (0) rfl rfl (by decide) (.ref nmb) rfl dX13_readsCommand_100 ?_
                        refine V.iload_n hC (x := nI (4 * c)) dX13_readsCommand_103 rfl ?_
                        refine V.iconst hC 2 dX13_readsCommand_104 rfl ?_
                        refine V.iaddN hC (4 * c) 2 dX13_readsCommand_105 rfl rfl ?_
                        refine V.iload_n hC (x := nI 5) dX13_readsCommand_106 rfl ?_
                        refine V.iconst hC 1 dX13_readsCommand_107 rfl ?_
                        refine V.icmpN_eq hC 5 1 116 dX13_readsCommand_108 rfl rfl rfl (by omega) (by omega) (fun c_108 => ?_) (fun c_108 => ?_)
                        · exact absurd c_108 (by decide)
                        · refine V.iload_n hC (x := nI 5) dX13_readsCommand_111 rfl ?_
                          refine V.iconst hC 2 dX13_readsCommand_112 rfl ?_
                          refine V.icmpN_ne hC 5 2 123 dX13_readsCommand_113 rfl rfl rfl (by omega) (by omega) (fun c_113 => ?_) (fun c_113 => ?_)
                          · refine V.aload_n hC (x := m) dX13_readsCommand_123 rfl ?_
                            by_cases hd_124 : dct τ ln (u_80 + 1) 2 = 0
                            · have hF := hk_0 (n := 9) (by decide) (hf_n hs_96 (by decide) hd_124 (by decide))
                              refine V.callV (n := 0) (As := []) (rest := [.int (nI ((4 * c) + 2)), .ref nmb]) hC (m_numberN (kl K) G m nw bf sv hy tx li nmb iS rmb eA fA tyd ldd thr (nI (c + 1)) ln (u_80 + 1) hln hl_96 τ hd_124) SFk0 SFgo0 gX13_readsCommand_X13_number rfl ⟨rfl, rfl⟩ (by decide +kernel) ⟨by decide, by decide, by decide, by decide⟩ [0, 1] rfl (by decide) (fun _ => rfl) rfl rfl rfl rfl (Nat.le_of_ble_eq_true rfl) dX13_readsCommand_124 (fun r_124 u_124 hp_124 => ?_)
                              subst hp_124
                              show V G K 4 0 0 127 [some (.ref m), some (.int (nI (4 * c))), some (.int (nI 5)), some (.int 0)] [.int (nI 0), .int (nI ((4 * c) + 2)), .ref nmb] [(m, .inr (13, [.ref nw, .ref bf, .ref sv, .ref hy, .int iS, .int rmb, .int eA, .int fA, .ref tx, .int tyd, .ref li, .int ldd, .int thr, .int (nI ln), .int (nI (u_80 + 1)), .int (nI (u_80 + 1)), .int (nI (c + 1)), .ref nmb])), (tx, .inl (gI G, 60, .inl τ)), (nmb, .inl (gI G, 120, .inl (upd (upd μ (4 * c) (nI 5)) ((4 * c) + 1) r_80)))]
                              refine V.iast hC dX13_readsCommand_127 (2) rfl ((4 * c) + 2) rfl (by omega) (by decide) [(m, .inr (13, [.ref nw, .ref bf, .ref sv, .ref hy, .int iS, .int rmb, .int eA, .int fA, .ref tx, .int tyd, .ref li, .int ldd, .int thr, .int (nI ln), .int (nI (u_80 + 1)), .int (nI (u_80 + 1)), .int (nI (c + 1)), .ref nmb])), (tx, .inl (gI G, 60, .inl τ)), (nmb, .inl (gI G, 120, .inl (upd (upd (upd μ (4 * c) (nI 5)) ((4 * c) + 1) r_80) ((4 * c) + 2) (nI 0))))] rfl ?_
                              refine V.iload_n hC (x := nI 5) dX13_readsCommand_128 rfl ?_
                              refine V.iconst hC 2 dX13_readsCommand_129 rfl ?_
                              refine V.icmpN_eq hC 5 2 138 dX13_readsCommand_130 rfl rfl rfl (by omega) (by omega) (fun c_130 => ?_) (fun c_130 => ?_)
                              · exact absurd c_130 (by decide)
                              · refine V.iload_n hC (x := nI 5) dX13_readsCommand_133 rfl ?_
                                refine V.iconst hC 4 dX13_readsCommand_134 rfl ?_
                                refine V.icmpN_ne hC 5 4 154 dX13_readsCommand_135 rfl rfl rfl (by omega) (by omega) (fun c_135 => ?_) (fun c_135 => ?_)
                                · have hL : ∀ z, z < 4 * c → (upd (upd (upd μ (4 * c) (nI 5)) ((4 * c) + 1) r_80) ((4 * c) + 2) (nI 0)) z = μ z := fun z hz => (pk_un (by omega)).trans ((pk_un (by omega)).trans ((pk_un (by omega)).trans (rfl)))
                                  have hB : u_80 + 1 ≤ 60 := by omega
                                  exact hE 154 _ (u_80 + 1, nI (u_80 + 1), upd (upd (upd μ (4 * c) (nI 5)) ((4 * c) + 1) r_80) ((4 * c) + 2) (nI 0)) dX13_readsCommand_154 (Or.inr ⟨(rd_no hk8 hF (by omega)).1, congrArg nI (rd_no hk8 hF (by omega)).2.symm, hB, hL⟩)
                                · exact absurd c_135 (by decide)
                            · refine V.callV (n := 0) (As := []) (rest := [.int (nI ((4 * c) + 2)), .ref nmb]) hC (m_numberY (kl K) G m nw bf sv hy tx li nmb iS rmb eA fA tyd ldd thr (nI (c + 1)) ln (u_80 + 1) hln hl_96 τ hd_124) SFk0 SFgo0 gX13_readsCommand_X13_number rfl ⟨rfl, rfl⟩ (by decide +kernel) ⟨by decide, by decide, by decide, by decide⟩ [0, 1] rfl (by decide) (fun _ => rfl) rfl rfl rfl rfl (Nat.le_of_ble_eq_true rfl) dX13_readsCommand_124 (fun r_124 u_124 hp_124 => ?_)
                              obtain ⟨hr_124, hu_124, hl_124⟩ := hp_124
                              have hs_124 := hs_n hs_96 (by decide) hd_124 hr_124 hu_124
                              have hg_124 : u_80 + 1 ≤ u_124 := by omega
                              show V G K 4 0 0 127 [some (.ref m), some (.int (nI (4 * c))), some (.int (nI 5)), some (.int 0)] [.int r_124, .int (nI ((4 * c) + 2)), .ref nmb] [(m, .inr (13, [.ref nw, .ref bf, .ref sv, .ref hy, .int iS, .int rmb, .int eA, .int fA, .ref tx, .int tyd, .ref li, .int ldd, .int thr, .int (nI ln), .int (nI u_124), .int (-1), .int (nI (c + 1)), .ref nmb])), (tx, .inl (gI G, 60, .inl τ)), (nmb, .inl (gI G, 120, .inl (upd (upd μ (4 * c) (nI 5)) ((4 * c) + 1) r_80)))]
                              refine V.iast hC dX13_readsCommand_127 (2) rfl ((4 * c) + 2) rfl (by omega) (by decide) [(m, .inr (13, [.ref nw, .ref bf, .ref sv, .ref hy, .int iS, .int rmb, .int eA, .int fA, .ref tx, .int tyd, .ref li, .int ldd, .int thr, .int (nI ln), .int (nI u_124), .int (-1), .int (nI (c + 1)), .ref nmb])), (tx, .inl (gI G, 60, .inl τ)), (nmb, .inl (gI G, 120, .inl (upd (upd (upd μ (4 * c) (nI 5)) ((4 * c) + 1) r_80) ((4 * c) + 2) r_124)))] rfl ?_
                              refine V.iload_n hC (x := nI 5) dX13_readsCommand_128 rfl ?_
                              refine V.iconst hC 2 dX13_readsCommand_129 rfl ?_
                              refine V.icmpN_eq hC 5 2 138 dX13_readsCommand_130 rfl rfl rfl (by omega) (by omega) (fun c_130 => ?_) (fun c_130 => ?_)
                              · exact absurd c_130 (by decide)
                              · refine V.iload_n hC (x := nI 5) dX13_readsCommand_133 rfl ?_
                                refine V.iconst hC 4 dX13_readsCommand_134 rfl ?_
                                refine V.icmpN_ne hC 5 4 154 dX13_readsCommand_135 rfl rfl rfl (by omega) (by omega) (fun c_135 => ?_) (fun c_135 => ?_)
                                · have hL : ∀ z, z < 4 * c → (upd (upd (upd μ (4 * c) (nI 5)) ((4 * c) + 1) r_80) ((4 * c) + 2) r_124) z = μ z := fun z hz => (pk_un (by omega)).trans ((pk_un (by omega)).trans ((pk_un (by omega)).trans (rfl)))
                                  have hB : u_124 ≤ 60 := by omega
                                  have hK : (upd (upd (upd μ (4 * c) (nI 5)) ((4 * c) + 1) r_80) ((4 * c) + 2) r_124) (4 * c) = nI 5 := (pk_un (by omega)).trans ((pk_un (by omega)).trans (pk_us))
                                  have hJ : ∀ j, j < nar 5 → (upd (upd (upd μ (4 * c) (nI 5)) ((4 * c) + 1) r_80) ((4 * c) + 2) r_124) (4 * c + 1 + j) = agx τ ln sr 5 j := by
                                    intro j hj
                                    have hj2 : j < 2 := hj
                                    obtain rfl | rfl : j = 0 ∨ j = 1 := by omega
                                    · exact ((pk_un (by omega)).trans (pk_us)).trans ((agx_in (n := 9) (by decide) hs_124 (by decide)).trans ((pk_un (by decide)).trans (pk_us))).symm
                                    · exact (pk_us).trans ((agx_in (n := 9) (by decide) hs_124 (by decide)).trans (pk_us)).symm
                                  exact hE 154 _ (u_124, -1, upd (upd (upd μ (4 * c) (nI 5)) ((4 * c) + 1) r_80) ((4 * c) + 2) r_124) dX13_readsCommand_154 (Or.inl ⟨5, rd_yes hk8 (hk_1 (n := 9) (by decide) hs_124).1, (hk_1 (n := 9) (by decide) hs_124).2.symm, rfl, ⟨hK, hJ, fun j hj => agx_out (n := 9) (by decide) hs_124 hj⟩, hL⟩)
                                · exact absurd c_135 (by decide)
                          · exact absurd c_113 (by decide)
                      · have hF := hk_0 (n := 9) (by decide) (hf_c hs_80 (c := 32) (by decide) (by decide) (by decide) hd_96 (by decide))
                        refine V.callV (n := 0) (As := []) (rest := []) hC (m_blankN (kl K) G m nw bf sv hy tx li nmb iS rmb eA fA tyd ldd thr (nI (c + 1)) ln u_80 hln hl_80 τ (fun q => hd_96 (sg32.mp q))) SFk0 SFgo0 gX13_readsCommand_X13_blank rfl ⟨rfl, rfl⟩ (by decide +kernel) ⟨by decide, by decide, by decide, by decide⟩ [0, 1] rfl (by decide) (fun _ => rfl) rfl rfl rfl rfl (Nat.le_of_ble_eq_true rfl) dX13_readsCommand_96 (fun r_96 u_96 hp_96 => ?_)
                        show V G K 4 0 0 99 [some (.ref m), some (.int (nI (4 * c))), some (.int (nI 5)), some (.int 0)] [] [(m, .inr (13, [.ref nw, .ref bf, .ref sv, .ref hy, .int iS, .int rmb, .int eA, .int fA, .ref tx, .int tyd, .ref li, .int ldd, .int thr, .int (nI ln), .int (nI u_80), .int (nI u_80), .int (nI (c + 1)), .ref nmb])), (tx, .inl (gI G, 60, .inl τ)), (nmb, .inl (gI G, 120, .inl (upd (upd μ (4 * c) (nI 5)) ((4 * c) + 1) r_80)))]
                        refine V.aload_n hC (x := m) dX13_readsCommand_99 rfl ?_
                        refine V.getf hC (T := TX13) q0_ 17 q2_ rfl (0) rfl rfl (by decide) (.ref nmb) rfl dX13_readsCommand_100 ?_
                        refine V.iload_n hC (x := nI (4 * c)) dX13_readsCommand_103 rfl ?_
                        refine V.iconst hC 2 dX13_readsCommand_104 rfl ?_
                        refine V.iaddN hC (4 * c) 2 dX13_readsCommand_105 rfl rfl ?_
                        refine V.iload_n hC (x := nI 5) dX13_readsCommand_106 rfl ?_
                        refine V.iconst hC 1 dX13_readsCommand_107 rfl ?_
                        refine V.icmpN_eq hC 5 1 116 dX13_readsCommand_108 rfl rfl rfl (by omega) (by omega) (fun c_108 => ?_) (fun c_108 => ?_)
                        · exact absurd c_108 (by decide)
                        · refine V.iload_n hC (x := nI 5) dX13_readsCommand_111 rfl ?_
                          refine V.iconst hC 2 dX13_readsCommand_112 rfl ?_
                          refine V.icmpN_ne hC 5 2 123 dX13_readsCommand_113 rfl rfl rfl (by omega) (by omega) (fun c_113 => ?_) (fun c_113 => ?_)
                          · refine V.aload_n hC (x := m) dX13_readsCommand_123 rfl ?_
                            refine V.callV (n := 0) (As := []) (rest := [.int (nI ((4 * c) + 2)), .ref nmb]) hC (m_numberW (kl K) G m nw bf sv hy tx li nmb iS rmb eA fA tyd ldd thr (nI (c + 1)) ln u_80 hln hl_80 τ u_80 (by omega)) SFk0 SFgo0 gX13_readsCommand_X13_number rfl ⟨rfl, rfl⟩ (by decide +kernel) ⟨by decide, by decide, by decide, by decide⟩ [0, 1] rfl (by decide) (fun _ => rfl) rfl rfl rfl rfl (Nat.le_of_ble_eq_true rfl) dX13_readsCommand_124 (fun r_124 u_124 hp_124 => ?_)
                            subst hp_124
                            show V G K 4 0 0 127 [some (.ref m), some (.int (nI (4 * c))), some (.int (nI 5)), some (.int 0)] [.int (nI 0), .int (nI ((4 * c) + 2)), .ref nmb] [(m, .inr (13, [.ref nw, .ref bf, .ref sv, .ref hy, .int iS, .int rmb, .int eA, .int fA, .ref tx, .int tyd, .ref li, .int ldd, .int thr, .int (nI ln), .int (nI u_80), .int (nI u_80), .int (nI (c + 1)), .ref nmb])), (tx, .inl (gI G, 60, .inl τ)), (nmb, .inl (gI G, 120, .inl (upd (upd μ (4 * c) (nI 5)) ((4 * c) + 1) r_80)))]
                            refine V.iast hC dX13_readsCommand_127 (2) rfl ((4 * c) + 2) rfl (by omega) (by decide) [(m, .inr (13, [.ref nw, .ref bf, .ref sv, .ref hy, .int iS, .int rmb, .int eA, .int fA, .ref tx, .int tyd, .ref li, .int ldd, .int thr, .int (nI ln), .int (nI u_80), .int (nI u_80), .int (nI (c + 1)), .ref nmb])), (tx, .inl (gI G, 60, .inl τ)), (nmb, .inl (gI G, 120, .inl (upd (upd (upd μ (4 * c) (nI 5)) ((4 * c) + 1) r_80) ((4 * c) + 2) (nI 0))))] rfl ?_
                            refine V.iload_n hC (x := nI 5) dX13_readsCommand_128 rfl ?_
                            refine V.iconst hC 2 dX13_readsCommand_129 rfl ?_
                            refine V.icmpN_eq hC 5 2 138 dX13_readsCommand_130 rfl rfl rfl (by omega) (by omega) (fun c_130 => ?_) (fun c_130 => ?_)
                            · exact absurd c_130 (by decide)
                            · refine V.iload_n hC (x := nI 5) dX13_readsCommand_133 rfl ?_
                              refine V.iconst hC 4 dX13_readsCommand_134 rfl ?_
                              refine V.icmpN_ne hC 5 4 154 dX13_readsCommand_135 rfl rfl rfl (by omega) (by omega) (fun c_135 => ?_) (fun c_135 => ?_)
                              · have hL : ∀ z, z < 4 * c → (upd (upd (upd μ (4 * c) (nI 5)) ((4 * c) + 1) r_80) ((4 * c) + 2) (nI 0)) z = μ z := fun z hz => (pk_un (by omega)).trans ((pk_un (by omega)).trans ((pk_un (by omega)).trans (rfl)))
                                have hB : u_80 ≤ 60 := by omega
                                exact hE 154 _ (u_80, nI u_80, upd (upd (upd μ (4 * c) (nI 5)) ((4 * c) + 1) r_80) ((4 * c) + 2) (nI 0)) dX13_readsCommand_154 (Or.inr ⟨(rd_no hk8 hF (by omega)).1, congrArg nI (rd_no hk8 hF (by omega)).2.symm, hB, hL⟩)
                              · exact absurd c_135 (by decide)
                          · exact absurd c_113 (by decide)
                    · exact absurd c_91 (by decide)
              · exact absurd c_69 (by decide)
            · exact absurd c_52 (by decide)
      · exact absurd rfl c_34
    · have hs0 := hk_yes (by decide) hks.2
      rw [wl_v.2.2.2.2.2.2.1] at hu1 hs0
      refine V.eqw (ws' := [(m, .inr (13, [.ref nw, .ref bf, .ref sv, .ref hy, .int iS, .int rmb, .int eA, .int fA, .ref tx, .int tyd, .ref li, .int ldd, .int thr, .int (nI ln), .int (nI (sr + 8)), .int (-1), .int (nI c), .ref nmb])), (tx, .inl (gI G, 60, .inl τ)), (nmb, .inl (gI G, 120, .inl μ))]) (by rw [hu1, hu2]; rfl) ?_
      have hp_w : sr + 8 ≤ ln := by have := hfm_ln (tf := τ) (ln := ln) (sr := sr) (af := fun _ => 0) (i := 6) hsr (fun j => chr_m1 6 (by decide) j) 8; rw [hs0] at this; exact this
      refine V.istore_n hC dX13_readsCommand_11 [some (.ref m), some (.int (nI (4 * c))), some (.int (nI 6)), none] (Nat.le_of_ble_eq_true rfl) rfl ?_
      refine V.aload_n hC (x := m) dX13_readsCommand_12 rfl ?_
      refine V.getf hC (T := TX13) q0_ 17 q2_ rfl (0) rfl rfl (by decide) (.ref nmb) rfl dX13_readsCommand_13 ?_
      refine V.iload_n hC (x := nI (4 * c)) dX13_readsCommand_16 rfl ?_
      refine V.iload_n hC (x := nI 6) dX13_readsCommand_17 rfl ?_
      refine V.iast hC dX13_readsCommand_18 (2) rfl (4 * c) rfl (by omega) (by decide) [(m, .inr (13, [.ref nw, .ref bf, .ref sv, .ref hy, .int iS, .int rmb, .int eA, .int fA, .ref tx, .int tyd, .ref li, .int ldd, .int thr, .int (nI ln), .int (nI (sr + 8)), .int (-1), .int (nI c), .ref nmb])), (tx, .inl (gI G, 60, .inl τ)), (nmb, .inl (gI G, 120, .inl (upd μ (4 * c) (nI 6))))] rfl ?_
      refine V.aload_n hC (x := m) dX13_readsCommand_19 rfl ?_
      refine V.dup hC dX13_readsCommand_20 rfl ?_
      refine V.getf hC (T := TX13) q0_ 16 q1_ rfl (0) rfl rfl (by decide) (.int (nI c)) rfl dX13_readsCommand_21 ?_
      refine V.iconst hC 1 dX13_readsCommand_24 rfl ?_
      refine V.iaddN hC c 1 dX13_readsCommand_25 rfl rfl ?_
      refine V.putf hC (T := TX13) q0_ tyX13 tyX13_ok nmX13 16 q1_ rfl rfl (0) rfl rfl (by decide) (by simp) rfl rfl dX13_readsCommand_26 [(m, .inr (13, [.ref nw, .ref bf, .ref sv, .ref hy, .int iS, .int rmb, .int eA, .int fA, .ref tx, .int tyd, .ref li, .int ldd, .int thr, .int (nI ln), .int (nI (sr + 8)), .int (-1), .int (nI (c + 1)), .ref nmb])), (tx, .inl (gI G, 60, .inl τ)), (nmb, .inl (gI G, 120, .inl (upd μ (4 * c) (nI 6))))] rfl ?_
      refine V.aload_n hC (x := m) dX13_readsCommand_29 rfl ?_
      refine V.getf hC (T := TX13) q0_ 15 q3_ rfl (0) rfl rfl (by decide) (.int (-1)) rfl dX13_readsCommand_30 ?_
      refine V.iconst hC (-1) dX13_readsCommand_33 rfl ?_
      refine V.icmp_eq hC 38 dX13_readsCommand_34 rfl (fun c_34 => ?_) (fun c_34 => ?_)
      · refine V.iload_n hC (x := nI 6) dX13_readsCommand_38 rfl ?_
        refine V.iconst hC 2 dX13_readsCommand_39 rfl ?_
        refine V.icmpN_eq hC 6 2 55 dX13_readsCommand_40 rfl rfl rfl (by omega) (by omega) (fun c_40 => ?_) (fun c_40 => ?_)
        · exact absurd c_40 (by decide)
        · refine V.iload_n hC (x := nI 6) dX13_readsCommand_43 rfl ?_
          refine V.bipush hC 6 dX13_readsCommand_44 rfl ?_
          refine V.icmpN_eq hC 6 6 55 dX13_readsCommand_46 rfl rfl rfl (by omega) (by omega) (fun c_46 => ?_) (fun c_46 => ?_)
          · refine V.iconst hC 1 dX13_readsCommand_55 rfl ?_
            refine V.goto hC 60 dX13_readsCommand_56 rfl ?_
            refine V.istore_n hC dX13_readsCommand_60 [some (.ref m), some (.int (nI (4 * c))), some (.int (nI 6)), some (.int 1)] (Nat.le_of_ble_eq_true rfl) rfl ?_
            refine V.aload_n hC (x := m) dX13_readsCommand_61 rfl ?_
            refine V.getf hC (T := TX13) q0_ 17 q2_ rfl (0) rfl rfl (by decide) (.ref nmb) rfl dX13_readsCommand_62 ?_
            refine V.iload_n hC (x := nI (4 * c)) dX13_readsCommand_65 rfl ?_
            refine V.iconst hC 1 dX13_readsCommand_66 rfl ?_
            refine V.iaddN hC (4 * c) 1 dX13_readsCommand_67 rfl rfl ?_
            refine V.iload_n hC (x := 1) dX13_readsCommand_68 rfl ?_
            refine V.ifN_eq hC 1 79 dX13_readsCommand_69 rfl rfl (by omega) (fun c_69 => ?_) (fun c_69 => ?_)
            · exact absurd c_69 (by decide)
            · refine V.aload_n hC (x := m) dX13_readsCommand_72 rfl ?_
              by_cases hd_73 : dct τ ln (sr + 8) 2 = 0
              · have hF := hk_0 (n := 11) (by decide) (hf_n hs0 (by decide) hd_73 (by decide))
                refine V.callV (n := 0) (As := []) (rest := [.int (nI ((4 * c) + 1)), .ref nmb]) hC (m_numberN (kl K) G m nw bf sv hy tx li nmb iS rmb eA fA tyd ldd thr (nI (c + 1)) ln (sr + 8) hln hp_w τ hd_73) SFk0 SFgo0 gX13_readsCommand_X13_number rfl ⟨rfl, rfl⟩ (by decide +kernel) ⟨by decide, by decide, by decide, by decide⟩ [0, 1] rfl (by decide) (fun _ => rfl) rfl rfl rfl rfl (Nat.le_of_ble_eq_true rfl) dX13_readsCommand_73 (fun r_73 u_73 hp_73 => ?_)
                subst hp_73
                show V G K 4 0 0 76 [some (.ref m), some (.int (nI (4 * c))), some (.int (nI 6)), some (.int 1)] [.int (nI 0), .int (nI ((4 * c) + 1)), .ref nmb] [(m, .inr (13, [.ref nw, .ref bf, .ref sv, .ref hy, .int iS, .int rmb, .int eA, .int fA, .ref tx, .int tyd, .ref li, .int ldd, .int thr, .int (nI ln), .int (nI (sr + 8)), .int (nI (sr + 8)), .int (nI (c + 1)), .ref nmb])), (tx, .inl (gI G, 60, .inl τ)), (nmb, .inl (gI G, 120, .inl (upd μ (4 * c) (nI 6))))]
                refine V.goto hC 83 dX13_readsCommand_76 rfl ?_
                refine V.iast hC dX13_readsCommand_83 (2) rfl ((4 * c) + 1) rfl (by omega) (by decide) [(m, .inr (13, [.ref nw, .ref bf, .ref sv, .ref hy, .int iS, .int rmb, .int eA, .int fA, .ref tx, .int tyd, .ref li, .int ldd, .int thr, .int (nI ln), .int (nI (sr + 8)), .int (nI (sr + 8)), .int (nI (c + 1)), .ref nmb])), (tx, .inl (gI G, 60, .inl τ)), (nmb, .inl (gI G, 120, .inl (upd (upd μ (4 * c) (nI 6)) ((4 * c) + 1) (nI 0))))] rfl ?_
                refine V.iload_n hC (x := nI 6) dX13_readsCommand_84 rfl ?_
                refine V.ifN_eq hC 6 94 dX13_readsCommand_85 rfl rfl (by omega) (fun c_85 => ?_) (fun c_85 => ?_)
                · exact absurd c_85 (by decide)
                · refine V.iload_n hC (x := nI 6) dX13_readsCommand_88 rfl ?_
                  refine V.bipush hC 7 dX13_readsCommand_89 rfl ?_
                  refine V.icmpN_ne hC 6 7 95 dX13_readsCommand_91 rfl rfl rfl (by omega) (by omega) (fun c_91 => ?_) (fun c_91 => ?_)
                  · refine V.aload_n hC (x := m) dX13_readsCommand_95 rfl ?_
                    refine V.callV (n := 0) (As := []) (rest := []) hC (m_blankW (kl K) G m nw bf sv hy tx li nmb iS rmb eA fA tyd ldd thr (nI (c + 1)) ln (sr + 8) hln hp_w τ (sr + 8) (by omega)) SFk0 SFgo0 gX13_readsCommand_X13_blank rfl ⟨rfl, rfl⟩ (by decide +kernel) ⟨by decide, by decide, by decide, by decide⟩ [0, 1] rfl (by decide) (fun _ => rfl) rfl rfl rfl rfl (Nat.le_of_ble_eq_true rfl) dX13_readsCommand_96 (fun r_96 u_96 hp_96 => ?_)
                    show V G K 4 0 0 99 [some (.ref m), some (.int (nI (4 * c))), some (.int (nI 6)), some (.int 1)] [] [(m, .inr (13, [.ref nw, .ref bf, .ref sv, .ref hy, .int iS, .int rmb, .int eA, .int fA, .ref tx, .int tyd, .ref li, .int ldd, .int thr, .int (nI ln), .int (nI (sr + 8)), .int (nI (sr + 8)), .int (nI (c + 1)), .ref nmb])), (tx, .inl (gI G, 60, .inl τ)), (nmb, .inl (gI G, 120, .inl (upd (upd μ (4 * c) (nI 6)) ((4 * c) + 1) (nI 0))))]
                    refine V.aload_n hC (x := m) dX13_readsCommand_99 rfl ?_
                    refine V.getf hC (T := TX13) q0_ 17 q2_ rfl (0) rfl rfl (by decide) (.ref nmb) rfl dX13_readsCommand_100 ?_
                    refine V.iload_n hC (x := nI (4 * c)) dX13_readsCommand_103 rfl ?_
                    refine V.iconst hC 2 dX13_readsCommand_104 rfl ?_
                    refine V.iaddN hC (4 * c) 2 dX13_readsCommand_105 rfl rfl ?_
                    refine V.iload_n hC (x := nI 6) dX13_readsCommand_106 rfl ?_
                    refine V.iconst hC 1 dX13_readsCommand_107 rfl ?_
                    refine V.icmpN_eq hC 6 1 116 dX13_readsCommand_108 rfl rfl rfl (by omega) (by omega) (fun c_108 => ?_) (fun c_108 => ?_)
                    · exact absurd c_108 (by decide)
                    · refine V.iload_n hC (x := nI 6) dX13_readsCommand_111 rfl ?_
                      refine V.iconst hC 2 dX13_readsCommand_112 rfl ?_
                      refine V.icmpN_ne hC 6 2 123 dX13_readsCommand_113 rfl rfl rfl (by omega) (by omega) (fun c_113 => ?_) (fun c_113 => ?_)
                      · refine V.aload_n hC (x := m) dX13_readsCommand_123 rfl ?_
                        refine V.callV (n := 0) (As := []) (rest := [.int (nI ((4 * c) + 2)), .ref nmb]) hC (m_numberW (kl K) G m nw bf sv hy tx li nmb iS rmb eA fA tyd ldd thr (nI (c + 1)) ln (sr + 8) hln hp_w τ (sr + 8) (by omega)) SFk0 SFgo0 gX13_readsCommand_X13_number rfl ⟨rfl, rfl⟩ (by decide +kernel) ⟨by decide, by decide, by decide, by decide⟩ [0, 1] rfl (by decide) (fun _ => rfl) rfl rfl rfl rfl (Nat.le_of_ble_eq_true rfl) dX13_readsCommand_124 (fun r_124 u_124 hp_124 => ?_)
                        subst hp_124
                        show V G K 4 0 0 127 [some (.ref m), some (.int (nI (4 * c))), some (.int (nI 6)), some (.int 1)] [.int (nI 0), .int (nI ((4 * c) + 2)), .ref nmb] [(m, .inr (13, [.ref nw, .ref bf, .ref sv, .ref hy, .int iS, .int rmb, .int eA, .int fA, .ref tx, .int tyd, .ref li, .int ldd, .int thr, .int (nI ln), .int (nI (sr + 8)), .int (nI (sr + 8)), .int (nI (c + 1)), .ref nmb])), (tx, .inl (gI G, 60, .inl τ)), (nmb, .inl (gI G, 120, .inl (upd (upd μ (4 * c) (nI 6)) ((4 * c) + 1) (nI 0))))]
                        refine V.iast hC dX13_readsCommand_127 (2) rfl ((4 * c) + 2) rfl (by omega) (by decide) [(m, .inr (13, [.ref nw, .ref bf, .ref sv, .ref hy, .int iS, .int rmb, .int eA, .int fA, .ref tx, .int tyd, .ref li, .int ldd, .int thr, .int (nI ln), .int (nI (sr + 8)), .int (nI (sr + 8)), .int (nI (c + 1)), .ref nmb])), (tx, .inl (gI G, 60, .inl τ)), (nmb, .inl (gI G, 120, .inl (upd (upd (upd μ (4 * c) (nI 6)) ((4 * c) + 1) (nI 0)) ((4 * c) + 2) (nI 0))))] rfl ?_
                        refine V.iload_n hC (x := nI 6) dX13_readsCommand_128 rfl ?_
                        refine V.iconst hC 2 dX13_readsCommand_129 rfl ?_
                        refine V.icmpN_eq hC 6 2 138 dX13_readsCommand_130 rfl rfl rfl (by omega) (by omega) (fun c_130 => ?_) (fun c_130 => ?_)
                        · exact absurd c_130 (by decide)
                        · refine V.iload_n hC (x := nI 6) dX13_readsCommand_133 rfl ?_
                          refine V.iconst hC 4 dX13_readsCommand_134 rfl ?_
                          refine V.icmpN_ne hC 6 4 154 dX13_readsCommand_135 rfl rfl rfl (by omega) (by omega) (fun c_135 => ?_) (fun c_135 => ?_)
                          · have hL : ∀ z, z < 4 * c → (upd (upd (upd μ (4 * c) (nI 6)) ((4 * c) + 1) (nI 0)) ((4 * c) + 2) (nI 0)) z = μ z := fun z hz => (pk_un (by omega)).trans ((pk_un (by omega)).trans ((pk_un (by omega)).trans (rfl)))
                            have hB : sr + 8 ≤ 60 := by omega
                            exact hE 154 _ (sr + 8, nI (sr + 8), upd (upd (upd μ (4 * c) (nI 6)) ((4 * c) + 1) (nI 0)) ((4 * c) + 2) (nI 0)) dX13_readsCommand_154 (Or.inr ⟨(rd_no hk8 hF (by omega)).1, congrArg nI (rd_no hk8 hF (by omega)).2.symm, hB, hL⟩)
                          · exact absurd c_135 (by decide)
                      · exact absurd c_113 (by decide)
                  · exact absurd c_91 (by decide)
              · refine V.callV (n := 0) (As := []) (rest := [.int (nI ((4 * c) + 1)), .ref nmb]) hC (m_numberY (kl K) G m nw bf sv hy tx li nmb iS rmb eA fA tyd ldd thr (nI (c + 1)) ln (sr + 8) hln hp_w τ hd_73) SFk0 SFgo0 gX13_readsCommand_X13_number rfl ⟨rfl, rfl⟩ (by decide +kernel) ⟨by decide, by decide, by decide, by decide⟩ [0, 1] rfl (by decide) (fun _ => rfl) rfl rfl rfl rfl (Nat.le_of_ble_eq_true rfl) dX13_readsCommand_73 (fun r_73 u_73 hp_73 => ?_)
                obtain ⟨hr_73, hu_73, hl_73⟩ := hp_73
                have hs_73 := hs_n hs0 (by decide) hd_73 hr_73 hu_73
                have hg_73 : sr + 8 ≤ u_73 := by omega
                show V G K 4 0 0 76 [some (.ref m), some (.int (nI (4 * c))), some (.int (nI 6)), some (.int 1)] [.int r_73, .int (nI ((4 * c) + 1)), .ref nmb] [(m, .inr (13, [.ref nw, .ref bf, .ref sv, .ref hy, .int iS, .int rmb, .int eA, .int fA, .ref tx, .int tyd, .ref li, .int ldd, .int thr, .int (nI ln), .int (nI u_73), .int (-1), .int (nI (c + 1)), .ref nmb])), (tx, .inl (gI G, 60, .inl τ)), (nmb, .inl (gI G, 120, .inl (upd μ (4 * c) (nI 6))))]
                refine V.goto hC 83 dX13_readsCommand_76 rfl ?_
                refine V.iast hC dX13_readsCommand_83 (2) rfl ((4 * c) + 1) rfl (by omega) (by decide) [(m, .inr (13, [.ref nw, .ref bf, .ref sv, .ref hy, .int iS, .int rmb, .int eA, .int fA, .ref tx, .int tyd, .ref li, .int ldd, .int thr, .int (nI ln), .int (nI u_73), .int (-1), .int (nI (c + 1)), .ref nmb])), (tx, .inl (gI G, 60, .inl τ)), (nmb, .inl (gI G, 120, .inl (upd (upd μ (4 * c) (nI 6)) ((4 * c) + 1) r_73)))] rfl ?_
                refine V.iload_n hC (x := nI 6) dX13_readsCommand_84 rfl ?_
                refine V.ifN_eq hC 6 94 dX13_readsCommand_85 rfl rfl (by omega) (fun c_85 => ?_) (fun c_85 => ?_)
                · exact absurd c_85 (by decide)
                · refine V.iload_n hC (x := nI 6) dX13_readsCommand_88 rfl ?_
                  refine V.bipush hC 7 dX13_readsCommand_89 rfl ?_
                  refine V.icmpN_ne hC 6 7 95 dX13_readsCommand_91 rfl rfl rfl (by omega) (by omega) (fun c_91 => ?_) (fun c_91 => ?_)
                  · refine V.aload_n hC (x := m) dX13_readsCommand_95 rfl ?_
                    by_cases hd_96 : sgn τ ln u_73 = nI 32
                    · have hs_96 := hs_c hs_73 (c := 32) (by decide) (by decide) (by decide) hd_96
                      have hl_96 : u_73 < ln := sgn_lt (fun z => by rw [hd_96] at z; exact absurd z (by decide))
                      refine V.callV (n := 0) (As := []) (rest := []) hC (m_blankY (kl K) G m nw bf sv hy tx li nmb iS rmb eA fA tyd ldd thr (nI (c + 1)) ln u_73 hln hl_73 τ (sg32.mpr hd_96) hl_96) SFk0 SFgo0 gX13_readsCommand_X13_blank rfl ⟨rfl, rfl⟩ (by decide +kernel) ⟨by decide, by decide, by decide, by decide⟩ [0, 1] rfl (by decide) (fun _ => rfl) rfl rfl rfl rfl (Nat.le_of_ble_eq_true rfl) dX13_readsCommand_96 (fun r_96 u_96 hp_96 => ?_)
                      show V G K 4 0 0 99 [some (.ref m), some (.int (nI (4 * c))), some (.int (nI 6)), some (.int 1)] [] [(m, .inr (13, [.ref nw, .ref bf, .ref sv, .ref hy, .int iS, .int rmb, .int eA, .int fA, .ref tx, .int tyd, .ref li, .int ldd, .int thr, .int (nI ln), .int (nI (u_73 + 1)), .int (-1), .int (nI (c + 1)), .ref nmb])), (tx, .inl (gI G, 60, .inl τ)), (nmb, .inl (gI G, 120, .inl (upd (upd μ (4 * c) (nI 6)) ((4 * c) + 1) r_73)))]
                      refine V.aload_n hC (x := m) dX13_readsCommand_99 rfl ?_
                      refine V.getf hC (T := TX13) q0_ 17 q2_ rfl (0) rfl rfl (by decide) (.ref nmb) rfl dX13_readsCommand_100 ?_
                      refine V.iload_n hC (x := nI (4 * c)) dX13_readsCommand_103 rfl ?_
                      refine V.iconst hC 2 dX13_readsCommand_104 rfl ?_
                      refine V.iaddN hC (4 * c) 2 dX13_readsCommand_105 rfl rfl ?_
                      refine V.iload_n hC (x := nI 6) dX13_readsCommand_106 rfl ?_
                      refine V.iconst hC 1 dX13_readsCommand_107 rfl ?_
                      refine V.icmpN_eq hC 6 1 116 dX13_readsCommand_108 rfl rfl rfl (by omega) (by omega) (fun c_108 => ?_) (fun c_108 => ?_)
                      · exact absurd c_108 (by decide)
                      · refine V.iload_n hC (x := nI 6) dX13_readsCommand_111 rfl ?_
                        refine V.iconst hC 2 dX13_readsCommand_112 rfl ?_
                        refine V.icmpN_ne hC 6 2 123 dX13_readsCommand_113 rfl rfl rfl (by omega) (by omega) (fun c_113 => ?_) (fun c_113 => ?_)
                        · refine V.aload_n hC (x := m) dX13_readsCommand_123 rfl ?_
                          by_cases hd_124 : dct τ ln (u_73 + 1) 2 = 0
                          · have hF := hk_0 (n := 11) (by decide) (hf_n hs_96 (by decide) hd_124 (by decide))
                            refine V.callV (n := 0) (As := []) (rest := [.int (nI ((4 * c) + 2)), .ref nmb]) hC (m_numberN (kl K) G m nw bf sv hy tx li nmb iS rmb eA fA tyd ldd thr (nI (c + 1)) ln (u_73 + 1) hln hl_96 τ hd_124) SFk0 SFgo0 gX13_readsCommand_X13_number rfl ⟨rfl, rfl⟩ (by decide +kernel) ⟨by decide, by decide, by decide, by decide⟩ [0, 1] rfl (by decide) (fun _ => rfl) rfl rfl rfl rfl (Nat.le_of_ble_eq_true rfl) dX13_readsCommand_124 (fun r_124 u_124 hp_124 => ?_)
                            subst hp_124
                            show V G K 4 0 0 127 [some (.ref m), some (.int (nI (4 * c))), some (.int (nI 6)), some (.int 1)] [.int (nI 0), .int (nI ((4 * c) + 2)), .ref nmb] [(m, .inr (13, [.ref nw, .ref bf, .ref sv, .ref hy, .int iS, .int rmb, .int eA, .int fA, .ref tx, .int tyd, .ref li, .int ldd, .int thr, .int (nI ln), .int (nI (u_73 + 1)), .int (nI (u_73 + 1)), .int (nI (c + 1)), .ref nmb])), (tx, .inl (gI G, 60, .inl τ)), (nmb, .inl (gI G, 120, .inl (upd (upd μ (4 * c) (nI 6)) ((4 * c) + 1) r_73)))]
                            refine V.iast hC dX13_readsCommand_127 (2) rfl ((4 * c) + 2) rfl (by omega) (by decide) [(m, .inr (13, [.ref nw, .ref bf, .ref sv, .ref hy, .int iS, .int rmb, .int eA, .int fA, .ref tx, .int tyd, .ref li, .int ldd, .int thr, .int (nI ln), .int (nI (u_73 + 1)), .int (nI (u_73 + 1)), .int (nI (c + 1)), .ref nmb])), (tx, .inl (gI G, 60, .inl τ)), (nmb, .inl (gI G, 120, .inl (upd (upd (upd μ (4 * c) (nI 6)) ((4 * c) + 1) r_73) ((4 * c) + 2) (nI 0))))] rfl ?_
                            refine V.iload_n hC (x := nI 6) dX13_readsCommand_128 rfl ?_
                            refine V.iconst hC 2 dX13_readsCommand_129 rfl ?_
                            refine V.icmpN_eq hC 6 2 138 dX13_readsCommand_130 rfl rfl rfl (by omega) (by omega) (fun c_130 => ?_) (fun c_130 => ?_)
                            · exact absurd c_130 (by decide)
                            · refine V.iload_n hC (x := nI 6) dX13_readsCommand_133 rfl ?_
                              refine V.iconst hC 4 dX13_readsCommand_134 rfl ?_
                              refine V.icmpN_ne hC 6 4 154 dX13_readsCommand_135 rfl rfl rfl (by omega) (by omega) (fun c_135 => ?_) (fun c_135 => ?_)
                              · have hL : ∀ z, z < 4 * c → (upd (upd (upd μ (4 * c) (nI 6)) ((4 * c) + 1) r_73) ((4 * c) + 2) (nI 0)) z = μ z := fun z hz => (pk_un (by omega)).trans ((pk_un (by omega)).trans ((pk_un (by omega)).trans (rfl)))
                                have hB : u_73 + 1 ≤ 60 := by omega
                                exact hE 154 _ (u_73 + 1, nI (u_73 + 1), upd (upd (upd μ (4 * c) (nI 6)) ((4 * c) + 1) r_73) ((4 * c) + 2) (nI 0)) dX13_readsCommand_154 (Or.inr ⟨(rd_no hk8 hF (by omega)).1, congrArg nI (rd_no hk8 hF (by omega)).2.symm, hB, hL⟩)
                              · exact absurd c_135 (by decide)
                          · refine V.callV (n := 0) (As := []) (rest := [.int (nI ((4 * c) + 2)), .ref nmb]) hC (m_numberY (kl K) G m nw bf sv hy tx li nmb iS rmb eA fA tyd ldd thr (nI (c + 1)) ln (u_73 + 1) hln hl_96 τ hd_124) SFk0 SFgo0 gX13_readsCommand_X13_number rfl ⟨rfl, rfl⟩ (by decide +kernel) ⟨by decide, by decide, by decide, by decide⟩ [0, 1] rfl (by decide) (fun _ => rfl) rfl rfl rfl rfl (Nat.le_of_ble_eq_true rfl) dX13_readsCommand_124 (fun r_124 u_124 hp_124 => ?_)
                            obtain ⟨hr_124, hu_124, hl_124⟩ := hp_124
                            have hs_124 := hs_n hs_96 (by decide) hd_124 hr_124 hu_124
                            have hg_124 : u_73 + 1 ≤ u_124 := by omega
                            show V G K 4 0 0 127 [some (.ref m), some (.int (nI (4 * c))), some (.int (nI 6)), some (.int 1)] [.int r_124, .int (nI ((4 * c) + 2)), .ref nmb] [(m, .inr (13, [.ref nw, .ref bf, .ref sv, .ref hy, .int iS, .int rmb, .int eA, .int fA, .ref tx, .int tyd, .ref li, .int ldd, .int thr, .int (nI ln), .int (nI u_124), .int (-1), .int (nI (c + 1)), .ref nmb])), (tx, .inl (gI G, 60, .inl τ)), (nmb, .inl (gI G, 120, .inl (upd (upd μ (4 * c) (nI 6)) ((4 * c) + 1) r_73)))]
                            refine V.iast hC dX13_readsCommand_127 (2) rfl ((4 * c) + 2) rfl (by omega) (by decide) [(m, .inr (13, [.ref nw, .ref bf, .ref sv, .ref hy, .int iS, .int rmb, .int eA, .int fA, .ref tx, .int tyd, .ref li, .int ldd, .int thr, .int (nI ln), .int (nI u_124), .int (-1), .int (nI (c + 1)), .ref nmb])), (tx, .inl (gI G, 60, .inl τ)), (nmb, .inl (gI G, 120, .inl (upd (upd (upd μ (4 * c) (nI 6)) ((4 * c) + 1) r_73) ((4 * c) + 2) r_124)))] rfl ?_
                            refine V.iload_n hC (x := nI 6) dX13_readsCommand_128 rfl ?_
                            refine V.iconst hC 2 dX13_readsCommand_129 rfl ?_
                            refine V.icmpN_eq hC 6 2 138 dX13_readsCommand_130 rfl rfl rfl (by omega) (by omega) (fun c_130 => ?_) (fun c_130 => ?_)
                            · exact absurd c_130 (by decide)
                            · refine V.iload_n hC (x := nI 6) dX13_readsCommand_133 rfl ?_
                              refine V.iconst hC 4 dX13_readsCommand_134 rfl ?_
                              refine V.icmpN_ne hC 6 4 154 dX13_readsCommand_135 rfl rfl rfl (by omega) (by omega) (fun c_135 => ?_) (fun c_135 => ?_)
                              · have hL : ∀ z, z < 4 * c → (upd (upd (upd μ (4 * c) (nI 6)) ((4 * c) + 1) r_73) ((4 * c) + 2) r_124) z = μ z := fun z hz => (pk_un (by omega)).trans ((pk_un (by omega)).trans ((pk_un (by omega)).trans (rfl)))
                                have hB : u_124 ≤ 60 := by omega
                                have hK : (upd (upd (upd μ (4 * c) (nI 6)) ((4 * c) + 1) r_73) ((4 * c) + 2) r_124) (4 * c) = nI 6 := (pk_un (by omega)).trans ((pk_un (by omega)).trans (pk_us))
                                have hJ : ∀ j, j < nar 6 → (upd (upd (upd μ (4 * c) (nI 6)) ((4 * c) + 1) r_73) ((4 * c) + 2) r_124) (4 * c + 1 + j) = agx τ ln sr 6 j := by
                                  intro j hj
                                  have hj2 : j < 2 := hj
                                  obtain rfl | rfl : j = 0 ∨ j = 1 := by omega
                                  · exact ((pk_un (by omega)).trans (pk_us)).trans ((agx_in (n := 11) (by decide) hs_124 (by decide)).trans ((pk_un (by decide)).trans (pk_us))).symm
                                  · exact (pk_us).trans ((agx_in (n := 11) (by decide) hs_124 (by decide)).trans (pk_us)).symm
                                exact hE 154 _ (u_124, -1, upd (upd (upd μ (4 * c) (nI 6)) ((4 * c) + 1) r_73) ((4 * c) + 2) r_124) dX13_readsCommand_154 (Or.inl ⟨6, rd_yes hk8 (hk_1 (n := 11) (by decide) hs_124).1, (hk_1 (n := 11) (by decide) hs_124).2.symm, rfl, ⟨hK, hJ, fun j hj => agx_out (n := 11) (by decide) hs_124 hj⟩, hL⟩)
                              · exact absurd c_135 (by decide)
                        · exact absurd c_113 (by decide)
                    · have hF := hk_0 (n := 11) (by decide) (hf_c hs_73 (c := 32) (by decide) (by decide) (by decide) hd_96 (by decide))
                      refine V.callV (n := 0) (As := []) (rest := []) hC (m_blankN (kl K) G m nw bf sv hy tx li nmb iS rmb eA fA tyd ldd thr (nI (c + 1)) ln u_73 hln hl_73 τ (fun q => hd_96 (sg32.mp q))) SFk0 SFgo0 gX13_readsCommand_X13_blank rfl ⟨rfl, rfl⟩ (by decide +kernel) ⟨by decide, by decide, by decide, by decide⟩ [0, 1] rfl (by decide) (fun _ => rfl) rfl rfl rfl rfl (Nat.le_of_ble_eq_true rfl) dX13_readsCommand_96 (fun r_96 u_96 hp_96 => ?_)
                      show V G K 4 0 0 99 [some (.ref m), some (.int (nI (4 * c))), some (.int (nI 6)), some (.int 1)] [] [(m, .inr (13, [.ref nw, .ref bf, .ref sv, .ref hy, .int iS, .int rmb, .int eA, .int fA, .ref tx, .int tyd, .ref li, .int ldd, .int thr, .int (nI ln), .int (nI u_73), .int (nI u_73), .int (nI (c + 1)), .ref nmb])), (tx, .inl (gI G, 60, .inl τ)), (nmb, .inl (gI G, 120, .inl (upd (upd μ (4 * c) (nI 6)) ((4 * c) + 1) r_73)))]
                      refine V.aload_n hC (x := m) dX13_readsCommand_99 rfl ?_
                      refine V.getf hC (T := TX13) q0_ 17 q2_ rfl (0) rfl rfl (by decide) (.ref nmb) rfl dX13_readsCommand_100 ?_
                      refine V.iload_n hC (x := nI (4 * c)) dX13_readsCommand_103 rfl ?_
                      refine V.iconst hC 2 dX13_readsCommand_104 rfl ?_
                      refine V.iaddN hC (4 * c) 2 dX13_readsCommand_105 rfl rfl ?_
                      refine V.iload_n hC (x := nI 6) dX13_readsCommand_106 rfl ?_
                      refine V.iconst hC 1 dX13_readsCommand_107 rfl ?_
                      refine V.icmpN_eq hC 6 1 116 dX13_readsCommand_108 rfl rfl rfl (by omega) (by omega) (fun c_108 => ?_) (fun c_108 => ?_)
                      · exact absurd c_108 (by decide)
                      · refine V.iload_n hC (x := nI 6) dX13_readsCommand_111 rfl ?_
                        refine V.iconst hC 2 dX13_readsCommand_112 rfl ?_
                        refine V.icmpN_ne hC 6 2 123 dX13_readsCommand_113 rfl rfl rfl (by omega) (by omega) (fun c_113 => ?_) (fun c_113 => ?_)
                        · refine V.aload_n hC (x := m) dX13_readsCommand_123 rfl ?_
                          refine V.callV (n := 0) (As := []) (rest := [.int (nI ((4 * c) + 2)), .ref nmb]) hC (m_numberW (kl K) G m nw bf sv hy tx li nmb iS rmb eA fA tyd ldd thr (nI (c + 1)) ln u_73 hln hl_73 τ u_73 (by omega)) SFk0 SFgo0 gX13_readsCommand_X13_number rfl ⟨rfl, rfl⟩ (by decide +kernel) ⟨by decide, by decide, by decide, by decide⟩ [0, 1] rfl (by decide) (fun _ => rfl) rfl rfl rfl rfl (Nat.le_of_ble_eq_true rfl) dX13_readsCommand_124 (fun r_124 u_124 hp_124 => ?_)
                          subst hp_124
                          show V G K 4 0 0 127 [some (.ref m), some (.int (nI (4 * c))), some (.int (nI 6)), some (.int 1)] [.int (nI 0), .int (nI ((4 * c) + 2)), .ref nmb] [(m, .inr (13, [.ref nw, .ref bf, .ref sv, .ref hy, .int iS, .int rmb, .int eA, .int fA, .ref tx, .int tyd, .ref li, .int ldd, .int thr, .int (nI ln), .int (nI u_73), .int (nI u_73), .int (nI (c + 1)), .ref nmb])), (tx, .inl (gI G, 60, .inl τ)), (nmb, .inl (gI G, 120, .inl (upd (upd μ (4 * c) (nI 6)) ((4 * c) + 1) r_73)))]
                          refine V.iast hC dX13_readsCommand_127 (2) rfl ((4 * c) + 2) rfl (by omega) (by decide) [(m, .inr (13, [.ref nw, .ref bf, .ref sv, .ref hy, .int iS, .int rmb, .int eA, .int fA, .ref tx, .int tyd, .ref li, .int ldd, .int thr, .int (nI ln), .int (nI u_73), .int (nI u_73), .int (nI (c + 1)), .ref nmb])), (tx, .inl (gI G, 60, .inl τ)), (nmb, .inl (gI G, 120, .inl (upd (upd (upd μ (4 * c) (nI 6)) ((4 * c) + 1) r_73) ((4 * c) + 2) (nI 0))))] rfl ?_
                          refine V.iload_n hC (x := nI 6) dX13_readsCommand_128 rfl ?_
                          refine V.iconst hC 2 dX13_readsCommand_129 rfl ?_
                          refine V.icmpN_eq hC 6 2 138 dX13_readsCommand_130 rfl rfl rfl (by omega) (by omega) (fun c_130 => ?_) (fun c_130 => ?_)
                          · exact absurd c_130 (by decide)
                          · refine V.iload_n hC (x := nI 6) dX13_readsCommand_133 rfl ?_
                            refine V.iconst hC 4 dX13_readsCommand_134 rfl ?_
                            refine V.icmpN_ne hC 6 4 154 dX13_readsCommand_135 rfl rfl rfl (by omega) (by omega) (fun c_135 => ?_) (fun c_135 => ?_)
                            · have hL : ∀ z, z < 4 * c → (upd (upd (upd μ (4 * c) (nI 6)) ((4 * c) + 1) r_73) ((4 * c) + 2) (nI 0)) z = μ z := fun z hz => (pk_un (by omega)).trans ((pk_un (by omega)).trans ((pk_un (by omega)).trans (rfl)))
                              have hB : u_73 ≤ 60 := by omega
                              exact hE 154 _ (u_73, nI u_73, upd (upd (upd μ (4 * c) (nI 6)) ((4 * c) + 1) r_73) ((4 * c) + 2) (nI 0)) dX13_readsCommand_154 (Or.inr ⟨(rd_no hk8 hF (by omega)).1, congrArg nI (rd_no hk8 hF (by omega)).2.symm, hB, hL⟩)
                            · exact absurd c_135 (by decide)
                        · exact absurd c_113 (by decide)
                  · exact absurd c_91 (by decide)
          · exact absurd c_46 (by decide)
      · exact absurd rfl c_34
    · have hs0 := hk_yes (by decide) hks.2
      rw [wl_v.2.2.2.2.2.2.2] at hu1 hs0
      refine V.eqw (ws' := [(m, .inr (13, [.ref nw, .ref bf, .ref sv, .ref hy, .int iS, .int rmb, .int eA, .int fA, .ref tx, .int tyd, .ref li, .int ldd, .int thr, .int (nI ln), .int (nI (sr + 7)), .int (-1), .int (nI c), .ref nmb])), (tx, .inl (gI G, 60, .inl τ)), (nmb, .inl (gI G, 120, .inl μ))]) (by rw [hu1, hu2]; rfl) ?_
      have hp_w : sr + 7 ≤ ln := by have := hfm_ln (tf := τ) (ln := ln) (sr := sr) (af := fun _ => 0) (i := 7) hsr (fun j => chr_m1 7 (by decide) j) 7; rw [hs0] at this; exact this
      refine V.istore_n hC dX13_readsCommand_11 [some (.ref m), some (.int (nI (4 * c))), some (.int (nI 7)), none] (Nat.le_of_ble_eq_true rfl) rfl ?_
      refine V.aload_n hC (x := m) dX13_readsCommand_12 rfl ?_
      refine V.getf hC (T := TX13) q0_ 17 q2_ rfl (0) rfl rfl (by decide) (.ref nmb) rfl dX13_readsCommand_13 ?_
      refine V.iload_n hC (x := nI (4 * c)) dX13_readsCommand_16 rfl ?_
      refine V.iload_n hC (x := nI 7) dX13_readsCommand_17 rfl ?_
      refine V.iast hC dX13_readsCommand_18 (2) rfl (4 * c) rfl (by omega) (by decide) [(m, .inr (13, [.ref nw, .ref bf, .ref sv, .ref hy, .int iS, .int rmb, .int eA, .int fA, .ref tx, .int tyd, .ref li, .int ldd, .int thr, .int (nI ln), .int (nI (sr + 7)), .int (-1), .int (nI c), .ref nmb])), (tx, .inl (gI G, 60, .inl τ)), (nmb, .inl (gI G, 120, .inl (upd μ (4 * c) (nI 7))))] rfl ?_
      refine V.aload_n hC (x := m) dX13_readsCommand_19 rfl ?_
      refine V.dup hC dX13_readsCommand_20 rfl ?_
      refine V.getf hC (T := TX13) q0_ 16 q1_ rfl (0) rfl rfl (by decide) (.int (nI c)) rfl dX13_readsCommand_21 ?_
      refine V.iconst hC 1 dX13_readsCommand_24 rfl ?_
      refine V.iaddN hC c 1 dX13_readsCommand_25 rfl rfl ?_
      refine V.putf hC (T := TX13) q0_ tyX13 tyX13_ok nmX13 16 q1_ rfl rfl (0) rfl rfl (by decide) (by simp) rfl rfl dX13_readsCommand_26 [(m, .inr (13, [.ref nw, .ref bf, .ref sv, .ref hy, .int iS, .int rmb, .int eA, .int fA, .ref tx, .int tyd, .ref li, .int ldd, .int thr, .int (nI ln), .int (nI (sr + 7)), .int (-1), .int (nI (c + 1)), .ref nmb])), (tx, .inl (gI G, 60, .inl τ)), (nmb, .inl (gI G, 120, .inl (upd μ (4 * c) (nI 7))))] rfl ?_
      refine V.aload_n hC (x := m) dX13_readsCommand_29 rfl ?_
      refine V.getf hC (T := TX13) q0_ 15 q3_ rfl (0) rfl rfl (by decide) (.int (-1)) rfl dX13_readsCommand_30 ?_
      refine V.iconst hC (-1) dX13_readsCommand_33 rfl ?_
      refine V.icmp_eq hC 38 dX13_readsCommand_34 rfl (fun c_34 => ?_) (fun c_34 => ?_)
      · refine V.iload_n hC (x := nI 7) dX13_readsCommand_38 rfl ?_
        refine V.iconst hC 2 dX13_readsCommand_39 rfl ?_
        refine V.icmpN_eq hC 7 2 55 dX13_readsCommand_40 rfl rfl rfl (by omega) (by omega) (fun c_40 => ?_) (fun c_40 => ?_)
        · exact absurd c_40 (by decide)
        · refine V.iload_n hC (x := nI 7) dX13_readsCommand_43 rfl ?_
          refine V.bipush hC 6 dX13_readsCommand_44 rfl ?_
          refine V.icmpN_eq hC 7 6 55 dX13_readsCommand_46 rfl rfl rfl (by omega) (by omega) (fun c_46 => ?_) (fun c_46 => ?_)
          · exact absurd c_46 (by decide)
          · refine V.iload_n hC (x := nI 7) dX13_readsCommand_49 rfl ?_
            refine V.bipush hC 7 dX13_readsCommand_50 rfl ?_
            refine V.icmpN_ne hC 7 7 59 dX13_readsCommand_52 rfl rfl rfl (by omega) (by omega) (fun c_52 => ?_) (fun c_52 => ?_)
            · exact absurd c_52 (by decide)
            · refine V.iconst hC 1 dX13_readsCommand_55 rfl ?_
              refine V.goto hC 60 dX13_readsCommand_56 rfl ?_
              refine V.istore_n hC dX13_readsCommand_60 [some (.ref m), some (.int (nI (4 * c))), some (.int (nI 7)), some (.int 1)] (Nat.le_of_ble_eq_true rfl) rfl ?_
              refine V.aload_n hC (x := m) dX13_readsCommand_61 rfl ?_
              refine V.getf hC (T := TX13) q0_ 17 q2_ rfl (0) rfl rfl (by decide) (.ref nmb) rfl dX13_readsCommand_62 ?_
              refine V.iload_n hC (x := nI (4 * c)) dX13_readsCommand_65 rfl ?_
              refine V.iconst hC 1 dX13_readsCommand_66 rfl ?_
              refine V.iaddN hC (4 * c) 1 dX13_readsCommand_67 rfl rfl ?_
              refine V.iload_n hC (x := 1) dX13_readsCommand_68 rfl ?_
              refine V.ifN_eq hC 1 79 dX13_readsCommand_69 rfl rfl (by omega) (fun c_69 => ?_) (fun c_69 => ?_)
              · exact absurd c_69 (by decide)
              · refine V.aload_n hC (x := m) dX13_readsCommand_72 rfl ?_
                by_cases hd_73 : dct τ ln (sr + 7) 2 = 0
                · have hF := hk_0 (n := 8) (by decide) (hf_n hs0 (by decide) hd_73 (by decide))
                  refine V.callV (n := 0) (As := []) (rest := [.int (nI ((4 * c) + 1)), .ref nmb]) hC (m_numberN (kl K) G m nw bf sv hy tx li nmb iS rmb eA fA tyd ldd thr (nI (c + 1)) ln (sr + 7) hln hp_w τ hd_73) SFk0 SFgo0 gX13_readsCommand_X13_number rfl ⟨rfl, rfl⟩ (by decide +kernel) ⟨by decide, by decide, by decide, by decide⟩ [0, 1] rfl (by decide) (fun _ => rfl) rfl rfl rfl rfl (Nat.le_of_ble_eq_true rfl) dX13_readsCommand_73 (fun r_73 u_73 hp_73 => ?_)
                  subst hp_73
                  show V G K 4 0 0 76 [some (.ref m), some (.int (nI (4 * c))), some (.int (nI 7)), some (.int 1)] [.int (nI 0), .int (nI ((4 * c) + 1)), .ref nmb] [(m, .inr (13, [.ref nw, .ref bf, .ref sv, .ref hy, .int iS, .int rmb, .int eA, .int fA, .ref tx, .int tyd, .ref li, .int ldd, .int thr, .int (nI ln), .int (nI (sr + 7)), .int (nI (sr + 7)), .int (nI (c + 1)), .ref nmb])), (tx, .inl (gI G, 60, .inl τ)), (nmb, .inl (gI G, 120, .inl (upd μ (4 * c) (nI 7))))]
                  refine V.goto hC 83 dX13_readsCommand_76 rfl ?_
                  refine V.iast hC dX13_readsCommand_83 (2) rfl ((4 * c) + 1) rfl (by omega) (by decide) [(m, .inr (13, [.ref nw, .ref bf, .ref sv, .ref hy, .int iS, .int rmb, .int eA, .int fA, .ref tx, .int tyd, .ref li, .int ldd, .int thr, .int (nI ln), .int (nI (sr + 7)), .int (nI (sr + 7)), .int (nI (c + 1)), .ref nmb])), (tx, .inl (gI G, 60, .inl τ)), (nmb, .inl (gI G, 120, .inl (upd (upd μ (4 * c) (nI 7)) ((4 * c) + 1) (nI 0))))] rfl ?_
                  refine V.iload_n hC (x := nI 7) dX13_readsCommand_84 rfl ?_
                  refine V.ifN_eq hC 7 94 dX13_readsCommand_85 rfl rfl (by omega) (fun c_85 => ?_) (fun c_85 => ?_)
                  · exact absurd c_85 (by decide)
                  · refine V.iload_n hC (x := nI 7) dX13_readsCommand_88 rfl ?_
                    refine V.bipush hC 7 dX13_readsCommand_89 rfl ?_
                    refine V.icmpN_ne hC 7 7 95 dX13_readsCommand_91 rfl rfl rfl (by omega) (by omega) (fun c_91 => ?_) (fun c_91 => ?_)
                    · exact absurd c_91 (by decide)
                    · have hL : ∀ z, z < 4 * c → (upd (upd μ (4 * c) (nI 7)) ((4 * c) + 1) (nI 0)) z = μ z := fun z hz => (pk_un (by omega)).trans ((pk_un (by omega)).trans (rfl))
                      have hB : sr + 7 ≤ 60 := by omega
                      exact hE 94 _ (sr + 7, nI (sr + 7), upd (upd μ (4 * c) (nI 7)) ((4 * c) + 1) (nI 0)) dX13_readsCommand_94 (Or.inr ⟨(rd_no hk8 hF (by omega)).1, congrArg nI (rd_no hk8 hF (by omega)).2.symm, hB, hL⟩)
                · refine V.callV (n := 0) (As := []) (rest := [.int (nI ((4 * c) + 1)), .ref nmb]) hC (m_numberY (kl K) G m nw bf sv hy tx li nmb iS rmb eA fA tyd ldd thr (nI (c + 1)) ln (sr + 7) hln hp_w τ hd_73) SFk0 SFgo0 gX13_readsCommand_X13_number rfl ⟨rfl, rfl⟩ (by decide +kernel) ⟨by decide, by decide, by decide, by decide⟩ [0, 1] rfl (by decide) (fun _ => rfl) rfl rfl rfl rfl (Nat.le_of_ble_eq_true rfl) dX13_readsCommand_73 (fun r_73 u_73 hp_73 => ?_)
                  obtain ⟨hr_73, hu_73, hl_73⟩ := hp_73
                  have hs_73 := hs_n hs0 (by decide) hd_73 hr_73 hu_73
                  have hg_73 : sr + 7 ≤ u_73 := by omega
                  show V G K 4 0 0 76 [some (.ref m), some (.int (nI (4 * c))), some (.int (nI 7)), some (.int 1)] [.int r_73, .int (nI ((4 * c) + 1)), .ref nmb] [(m, .inr (13, [.ref nw, .ref bf, .ref sv, .ref hy, .int iS, .int rmb, .int eA, .int fA, .ref tx, .int tyd, .ref li, .int ldd, .int thr, .int (nI ln), .int (nI u_73), .int (-1), .int (nI (c + 1)), .ref nmb])), (tx, .inl (gI G, 60, .inl τ)), (nmb, .inl (gI G, 120, .inl (upd μ (4 * c) (nI 7))))]
                  refine V.goto hC 83 dX13_readsCommand_76 rfl ?_
                  refine V.iast hC dX13_readsCommand_83 (2) rfl ((4 * c) + 1) rfl (by omega) (by decide) [(m, .inr (13, [.ref nw, .ref bf, .ref sv, .ref hy, .int iS, .int rmb, .int eA, .int fA, .ref tx, .int tyd, .ref li, .int ldd, .int thr, .int (nI ln), .int (nI u_73), .int (-1), .int (nI (c + 1)), .ref nmb])), (tx, .inl (gI G, 60, .inl τ)), (nmb, .inl (gI G, 120, .inl (upd (upd μ (4 * c) (nI 7)) ((4 * c) + 1) r_73)))] rfl ?_
                  refine V.iload_n hC (x := nI 7) dX13_readsCommand_84 rfl ?_
                  refine V.ifN_eq hC 7 94 dX13_readsCommand_85 rfl rfl (by omega) (fun c_85 => ?_) (fun c_85 => ?_)
                  · exact absurd c_85 (by decide)
                  · refine V.iload_n hC (x := nI 7) dX13_readsCommand_88 rfl ?_
                    refine V.bipush hC 7 dX13_readsCommand_89 rfl ?_
                    refine V.icmpN_ne hC 7 7 95 dX13_readsCommand_91 rfl rfl rfl (by omega) (by omega) (fun c_91 => ?_) (fun c_91 => ?_)
                    · exact absurd c_91 (by decide)
                    · have hL : ∀ z, z < 4 * c → (upd (upd μ (4 * c) (nI 7)) ((4 * c) + 1) r_73) z = μ z := fun z hz => (pk_un (by omega)).trans ((pk_un (by omega)).trans (rfl))
                      have hB : u_73 ≤ 60 := by omega
                      have hK : (upd (upd μ (4 * c) (nI 7)) ((4 * c) + 1) r_73) (4 * c) = nI 7 := (pk_un (by omega)).trans (pk_us)
                      have hJ : ∀ j, j < nar 7 → (upd (upd μ (4 * c) (nI 7)) ((4 * c) + 1) r_73) (4 * c + 1 + j) = agx τ ln sr 7 j := by
                        intro j hj
                        have hj2 : j < 1 := hj
                        obtain rfl : j = 0 := by omega
                        · exact (pk_us).trans ((agx_in (n := 8) (by decide) hs_73 (by decide)).trans (pk_us)).symm
                      exact hE 94 _ (u_73, -1, upd (upd μ (4 * c) (nI 7)) ((4 * c) + 1) r_73) dX13_readsCommand_94 (Or.inl ⟨7, rd_yes hk8 (hk_1 (n := 8) (by decide) hs_73).1, (hk_1 (n := 8) (by decide) hs_73).2.symm, rfl, ⟨hK, hJ, fun j hj => agx_out (n := 8) (by decide) hs_73 hj⟩, hL⟩)
      · exact absurd rfl c_34
  · subst hr
    have hkr := wkr_le (tf := τ) (ln := ln) (sr := sr) 8 (Nat.le_refl 8)
    refine V.eqw (ws' := [(m, .inr (13, [.ref nw, .ref bf, .ref sv, .ref hy, .int iS, .int rmb, .int eA, .int fA, .ref tx, .int tyd, .ref li, .int ldd, .int thr, .int (nI ln), .int (nI sr), .int (nI (wkr τ ln sr 8)), .int (nI c), .ref nmb])), (tx, .inl (gI G, 60, .inl τ)), (nmb, .inl (gI G, 120, .inl μ))]) (by rw [hu1, hu2]; rfl) ?_
    refine V.istore_n hC dX13_readsCommand_11 [some (.ref m), some (.int (nI (4 * c))), some (.int (-1)), none] (Nat.le_of_ble_eq_true rfl) rfl ?_
    refine V.aload_n hC (x := m) dX13_readsCommand_12 rfl ?_
    refine V.getf hC (T := TX13) q0_ 17 q2_ rfl (0) rfl rfl (by decide) (.ref nmb) rfl dX13_readsCommand_13 ?_
    refine V.iload_n hC (x := nI (4 * c)) dX13_readsCommand_16 rfl ?_
    refine V.iload_n hC (x := -1) dX13_readsCommand_17 rfl ?_
    refine V.iast hC dX13_readsCommand_18 (2) rfl (4 * c) rfl (by omega) (by decide) [(m, .inr (13, [.ref nw, .ref bf, .ref sv, .ref hy, .int iS, .int rmb, .int eA, .int fA, .ref tx, .int tyd, .ref li, .int ldd, .int thr, .int (nI ln), .int (nI sr), .int (nI (wkr τ ln sr 8)), .int (nI c), .ref nmb])), (tx, .inl (gI G, 60, .inl τ)), (nmb, .inl (gI G, 120, .inl (upd μ (4 * c) (-1))))] rfl ?_
    refine V.aload_n hC (x := m) dX13_readsCommand_19 rfl ?_
    refine V.dup hC dX13_readsCommand_20 rfl ?_
    refine V.getf hC (T := TX13) q0_ 16 q1_ rfl (0) rfl rfl (by decide) (.int (nI c)) rfl dX13_readsCommand_21 ?_
    refine V.iconst hC 1 dX13_readsCommand_24 rfl ?_
    refine V.iaddN hC c 1 dX13_readsCommand_25 rfl rfl ?_
    refine V.putf hC (T := TX13) q0_ tyX13 tyX13_ok nmX13 16 q1_ rfl rfl (0) rfl rfl (by decide) (by simp) rfl rfl dX13_readsCommand_26 [(m, .inr (13, [.ref nw, .ref bf, .ref sv, .ref hy, .int iS, .int rmb, .int eA, .int fA, .ref tx, .int tyd, .ref li, .int ldd, .int thr, .int (nI ln), .int (nI sr), .int (nI (wkr τ ln sr 8)), .int (nI (c + 1)), .ref nmb])), (tx, .inl (gI G, 60, .inl τ)), (nmb, .inl (gI G, 120, .inl (upd μ (4 * c) (-1))))] rfl ?_
    refine V.aload_n hC (x := m) dX13_readsCommand_29 rfl ?_
    refine V.getf hC (T := TX13) q0_ 15 q3_ rfl (0) rfl rfl (by decide) (.int (nI (wkr τ ln sr 8))) rfl dX13_readsCommand_30 ?_
    refine V.iconst hC (-1) dX13_readsCommand_33 rfl ?_
    refine V.icmp_eq hC 38 dX13_readsCommand_34 rfl (fun c_34 => ?_) (fun c_34 => ?_)
    · exact absurd c_34 (nI_m1 (by omega))
    · have hL : ∀ z, z < 4 * c → (upd μ (4 * c) (-1)) z = μ z := fun z hz => (pk_un (by omega)).trans (rfl)
      have hB : sr ≤ 60 := by omega
      exact hE 37 _ (sr, nI (wkr τ ln sr 8), upd μ (4 * c) (-1)) dX13_readsCommand_37 (Or.inr ⟨(rd_none hk8).1, congrArg nI (rd_none hk8).2.symm, hB, hL⟩)
