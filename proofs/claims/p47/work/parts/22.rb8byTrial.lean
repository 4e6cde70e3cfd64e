/-! Rebuilder: byTrial (printed by gen/s17.py) -/
set_option maxHeartbeats 4000000 in
set_option maxRecDepth 100000 in
theorem c_byTrial (l : Launch) (G : Gx) (hr hp ap av he aw al af as_ : Nat) (ar : Nat → Nat) (E : Scr) (h a : Nat) (sh : Nat → Int32) (nu : Int32) (t : Nat) (hok : Sok E) (hS : SHok sh) (h1 : 1 ≤ t) (h4 : t ≤ 4) (k : Nat) (hk : k ≤ hc sh 8) : Ct l G SF0 yX8_valuesByTrial wsX8_valuesByTrial ({ frames := 4, cells := 0, slots := 0, locals := 93 }) [.ref hr, .ref h, .int (nI k)] ((rbW G hr hp ap av he aw al af as_ ar E) ++ [(h, .inr (10, [.ref a, .int nu, .int (nI t)])), (a, .inl (gI G, 8, .inl sh))]) mkI (fun (r : Int32) (u : Scr) => r = nI (pvc sh t k 97) ∧ Sok u) (fun u : Scr => ((rbW G hr hp ap av he aw al af as_ ar u) ++ [(h, .inr (10, [.ref a, .int nu, .int (nI t)])), (a, .inl (gI G, 8, .inl sh))])) 0 0 := by
  have hk8 := hc_le8 sh
  refine Ct.ofI (cc := cX8_valuesByTrial) (maxL := 6) (by decide) rfl ⟨by simp [Value.category], Nat.le_of_ble_eq_true rfl⟩ ?_
  intro K hl hC hSF hnm hE
  subst hl
  have q0_ : ∀ w ∈ u_ws RX8 TX8 2, w ∈ wsX8_valuesByTrial := by decide +kernel
  have q1_ : Cond.fieldLink RX8 21 "FeatherShares$Rebuilder" "equations" "LFeatherShares$Equations;" ∈ wsX8_valuesByTrial := by decide +kernel
  show V G K 6 0 0 0 [some (.ref hr), some (.ref h), some (.int (nI k)), none, none, none] [] ((rbW G hr hp ap av he aw al af as_ ar E) ++ [(h, .inr (10, [.ref a, .int nu, .int (nI t)])), (a, .inl (gI G, 8, .inl sh))])
  refine V.aload_n hC (x := h) dX8_valuesByTrial_0 rfl ?_
  refine V.iload_n hC (x := nI k) dX8_valuesByTrial_1 rfl ?_
  refine V.callVr (n := 1) (As := [.int (nI k)]) (rest := []) hC (c_firstHolders (kl K) G h a sh nu (nI t) k (by omega)) SFk0 SFgo0 gX8_valuesByTrial_X10_firstHolders rfl ⟨rfl, rfl⟩ (by decide +kernel) ⟨by decide, by decide, by decide, by decide⟩ [13, 14] rfl (by decide) rfl rfl rfl rfl (Nat.le_of_ble_eq_true rfl) dX8_valuesByTrial_2 (fun r_2 u_2 hp_2 => ?_)
  subst hp_2
  show V G K 6 0 0 5 [some (.ref hr), some (.ref h), some (.int (nI k)), none, none, none] [.int (nI (fh sh k 8))] ((rbW G hr hp ap av he aw al af as_ ar E) ++ [(h, .inr (10, [.ref a, .int nu, .int (nI t)])), (a, .inl (gI G, 8, .inl sh))])
  refine V.istore_n hC dX8_valuesByTrial_5 [some (.ref hr), some (.ref h), some (.int (nI k)), some (.int (nI (fh sh k 8))), none, none] (Nat.le_of_ble_eq_true rfl) rfl ?_
  refine V.iconst hC 0 dX8_valuesByTrial_6 rfl ?_
  refine V.istore hC dX8_valuesByTrial_7 [some (.ref hr), some (.ref h), some (.int (nI k)), some (.int (nI (fh sh k 8))), some (.int 0), none] (Nat.le_of_ble_eq_true rfl) rfl ?_
  refine V.lset 4 (x := .int 0) (y := .int (nI (pvc sh t k 0))) (congrArg Value.int (show (0 : Int32) = nI (pvc sh t k 0) by rw [pvc_0]; rfl)) rfl (lv' := [some (.ref hr), some (.ref h), some (.int (nI k)), some (.int (nI (fh sh k 8))), some (.int (nI (pvc sh t k 0))), none]) rfl ?_
  refine V.iconst hC 0 dX8_valuesByTrial_9 rfl ?_
  refine V.istore hC dX8_valuesByTrial_10 [some (.ref hr), some (.ref h), some (.int (nI k)), some (.int (nI (fh sh k 8))), some (.int (nI (pvc sh t k 0))), some (.int 0)] (Nat.le_of_ble_eq_true rfl) rfl ?_
  have loop12 : ∀ (n : Nat) (w : Nat) (F : Scr), 98 - w < n → (w ≤ 97) → (Sok F) → V G K 6 0 0 12 [some (.ref hr), some (.ref h), some (.int (nI k)), some (.int (nI (fh sh k 8))), some (.int (nI (pvc sh t k w))), some (.int (nI w))] [] ((rbW G hr hp ap av he aw al af as_ ar F) ++ [(h, .inr (10, [.ref a, .int nu, .int (nI t)])), (a, .inl (gI G, 8, .inl sh))]) := by
    intro n
    induction n with
    | zero => intro w F hlt; exact absurd hlt (Nat.not_lt_zero _)
    | succ n ih12 =>
      intro w F hlt12 hww hF
      have hpl := pvc_le sh t k w
      refine V.iload hC (x := nI w) dX8_valuesByTrial_12 rfl ?_
      refine V.bipush hC 97 dX8_valuesByTrial_14 rfl ?_
      refine V.icmpN_ge hC w 97 61 dX8_valuesByTrial_16 rfl rfl rfl (by omega) (by omega) (fun c_16 => ?_) (fun c_16 => ?_)
      · refine V.lset 4 (x := .int (nI (pvc sh t k w))) (y := .int (nI (pvc sh t k 97))) (congrArg Value.int (by rw [show w = 97 by omega])) rfl (lv' := [some (.ref hr), some (.ref h), some (.int (nI k)), some (.int (nI (fh sh k 8))), some (.int (nI (pvc sh t k 97))), some (.int (nI w))]) rfl ?_
        refine V.iload hC (x := nI (pvc sh t k 97)) dX8_valuesByTrial_61 rfl ?_
        exact hE 63 _ (nI (pvc sh t k 97)) F dX8_valuesByTrial_63 rfl ⟨rfl, hF⟩
      · refine V.aload_n hC (x := hr) dX8_valuesByTrial_19 rfl ?_
        refine V.getf hC (T := TX8) q0_ 1 q1_ rfl (0) rfl rfl (by decide) (.ref he) rfl dX8_valuesByTrial_20 ?_
        refine V.aload_n hC (x := h) dX8_valuesByTrial_23 rfl ?_
        refine V.callVr (n := 0) (As := []) (rest := [.ref he]) hC (c_need (kl K) G h a sh nu (nI t)) SFk0 SFgo0 gX8_valuesByTrial_X10_need rfl ⟨rfl, rfl⟩ (by decide +kernel) ⟨by decide, by decide, by decide, by decide⟩ [13, 14] rfl (by decide) rfl rfl rfl rfl (Nat.le_of_ble_eq_true rfl) dX8_valuesByTrial_24 (fun r_24 u_24 hp_24 => ?_)
        subst hp_24
        show V G K 6 0 0 27 [some (.ref hr), some (.ref h), some (.int (nI k)), some (.int (nI (fh sh k 8))), some (.int (nI (pvc sh t k w))), some (.int (nI w))] [.int (nI t), .ref he] ((rbW G hr hp ap av he aw al af as_ ar F) ++ [(h, .inr (10, [.ref a, .int nu, .int (nI t)])), (a, .inl (gI G, 8, .inl sh))])
        refine V.callV (n := 1) (As := [.int (nI t)]) (rest := []) hC (c_eqBegin (kl K) G he aw al af as_ ar (F.2.2.2.1) (F.2.2.2.2.1) (F.2.2.2.2.2.1) (F.2.2.2.2.2.2.1) (F.2.2.2.2.2.2.2) t h4) SFk0 SFgo0 gX8_valuesByTrial_X3_begin rfl ⟨rfl, rfl⟩ (by decide +kernel) ⟨by decide, by decide, by decide, by decide⟩ [4, 5, 6, 7, 8, 9, 10, 11, 12] rfl (by decide) (fun _ => rfl) rfl rfl rfl rfl (Nat.le_of_ble_eq_true rfl) dX8_valuesByTrial_27 (fun r_27 u_27 hp_27 => ?_)
        show V G K 6 0 0 30 [some (.ref hr), some (.ref h), some (.int (nI k)), some (.int (nI (fh sh k 8))), some (.int (nI (pvc sh t k w))), some (.int (nI w))] [] ((rbW G hr hp ap av he aw al af as_ ar (F.1, F.2.1, F.2.2.1, t, F.2.2.2.2.1, (fun _ => 0), F.2.2.2.2.2.2.1, F.2.2.2.2.2.2.2)) ++ [(h, .inr (10, [.ref a, .int nu, .int (nI t)])), (a, .inl (gI G, 8, .inl sh))])
        refine V.aload_n hC (x := hr) dX8_valuesByTrial_30 rfl ?_
        refine V.getf hC (T := TX8) q0_ 1 q1_ rfl (0) rfl rfl (by decide) (.ref he) rfl dX8_valuesByTrial_31 ?_
        refine V.iconst hC 0 dX8_valuesByTrial_34 rfl ?_
        refine V.iload hC (x := nI w) dX8_valuesByTrial_35 rfl ?_
        refine V.callV (n := 2) (As := [.int 0, .int (nI w)]) (rest := []) hC (c_take (kl K) G he aw al af as_ ar t (F.2.2.2.2.1) (fun _ => 0) (F.2.2.2.2.2.2.1) (F.2.2.2.2.2.2.2) h4 hF.1 hF.2.2.1 (fun j _ => Nat.zero_le 1) 0 w (by omega) (by omega)) SFk0 SFgo0 gX8_valuesByTrial_X3_take rfl ⟨rfl, rfl⟩ (by decide +kernel) ⟨by decide, by decide, by decide, by decide⟩ [4, 5, 6, 7, 8, 9, 10, 11, 12] rfl (by decide) (fun _ => rfl) rfl rfl rfl rfl (Nat.le_of_ble_eq_true rfl) dX8_valuesByTrial_37 (fun r_37 u_37 hp_37 => ?_)
        obtain ⟨e1_37, e2_37⟩ := pot_tkE hp_37
        subst e1_37
        show V G K 6 0 0 40 [some (.ref hr), some (.ref h), some (.int (nI k)), some (.int (nI (fh sh k 8))), some (.int (nI (pvc sh t k w))), some (.int (nI w))] [.int (nI ((tkE t (F.2.2.2.2.1, (fun _ => 0), F.2.2.2.2.2.2.1) 0 w).1))] ((rbW G hr hp ap av he aw al af as_ ar (F.1, F.2.1, F.2.2.1, t, u_37.1, u_37.2.1, u_37.2.2, F.2.2.2.2.2.2.2)) ++ [(h, .inr (10, [.ref a, .int nu, .int (nI t)])), (a, .inl (gI G, 8, .inl sh))])
        have hb1 : eBd u_37 := by rw [e2_37]; exact tkE_bd (un := t) (E := (F.2.2.2.2.1, (fun _ => 0), F.2.2.2.2.2.2.1)) (x := 0) (v := w) ⟨hF.1, fun _ => Nat.zero_le 1, hF.2.2.1⟩ (by omega)
        refine V.ifN_eq hC ((tkE t (F.2.2.2.2.1, (fun _ => 0), F.2.2.2.2.2.2.1) 0 w).1) 55 dX8_valuesByTrial_40 rfl rfl (Nat.lt_of_le_of_lt (tkE_le _ _ _ _) (by decide)) (fun c_40 => ?_) (fun c_40 => ?_)
        · refine V.lset 4 (x := .int (nI (pvc sh t k w))) (y := .int (nI (pvc sh t k (w + 1)))) (congrArg Value.int (congrArg nI (pvc_n (fun z => absurd c_40 ((tri_pv (w := w) hS h1 h4 hk (by omega) hF.1 hF.2.2.1).mpr z).1)))) rfl (lv' := [some (.ref hr), some (.ref h), some (.int (nI k)), some (.int (nI (fh sh k 8))), some (.int (nI (pvc sh t k (w + 1)))), some (.int (nI w))]) rfl ?_
          refine V.iincN hC w 1 dX8_valuesByTrial_55 rfl [some (.ref hr), some (.ref h), some (.int (nI k)), some (.int (nI (fh sh k 8))), some (.int (nI (pvc sh t k (w + 1)))), some (.int (nI (w + 1)))] (Nat.le_of_ble_eq_true rfl) rfl rfl rfl ?_
          refine V.goto hC 12 dX8_valuesByTrial_58 rfl ?_
          exact ih12 (w + 1) (F.1, F.2.1, F.2.2.1, t, u_37.1, u_37.2.1, u_37.2.2, F.2.2.2.2.2.2.2) (by omega) (by omega) ⟨hb1.1, hb1.2.1, hb1.2.2, hF.2.2.2⟩
        · refine V.aload_n hC (x := hr) dX8_valuesByTrial_43 rfl ?_
          refine V.aload_n hC (x := h) dX8_valuesByTrial_44 rfl ?_
          refine V.iload_n hC (x := nI (fh sh k 8)) dX8_valuesByTrial_45 rfl ?_
          refine V.callV (n := 2) (As := [.ref h, .int (nI (fh sh k 8))]) (rest := []) hC (c_canTakeAll (kl K) G hr hp ap av he aw al af as_ ar (F.1, F.2.1, F.2.2.1, t, u_37.1, u_37.2.1, u_37.2.2, F.2.2.2.2.2.2.2) hb1 h4 h a sh nu t (fh sh k 8) (fh_256 _ _ _ (Nat.le_refl 8)) (svn sh) (fun b hb q => (HB.fh hS k b hb q).1) (fun b hb q => (HB.fh hS k b hb q).2)) SFk0 SFgo0 gX8_valuesByTrial_X8_canTakeAll rfl ⟨rfl, rfl⟩ (by decide +kernel) ⟨by decide, by decide, by decide, by decide⟩ [0, 1, 2, 3, 4, 5, 6, 7, 8, 9, 10, 11, 12, 13, 14] rfl (by decide) (fun _ => Eq.refl [hr, hp, ap, av, he, aw, al, af, as_, ar 0, ar 1, ar 2, ar 3, h, a]) rfl rfl rfl rfl (Nat.le_of_ble_eq_true rfl) dX8_valuesByTrial_46 (fun r_46 u_46 hp_46 => ?_)
          obtain ⟨e1_46, e2_46⟩ := hp_46
          subst e1_46
          show V G K 6 0 0 49 [some (.ref hr), some (.ref h), some (.int (nI k)), some (.int (nI (fh sh k 8))), some (.int (nI (pvc sh t k w))), some (.int (nI w))] [.int (nI ((cta t (fh sh k 8) (svn sh) u_37 8).1))] ((rbW G hr hp ap av he aw al af as_ ar (F.1, F.2.1, F.2.2.1, t, u_46.1, u_46.2.1, u_46.2.2, F.2.2.2.2.2.2.2)) ++ [(h, .inr (10, [.ref a, .int nu, .int (nI t)])), (a, .inl (gI G, 8, .inl sh))])
          have hb2 : eBd u_46 := by rw [e2_46]; exact cta_bd (un := t) (E := u_37) (fun b hb q => (HB.fh hS k b hb q).2) hb1 8 (Nat.le_refl 8)
          refine V.ifN_eq hC ((cta t (fh sh k 8) (svn sh) u_37 8).1) 55 dX8_valuesByTrial_49 rfl rfl (Nat.lt_of_le_of_lt (cta_le _ _ _ _ _) (by decide)) (fun c_49 => ?_) (fun c_49 => ?_)
          · refine V.lset 4 (x := .int (nI (pvc sh t k w))) (y := .int (nI (pvc sh t k (w + 1)))) (congrArg Value.int (congrArg nI (pvc_n (fun z => absurd c_49 (by rw [e2_37]; exact ((tri_pv (w := w) hS h1 h4 hk (by omega) hF.1 hF.2.2.1).mpr z).2))))) rfl (lv' := [some (.ref hr), some (.ref h), some (.int (nI k)), some (.int (nI (fh sh k 8))), some (.int (nI (pvc sh t k (w + 1)))), some (.int (nI w))]) rfl ?_
            refine V.iincN hC w 1 dX8_valuesByTrial_55 rfl [some (.ref hr), some (.ref h), some (.int (nI k)), some (.int (nI (fh sh k 8))), some (.int (nI (pvc sh t k (w + 1)))), some (.int (nI (w + 1)))] (Nat.le_of_ble_eq_true rfl) rfl rfl rfl ?_
            refine V.goto hC 12 dX8_valuesByTrial_58 rfl ?_
            exact ih12 (w + 1) (F.1, F.2.1, F.2.2.1, t, u_46.1, u_46.2.1, u_46.2.2, F.2.2.2.2.2.2.2) (by omega) (by omega) ⟨hb2.1, hb2.2.1, hb2.2.2, hF.2.2.2⟩
          · refine V.iincN hC (pvc sh t k w) 1 dX8_valuesByTrial_52 rfl [some (.ref hr), some (.ref h), some (.int (nI k)), some (.int (nI (fh sh k 8))), some (.int (nI (pvc sh t k w + 1))), some (.int (nI w))] (Nat.le_of_ble_eq_true rfl) rfl rfl rfl ?_
            refine V.lset 4 (x := .int (nI (pvc sh t k w + 1))) (y := .int (nI (pvc sh t k (w + 1)))) (congrArg Value.int (congrArg nI (pvc_y ((tri_pv (w := w) hS h1 h4 hk (by omega) hF.1 hF.2.2.1).mp ⟨c_40, (by rw [← e2_37]; exact c_49)⟩)))) rfl (lv' := [some (.ref hr), some (.ref h), some (.int (nI k)), some (.int (nI (fh sh k 8))), some (.int (nI (pvc sh t k (w + 1)))), some (.int (nI w))]) rfl ?_
            refine V.iincN hC w 1 dX8_valuesByTrial_55 rfl [some (.ref hr), some (.ref h), some (.int (nI k)), some (.int (nI (fh sh k 8))), some (.int (nI (pvc sh t k (w + 1)))), some (.int (nI (w + 1)))] (Nat.le_of_ble_eq_true rfl) rfl rfl rfl ?_
            refine V.goto hC 12 dX8_valuesByTrial_58 rfl ?_
            exact ih12 (w + 1) (F.1, F.2.1, F.2.2.1, t, u_46.1, u_46.2.1, u_46.2.2, F.2.2.2.2.2.2.2) (by omega) (by omega) ⟨hb2.1, hb2.2.1, hb2.2.2, hF.2.2.2⟩
  exact loop12 _ 0 E (Nat.lt_succ_self _) (by omega) hok
