/-! Rebuilder: agrees (printed by gen/s17.py) -/
set_option maxHeartbeats 4000000 in
set_option maxRecDepth 100000 in
theorem c_agreesOn (l : Launch) (G : Gx) (hr hp ap av he aw al af as_ : Nat) (ar : Nat → Nat) (E : Scr) (h a : Nat) (sh : Nat → Int32) (nu : Int32) (t : Nat) (hok : Sok E) (hS : SHok sh) (h1 : 1 ≤ t) (h4 : t ≤ 4) : Ct l G SF0 yX8_agreesOn wsX8_agreesOn ({ frames := 5, cells := 0, slots := 0, locals := 118 }) [.ref hr, .ref h] ((rbW G hr hp ap av he aw al af as_ ar E) ++ [(h, .inr (10, [.ref a, .int nu, .int (nI t)])), (a, .inl (gI G, 8, .inl sh))]) mkI (fun (r : Int32) (u : Scr) => r = 1 ∧ Sok u) (fun u : Scr => ((rbW G hr hp ap av he aw al af as_ ar u) ++ [(h, .inr (10, [.ref a, .int nu, .int (nI t)])), (a, .inl (gI G, 8, .inl sh))])) 0 0 := by
  have hk8 := hc_le8 sh
  refine Ct.ofI (cc := cX8_agreesOn) (maxL := 3) (by decide) rfl ⟨by simp [Value.category], Nat.le_of_ble_eq_true rfl⟩ ?_
  intro K hl hC hSF hnm hE
  subst hl
  show V G K 3 0 0 0 [some (.ref hr), some (.ref h), none] [] ((rbW G hr hp ap av he aw al af as_ ar E) ++ [(h, .inr (10, [.ref a, .int nu, .int (nI t)])), (a, .inl (gI G, 8, .inl sh))])
  refine V.aload_n hC (x := h) dX8_agreesOn_0 rfl ?_
  refine V.callVr (n := 0) (As := []) (rest := []) hC (c_isRebuildable (kl K) G h a sh nu t h4) SFk0 SFgo0 gX8_agreesOn_X10_isRebuildable rfl ⟨rfl, rfl⟩ (by decide +kernel) ⟨by decide, by decide, by decide, by decide⟩ [13, 14] rfl (by decide) rfl rfl rfl rfl (Nat.le_of_ble_eq_true rfl) dX8_agreesOn_1 (fun r_1 u_1 hp_1 => ?_)
  subst hp_1
  show V G K 3 0 0 4 [some (.ref hr), some (.ref h), none] [.int (if t ≤ hc sh 8 then 1 else 0)] ((rbW G hr hp ap av he aw al af as_ ar E) ++ [(h, .inr (10, [.ref a, .int nu, .int (nI t)])), (a, .inl (gI G, 8, .inl sh))])
  refine V.if_eq hC 23 dX8_agreesOn_4 rfl (fun c_4 => ?_) (fun c_4 => ?_)
  · refine V.aload_n hC (x := h) dX8_agreesOn_23 rfl ?_
    refine V.callVr (n := 0) (As := []) (rest := []) hC (c_holderTally (kl K) G h a sh nu (nI t)) SFk0 SFgo0 gX8_agreesOn_X10_holderTally rfl ⟨rfl, rfl⟩ (by decide +kernel) ⟨by decide, by decide, by decide, by decide⟩ [13, 14] rfl (by decide) rfl rfl rfl rfl (Nat.le_of_ble_eq_true rfl) dX8_agreesOn_24 (fun r_24 u_24 hp_24 => ?_)
    subst hp_24
    show V G K 3 0 0 27 [some (.ref hr), some (.ref h), none] [.int (nI (hc sh 8))] ((rbW G hr hp ap av he aw al af as_ ar E) ++ [(h, .inr (10, [.ref a, .int nu, .int (nI t)])), (a, .inl (gI G, 8, .inl sh))])
    refine V.istore_n hC dX8_agreesOn_27 [some (.ref hr), some (.ref h), some (.int (nI (hc sh 8)))] (Nat.le_of_ble_eq_true rfl) rfl ?_
    refine V.aload_n hC (x := hr) dX8_agreesOn_28 rfl ?_
    refine V.aload_n hC (x := h) dX8_agreesOn_29 rfl ?_
    refine V.iload_n hC (x := nI (hc sh 8)) dX8_agreesOn_30 rfl ?_
    refine V.callV (n := 2) (As := [.ref h, .int (nI (hc sh 8))]) (rest := []) hC (c_byFit (kl K) G hr hp ap av he aw al af as_ ar E h a sh nu t hok hS h1 h4 (hc sh 8) (Nat.le_refl _)) SFk0 SFgo0 gX8_agreesOn_X8_valuesByFit rfl ⟨rfl, rfl⟩ (by decide +kernel) ⟨by decide, by decide, by decide, by decide⟩ [0, 1, 2, 3, 4, 5, 6, 7, 8, 9, 10, 11, 12, 13, 14] rfl (by decide) (fun _ => Eq.refl [hr, hp, ap, av, he, aw, al, af, as_, ar 0, ar 1, ar 2, ar 3, h, a]) rfl rfl rfl rfl (Nat.le_of_ble_eq_true rfl) dX8_agreesOn_31 (fun r_31 u_31 hp_31 => ?_)
    obtain ⟨e_31, hE_31⟩ := hp_31
    subst e_31
    show V G K 3 0 0 34 [some (.ref hr), some (.ref h), some (.int (nI (hc sh 8)))] [.int (nI (pvc sh t (hc sh 8) 97))] ((rbW G hr hp ap av he aw al af as_ ar u_31) ++ [(h, .inr (10, [.ref a, .int nu, .int (nI t)])), (a, .inl (gI G, 8, .inl sh))])
    refine V.aload_n hC (x := hr) dX8_agreesOn_34 rfl ?_
    refine V.aload_n hC (x := h) dX8_agreesOn_35 rfl ?_
    refine V.iload_n hC (x := nI (hc sh 8)) dX8_agreesOn_36 rfl ?_
    refine V.callV (n := 2) (As := [.ref h, .int (nI (hc sh 8))]) (rest := [.int (nI (pvc sh t (hc sh 8) 97))]) hC (c_byTrial (kl K) G hr hp ap av he aw al af as_ ar u_31 h a sh nu t hE_31 hS h1 h4 (hc sh 8) (Nat.le_refl _)) SFk0 SFgo0 gX8_agreesOn_X8_valuesByTrial rfl ⟨rfl, rfl⟩ (by decide +kernel) ⟨by decide, by decide, by decide, by decide⟩ [0, 1, 2, 3, 4, 5, 6, 7, 8, 9, 10, 11, 12, 13, 14] rfl (by decide) (fun _ => Eq.refl [hr, hp, ap, av, he, aw, al, af, as_, ar 0, ar 1, ar 2, ar 3, h, a]) rfl rfl rfl rfl (Nat.le_of_ble_eq_true rfl) dX8_agreesOn_37 (fun r_37 u_37 hp_37 => ?_)
    obtain ⟨e_37, hE_37⟩ := hp_37
    subst e_37
    show V G K 3 0 0 40 [some (.ref hr), some (.ref h), some (.int (nI (hc sh 8)))] [.int (nI (pvc sh t (hc sh 8) 97)), .int (nI (pvc sh t (hc sh 8) 97))] ((rbW G hr hp ap av he aw al af as_ ar u_37) ++ [(h, .inr (10, [.ref a, .int nu, .int (nI t)])), (a, .inl (gI G, 8, .inl sh))])
    refine V.icmpN_ne hC (pvc sh t (hc sh 8) 97) (pvc sh t (hc sh 8) 97) 47 dX8_agreesOn_40 rfl rfl rfl (Nat.lt_of_le_of_lt (pvc_le _ _ _ _) (by decide)) (Nat.lt_of_le_of_lt (pvc_le _ _ _ _) (by decide)) (fun c_40 => ?_) (fun c_40 => ?_)
    · exact absurd rfl c_40
    · refine V.iconst hC 1 dX8_agreesOn_43 rfl ?_
      refine V.goto hC 48 dX8_agreesOn_44 rfl ?_
      exact hE 48 _ 1 u_37 dX8_agreesOn_48 rfl ⟨rfl, hE_37⟩
  · refine V.aload_n hC (x := hr) dX8_agreesOn_7 rfl ?_
    refine V.aload_n hC (x := h) dX8_agreesOn_8 rfl ?_
    refine V.iconst hC 0 dX8_agreesOn_9 rfl ?_
    refine V.callV (n := 2) (As := [.ref h, .int 0]) (rest := []) hC (c_rbValueAt (kl K) G hr hp ap av he aw al af as_ ar E h a sh nu t hok hS h1 h4 0 (Nat.zero_le 8)) SFk0 SFgo0 gX8_agreesOn_X8_valueAt rfl ⟨rfl, rfl⟩ (by decide +kernel) ⟨by decide, by decide, by decide, by decide⟩ [0, 1, 2, 3, 4, 5, 6, 7, 8, 9, 10, 11, 12, 13, 14] rfl (by decide) (fun _ => Eq.refl [hr, hp, ap, av, he, aw, al, af, as_, ar 0, ar 1, ar 2, ar 3, h, a]) rfl rfl rfl rfl (Nat.le_of_ble_eq_true rfl) dX8_agreesOn_10 (fun r_10 u_10 hp_10 => ?_)
    obtain ⟨e_10, hE_10⟩ := hp_10
    subst e_10
    show V G K 3 0 0 13 [some (.ref hr), some (.ref h), none] [.int (nI (lagS (fh sh t 8) (svn sh) 0))] ((rbW G hr hp ap av he aw al af as_ ar u_10) ++ [(h, .inr (10, [.ref a, .int nu, .int (nI t)])), (a, .inl (gI G, 8, .inl sh))])
    refine V.aload_n hC (x := hr) dX8_agreesOn_13 rfl ?_
    refine V.aload_n hC (x := h) dX8_agreesOn_14 rfl ?_
    refine V.callV (n := 1) (As := [.ref h]) (rest := [.int (nI (lagS (fh sh t 8) (svn sh) 0))]) hC (c_rbElim (kl K) G hr hp ap av he aw al af as_ ar u_10 h a sh nu t hE_10 hS h1 h4 (Decidable.byContradiction (fun z => c_4 (if_neg z)))) SFk0 SFgo0 gX8_agreesOn_X8_valueByElimination rfl ⟨rfl, rfl⟩ (by decide +kernel) ⟨by decide, by decide, by decide, by decide⟩ [0, 1, 2, 3, 4, 5, 6, 7, 8, 9, 10, 11, 12, 13, 14] rfl (by decide) (fun _ => Eq.refl [hr, hp, ap, av, he, aw, al, af, as_, ar 0, ar 1, ar 2, ar 3, h, a]) rfl rfl rfl rfl (Nat.le_of_ble_eq_true rfl) dX8_agreesOn_15 (fun r_15 u_15 hp_15 => ?_)
    obtain ⟨e_15, hE_15⟩ := hp_15
    subst e_15
    show V G K 3 0 0 18 [some (.ref hr), some (.ref h), none] [.int (nI (lagS (fh sh t 8) (svn sh) 0)), .int (nI (lagS (fh sh t 8) (svn sh) 0))] ((rbW G hr hp ap av he aw al af as_ ar u_15) ++ [(h, .inr (10, [.ref a, .int nu, .int (nI t)])), (a, .inl (gI G, 8, .inl sh))])
    refine V.icmpN_eq hC (lagS (fh sh t 8) (svn sh) 0) (lagS (fh sh t 8) (svn sh) 0) 23 dX8_agreesOn_18 rfl rfl rfl (Nat.lt_trans (lagS_lt _ _ _) (by decide)) (Nat.lt_trans (lagS_lt _ _ _) (by decide)) (fun c_18 => ?_) (fun c_18 => ?_)
    · refine V.aload_n hC (x := h) dX8_agreesOn_23 rfl ?_
      refine V.callVr (n := 0) (As := []) (rest := []) hC (c_holderTally (kl K) G h a sh nu (nI t)) SFk0 SFgo0 gX8_agreesOn_X10_holderTally rfl ⟨rfl, rfl⟩ (by decide +kernel) ⟨by decide, by decide, by decide, by decide⟩ [13, 14] rfl (by decide) rfl rfl rfl rfl (Nat.le_of_ble_eq_true rfl) dX8_agreesOn_24 (fun r_24 u_24 hp_24 => ?_)
      subst hp_24
      show V G K 3 0 0 27 [some (.ref hr), some (.ref h), none] [.int (nI (hc sh 8))] ((rbW G hr hp ap av he aw al af as_ ar u_15) ++ [(h, .inr (10, [.ref a, .int nu, .int (nI t)])), (a, .inl (gI G, 8, .inl sh))])
      refine V.istore_n hC dX8_agreesOn_27 [some (.ref hr), some (.ref h), some (.int (nI (hc sh 8)))] (Nat.le_of_ble_eq_true rfl) rfl ?_
      refine V.aload_n hC (x := hr) dX8_agreesOn_28 rfl ?_
      refine V.aload_n hC (x := h) dX8_agreesOn_29 rfl ?_
      refine V.iload_n hC (x := nI (hc sh 8)) dX8_agreesOn_30 rfl ?_
      refine V.callV (n := 2) (As := [.ref h, .int (nI (hc sh 8))]) (rest := []) hC (c_byFit (kl K) G hr hp ap av he aw al af as_ ar u_15 h a sh nu t hE_15 hS h1 h4 (hc sh 8) (Nat.le_refl _)) SFk0 SFgo0 gX8_agreesOn_X8_valuesByFit rfl ⟨rfl, rfl⟩ (by decide +kernel) ⟨by decide, by decide, by decide, by decide⟩ [0, 1, 2, 3, 4, 5, 6, 7, 8, 9, 10, 11, 12, 13, 14] rfl (by decide) (fun _ => Eq.refl [hr, hp, ap, av, he, aw, al, af, as_, ar 0, ar 1, ar 2, ar 3, h, a]) rfl rfl rfl rfl (Nat.le_of_ble_eq_true rfl) dX8_agreesOn_31 (fun r_31 u_31 hp_31 => ?_)
      obtain ⟨e_31, hE_31⟩ := hp_31
      subst e_31
      show V G K 3 0 0 34 [some (.ref hr), some (.ref h), some (.int (nI (hc sh 8)))] [.int (nI (pvc sh t (hc sh 8) 97))] ((rbW G hr hp ap av he aw al af as_ ar u_31) ++ [(h, .inr (10, [.ref a, .int nu, .int (nI t)])), (a, .inl (gI G, 8, .inl sh))])
      refine V.aload_n hC (x := hr) dX8_agreesOn_34 rfl ?_
      refine V.aload_n hC (x := h) dX8_agreesOn_35 rfl ?_
      refine V.iload_n hC (x := nI (hc sh 8)) dX8_agreesOn_36 rfl ?_
      refine V.callV (n := 2) (As := [.ref h, .int (nI (hc sh 8))]) (rest := [.int (nI (pvc sh t (hc sh 8) 97))]) hC (c_byTrial (kl K) G hr hp ap av he aw al af as_ ar u_31 h a sh nu t hE_31 hS h1 h4 (hc sh 8) (Nat.le_refl _)) SFk0 SFgo0 gX8_agreesOn_X8_valuesByTrial rfl ⟨rfl, rfl⟩ (by decide +kernel) ⟨by decide, by decide, by decide, by decide⟩ [0, 1, 2, 3, 4, 5, 6, 7, 8, 9, 10, 11, 12, 13, 14] rfl (by decide) (fun _ => Eq.refl [hr, hp, ap, av, he, aw, al, af, as_, ar 0, ar 1, ar 2, ar 3, h, a]) rfl rfl rfl rfl (Nat.le_of_ble_eq_true rfl) dX8_agreesOn_37 (fun r_37 u_37 hp_37 => ?_)
      obtain ⟨e_37, hE_37⟩ := hp_37
      subst e_37
      show V G K 3 0 0 40 [some (.ref hr), some (.ref h), some (.int (nI (hc sh 8)))] [.int (nI (pvc sh t (hc sh 8) 97)), .int (nI (pvc sh t (hc sh 8) 97))] ((rbW G hr hp ap av he aw al af as_ ar u_37) ++ [(h, .inr (10, [.ref a, .int nu, .int (nI t)])), (a, .inl (gI G, 8, .inl sh))])
      refine V.icmpN_ne hC (pvc sh t (hc sh 8) 97) (pvc sh t (hc sh 8) 97) 47 dX8_agreesOn_40 rfl rfl rfl (Nat.lt_of_le_of_lt (pvc_le _ _ _ _) (by decide)) (Nat.lt_of_le_of_lt (pvc_le _ _ _ _) (by decide)) (fun c_40 => ?_) (fun c_40 => ?_)
      · exact absurd rfl c_40
      · refine V.iconst hC 1 dX8_agreesOn_43 rfl ?_
        refine V.goto hC 48 dX8_agreesOn_44 rfl ?_
        exact hE 48 _ 1 u_37 dX8_agreesOn_48 rfl ⟨rfl, hE_37⟩
    · exact absurd rfl c_18
