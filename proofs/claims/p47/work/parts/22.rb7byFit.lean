/-! Rebuilder: byFit (printed by gen/s17.py) -/
set_option maxHeartbeats 4000000 in
set_option maxRecDepth 100000 in
theorem c_byFit (l : Launch) (G : Gx) (hr hp ap av he aw al af as_ : Nat) (ar : Nat → Nat) (E : Scr) (h a : Nat) (sh : Nat → Int32) (nu : Int32) (t : Nat) (hok : Sok E) (hS : SHok sh) (h1 : 1 ≤ t) (h4 : t ≤ 4) (k : Nat) (hk : k ≤ hc sh 8) : Ct l G SF0 yX8_valuesByFit wsX8_valuesByFit ({ frames := 3, cells := 0, slots := 0, locals := 74 }) [.ref hr, .ref h, .int (nI k)] ((rbW G hr hp ap av he aw al af as_ ar E) ++ [(h, .inr (10, [.ref a, .int nu, .int (nI t)])), (a, .inl (gI G, 8, .inl sh))]) mkI (fun (r : Int32) (u : Scr) => r = nI (pvc sh t k 97) ∧ Sok u) (fun u : Scr => ((rbW G hr hp ap av he aw al af as_ ar u) ++ [(h, .inr (10, [.ref a, .int nu, .int (nI t)])), (a, .inl (gI G, 8, .inl sh))])) 0 0 := by
  have hk8 := hc_le8 sh
  refine Ct.ofI (cc := cX8_valuesByFit) (maxL := 4) (by decide) rfl ⟨by simp [Value.category], Nat.le_of_ble_eq_true rfl⟩ ?_
  intro K hl hC hSF hnm hE
  subst hl
  show V G K 4 0 0 0 [some (.ref hr), some (.ref h), some (.int (nI k)), none] [] ((rbW G hr hp ap av he aw al af as_ ar E) ++ [(h, .inr (10, [.ref a, .int nu, .int (nI t)])), (a, .inl (gI G, 8, .inl sh))])
  refine V.iload_n hC (x := nI k) dX8_valuesByFit_0 rfl ?_
  refine V.aload_n hC (x := h) dX8_valuesByFit_1 rfl ?_
  refine V.callVr (n := 0) (As := []) (rest := [.int (nI k)]) hC (c_need (kl K) G h a sh nu (nI t)) SFk0 SFgo0 gX8_valuesByFit_X10_need rfl ⟨rfl, rfl⟩ (by decide +kernel) ⟨by decide, by decide, by decide, by decide⟩ [13, 14] rfl (by decide) rfl rfl rfl rfl (Nat.le_of_ble_eq_true rfl) dX8_valuesByFit_2 (fun r_2 u_2 hp_2 => ?_)
  subst hp_2
  show V G K 4 0 0 5 [some (.ref hr), some (.ref h), some (.int (nI k)), none] [.int (nI t), .int (nI k)] ((rbW G hr hp ap av he aw al af as_ ar E) ++ [(h, .inr (10, [.ref a, .int nu, .int (nI t)])), (a, .inl (gI G, 8, .inl sh))])
  refine V.icmpN_ge hC k t 11 dX8_valuesByFit_5 rfl rfl rfl (by omega) (by omega) (fun c_5 => ?_) (fun c_5 => ?_)
  · refine V.aload_n hC (x := h) dX8_valuesByFit_11 rfl ?_
    refine V.aload_n hC (x := h) dX8_valuesByFit_12 rfl ?_
    refine V.callVr (n := 0) (As := []) (rest := [.ref h]) hC (c_need (kl K) G h a sh nu (nI t)) SFk0 SFgo0 gX8_valuesByFit_X10_need rfl ⟨rfl, rfl⟩ (by decide +kernel) ⟨by decide, by decide, by decide, by decide⟩ [13, 14] rfl (by decide) rfl rfl rfl rfl (Nat.le_of_ble_eq_true rfl) dX8_valuesByFit_13 (fun r_13 u_13 hp_13 => ?_)
    subst hp_13
    show V G K 4 0 0 16 [some (.ref hr), some (.ref h), some (.int (nI k)), none] [.int (nI t), .ref h] ((rbW G hr hp ap av he aw al af as_ ar E) ++ [(h, .inr (10, [.ref a, .int nu, .int (nI t)])), (a, .inl (gI G, 8, .inl sh))])
    refine V.callVr (n := 1) (As := [.int (nI t)]) (rest := []) hC (c_firstHolders (kl K) G h a sh nu (nI t) t (by omega)) SFk0 SFgo0 gX8_valuesByFit_X10_firstHolders rfl ⟨rfl, rfl⟩ (by decide +kernel) ⟨by decide, by decide, by decide, by decide⟩ [13, 14] rfl (by decide) rfl rfl rfl rfl (Nat.le_of_ble_eq_true rfl) dX8_valuesByFit_16 (fun r_16 u_16 hp_16 => ?_)
    subst hp_16
    show V G K 4 0 0 19 [some (.ref hr), some (.ref h), some (.int (nI k)), none] [.int (nI (fh sh t 8))] ((rbW G hr hp ap av he aw al af as_ ar E) ++ [(h, .inr (10, [.ref a, .int nu, .int (nI t)])), (a, .inl (gI G, 8, .inl sh))])
    refine V.istore_n hC dX8_valuesByFit_19 [some (.ref hr), some (.ref h), some (.int (nI k)), some (.int (nI (fh sh t 8)))] (Nat.le_of_ble_eq_true rfl) rfl ?_
    refine V.aload_n hC (x := hr) dX8_valuesByFit_20 rfl ?_
    refine V.aload_n hC (x := h) dX8_valuesByFit_21 rfl ?_
    refine V.iload_n hC (x := nI (fh sh t 8)) dX8_valuesByFit_22 rfl ?_
    refine V.aload_n hC (x := h) dX8_valuesByFit_23 rfl ?_
    refine V.iload_n hC (x := nI k) dX8_valuesByFit_24 rfl ?_
    refine V.callVr (n := 1) (As := [.int (nI k)]) (rest := [.int (nI (fh sh t 8)), .ref h, .ref hr]) hC (c_firstHolders (kl K) G h a sh nu (nI t) k (by omega)) SFk0 SFgo0 gX8_valuesByFit_X10_firstHolders rfl ⟨rfl, rfl⟩ (by decide +kernel) ⟨by decide, by decide, by decide, by decide⟩ [13, 14] rfl (by decide) rfl rfl rfl rfl (Nat.le_of_ble_eq_true rfl) dX8_valuesByFit_25 (fun r_25 u_25 hp_25 => ?_)
    subst hp_25
    show V G K 4 0 0 28 [some (.ref hr), some (.ref h), some (.int (nI k)), some (.int (nI (fh sh t 8)))] [.int (nI (fh sh k 8)), .int (nI (fh sh t 8)), .ref h, .ref hr] ((rbW G hr hp ap av he aw al af as_ ar E) ++ [(h, .inr (10, [.ref a, .int nu, .int (nI t)])), (a, .inl (gI G, 8, .inl sh))])
    refine V.callV (n := 3) (As := [.ref h, .int (nI (fh sh t 8)), .int (nI (fh sh k 8))]) (rest := []) hC (c_unfit (kl K) G hr hp ap av he aw al af as_ ar E h a sh nu t hok (fh sh t 8) (fh sh k 8) (fh_256 _ _ _ (Nat.le_refl 8)) (fh_256 _ _ _ (Nat.le_refl 8)) (HB.fh hS t) (HB.fh hS k)) SFk0 SFgo0 gX8_valuesByFit_X8_unfit rfl ⟨rfl, rfl⟩ (by decide +kernel) ⟨by decide, by decide, by decide, by decide⟩ [0, 1, 2, 3, 4, 5, 6, 7, 8, 9, 10, 11, 12, 13, 14] rfl (by decide) (fun _ => Eq.refl [hr, hp, ap, av, he, aw, al, af, as_, ar 0, ar 1, ar 2, ar 3, h, a]) rfl rfl rfl rfl (Nat.le_of_ble_eq_true rfl) dX8_valuesByFit_28 (fun r_28 u_28 hp_28 => ?_)
    obtain ⟨e_28, hE_28⟩ := hp_28
    subst e_28
    show V G K 4 0 0 31 [some (.ref hr), some (.ref h), some (.int (nI k)), some (.int (nI (fh sh t 8)))] [.int (nI (unf (fh sh t 8) (svn sh) (fh sh k 8) 8))] ((rbW G hr hp ap av he aw al af as_ ar u_28) ++ [(h, .inr (10, [.ref a, .int nu, .int (nI t)])), (a, .inl (gI G, 8, .inl sh))])
    refine V.ifN_ne hC (unf (fh sh t 8) (svn sh) (fh sh k 8) 8) 38 dX8_valuesByFit_31 rfl rfl (Nat.lt_of_le_of_lt (unf_le _ _ _ _) (by decide)) (fun c_31 => ?_) (fun c_31 => ?_)
    · refine V.iconst hC 0 dX8_valuesByFit_38 rfl ?_
      exact hE 39 _ 0 u_28 dX8_valuesByFit_39 rfl ⟨(by rw [pvc_97, if_neg (by omega), if_neg c_31]; rfl), hE_28⟩
    · refine V.iconst hC 1 dX8_valuesByFit_34 rfl ?_
      refine V.goto hC 39 dX8_valuesByFit_35 rfl ?_
      exact hE 39 _ 1 u_28 dX8_valuesByFit_39 rfl ⟨(by rw [pvc_97, if_neg (by omega), if_pos c_31]; rfl), hE_28⟩
  · refine V.bipush hC 97 dX8_valuesByFit_8 rfl ?_
    exact hE 10 _ 97 E dX8_valuesByFit_10 rfl ⟨(by rw [pvc_97, if_pos c_5]; rfl), hok⟩
