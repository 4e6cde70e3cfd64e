/-! Rebuilder: elim (printed by gen/s17.py) -/
set_option maxHeartbeats 4000000 in
set_option maxRecDepth 100000 in
theorem c_rbElim (l : Launch) (G : Gx) (hr hp ap av he aw al af as_ : Nat) (ar : Nat → Nat) (E : Scr) (h a : Nat) (sh : Nat → Int32) (nu : Int32) (t : Nat) (hok : Sok E) (hS : SHok sh) (h1 : 1 ≤ t) (h4 : t ≤ 4) (hh : t ≤ hc sh 8) : Ct l G SF0 yX8_valueByElimination wsX8_valueByElimination ({ frames := 4, cells := 0, slots := 0, locals := 93 }) [.ref hr, .ref h] ((rbW G hr hp ap av he aw al af as_ ar E) ++ [(h, .inr (10, [.ref a, .int nu, .int (nI t)])), (a, .inl (gI G, 8, .inl sh))]) mkI (fun (r : Int32) (u : Scr) => r = nI (lagS (fh sh t 8) (svn sh) 0) ∧ Sok u) (fun u : Scr => ((rbW G hr hp ap av he aw al af as_ ar u) ++ [(h, .inr (10, [.ref a, .int nu, .int (nI t)])), (a, .inl (gI G, 8, .inl sh))])) 0 0 := by
  refine Ct.ofI (cc := cX8_valueByElimination) (maxL := 2) (by decide) rfl ⟨by simp [Value.category], Nat.le_of_ble_eq_true rfl⟩ ?_
  intro K hl hC hSF hnm hE
  subst hl
  have q0_ : ∀ w ∈ u_ws RX8 TX8 2, w ∈ wsX8_valueByElimination := by decide +kernel
  have q1_ : Cond.fieldLink RX8 21 "FeatherShares$Rebuilder" "equations" "LFeatherShares$Equations;" ∈ wsX8_valueByElimination := by decide +kernel
  show V G K 2 0 0 0 [some (.ref hr), some (.ref h)] [] ((rbW G hr hp ap av he aw al af as_ ar E) ++ [(h, .inr (10, [.ref a, .int nu, .int (nI t)])), (a, .inl (gI G, 8, .inl sh))])
  refine V.aload_n hC (x := hr) dX8_valueByElimination_0 rfl ?_
  refine V.getf hC (T := TX8) q0_ 1 q1_ rfl (0) rfl rfl (by decide) (.ref he) rfl dX8_valueByElimination_1 ?_
  refine V.aload_n hC (x := h) dX8_valueByElimination_4 rfl ?_
  refine V.callVr (n := 0) (As := []) (rest := [.ref he]) hC (c_need (kl K) G h a sh nu (nI t)) SFk0 SFgo0 gX8_valueByElimination_X10_need rfl ⟨rfl, rfl⟩ (by decide +kernel) ⟨by decide, by decide, by decide, by decide⟩ [13, 14] rfl (by decide) rfl rfl rfl rfl (Nat.le_of_ble_eq_true rfl) dX8_valueByElimination_5 (fun r_5 u_5 hp_5 => ?_)
  subst hp_5
  show V G K 2 0 0 8 [some (.ref hr), some (.ref h)] [.int (nI t), .ref he] ((rbW G hr hp ap av he aw al af as_ ar E) ++ [(h, .inr (10, [.ref a, .int nu, .int (nI t)])), (a, .inl (gI G, 8, .inl sh))])
  refine V.callV (n := 1) (As := [.int (nI t)]) (rest := []) hC (c_eqBegin (kl K) G he aw al af as_ ar (E.2.2.2.1) (E.2.2.2.2.1) (E.2.2.2.2.2.1) (E.2.2.2.2.2.2.1) (E.2.2.2.2.2.2.2) t h4) SFk0 SFgo0 gX8_valueByElimination_X3_begin rfl ⟨rfl, rfl⟩ (by decide +kernel) ⟨by decide, by decide, by decide, by decide⟩ [4, 5, 6, 7, 8, 9, 10, 11, 12] rfl (by decide) (fun _ => rfl) rfl rfl rfl rfl (Nat.le_of_ble_eq_true rfl) dX8_valueByElimination_8 (fun r_8 u_8 hp_8 => ?_)
  show V G K 2 0 0 11 [some (.ref hr), some (.ref h)] [] ((rbW G hr hp ap av he aw al af as_ ar (E.1, E.2.1, E.2.2.1, t, E.2.2.2.2.1, (fun _ => 0), E.2.2.2.2.2.2.1, E.2.2.2.2.2.2.2)) ++ [(h, .inr (10, [.ref a, .int nu, .int (nI t)])), (a, .inl (gI G, 8, .inl sh))])
  refine V.aload_n hC (x := hr) dX8_valueByElimination_11 rfl ?_
  refine V.aload_n hC (x := h) dX8_valueByElimination_12 rfl ?_
  refine V.aload_n hC (x := h) dX8_valueByElimination_13 rfl ?_
  refine V.aload_n hC (x := h) dX8_valueByElimination_14 rfl ?_
  refine V.callVr (n := 0) (As := []) (rest := [.ref h, .ref h, .ref hr]) hC (c_need (kl K) G h a sh nu (nI t)) SFk0 SFgo0 gX8_valueByElimination_X10_need rfl ⟨rfl, rfl⟩ (by decide +kernel) ⟨by decide, by decide, by decide, by decide⟩ [13, 14] rfl (by decide) rfl rfl rfl rfl (Nat.le_of_ble_eq_true rfl) dX8_valueByElimination_15 (fun r_15 u_15 hp_15 => ?_)
  subst hp_15
  show V G K 2 0 0 18 [some (.ref hr), some (.ref h)] [.int (nI t), .ref h, .ref h, .ref hr] ((rbW G hr hp ap av he aw al af as_ ar (E.1, E.2.1, E.2.2.1, t, E.2.2.2.2.1, (fun _ => 0), E.2.2.2.2.2.2.1, E.2.2.2.2.2.2.2)) ++ [(h, .inr (10, [.ref a, .int nu, .int (nI t)])), (a, .inl (gI G, 8, .inl sh))])
  refine V.callVr (n := 1) (As := [.int (nI t)]) (rest := [.ref h, .ref hr]) hC (c_firstHolders (kl K) G h a sh nu (nI t) t (by omega)) SFk0 SFgo0 gX8_valueByElimination_X10_firstHolders rfl ⟨rfl, rfl⟩ (by decide +kernel) ⟨by decide, by decide, by decide, by decide⟩ [13, 14] rfl (by decide) rfl rfl rfl rfl (Nat.le_of_ble_eq_true rfl) dX8_valueByElimination_18 (fun r_18 u_18 hp_18 => ?_)
  subst hp_18
  show V G K 2 0 0 21 [some (.ref hr), some (.ref h)] [.int (nI (fh sh t 8)), .ref h, .ref hr] ((rbW G hr hp ap av he aw al af as_ ar (E.1, E.2.1, E.2.2.1, t, E.2.2.2.2.1, (fun _ => 0), E.2.2.2.2.2.2.1, E.2.2.2.2.2.2.2)) ++ [(h, .inr (10, [.ref a, .int nu, .int (nI t)])), (a, .inl (gI G, 8, .inl sh))])
  refine V.callV (n := 2) (As := [.ref h, .int (nI (fh sh t 8))]) (rest := []) hC (c_canTakeAll (kl K) G hr hp ap av he aw al af as_ ar (E.1, E.2.1, E.2.2.1, t, E.2.2.2.2.1, (fun _ => 0), E.2.2.2.2.2.2.1, E.2.2.2.2.2.2.2) ⟨hok.1, fun _ => Nat.zero_le 1, hok.2.2.1⟩ h4 h a sh nu t (fh sh t 8) (fh_256 _ _ _ (Nat.le_refl 8)) (svn sh) (fun b hb q => (HB.fh hS t b hb q).1) (fun b hb q => (HB.fh hS t b hb q).2)) SFk0 SFgo0 gX8_valueByElimination_X8_canTakeAll rfl ⟨rfl, rfl⟩ (by decide +kernel) ⟨by decide, by decide, by decide, by decide⟩ [0, 1, 2, 3, 4, 5, 6, 7, 8, 9, 10, 11, 12, 13, 14] rfl (by decide) (fun _ => Eq.refl [hr, hp, ap, av, he, aw, al, af, as_, ar 0, ar 1, ar 2, ar 3, h, a]) rfl rfl rfl rfl (Nat.le_of_ble_eq_true rfl) dX8_valueByElimination_21 (fun r_21 u_21 hp_21 => ?_)
  obtain ⟨e1_21, e2_21⟩ := hp_21
  subst e1_21
  show V G K 2 0 0 24 [some (.ref hr), some (.ref h)] [.int (nI ((cta t (fh sh t 8) (svn sh) (E.2.2.2.2.1, (fun _ => 0), E.2.2.2.2.2.2.1) 8).1))] ((rbW G hr hp ap av he aw al af as_ ar (E.1, E.2.1, E.2.2.1, t, u_21.1, u_21.2.1, u_21.2.2, E.2.2.2.2.2.2.2)) ++ [(h, .inr (10, [.ref a, .int nu, .int (nI t)])), (a, .inl (gI G, 8, .inl sh))])
  have hq : eBd u_21 := by rw [e2_21]; exact cta_bd (un := t) (S := (fh sh t 8)) (fun b hb q => (HB.fh hS t b hb q).2) (E := (E.2.2.2.2.1, (fun _ => 0), E.2.2.2.2.2.2.1)) ⟨hok.1, fun _ => Nat.zero_le 1, hok.2.2.1⟩ 8 (Nat.le_refl 8)
  refine V.pop hC dX8_valueByElimination_24 rfl ?_
  refine V.aload_n hC (x := hr) dX8_valueByElimination_25 rfl ?_
  refine V.getf hC (T := TX8) q0_ 1 q1_ rfl (0) rfl rfl (by decide) (.ref he) rfl dX8_valueByElimination_26 ?_
  refine V.callV (n := 0) (As := []) (rest := []) hC (c_constant (kl K) G he aw al af as_ ar t (u_21.1) (u_21.2.1) (u_21.2.2) (E.2.2.2.2.2.2.2) h1 h4 hq.1 hok.2.2.2) SFk0 SFgo0 gX8_valueByElimination_X3_constant rfl ⟨rfl, rfl⟩ (by decide +kernel) ⟨by decide, by decide, by decide, by decide⟩ [4, 5, 6, 7, 8, 9, 10, 11, 12] rfl (by decide) (fun _ => rfl) rfl rfl rfl rfl (Nat.le_of_ble_eq_true rfl) dX8_valueByElimination_29 (fun r_29 u_29 hp_29 => ?_)
  subst hp_29
  show V G K 2 0 0 32 [some (.ref hr), some (.ref h)] [.int (nI (bks u_21.1 E.2.2.2.2.2.2.2 t t 0))] ((rbW G hr hp ap av he aw al af as_ ar (E.1, E.2.1, E.2.2.1, t, u_21.1, u_21.2.1, u_21.2.2, (bks (u_21.1) (E.2.2.2.2.2.2.2) t t))) ++ [(h, .inr (10, [.ref a, .int nu, .int (nI t)])), (a, .inl (gI G, 8, .inl sh))])
  refine V.topeq (nI (lagS (fh sh t 8) (svn sh) 0)) (congrArg nI (by rw [e2_21]; exact elim_val (t := t) (fh_256 _ _ _ (Nat.le_refl 8)) (by rw [popb_fh8]; omega) h1 h4 (fun b hb q => (HB.fh hS t b hb q).2) hok.1 hok.2.2.1 hok.2.2.2)) ?_
  exact hE 32 _ (nI (lagS (fh sh t 8) (svn sh) 0)) (E.1, E.2.1, E.2.2.1, t, u_21.1, u_21.2.1, u_21.2.2, (bks (u_21.1) (E.2.2.2.2.2.2.2) t t)) dX8_valueByElimination_32 rfl ⟨rfl, hq.1, hq.2.1, hq.2.2, bks_lt hq.1 hok.2.2.2 t⟩
