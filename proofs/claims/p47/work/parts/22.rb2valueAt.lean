/-! Rebuilder: valueAt (printed by gen/s17.py) -/
set_option maxHeartbeats 4000000 in
set_option maxRecDepth 100000 in
theorem c_rbValueAt (l : Launch) (G : Gx) (hr hp ap av he aw al af as_ : Nat) (ar : Nat → Nat) (E : Scr) (h a : Nat) (sh : Nat → Int32) (nu : Int32) (t : Nat) (hok : Sok E) (hS : SHok sh) (h1 : 1 ≤ t) (h4 : t ≤ 4) (x : Nat) (hx : x ≤ 8) : Ct l G SF0 yX8_valueAt wsX8_valueAt ({ frames := 2, cells := 0, slots := 0, locals := 49 }) [.ref hr, .ref h, .int (nI x)] ((rbW G hr hp ap av he aw al af as_ ar E) ++ [(h, .inr (10, [.ref a, .int nu, .int (nI t)])), (a, .inl (gI G, 8, .inl sh))]) mkI (fun (r : Int32) (u : Scr) => r = nI (lagS (fh sh t 8) (svn sh) x) ∧ Sok u) (fun u : Scr => ((rbW G hr hp ap av he aw al af as_ ar u) ++ [(h, .inr (10, [.ref a, .int nu, .int (nI t)])), (a, .inl (gI G, 8, .inl sh))])) 0 0 := by
  refine Ct.ofI (cc := cX8_valueAt) (maxL := 3) (by decide) rfl ⟨by simp [Value.category], Nat.le_of_ble_eq_true rfl⟩ ?_
  intro K hl hC hSF hnm hE
  subst hl
  have q0_ : ∀ w ∈ u_ws RX8 TX8 2, w ∈ wsX8_valueAt := by decide +kernel
  have q1_ : Cond.fieldLink RX8 12 "FeatherShares$Rebuilder" "points" "LFeatherShares$Points;" ∈ wsX8_valueAt := by decide +kernel
  show V G K 3 0 0 0 [some (.ref hr), some (.ref h), some (.int (nI x))] [] ((rbW G hr hp ap av he aw al af as_ ar E) ++ [(h, .inr (10, [.ref a, .int nu, .int (nI t)])), (a, .inl (gI G, 8, .inl sh))])
  refine V.aload_n hC (x := hr) dX8_valueAt_0 rfl ?_
  refine V.getf hC (T := TX8) q0_ 0 q1_ rfl (0) rfl rfl (by decide) (.ref hp) rfl dX8_valueAt_1 ?_
  refine V.aload_n hC (x := h) dX8_valueAt_4 rfl ?_
  refine V.aload_n hC (x := h) dX8_valueAt_5 rfl ?_
  refine V.aload_n hC (x := h) dX8_valueAt_6 rfl ?_
  refine V.callVr (n := 0) (As := []) (rest := [.ref h, .ref h, .ref hp]) hC (c_need (kl K) G h a sh nu (nI t)) SFk0 SFgo0 gX8_valueAt_X10_need rfl ⟨rfl, rfl⟩ (by decide +kernel) ⟨by decide, by decide, by decide, by decide⟩ [13, 14] rfl (by decide) rfl rfl rfl rfl (Nat.le_of_ble_eq_true rfl) dX8_valueAt_7 (fun r_7 u_7 hp_7 => ?_)
  subst hp_7
  show V G K 3 0 0 10 [some (.ref hr), some (.ref h), some (.int (nI x))] [.int (nI t), .ref h, .ref h, .ref hp] ((rbW G hr hp ap av he aw al af as_ ar E) ++ [(h, .inr (10, [.ref a, .int nu, .int (nI t)])), (a, .inl (gI G, 8, .inl sh))])
  refine V.callVr (n := 1) (As := [.int (nI t)]) (rest := [.ref h, .ref hp]) hC (c_firstHolders (kl K) G h a sh nu (nI t) t (by omega)) SFk0 SFgo0 gX8_valueAt_X10_firstHolders rfl ⟨rfl, rfl⟩ (by decide +kernel) ⟨by decide, by decide, by decide, by decide⟩ [13, 14] rfl (by decide) rfl rfl rfl rfl (Nat.le_of_ble_eq_true rfl) dX8_valueAt_10 (fun r_10 u_10 hp_10 => ?_)
  subst hp_10
  show V G K 3 0 0 13 [some (.ref hr), some (.ref h), some (.int (nI x))] [.int (nI (fh sh t 8)), .ref h, .ref hp] ((rbW G hr hp ap av he aw al af as_ ar E) ++ [(h, .inr (10, [.ref a, .int nu, .int (nI t)])), (a, .inl (gI G, 8, .inl sh))])
  refine V.callV (n := 2) (As := [.ref h, .int (nI (fh sh t 8))]) (rest := []) hC (c_takeFrom (kl K) G hp ap av (E.1) (E.2.1) (E.2.2.1) h a sh nu (nI t) (fh sh t 8) (by first | assumption | exact fh_256 _ _ _ (Nat.le_refl 8)) (svn sh) (fun b hb q => ((HB.fh hS t) b hb q).1)) SFk0 SFgo0 gX8_valueAt_X5_takeFrom rfl ⟨rfl, rfl⟩ (by decide +kernel) ⟨by decide, by decide, by decide, by decide⟩ [1, 2, 3, 13, 14] rfl (by decide) (fun _ => rfl) rfl rfl rfl rfl (Nat.le_of_ble_eq_true rfl) dX8_valueAt_13 (fun r_13 u_13 hp_13 => ?_)
  show V G K 3 0 0 16 [some (.ref hr), some (.ref h), some (.int (nI x))] [] ((rbW G hr hp ap av he aw al af as_ ar (popb (fh sh t 8) 8, plr (fh sh t 8) (E.2.1) 8, vlr (fh sh t 8) (svn sh) (E.2.2.1) 8, E.2.2.2.1, E.2.2.2.2.1, E.2.2.2.2.2.1, E.2.2.2.2.2.2.1, E.2.2.2.2.2.2.2)) ++ [(h, .inr (10, [.ref a, .int nu, .int (nI t)])), (a, .inl (gI G, 8, .inl sh))])
  refine V.aload_n hC (x := hr) dX8_valueAt_16 rfl ?_
  refine V.getf hC (T := TX8) q0_ 0 q1_ rfl (0) rfl rfl (by decide) (.ref hp) rfl dX8_valueAt_17 ?_
  refine V.iload_n hC (x := nI x) dX8_valueAt_20 rfl ?_
  refine V.callVr (n := 1) (As := [.int (nI x)]) (rest := []) hC (c_pointsAt (kl K) G hp ap av (popb (fh sh t 8) 8) (plr (fh sh t 8) (E.2.1) 8) (vlr (fh sh t 8) (svn sh) (E.2.2.1) 8) (popb_le _ _) (fun j q => plr_le q) (fun j q => vlr_lt (fun b hb y => ((HB.fh hS t) b hb y).2) q) x hx) SFk0 SFgo0 gX8_valueAt_X5_valueAt rfl ⟨rfl, rfl⟩ (by decide +kernel) ⟨by decide, by decide, by decide, by decide⟩ [1, 2, 3] rfl (by decide) rfl rfl rfl rfl (Nat.le_of_ble_eq_true rfl) dX8_valueAt_21 (fun r_21 u_21 hp_21 => ?_)
  subst hp_21
  show V G K 3 0 0 24 [some (.ref hr), some (.ref h), some (.int (nI x))] [.int (nI (lgv (plr (fh sh t 8) (E.2.1) 8) (vlr (fh sh t 8) (svn sh) (E.2.2.1) 8) (popb (fh sh t 8) 8) x (popb (fh sh t 8) 8)))] ((rbW G hr hp ap av he aw al af as_ ar (popb (fh sh t 8) 8, plr (fh sh t 8) (E.2.1) 8, vlr (fh sh t 8) (svn sh) (E.2.2.1) 8, E.2.2.2.1, E.2.2.2.2.1, E.2.2.2.2.2.1, E.2.2.2.2.2.2.1, E.2.2.2.2.2.2.2)) ++ [(h, .inr (10, [.ref a, .int nu, .int (nI t)])), (a, .inl (gI G, 8, .inl sh))])
  refine V.topeq (nI (lagS (fh sh t 8) (svn sh) x)) (congrArg nI (lgv_lagS _ _ _ _ _)) ?_
  exact hE 24 _ (nI (lagS (fh sh t 8) (svn sh) x)) (popb (fh sh t 8) 8, plr (fh sh t 8) (E.2.1) 8, vlr (fh sh t 8) (svn sh) (E.2.2.1) 8, E.2.2.2.1, E.2.2.2.2.1, E.2.2.2.2.2.1, E.2.2.2.2.2.2.1, E.2.2.2.2.2.2.2) dX8_valueAt_24 rfl ⟨rfl, hok⟩
