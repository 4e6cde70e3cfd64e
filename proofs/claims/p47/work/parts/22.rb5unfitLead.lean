/-! Rebuilder: unfitLead (printed by gen/s17.py) -/
set_option maxHeartbeats 4000000 in
set_option maxRecDepth 100000 in
theorem c_unfitLead (l : Launch) (G : Gx) (hr hp ap av he aw al af as_ : Nat) (ar : Nat → Nat) (E : Scr) (h a : Nat) (sh : Nat → Int32) (nu : Int32) (t : Nat) (hok : Sok E) (hS : SHok sh) (h1 : 1 ≤ t) (h4 : t ≤ 4) : Ct l G SF0 yX8_unfitWithLeading wsX8_unfitWithLeading ({ frames := 3, cells := 0, slots := 0, locals := 74 }) [.ref hr, .ref h] ((rbW G hr hp ap av he aw al af as_ ar E) ++ [(h, .inr (10, [.ref a, .int nu, .int (nI t)])), (a, .inl (gI G, 8, .inl sh))]) mkI (fun (r : Int32) (u : Scr) => r = nI (unf (fh sh t 8) (svn sh) (fh sh 8 8) 8) ∧ Sok u) (fun u : Scr => ((rbW G hr hp ap av he aw al af as_ ar u) ++ [(h, .inr (10, [.ref a, .int nu, .int (nI t)])), (a, .inl (gI G, 8, .inl sh))])) 0 0 := by
  refine Ct.ofI (cc := cX8_unfitWithLeading) (maxL := 2) (by decide) rfl ⟨by simp [Value.category], Nat.le_of_ble_eq_true rfl⟩ ?_
  intro K hl hC hSF hnm hE
  subst hl
  show V G K 2 0 0 0 [some (.ref hr), some (.ref h)] [] ((rbW G hr hp ap av he aw al af as_ ar E) ++ [(h, .inr (10, [.ref a, .int nu, .int (nI t)])), (a, .inl (gI G, 8, .inl sh))])
  refine V.aload_n hC (x := hr) dX8_unfitWithLeading_0 rfl ?_
  refine V.aload_n hC (x := h) dX8_unfitWithLeading_1 rfl ?_
  refine V.aload_n hC (x := h) dX8_unfitWithLeading_2 rfl ?_
  refine V.aload_n hC (x := h) dX8_unfitWithLeading_3 rfl ?_
  refine V.callVr (n := 0) (As := []) (rest := [.ref h, .ref h, .ref hr]) hC (c_need (kl K) G h a sh nu (nI t)) SFk0 SFgo0 gX8_unfitWithLeading_X10_need rfl ⟨rfl, rfl⟩ (by decide +kernel) ⟨by decide, by decide, by decide, by decide⟩ [13, 14] rfl (by decide) rfl rfl rfl rfl (Nat.le_of_ble_eq_true rfl) dX8_unfitWithLeading_4 (fun r_4 u_4 hp_4 => ?_)
  subst hp_4
  show V G K 2 0 0 7 [some (.ref hr), some (.ref h)] [.int (nI t), .ref h, .ref h, .ref hr] ((rbW G hr hp ap av he aw al af as_ ar E) ++ [(h, .inr (10, [.ref a, .int nu, .int (nI t)])), (a, .inl (gI G, 8, .inl sh))])
  refine V.callVr (n := 1) (As := [.int (nI t)]) (rest := [.ref h, .ref hr]) hC (c_firstHolders (kl K) G h a sh nu (nI t) t (by omega)) SFk0 SFgo0 gX8_unfitWithLeading_X10_firstHolders rfl ⟨rfl, rfl⟩ (by decide +kernel) ⟨by decide, by decide, by decide, by decide⟩ [13, 14] rfl (by decide) rfl rfl rfl rfl (Nat.le_of_ble_eq_true rfl) dX8_unfitWithLeading_7 (fun r_7 u_7 hp_7 => ?_)
  subst hp_7
  show V G K 2 0 0 10 [some (.ref hr), some (.ref h)] [.int (nI (fh sh t 8)), .ref h, .ref hr] ((rbW G hr hp ap av he aw al af as_ ar E) ++ [(h, .inr (10, [.ref a, .int nu, .int (nI t)])), (a, .inl (gI G, 8, .inl sh))])
  refine V.aload_n hC (x := h) dX8_unfitWithLeading_10 rfl ?_
  refine V.bipush hC 8 dX8_unfitWithLeading_11 rfl ?_
  refine V.callVr (n := 1) (As := [.int 8]) (rest := [.int (nI (fh sh t 8)), .ref h, .ref hr]) hC (c_firstHolders (kl K) G h a sh nu (nI t) 8 (by decide)) SFk0 SFgo0 gX8_unfitWithLeading_X10_firstHolders rfl ⟨rfl, rfl⟩ (by decide +kernel) ⟨by decide, by decide, by decide, by decide⟩ [13, 14] rfl (by decide) rfl rfl rfl rfl (Nat.le_of_ble_eq_true rfl) dX8_unfitWithLeading_13 (fun r_13 u_13 hp_13 => ?_)
  subst hp_13
  show V G K 2 0 0 16 [some (.ref hr), some (.ref h)] [.int (nI (fh sh 8 8)), .int (nI (fh sh t 8)), .ref h, .ref hr] ((rbW G hr hp ap av he aw al af as_ ar E) ++ [(h, .inr (10, [.ref a, .int nu, .int (nI t)])), (a, .inl (gI G, 8, .inl sh))])
  refine V.callV (n := 3) (As := [.ref h, .int (nI (fh sh t 8)), .int (nI (fh sh 8 8))]) (rest := []) hC (c_unfit (kl K) G hr hp ap av he aw al af as_ ar E h a sh nu t hok (fh sh t 8) (fh sh 8 8) (fh_256 _ _ _ (Nat.le_refl 8)) (fh_256 _ _ _ (Nat.le_refl 8)) (HB.fh hS t) (HB.fh hS 8)) SFk0 SFgo0 gX8_unfitWithLeading_X8_unfit rfl ⟨rfl, rfl⟩ (by decide +kernel) ⟨by decide, by decide, by decide, by decide⟩ [0, 1, 2, 3, 4, 5, 6, 7, 8, 9, 10, 11, 12, 13, 14] rfl (by decide) (fun _ => Eq.refl [hr, hp, ap, av, he, aw, al, af, as_, ar 0, ar 1, ar 2, ar 3, h, a]) rfl rfl rfl rfl (Nat.le_of_ble_eq_true rfl) dX8_unfitWithLeading_16 (fun r_16 u_16 hp_16 => ?_)
  obtain ⟨e_16, hE_16⟩ := hp_16
  subst e_16
  show V G K 2 0 0 19 [some (.ref hr), some (.ref h)] [.int (nI (unf (fh sh t 8) (svn sh) (fh sh 8 8) 8))] ((rbW G hr hp ap av he aw al af as_ ar u_16) ++ [(h, .inr (10, [.ref a, .int nu, .int (nI t)])), (a, .inl (gI G, 8, .inl sh))])
  exact hE 19 _ (nI (unf (fh sh t 8) (svn sh) (fh sh 8 8) 8)) u_16 dX8_unfitWithLeading_19 rfl ⟨rfl, hE_16⟩
