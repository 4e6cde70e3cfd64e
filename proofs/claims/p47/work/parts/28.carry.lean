/-! Changer: a change carried out (printed by gen/s28.py) -/
set_option maxHeartbeats 4000000 in
set_option maxRecDepth 100000 in
theorem c_co0 (l : Launch) (G : Gx) (hg hr : Nat) (h ah as_ : Nat) (rr ra : Nat → Nat) (hm : Nat → Int32) (nb ns : Nat) (la : Int32) (lo : Int64) (nu : Nat → Int32) (tn : Nat → Nat) (sh : Nat → Nat → Int32) (hb8 : nb < 8) (hs6 : ns ≤ 6) (x y z : Int32) : Ct l G (SFx G) yX1_carryOut wsX1_carryOut ({ frames := 1, cells := 0, slots := 0, locals := 21 }) [.ref hg, .ref (adD G 0), .int x, .int y, .int z] ([(hg, .inr (4, [.ref h, .ref hr]))] ++ (stW G h ah as_ rr ra hm nb ns la lo nu tn sh)) mkI (fun (r : Int32) (_ : Unit) => r = nI nb) (fun _ : Unit => ([(hg, .inr (4, [.ref h, .ref hr]))] ++ (stW G h ah as_ rr ra (upd hm nb x) (nb + 1) ns la lo nu tn sh))) 0 0 := by
  refine Ct.ofI (cc := cX1_carryOut) (maxL := 5) (by decide) rfl ⟨by simp [Value.category], Nat.le_of_ble_eq_true rfl⟩ ?_
  intro K hl hC hSF hnm hE
  subst hl
  have hgo := SFgoS (SFx.k G) hSF
  have q0_ : Cond.fieldLink RX1 25 "FeatherShares$1" "$SwitchMap$FeatherShares$Deed" "[I" ∈ wsX1_carryOut := by decide +kernel
  have q1_ : ∀ w ∈ u_ws RX1 TX1 2, w ∈ wsX1_carryOut := by decide +kernel
  have q2_ : Cond.fieldLink RX1 12 "FeatherShares$Changer" "state" "LFeatherShares$State;" ∈ wsX1_carryOut := by decide +kernel
  show V G K 5 0 0 0 [some (.ref hg), some (.ref (adD G 0)), some (.int x), some (.int y), some (.int z)] [] ([(hg, .inr (4, [.ref h, .ref hr]))] ++ (stW G h ah as_ rr ra hm nb ns la lo nu tn sh))
  refine V.gets hC (n := "$SwitchMap$FeatherShares$Deed") hSF.2.2.1 q0_ rfl dX1_carryOut_0 ?_
  refine V.aload_n hC (x := adD G 0) dX1_carryOut_3 rfl ?_
  refine V.callU (x := ⟨"FeatherShares$Deed", "ordinal", "()I"⟩) (n := 0) (As := []) (rest := [.ref (smD G)]) hC (c_ordinalD (kl K) G 0 (by decide)) (SFx.k G) hgo (hSF.dO 0 (by decide)) gX1_carryOut_Jx29ce0_ordinal_8abf5_u31X2 rfl ⟨rfl, rfl⟩ rfl (by decide +kernel) ⟨by decide, by decide, by decide, by decide⟩ [] rfl (by decide) (fun _ => rfl) rfl rfl (Nat.le_of_ble_eq_true rfl) dX1_carryOut_4 (fun r_4 u_4 hp_4 => ?_)
  subst hp_4
  show V G K 5 0 0 7 [some (.ref hg), some (.ref (adD G 0)), some (.int x), some (.int y), some (.int z)] [.int (nI 0), .ref (smD G)] ([(hg, .inr (4, [.ref h, .ref hr]))] ++ (stW G h ah as_ rr ra hm nb ns la lo nu tn sh))
  refine V.ti hC hSF.2.2.2.1 dX1_carryOut_7 0 rfl (by decide) (by decide) (.int (nI 1)) rfl ?_
  refine V.tableIn hC (x := nI 1) (off := 36) 44 dX1_carryOut_8 (by decide) (by decide) (by decide) rfl ?_
  refine V.aload_n hC (x := hg) dX1_carryOut_44 rfl ?_
  refine V.getf hC (T := TX1) q1_ 0 q2_ rfl (0) rfl rfl (by decide) (.ref h) rfl dX1_carryOut_45 ?_
  refine V.iload_n hC (x := x) dX1_carryOut_48 rfl ?_
  refine V.callV (n := 1) (As := [.int x]) (rest := []) hC (c_settle (kl K) G h ah as_ rr ra hm nb ns la lo nu tn sh hb8 hs6 x) SFk0 SFgo0 gX1_carryOut_X11_settle rfl ⟨rfl, rfl⟩ (by decide +kernel) ⟨by decide, by decide, by decide, by decide⟩ [1, 2, 3, 4, 5, 6, 7, 8, 9, 10, 11, 12, 13, 14, 15] rfl (by decide) (fun _ => Eq.refl [h, ah, as_, rr 0, ra 0, rr 1, ra 1, rr 2, ra 2, rr 3, ra 3, rr 4, ra 4, rr 5, ra 5]) rfl rfl rfl rfl (Nat.le_of_ble_eq_true rfl) dX1_carryOut_49 (fun r_49 u_49 hp_49 => ?_)
  subst hp_49
  refine V.eqw (ws' := ([(hg, .inr (4, [.ref h, .ref hr]))] ++ (stW G h ah as_ rr ra (upd hm nb x) (nb + 1) ns la lo nu tn sh))) (rj_by [1, 2, 3, 4, 5, 6, 7, 8, 9, 10, 11, 12, 13, 14, 15] [0] 16 rfl rfl (by decide) (by decide) rfl rfl) ?_
  show V G K 5 0 0 52 [some (.ref hg), some (.ref (adD G 0)), some (.int x), some (.int y), some (.int z)] [.int (nI nb)] ([(hg, .inr (4, [.ref h, .ref hr]))] ++ (stW G h ah as_ rr ra (upd hm nb x) (nb + 1) ns la lo nu tn sh))
  exact hE 52 _ (nI nb) () dX1_carryOut_52 rfl rfl

set_option maxHeartbeats 4000000 in
set_option maxRecDepth 100000 in
theorem c_co1 (l : Launch) (G : Gx) (hg hr : Nat) (h ah as_ : Nat) (rr ra : Nat → Nat) (hm : Nat → Int32) (nb ns : Nat) (la : Int32) (lo : Int64) (nu : Nat → Int32) (tn : Nat → Nat) (sh : Nat → Nat → Int32) (hb8 : nb ≤ 8) (hs6 : ns ≤ 6) (b : Nat) (hb : b < 8) (y z : Int32) : Ct l G (SFx G) yX1_carryOut wsX1_carryOut ({ frames := 2, cells := 0, slots := 0, locals := 44 }) [.ref hg, .ref (adD G 1), .int (nI b), .int y, .int z] ([(hg, .inr (4, [.ref h, .ref hr]))] ++ (stW G h ah as_ rr ra hm nb ns la lo nu tn sh)) mkI (fun (r : Int32) (_ : Unit) => r = hm b) (fun _ : Unit => ([(hg, .inr (4, [.ref h, .ref hr]))] ++ (stW G h ah as_ rr ra (upd hm b y) nb ns la lo nu tn sh))) 0 0 := by
  refine Ct.ofI (cc := cX1_carryOut) (maxL := 5) (by decide) rfl ⟨by simp [Value.category], Nat.le_of_ble_eq_true rfl⟩ ?_
  intro K hl hC hSF hnm hE
  subst hl
  have hgo := SFgoS (SFx.k G) hSF
  have q0_ : Cond.fieldLink RX1 25 "FeatherShares$1" "$SwitchMap$FeatherShares$Deed" "[I" ∈ wsX1_carryOut := by decide +kernel
  have q1_ : ∀ w ∈ u_ws RX1 TX1 2, w ∈ wsX1_carryOut := by decide +kernel
  have q2_ : Cond.fieldLink RX1 12 "FeatherShares$Changer" "state" "LFeatherShares$State;" ∈ wsX1_carryOut := by decide +kernel
  show V G K 5 0 0 0 [some (.ref hg), some (.ref (adD G 1)), some (.int (nI b)), some (.int y), some (.int z)] [] ([(hg, .inr (4, [.ref h, .ref hr]))] ++ (stW G h ah as_ rr ra hm nb ns la lo nu tn sh))
  refine V.gets hC (n := "$SwitchMap$FeatherShares$Deed") hSF.2.2.1 q0_ rfl dX1_carryOut_0 ?_
  refine V.aload_n hC (x := adD G 1) dX1_carryOut_3 rfl ?_
  refine V.callU (x := ⟨"FeatherShares$Deed", "ordinal", "()I"⟩) (n := 0) (As := []) (rest := [.ref (smD G)]) hC (c_ordinalD (kl K) G 1 (by decide)) (SFx.k G) hgo (hSF.dO 1 (by decide)) gX1_carryOut_Jx29ce0_ordinal_8abf5_u31X2 rfl ⟨rfl, rfl⟩ rfl (by decide +kernel) ⟨by decide, by decide, by decide, by decide⟩ [] rfl (by decide) (fun _ => rfl) rfl rfl (Nat.le_of_ble_eq_true rfl) dX1_carryOut_4 (fun r_4 u_4 hp_4 => ?_)
  subst hp_4
  show V G K 5 0 0 7 [some (.ref hg), some (.ref (adD G 1)), some (.int (nI b)), some (.int y), some (.int z)] [.int (nI 1), .ref (smD G)] ([(hg, .inr (4, [.ref h, .ref hr]))] ++ (stW G h ah as_ rr ra hm nb ns la lo nu tn sh))
  refine V.ti hC hSF.2.2.2.1 dX1_carryOut_7 1 rfl (by decide) (by decide) (.int (nI 2)) rfl ?_
  refine V.tableIn hC (x := nI 2) (off := 45) 53 dX1_carryOut_8 (by decide) (by decide) (by decide) rfl ?_
  refine V.aload_n hC (x := hg) dX1_carryOut_53 rfl ?_
  refine V.getf hC (T := TX1) q1_ 0 q2_ rfl (0) rfl rfl (by decide) (.ref h) rfl dX1_carryOut_54 ?_
  refine V.iload_n hC (x := nI b) dX1_carryOut_57 rfl ?_
  refine V.iload_n hC (x := y) dX1_carryOut_58 rfl ?_
  refine V.callV (n := 2) (As := [.int (nI b), .int y]) (rest := []) hC (c_resettle (kl K) G h ah as_ rr ra hm nb ns la lo nu tn sh hb8 hs6 b hb y) SFk0 SFgo0 gX1_carryOut_X11_resettle rfl ⟨rfl, rfl⟩ (by decide +kernel) ⟨by decide, by decide, by decide, by decide⟩ [1, 2, 3, 4, 5, 6, 7, 8, 9, 10, 11, 12, 13, 14, 15] rfl (by decide) (fun _ => Eq.refl [h, ah, as_, rr 0, ra 0, rr 1, ra 1, rr 2, ra 2, rr 3, ra 3, rr 4, ra 4, rr 5, ra 5]) rfl rfl rfl rfl (Nat.le_of_ble_eq_true rfl) dX1_carryOut_59 (fun r_59 u_59 hp_59 => ?_)
  subst hp_59
  refine V.eqw (ws' := ([(hg, .inr (4, [.ref h, .ref hr]))] ++ (stW G h ah as_ rr ra (upd hm b y) nb ns la lo nu tn sh))) (rj_by [1, 2, 3, 4, 5, 6, 7, 8, 9, 10, 11, 12, 13, 14, 15] [0] 16 rfl rfl (by decide) (by decide) rfl rfl) ?_
  show V G K 5 0 0 62 [some (.ref hg), some (.ref (adD G 1)), some (.int (nI b)), some (.int y), some (.int z)] [.int (hm b)] ([(hg, .inr (4, [.ref h, .ref hr]))] ++ (stW G h ah as_ rr ra (upd hm b y) nb ns la lo nu tn sh))
  exact hE 62 _ (hm b) () dX1_carryOut_62 rfl rfl

set_option maxHeartbeats 4000000 in
set_option maxRecDepth 100000 in
theorem c_co2 (l : Launch) (G : Gx) (hg hr : Nat) (h ah as_ : Nat) (rr ra : Nat → Nat) (hm : Nat → Int32) (nb ns : Nat) (la : Int32) (lo : Int64) (nu : Nat → Int32) (tn : Nat → Nat) (sh : Nat → Nat → Int32) (hb8 : nb ≤ 8) (hs6 : ns < 6) (value t seed : Nat) (hv : value < 97) (ht : 1 ≤ t) (ht4 : t ≤ 4) (hs : seed < 97) : Ct l G (SFx G) yX1_carryOut wsX1_carryOut ({ frames := 3, cells := 0, slots := 0, locals := 75 }) [.ref hg, .ref (adD G 2), .int (nI value), .int (nI t), .int (nI seed)] ([(hg, .inr (4, [.ref h, .ref hr]))] ++ (stW G h ah as_ rr ra hm nb ns la lo nu tn sh)) mkI (fun (r : Int32) (_ : Unit) => r = la + 1) (fun _ : Unit => ([(hg, .inr (4, [.ref h, .ref hr]))] ++ (stW G h ah as_ rr ra hm nb (ns + 1) (la + 1) lo (va_up nu ns (la + 1)) (va_up tn ns t) (va_up sh ns (flf (dl value seed t) (fun _ => -1) nb))))) 0 0 := by
  refine Ct.ofI (cc := cX1_carryOut) (maxL := 5) (by decide) rfl ⟨by simp [Value.category], Nat.le_of_ble_eq_true rfl⟩ ?_
  intro K hl hC hSF hnm hE
  subst hl
  have hgo := SFgoS (SFx.k G) hSF
  have q0_ : Cond.fieldLink RX1 25 "FeatherShares$1" "$SwitchMap$FeatherShares$Deed" "[I" ∈ wsX1_carryOut := by decide +kernel
  have q1_ : ∀ w ∈ u_ws RX1 TX1 2, w ∈ wsX1_carryOut := by decide +kernel
  have q2_ : Cond.fieldLink RX1 12 "FeatherShares$Changer" "state" "LFeatherShares$State;" ∈ wsX1_carryOut := by decide +kernel
  show V G K 5 0 0 0 [some (.ref hg), some (.ref (adD G 2)), some (.int (nI value)), some (.int (nI t)), some (.int (nI seed))] [] ([(hg, .inr (4, [.ref h, .ref hr]))] ++ (stW G h ah as_ rr ra hm nb ns la lo nu tn sh))
  refine V.gets hC (n := "$SwitchMap$FeatherShares$Deed") hSF.2.2.1 q0_ rfl dX1_carryOut_0 ?_
  refine V.aload_n hC (x := adD G 2) dX1_carryOut_3 rfl ?_
  refine V.callU (x := ⟨"FeatherShares$Deed", "ordinal", "()I"⟩) (n := 0) (As := []) (rest := [.ref (smD G)]) hC (c_ordinalD (kl K) G 2 (by decide)) (SFx.k G) hgo (hSF.dO 2 (by decide)) gX1_carryOut_Jx29ce0_ordinal_8abf5_u31X2 rfl ⟨rfl, rfl⟩ rfl (by decide +kernel) ⟨by decide, by decide, by decide, by decide⟩ [] rfl (by decide) (fun _ => rfl) rfl rfl (Nat.le_of_ble_eq_true rfl) dX1_carryOut_4 (fun r_4 u_4 hp_4 => ?_)
  subst hp_4
  show V G K 5 0 0 7 [some (.ref hg), some (.ref (adD G 2)), some (.int (nI value)), some (.int (nI t)), some (.int (nI seed))] [.int (nI 2), .ref (smD G)] ([(hg, .inr (4, [.ref h, .ref hr]))] ++ (stW G h ah as_ rr ra hm nb ns la lo nu tn sh))
  refine V.ti hC hSF.2.2.2.1 dX1_carryOut_7 2 rfl (by decide) (by decide) (.int (nI 3)) rfl ?_
  refine V.tableIn hC (x := nI 3) (off := 55) 63 dX1_carryOut_8 (by decide) (by decide) (by decide) rfl ?_
  refine V.aload_n hC (x := hg) dX1_carryOut_63 rfl ?_
  refine V.getf hC (T := TX1) q1_ 0 q2_ rfl (0) rfl rfl (by decide) (.ref h) rfl dX1_carryOut_64 ?_
  refine V.iload_n hC (x := nI value) dX1_carryOut_67 rfl ?_
  refine V.iload_n hC (x := nI t) dX1_carryOut_68 rfl ?_
  refine V.iload hC (x := nI seed) dX1_carryOut_69 rfl ?_
  refine V.callV (n := 3) (As := [.int (nI value), .int (nI t), .int (nI seed)]) (rest := []) hC (c_open (kl K) G h ah as_ rr ra hm nb ns la lo nu tn sh hb8 hs6 value t seed hv ht ht4 hs) SFk0 SFgo0 gX1_carryOut_X11_open rfl ⟨rfl, rfl⟩ (by decide +kernel) ⟨by decide, by decide, by decide, by decide⟩ [1, 2, 3, 4, 5, 6, 7, 8, 9, 10, 11, 12, 13, 14, 15] rfl (by decide) (fun _ => Eq.refl [h, ah, as_, rr 0, ra 0, rr 1, ra 1, rr 2, ra 2, rr 3, ra 3, rr 4, ra 4, rr 5, ra 5]) rfl rfl rfl rfl (Nat.le_of_ble_eq_true rfl) dX1_carryOut_71 (fun r_71 u_71 hp_71 => ?_)
  subst hp_71
  refine V.eqw (ws' := ([(hg, .inr (4, [.ref h, .ref hr]))] ++ (stW G h ah as_ rr ra hm nb (ns + 1) (la + 1) lo (va_up nu ns (la + 1)) (va_up tn ns t) (va_up sh ns (flf (dl value seed t) (fun _ => -1) nb))))) (rj_by [1, 2, 3, 4, 5, 6, 7, 8, 9, 10, 11, 12, 13, 14, 15] [0] 16 rfl rfl (by decide) (by decide) rfl rfl) ?_
  show V G K 5 0 0 74 [some (.ref hg), some (.ref (adD G 2)), some (.int (nI value)), some (.int (nI t)), some (.int (nI seed))] [.int (la + 1)] ([(hg, .inr (4, [.ref h, .ref hr]))] ++ (stW G h ah as_ rr ra hm nb (ns + 1) (la + 1) lo (va_up nu ns (la + 1)) (va_up tn ns t) (va_up sh ns (flf (dl value seed t) (fun _ => -1) nb))))
  exact hE 74 _ (la + 1) () dX1_carryOut_74 rfl rfl

set_option maxHeartbeats 4000000 in
set_option maxRecDepth 100000 in
theorem c_co6 (l : Launch) (G : Gx) (hg hr : Nat) (h ah as_ : Nat) (rr ra : Nat → Nat) (hm : Nat → Int32) (nb ns : Nat) (la : Int32) (lo : Int64) (nu : Nat → Int32) (tn : Nat → Nat) (sh : Nat → Nat → Int32) (hb8 : nb ≤ 8) (hs6 : ns ≤ 6) (x : Int32) (k : Nat) (hk : k < 6) (hf : fd nu x ns = some k) (ht : 1 ≤ tn k) (ht4 : tn k ≤ 4) (seed : Nat) (hs : seed < 97) (z : Int32) : Ct l G (SFx G) yX1_carryOut wsX1_carryOut ({ frames := 3, cells := 0, slots := 0, locals := 73 }) [.ref hg, .ref (adD G 6), .int x, .int (nI seed), .int z] ([(hg, .inr (4, [.ref h, .ref hr]))] ++ (stW G h ah as_ rr ra hm nb ns la lo nu tn sh)) mkI (fun (r : Int32) (_ : Unit) => r = nI (rct (sh k) (rfa seed (tn k)) 8)) (fun _ : Unit => ([(hg, .inr (4, [.ref h, .ref hr]))] ++ (stW G h ah as_ rr ra hm nb ns la lo nu tn (va_up sh k (rfs (sh k) (rfa seed (tn k))))))) 0 0 := by
  refine Ct.ofI (cc := cX1_carryOut) (maxL := 5) (by decide) rfl ⟨by simp [Value.category], Nat.le_of_ble_eq_true rfl⟩ ?_
  intro K hl hC hSF hnm hE
  subst hl
  have hgo := SFgoS (SFx.k G) hSF
  have q0_ : Cond.fieldLink RX1 25 "FeatherShares$1" "$SwitchMap$FeatherShares$Deed" "[I" ∈ wsX1_carryOut := by decide +kernel
  have q1_ : ∀ w ∈ u_ws RX1 TX1 2, w ∈ wsX1_carryOut := by decide +kernel
  have q2_ : Cond.fieldLink RX1 12 "FeatherShares$Changer" "state" "LFeatherShares$State;" ∈ wsX1_carryOut := by decide +kernel
  show V G K 5 0 0 0 [some (.ref hg), some (.ref (adD G 6)), some (.int x), some (.int (nI seed)), some (.int z)] [] ([(hg, .inr (4, [.ref h, .ref hr]))] ++ (stW G h ah as_ rr ra hm nb ns la lo nu tn sh))
  refine V.gets hC (n := "$SwitchMap$FeatherShares$Deed") hSF.2.2.1 q0_ rfl dX1_carryOut_0 ?_
  refine V.aload_n hC (x := adD G 6) dX1_carryOut_3 rfl ?_
  refine V.callU (x := ⟨"FeatherShares$Deed", "ordinal", "()I"⟩) (n := 0) (As := []) (rest := [.ref (smD G)]) hC (c_ordinalD (kl K) G 6 (by decide)) (SFx.k G) hgo (hSF.dO 6 (by decide)) gX1_carryOut_Jx29ce0_ordinal_8abf5_u31X2 rfl ⟨rfl, rfl⟩ rfl (by decide +kernel) ⟨by decide, by decide, by decide, by decide⟩ [] rfl (by decide) (fun _ => rfl) rfl rfl (Nat.le_of_ble_eq_true rfl) dX1_carryOut_4 (fun r_4 u_4 hp_4 => ?_)
  subst hp_4
  show V G K 5 0 0 7 [some (.ref hg), some (.ref (adD G 6)), some (.int x), some (.int (nI seed)), some (.int z)] [.int (nI 6), .ref (smD G)] ([(hg, .inr (4, [.ref h, .ref hr]))] ++ (stW G h ah as_ rr ra hm nb ns la lo nu tn sh))
  refine V.ti hC hSF.2.2.2.1 dX1_carryOut_7 6 rfl (by decide) (by decide) (.int (nI 4)) rfl ?_
  refine V.tableIn hC (x := nI 4) (off := 67) 75 dX1_carryOut_8 (by decide) (by decide) (by decide) rfl ?_
  refine V.aload_n hC (x := hg) dX1_carryOut_75 rfl ?_
  refine V.aload_n hC (x := hg) dX1_carryOut_76 rfl ?_
  refine V.getf hC (T := TX1) q1_ 0 q2_ rfl (0) rfl rfl (by decide) (.ref h) rfl dX1_carryOut_77 ?_
  refine V.iload_n hC (x := x) dX1_carryOut_80 rfl ?_
  refine V.callVr (n := 1) (As := [.int x]) (rest := [.ref hg]) hC (c_find (kl K) G h ah as_ rr ra hm nb ns la lo nu tn sh hb8 hs6 x) SFk0 SFgo0 gX1_carryOut_X11_find rfl ⟨rfl, rfl⟩ (by decide +kernel) ⟨by decide, by decide, by decide, by decide⟩ [1, 2, 3, 4, 5, 6, 7, 8, 9, 10, 11, 12, 13, 14, 15] rfl (by decide) rfl rfl rfl rfl (Nat.le_of_ble_eq_true rfl) dX1_carryOut_81 (fun r_81 u_81 hp_81 => ?_)
  rw [hf] at hp_81
  subst hp_81
  show V G K 5 0 0 84 [some (.ref hg), some (.ref (adD G 6)), some (.int x), some (.int (nI seed)), some (.int z)] [.ref (rr k), .ref hg] ([(hg, .inr (4, [.ref h, .ref hr]))] ++ (stW G h ah as_ rr ra hm nb ns la lo nu tn sh))
  refine V.iload_n hC (x := nI seed) dX1_carryOut_84 rfl ?_
  refine V.callV (n := 2) (As := [.ref (rr k), .int (nI seed)]) (rest := []) hC (c_refreshed (kl K) G hg hr h ah as_ rr ra hm nb ns la lo nu tn sh hb8 hs6 k hk ht ht4 seed hs) (SFx.k G) hgo gX1_carryOut_X1_refreshed rfl ⟨rfl, rfl⟩ (by decide +kernel) ⟨by decide, by decide, by decide, by decide⟩ [0, 1, 2, 3, 4, 5, 6, 7, 8, 9, 10, 11, 12, 13, 14, 15] rfl (by decide) (fun _ => Eq.refl [hg, h, ah, as_, rr 0, ra 0, rr 1, ra 1, rr 2, ra 2, rr 3, ra 3, rr 4, ra 4, rr 5, ra 5]) rfl rfl rfl rfl (Nat.le_of_ble_eq_true rfl) dX1_carryOut_85 (fun r_85 u_85 hp_85 => ?_)
  subst hp_85
  refine V.eqw (ws' := ([(hg, .inr (4, [.ref h, .ref hr]))] ++ (stW G h ah as_ rr ra hm nb ns la lo nu tn (va_up sh k (rfs (sh k) (rfa seed (tn k))))))) (rj_by [0, 1, 2, 3, 4, 5, 6, 7, 8, 9, 10, 11, 12, 13, 14, 15] [] 16 rfl rfl (by decide) (by decide) rfl rfl) ?_
  show V G K 5 0 0 88 [some (.ref hg), some (.ref (adD G 6)), some (.int x), some (.int (nI seed)), some (.int z)] [.int (nI (rct (sh k) (rfa seed (tn k)) 8))] ([(hg, .inr (4, [.ref h, .ref hr]))] ++ (stW G h ah as_ rr ra hm nb ns la lo nu tn (va_up sh k (rfs (sh k) (rfa seed (tn k))))))
  exact hE 88 _ (nI (rct (sh k) (rfa seed (tn k)) 8)) () dX1_carryOut_88 rfl rfl

set_option maxHeartbeats 4000000 in
set_option maxRecDepth 100000 in
theorem c_co7 (l : Launch) (G : Gx) (hg hr : Nat) (h ah as_ : Nat) (rr ra : Nat → Nat) (hm : Nat → Int32) (nb ns : Nat) (la : Int32) (lo : Int64) (nu : Nat → Int32) (tn : Nat → Nat) (sh : Nat → Nat → Int32) (hb8 : nb ≤ 8) (hs6 : ns ≤ 6) (x y z : Int32) (c : Nat) (hf : fd nu x ns = some c) : Ct l G (SFx G) yX1_carryOut wsX1_carryOut ({ frames := 3, cells := 0, slots := 0, locals := 65 }) [.ref hg, .ref (adD G 7), .int x, .int y, .int z] ([(hg, .inr (4, [.ref h, .ref hr]))] ++ (stW G h ah as_ rr ra hm nb ns la lo nu tn sh)) mkI (fun (r : Int32) (_ : Unit) => r = nI (hc (sh c) 8)) (fun _ : Unit => ([(hg, .inr (4, [.ref h, .ref hr]))] ++ (stWf G h ah as_ rr ra hm nb (ns - 1) la lo nu tn sh (fun k => some (rr (pm c ns k)))))) 0 0 := by
  refine Ct.ofI (cc := cX1_carryOut) (maxL := 5) (by decide) rfl ⟨by simp [Value.category], Nat.le_of_ble_eq_true rfl⟩ ?_
  intro K hl hC hSF hnm hE
  subst hl
  have hgo := SFgoS (SFx.k G) hSF
  have q0_ : Cond.fieldLink RX1 25 "FeatherShares$1" "$SwitchMap$FeatherShares$Deed" "[I" ∈ wsX1_carryOut := by decide +kernel
  have q1_ : ∀ w ∈ u_ws RX1 TX1 2, w ∈ wsX1_carryOut := by decide +kernel
  have q2_ : Cond.fieldLink RX1 12 "FeatherShares$Changer" "state" "LFeatherShares$State;" ∈ wsX1_carryOut := by decide +kernel
  show V G K 5 0 0 0 [some (.ref hg), some (.ref (adD G 7)), some (.int x), some (.int y), some (.int z)] [] ([(hg, .inr (4, [.ref h, .ref hr]))] ++ (stW G h ah as_ rr ra hm nb ns la lo nu tn sh))
  refine V.gets hC (n := "$SwitchMap$FeatherShares$Deed") hSF.2.2.1 q0_ rfl dX1_carryOut_0 ?_
  refine V.aload_n hC (x := adD G 7) dX1_carryOut_3 rfl ?_
  refine V.callU (x := ⟨"FeatherShares$Deed", "ordinal", "()I"⟩) (n := 0) (As := []) (rest := [.ref (smD G)]) hC (c_ordinalD (kl K) G 7 (by decide)) (SFx.k G) hgo (hSF.dO 7 (by decide)) gX1_carryOut_Jx29ce0_ordinal_8abf5_u31X2 rfl ⟨rfl, rfl⟩ rfl (by decide +kernel) ⟨by decide, by decide, by decide, by decide⟩ [] rfl (by decide) (fun _ => rfl) rfl rfl (Nat.le_of_ble_eq_true rfl) dX1_carryOut_4 (fun r_4 u_4 hp_4 => ?_)
  subst hp_4
  show V G K 5 0 0 7 [some (.ref hg), some (.ref (adD G 7)), some (.int x), some (.int y), some (.int z)] [.int (nI 7), .ref (smD G)] ([(hg, .inr (4, [.ref h, .ref hr]))] ++ (stW G h ah as_ rr ra hm nb ns la lo nu tn sh))
  refine V.ti hC hSF.2.2.2.1 dX1_carryOut_7 7 rfl (by decide) (by decide) (.int (nI 5)) rfl ?_
  refine V.tableIn hC (x := nI 5) (off := 81) 89 dX1_carryOut_8 (by decide) (by decide) (by decide) rfl ?_
  refine V.aload_n hC (x := hg) dX1_carryOut_89 rfl ?_
  refine V.aload_n hC (x := hg) dX1_carryOut_90 rfl ?_
  refine V.getf hC (T := TX1) q1_ 0 q2_ rfl (0) rfl rfl (by decide) (.ref h) rfl dX1_carryOut_91 ?_
  refine V.iload_n hC (x := x) dX1_carryOut_94 rfl ?_
  refine V.callVr (n := 1) (As := [.int x]) (rest := [.ref hg]) hC (c_find (kl K) G h ah as_ rr ra hm nb ns la lo nu tn sh hb8 hs6 x) SFk0 SFgo0 gX1_carryOut_X11_find rfl ⟨rfl, rfl⟩ (by decide +kernel) ⟨by decide, by decide, by decide, by decide⟩ [1, 2, 3, 4, 5, 6, 7, 8, 9, 10, 11, 12, 13, 14, 15] rfl (by decide) rfl rfl rfl rfl (Nat.le_of_ble_eq_true rfl) dX1_carryOut_95 (fun r_95 u_95 hp_95 => ?_)
  rw [hf] at hp_95
  subst hp_95
  show V G K 5 0 0 98 [some (.ref hg), some (.ref (adD G 7)), some (.int x), some (.int y), some (.int z)] [.ref (rr c), .ref hg] ([(hg, .inr (4, [.ref h, .ref hr]))] ++ (stW G h ah as_ rr ra hm nb ns la lo nu tn sh))
  refine V.callV (n := 1) (As := [.ref (rr c)]) (rest := []) hC (c_forgotten (kl K) G hg hr h ah as_ rr ra hm nb ns la lo nu tn sh hb8 hs6 c (fd_some hf).1) (SFx.k G) hgo gX1_carryOut_X1_forgotten rfl ⟨rfl, rfl⟩ (by decide +kernel) ⟨by decide, by decide, by decide, by decide⟩ [0, 1, 2, 3, 4, 5, 6, 7, 8, 9, 10, 11, 12, 13, 14, 15] rfl (by decide) (fun _ => Eq.refl [hg, h, ah, as_, rr 0, ra 0, rr 1, ra 1, rr 2, ra 2, rr 3, ra 3, rr 4, ra 4, rr 5, ra 5]) rfl rfl rfl rfl (Nat.le_of_ble_eq_true rfl) dX1_carryOut_98 (fun r_98 u_98 hp_98 => ?_)
  subst hp_98
  refine V.eqw (ws' := ([(hg, .inr (4, [.ref h, .ref hr]))] ++ (stWf G h ah as_ rr ra hm nb (ns - 1) la lo nu tn sh (fun k => some (rr (pm c ns k)))))) (rj_by [0, 1, 2, 3, 4, 5, 6, 7, 8, 9, 10, 11, 12, 13, 14, 15] [] 16 rfl rfl (by decide) (by decide) rfl rfl) ?_
  show V G K 5 0 0 101 [some (.ref hg), some (.ref (adD G 7)), some (.int x), some (.int y), some (.int z)] [.int (nI (hc (sh c) 8))] ([(hg, .inr (4, [.ref h, .ref hr]))] ++ (stWf G h ah as_ rr ra hm nb (ns - 1) la lo nu tn sh (fun k => some (rr (pm c ns k)))))
  exact hE 101 _ (nI (hc (sh c) 8)) () dX1_carryOut_101 rfl rfl

set_option maxHeartbeats 4000000 in
set_option maxRecDepth 100000 in
theorem c_co3 (l : Launch) (G : Gx) (hg hr : Nat) (h ah as_ : Nat) (rr ra : Nat → Nat) (hm : Nat → Int32) (nb ns : Nat) (la : Int32) (lo : Int64) (nu : Nat → Int32) (tn : Nat → Nat) (sh : Nat → Nat → Int32) (hb8 : nb ≤ 8) (hs6 : ns ≤ 6) (b : Nat) (hb : b < 8) (y z : Int32) (k : Nat) (hk : k < 6) (hf : fd nu y ns = some k) : Ct l G (SFx G) yX1_carryOut wsX1_carryOut ({ frames := 3, cells := 0, slots := 0, locals := 68 }) [.ref hg, .ref (adD G 3), .int (nI b), .int y, .int z] ([(hg, .inr (4, [.ref h, .ref hr]))] ++ (stW G h ah as_ rr ra hm nb ns la lo nu tn sh)) mkI (fun (r : Int32) (_ : Unit) => r = nI (hc (upd (sh k) b (-1)) 8)) (fun _ : Unit => ([(hg, .inr (4, [.ref h, .ref hr]))] ++ (stW G h ah as_ rr ra hm nb ns la (lo + 1) nu tn (va_up sh k (upd (sh k) b (-1)))))) 0 0 := by
  refine Ct.ofI (cc := cX1_carryOut) (maxL := 5) (by decide) rfl ⟨by simp [Value.category], Nat.le_of_ble_eq_true rfl⟩ ?_
  intro K hl hC hSF hnm hE
  subst hl
  have hgo := SFgoS (SFx.k G) hSF
  have q0_ : Cond.fieldLink RX1 25 "FeatherShares$1" "$SwitchMap$FeatherShares$Deed" "[I" ∈ wsX1_carryOut := by decide +kernel
  have q1_ : ∀ w ∈ u_ws RX1 TX1 2, w ∈ wsX1_carryOut := by decide +kernel
  have q2_ : Cond.fieldLink RX1 12 "FeatherShares$Changer" "state" "LFeatherShares$State;" ∈ wsX1_carryOut := by decide +kernel
  show V G K 5 0 0 0 [some (.ref hg), some (.ref (adD G 3)), some (.int (nI b)), some (.int y), some (.int z)] [] ([(hg, .inr (4, [.ref h, .ref hr]))] ++ (stW G h ah as_ rr ra hm nb ns la lo nu tn sh))
  refine V.gets hC (n := "$SwitchMap$FeatherShares$Deed") hSF.2.2.1 q0_ rfl dX1_carryOut_0 ?_
  refine V.aload_n hC (x := adD G 3) dX1_carryOut_3 rfl ?_
  refine V.callU (x := ⟨"FeatherShares$Deed", "ordinal", "()I"⟩) (n := 0) (As := []) (rest := [.ref (smD G)]) hC (c_ordinalD (kl K) G 3 (by decide)) (SFx.k G) hgo (hSF.dO 3 (by decide)) gX1_carryOut_Jx29ce0_ordinal_8abf5_u31X2 rfl ⟨rfl, rfl⟩ rfl (by decide +kernel) ⟨by decide, by decide, by decide, by decide⟩ [] rfl (by decide) (fun _ => rfl) rfl rfl (Nat.le_of_ble_eq_true rfl) dX1_carryOut_4 (fun r_4 u_4 hp_4 => ?_)
  subst hp_4
  show V G K 5 0 0 7 [some (.ref hg), some (.ref (adD G 3)), some (.int (nI b)), some (.int y), some (.int z)] [.int (nI 3), .ref (smD G)] ([(hg, .inr (4, [.ref h, .ref hr]))] ++ (stW G h ah as_ rr ra hm nb ns la lo nu tn sh))
  refine V.ti hC hSF.2.2.2.1 dX1_carryOut_7 3 rfl (by decide) (by decide) (.int (nI 6)) rfl ?_
  refine V.tableOut hC (x := nI 6) 102 dX1_carryOut_8 (by decide) rfl ?_
  refine V.aload_n hC (x := hg) dX1_carryOut_102 rfl ?_
  refine V.aload_n hC (x := adD G 3) dX1_carryOut_103 rfl ?_
  refine V.iload_n hC (x := nI b) dX1_carryOut_104 rfl ?_
  refine V.aload_n hC (x := hg) dX1_carryOut_105 rfl ?_
  refine V.getf hC (T := TX1) q1_ 0 q2_ rfl (0) rfl rfl (by decide) (.ref h) rfl dX1_carryOut_106 ?_
  refine V.iload_n hC (x := y) dX1_carryOut_109 rfl ?_
  refine V.callVr (n := 1) (As := [.int y]) (rest := [.int (nI b), .ref (adD G 3), .ref hg]) hC (c_find (kl K) G h ah as_ rr ra hm nb ns la lo nu tn sh hb8 hs6 y) SFk0 SFgo0 gX1_carryOut_X11_find rfl ⟨rfl, rfl⟩ (by decide +kernel) ⟨by decide, by decide, by decide, by decide⟩ [1, 2, 3, 4, 5, 6, 7, 8, 9, 10, 11, 12, 13, 14, 15] rfl (by decide) rfl rfl rfl rfl (Nat.le_of_ble_eq_true rfl) dX1_carryOut_110 (fun r_110 u_110 hp_110 => ?_)
  rw [hf] at hp_110
  subst hp_110
  show V G K 5 0 0 113 [some (.ref hg), some (.ref (adD G 3)), some (.int (nI b)), some (.int y), some (.int z)] [.ref (rr k), .int (nI b), .ref (adD G 3), .ref hg] ([(hg, .inr (4, [.ref h, .ref hr]))] ++ (stW G h ah as_ rr ra hm nb ns la lo nu tn sh))
  refine V.iload hC (x := z) dX1_carryOut_113 rfl ?_
  refine V.callV (n := 4) (As := [.ref (adD G 3), .int (nI b), .ref (rr k), .int z]) (rest := []) hC (c_sc3 (kl K) G hg hr h ah as_ rr ra hm nb ns la lo nu tn sh hb8 hs6 b hb k hk z) (SFx.k G) hgo gX1_carryOut_X1_shareChanged rfl ⟨rfl, rfl⟩ (by decide +kernel) ⟨by decide, by decide, by decide, by decide⟩ [0, 1, 2, 3, 4, 5, 6, 7, 8, 9, 10, 11, 12, 13, 14, 15] rfl (by decide) (fun _ => Eq.refl [hg, h, ah, as_, rr 0, ra 0, rr 1, ra 1, rr 2, ra 2, rr 3, ra 3, rr 4, ra 4, rr 5, ra 5]) rfl rfl rfl rfl (Nat.le_of_ble_eq_true rfl) dX1_carryOut_115 (fun r_115 u_115 hp_115 => ?_)
  subst hp_115
  refine V.eqw (ws' := ([(hg, .inr (4, [.ref h, .ref hr]))] ++ (stW G h ah as_ rr ra hm nb ns la (lo + 1) nu tn (va_up sh k (upd (sh k) b (-1)))))) (rj_by [0, 1, 2, 3, 4, 5, 6, 7, 8, 9, 10, 11, 12, 13, 14, 15] [] 16 rfl rfl (by decide) (by decide) rfl rfl) ?_
  show V G K 5 0 0 118 [some (.ref hg), some (.ref (adD G 3)), some (.int (nI b)), some (.int y), some (.int z)] [.int (nI (hc (upd (sh k) b (-1)) 8))] ([(hg, .inr (4, [.ref h, .ref hr]))] ++ (stW G h ah as_ rr ra hm nb ns la (lo + 1) nu tn (va_up sh k (upd (sh k) b (-1)))))
  exact hE 118 _ (nI (hc (upd (sh k) b (-1)) 8)) () dX1_carryOut_118 rfl rfl

set_option maxHeartbeats 4000000 in
set_option maxRecDepth 100000 in
theorem c_co4 (l : Launch) (G : Gx) (hg hr : Nat) (h ah as_ : Nat) (rr ra : Nat → Nat) (hm : Nat → Int32) (nb ns : Nat) (la : Int32) (lo : Int64) (nu : Nat → Int32) (tn : Nat → Nat) (sh : Nat → Nat → Int32) (hb8 : nb ≤ 8) (hs6 : ns ≤ 6) (b : Nat) (hb : b < 8) (y z : Int32) (k : Nat) (hk : k < 6) (hf : fd nu y ns = some k) : Ct l G (SFx G) yX1_carryOut wsX1_carryOut ({ frames := 2, cells := 0, slots := 0, locals := 46 }) [.ref hg, .ref (adD G 4), .int (nI b), .int y, .int z] ([(hg, .inr (4, [.ref h, .ref hr]))] ++ (stW G h ah as_ rr ra hm nb ns la lo nu tn sh)) mkI (fun (r : Int32) (_ : Unit) => r = (sh k b + z) - (sh k b + z) / 97 * 97) (fun _ : Unit => ([(hg, .inr (4, [.ref h, .ref hr]))] ++ (stW G h ah as_ rr ra hm nb ns la lo nu tn (va_up sh k (upd (sh k) b ((sh k b + z) - (sh k b + z) / 97 * 97)))))) 0 0 := by
  refine Ct.ofI (cc := cX1_carryOut) (maxL := 5) (by decide) rfl ⟨by simp [Value.category], Nat.le_of_ble_eq_true rfl⟩ ?_
  intro K hl hC hSF hnm hE
  subst hl
  have hgo := SFgoS (SFx.k G) hSF
  have q0_ : Cond.fieldLink RX1 25 "FeatherShares$1" "$SwitchMap$FeatherShares$Deed" "[I" ∈ wsX1_carryOut := by decide +kernel
  have q1_ : ∀ w ∈ u_ws RX1 TX1 2, w ∈ wsX1_carryOut := by decide +kernel
  have q2_ : Cond.fieldLink RX1 12 "FeatherShares$Changer" "state" "LFeatherShares$State;" ∈ wsX1_carryOut := by decide +kernel
  show V G K 5 0 0 0 [some (.ref hg), some (.ref (adD G 4)), some (.int (nI b)), some (.int y), some (.int z)] [] ([(hg, .inr (4, [.ref h, .ref hr]))] ++ (stW G h ah as_ rr ra hm nb ns la lo nu tn sh))
  refine V.gets hC (n := "$SwitchMap$FeatherShares$Deed") hSF.2.2.1 q0_ rfl dX1_carryOut_0 ?_
  refine V.aload_n hC (x := adD G 4) dX1_carryOut_3 rfl ?_
  refine V.callU (x := ⟨"FeatherShares$Deed", "ordinal", "()I"⟩) (n := 0) (As := []) (rest := [.ref (smD G)]) hC (c_ordinalD (kl K) G 4 (by decide)) (SFx.k G) hgo (hSF.dO 4 (by decide)) gX1_carryOut_Jx29ce0_ordinal_8abf5_u31X2 rfl ⟨rfl, rfl⟩ rfl (by decide +kernel) ⟨by decide, by decide, by decide, by decide⟩ [] rfl (by decide) (fun _ => rfl) rfl rfl (Nat.le_of_ble_eq_true rfl) dX1_carryOut_4 (fun r_4 u_4 hp_4 => ?_)
  subst hp_4
  show V G K 5 0 0 7 [some (.ref hg), some (.ref (adD G 4)), some (.int (nI b)), some (.int y), some (.int z)] [.int (nI 4), .ref (smD G)] ([(hg, .inr (4, [.ref h, .ref hr]))] ++ (stW G h ah as_ rr ra hm nb ns la lo nu tn sh))
  refine V.ti hC hSF.2.2.2.1 dX1_carryOut_7 4 rfl (by decide) (by decide) (.int (nI 7)) rfl ?_
  refine V.tableOut hC (x := nI 7) 102 dX1_carryOut_8 (by decide) rfl ?_
  refine V.aload_n hC (x := hg) dX1_carryOut_102 rfl ?_
  refine V.aload_n hC (x := adD G 4) dX1_carryOut_103 rfl ?_
  refine V.iload_n hC (x := nI b) dX1_carryOut_104 rfl ?_
  refine V.aload_n hC (x := hg) dX1_carryOut_105 rfl ?_
  refine V.getf hC (T := TX1) q1_ 0 q2_ rfl (0) rfl rfl (by decide) (.ref h) rfl dX1_carryOut_106 ?_
  refine V.iload_n hC (x := y) dX1_carryOut_109 rfl ?_
  refine V.callVr (n := 1) (As := [.int y]) (rest := [.int (nI b), .ref (adD G 4), .ref hg]) hC (c_find (kl K) G h ah as_ rr ra hm nb ns la lo nu tn sh hb8 hs6 y) SFk0 SFgo0 gX1_carryOut_X11_find rfl ⟨rfl, rfl⟩ (by decide +kernel) ⟨by decide, by decide, by decide, by decide⟩ [1, 2, 3, 4, 5, 6, 7, 8, 9, 10, 11, 12, 13, 14, 15] rfl (by decide) rfl rfl rfl rfl (Nat.le_of_ble_eq_true rfl) dX1_carryOut_110 (fun r_110 u_110 hp_110 => ?_)
  rw [hf] at hp_110
  subst hp_110
  show V G K 5 0 0 113 [some (.ref hg), some (.ref (adD G 4)), some (.int (nI b)), some (.int y), some (.int z)] [.ref (rr k), .int (nI b), .ref (adD G 4), .ref hg] ([(hg, .inr (4, [.ref h, .ref hr]))] ++ (stW G h ah as_ rr ra hm nb ns la lo nu tn sh))
  refine V.iload hC (x := z) dX1_carryOut_113 rfl ?_
  refine V.callV (n := 4) (As := [.ref (adD G 4), .int (nI b), .ref (rr k), .int z]) (rest := []) hC (c_sc4 (kl K) G hg hr h ah as_ rr ra hm nb ns la lo nu tn sh hb8 hs6 b hb k hk z) (SFx.k G) hgo gX1_carryOut_X1_shareChanged rfl ⟨rfl, rfl⟩ (by decide +kernel) ⟨by decide, by decide, by decide, by decide⟩ [0, 1, 2, 3, 4, 5, 6, 7, 8, 9, 10, 11, 12, 13, 14, 15] rfl (by decide) (fun _ => Eq.refl [hg, h, ah, as_, rr 0, ra 0, rr 1, ra 1, rr 2, ra 2, rr 3, ra 3, rr 4, ra 4, rr 5, ra 5]) rfl rfl rfl rfl (Nat.le_of_ble_eq_true rfl) dX1_carryOut_115 (fun r_115 u_115 hp_115 => ?_)
  subst hp_115
  refine V.eqw (ws' := ([(hg, .inr (4, [.ref h, .ref hr]))] ++ (stW G h ah as_ rr ra hm nb ns la lo nu tn (va_up sh k (upd (sh k) b ((sh k b + z) - (sh k b + z) / 97 * 97)))))) (rj_by [0, 1, 2, 3, 4, 5, 6, 7, 8, 9, 10, 11, 12, 13, 14, 15] [] 16 rfl rfl (by decide) (by decide) rfl rfl) ?_
  show V G K 5 0 0 118 [some (.ref hg), some (.ref (adD G 4)), some (.int (nI b)), some (.int y), some (.int z)] [.int ((sh k b + z) - (sh k b + z) / 97 * 97)] ([(hg, .inr (4, [.ref h, .ref hr]))] ++ (stW G h ah as_ rr ra hm nb ns la lo nu tn (va_up sh k (upd (sh k) b ((sh k b + z) - (sh k b + z) / 97 * 97)))))
  exact hE 118 _ ((sh k b + z) - (sh k b + z) / 97 * 97) () dX1_carryOut_118 rfl rfl

set_option maxHeartbeats 4000000 in
set_option maxRecDepth 100000 in
theorem c_co5 (l : Launch) (G : Gx) (hg hr : Nat) (hp ap av he aw al af as3 : Nat) (ar : Nat → Nat) (E : Scr) (hok : Sok E) (h ah as_ : Nat) (rr ra : Nat → Nat) (hm : Nat → Int32) (nb ns : Nat) (la : Int32) (lo : Int64) (nu : Nat → Int32) (tn : Nat → Nat) (sh : Nat → Nat → Int32) (hb8 : nb ≤ 8) (hs6 : ns ≤ 6) (b : Nat) (hb : b < 8) (y z : Int32) (k : Nat) (hk : k < 6) (hf : fd nu y ns = some k) (hSk : SHok (sh k)) (ht : 1 ≤ tn k) (ht4 : tn k ≤ 4) : Ct l G (SFx G) yX1_carryOut wsX1_carryOut ({ frames := 4, cells := 0, slots := 0, locals := 95 }) [.ref hg, .ref (adD G 5), .int (nI b), .int y, .int z] ([(hg, .inr (4, [.ref h, .ref hr]))] ++ ((stW G h ah as_ rr ra hm nb ns la lo nu tn sh) ++ (rbW G hr hp ap av he aw al af as3 ar E))) mkI (fun (r : Int32) (u : Scr) => r = nI (lagS (fh (sh k) (tn k) 8) (svn (sh k)) (b + 1)) ∧ Sok u) (fun u : Scr => ([(hg, .inr (4, [.ref h, .ref hr]))] ++ ((stW G h ah as_ rr ra hm nb ns la lo nu tn (va_up sh k (upd (sh k) b (nI (lagS (fh (sh k) (tn k) 8) (svn (sh k)) (b + 1)))))) ++ (rbW G hr hp ap av he aw al af as3 ar u)))) 0 0 := by
  refine Ct.ofI (cc := cX1_carryOut) (maxL := 5) (by decide) rfl ⟨by simp [Value.category], Nat.le_of_ble_eq_true rfl⟩ ?_
  intro K hl hC hSF hnm hE
  subst hl
  have hgo := SFgoS (SFx.k G) hSF
  have q0_ : Cond.fieldLink RX1 25 "FeatherShares$1" "$SwitchMap$FeatherShares$Deed" "[I" ∈ wsX1_carryOut := by decide +kernel
  have q1_ : ∀ w ∈ u_ws RX1 TX1 2, w ∈ wsX1_carryOut := by decide +kernel
  have q2_ : Cond.fieldLink RX1 12 "FeatherShares$Changer" "state" "LFeatherShares$State;" ∈ wsX1_carryOut := by decide +kernel
  show V G K 5 0 0 0 [some (.ref hg), some (.ref (adD G 5)), some (.int (nI b)), some (.int y), some (.int z)] [] ([(hg, .inr (4, [.ref h, .ref hr]))] ++ ((stW G h ah as_ rr ra hm nb ns la lo nu tn sh) ++ (rbW G hr hp ap av he aw al af as3 ar E)))
  refine V.gets hC (n := "$SwitchMap$FeatherShares$Deed") hSF.2.2.1 q0_ rfl dX1_carryOut_0 ?_
  refine V.aload_n hC (x := adD G 5) dX1_carryOut_3 rfl ?_
  refine V.callU (x := ⟨"FeatherShares$Deed", "ordinal", "()I"⟩) (n := 0) (As := []) (rest := [.ref (smD G)]) hC (c_ordinalD (kl K) G 5 (by decide)) (SFx.k G) hgo (hSF.dO 5 (by decide)) gX1_carryOut_Jx29ce0_ordinal_8abf5_u31X2 rfl ⟨rfl, rfl⟩ rfl (by decide +kernel) ⟨by decide, by decide, by decide, by decide⟩ [] rfl (by decide) (fun _ => rfl) rfl rfl (Nat.le_of_ble_eq_true rfl) dX1_carryOut_4 (fun r_4 u_4 hp_4 => ?_)
  subst hp_4
  show V G K 5 0 0 7 [some (.ref hg), some (.ref (adD G 5)), some (.int (nI b)), some (.int y), some (.int z)] [.int (nI 5), .ref (smD G)] ([(hg, .inr (4, [.ref h, .ref hr]))] ++ ((stW G h ah as_ rr ra hm nb ns la lo nu tn sh) ++ (rbW G hr hp ap av he aw al af as3 ar E)))
  refine V.ti hC hSF.2.2.2.1 dX1_carryOut_7 5 rfl (by decide) (by decide) (.int (nI 0)) rfl ?_
  refine V.tableOut hC (x := nI 0) 102 dX1_carryOut_8 (by decide) rfl ?_
  refine V.aload_n hC (x := hg) dX1_carryOut_102 rfl ?_
  refine V.aload_n hC (x := adD G 5) dX1_carryOut_103 rfl ?_
  refine V.iload_n hC (x := nI b) dX1_carryOut_104 rfl ?_
  refine V.aload_n hC (x := hg) dX1_carryOut_105 rfl ?_
  refine V.getf hC (T := TX1) q1_ 0 q2_ rfl (0) rfl rfl (by decide) (.ref h) rfl dX1_carryOut_106 ?_
  refine V.iload_n hC (x := y) dX1_carryOut_109 rfl ?_
  refine V.callVr (n := 1) (As := [.int y]) (rest := [.int (nI b), .ref (adD G 5), .ref hg]) hC (c_find (kl K) G h ah as_ rr ra hm nb ns la lo nu tn sh hb8 hs6 y) SFk0 SFgo0 gX1_carryOut_X11_find rfl ⟨rfl, rfl⟩ (by decide +kernel) ⟨by decide, by decide, by decide, by decide⟩ [1, 2, 3, 4, 5, 6, 7, 8, 9, 10, 11, 12, 13, 14, 15] rfl (by decide) rfl rfl rfl rfl (Nat.le_of_ble_eq_true rfl) dX1_carryOut_110 (fun r_110 u_110 hp_110 => ?_)
  rw [hf] at hp_110
  subst hp_110
  show V G K 5 0 0 113 [some (.ref hg), some (.ref (adD G 5)), some (.int (nI b)), some (.int y), some (.int z)] [.ref (rr k), .int (nI b), .ref (adD G 5), .ref hg] ([(hg, .inr (4, [.ref h, .ref hr]))] ++ ((stW G h ah as_ rr ra hm nb ns la lo nu tn sh) ++ (rbW G hr hp ap av he aw al af as3 ar E)))
  refine V.iload hC (x := z) dX1_carryOut_113 rfl ?_
  refine V.callV (n := 4) (As := [.ref (adD G 5), .int (nI b), .ref (rr k), .int z]) (rest := []) hC (c_sc5 (kl K) G hg hr hp ap av he aw al af as3 ar E hok h ah as_ rr ra hm nb ns la lo nu tn sh hb8 hs6 b hb k hk z hSk ht ht4) (SFx.k G) hgo gX1_carryOut_X1_shareChanged rfl ⟨rfl, rfl⟩ (by decide +kernel) ⟨by decide, by decide, by decide, by decide⟩ [0, 1, 2, 3, 4, 5, 6, 7, 8, 9, 10, 11, 12, 13, 14, 15, 16, 17, 18, 19, 20, 21, 22, 23, 24, 25, 26, 27, 28] rfl (by decide) (fun _ => Eq.refl [hg, h, ah, as_, rr 0, ra 0, rr 1, ra 1, rr 2, ra 2, rr 3, ra 3, rr 4, ra 4, rr 5, ra 5, hr, hp, ap, av, he, aw, al, af, as3, ar 0, ar 1, ar 2, ar 3]) rfl rfl rfl rfl (Nat.le_of_ble_eq_true rfl) dX1_carryOut_115 (fun r_115 u_115 hp_115 => ?_)
  obtain ⟨e_115, hE_115⟩ := hp_115
  subst e_115
  refine V.eqw (ws' := ([(hg, .inr (4, [.ref h, .ref hr]))] ++ ((stW G h ah as_ rr ra hm nb ns la lo nu tn (va_up sh k (upd (sh k) b (nI (lagS (fh (sh k) (tn k) 8) (svn (sh k)) (b + 1)))))) ++ (rbW G hr hp ap av he aw al af as3 ar u_115)))) (rj_by [0, 1, 2, 3, 4, 5, 6, 7, 8, 9, 10, 11, 12, 13, 14, 15, 16, 17, 18, 19, 20, 21, 22, 23, 24, 25, 26, 27, 28] [] 29 rfl rfl (by decide) (by decide) rfl rfl) ?_
  show V G K 5 0 0 118 [some (.ref hg), some (.ref (adD G 5)), some (.int (nI b)), some (.int y), some (.int z)] [.int (nI (lagS (fh (sh k) (tn k) 8) (svn (sh k)) (b + 1)))] ([(hg, .inr (4, [.ref h, .ref hr]))] ++ ((stW G h ah as_ rr ra hm nb ns la lo nu tn (va_up sh k (upd (sh k) b (nI (lagS (fh (sh k) (tn k) 8) (svn (sh k)) (b + 1)))))) ++ (rbW G hr hp ap av he aw al af as3 ar u_115)))
  exact hE 118 _ (nI (lagS (fh (sh k) (tn k) 8) (svn (sh k)) (b + 1))) u_115 dX1_carryOut_118 rfl ⟨rfl, hE_115⟩
