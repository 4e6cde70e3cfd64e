/-! Changer: the test of a change, the change (printed by gen/s26.py) -/
set_option maxHeartbeats 4000000 in
set_option maxRecDepth 100000 in
theorem c_pw0 (l : Launch) (G : Gx) (hg hr : Nat) (h ah as_ : Nat) (rr ra : Nat → Nat) (hm : Nat → Int32) (nb ns : Nat) (la : Int32) (lo : Int64) (nu : Nat → Int32) (tn : Nat → Nat) (sh : Nat → Nat → Int32) (hb8 : nb ≤ 8) (hs6 : ns ≤ 6) (x y z : Int32) : Ct l G (SFx G) yX1_problemWith wsX1_problemWith ({ frames := 2, cells := 0, slots := 0, locals := 41 }) [.ref hg, .ref (adD G 0), .int x, .int y, .int z] ([(hg, .inr (4, [.ref h, .ref hr]))] ++ (stW G h ah as_ rr ra hm nb ns la lo nu tn sh)) mkA (fun (r : Option Nat) (_ : Unit) => r = some (adP G (pwB nb x))) (fun _ : Unit => ([(hg, .inr (4, [.ref h, .ref hr]))] ++ (stW G h ah as_ rr ra hm nb ns la lo nu tn sh))) 0 0 := by
  refine Ct.ofA (mk := fun r : Option Nat => va_rf r) (fun r => va_rf_or r) (Or.inl ⟨_, rfl⟩) (cc := cX1_problemWith) (maxL := 5) (by decide) rfl ⟨by simp [Value.category], Nat.le_of_ble_eq_true rfl⟩ ?_
  intro K hl hC hSF hnm hE
  subst hl
  have hgo := SFgoS (SFx.k G) hSF
  have q0_ : Cond.fieldLink RX1 25 "FeatherShares$1" "$SwitchMap$FeatherShares$Deed" "[I" ∈ wsX1_problemWith := by decide +kernel
  show V G K 5 0 0 0 [some (.ref hg), some (.ref (adD G 0)), some (.int x), some (.int y), some (.int z)] [] ([(hg, .inr (4, [.ref h, .ref hr]))] ++ (stW G h ah as_ rr ra hm nb ns la lo nu tn sh))
  refine V.gets hC (n := "$SwitchMap$FeatherShares$Deed") hSF.2.2.1 q0_ rfl dX1_problemWith_0 ?_
  refine V.aload_n hC (x := adD G 0) dX1_problemWith_3 rfl ?_
  refine V.callU (x := ⟨"FeatherShares$Deed", "ordinal", "()I"⟩) (n := 0) (As := []) (rest := [.ref (smD G)]) hC (c_ordinalD (kl K) G 0 (by decide)) (SFx.k G) hgo (hSF.dO 0 (by decide)) gX1_problemWith_Jx29ce0_ordinal_8abf5_u31X2 rfl ⟨rfl, rfl⟩ rfl (by decide +kernel) ⟨by decide, by decide, by decide, by decide⟩ [] rfl (by decide) (fun _ => rfl) rfl rfl (Nat.le_of_ble_eq_true rfl) dX1_problemWith_4 (fun r_4 u_4 hp_4 => ?_)
  subst hp_4
  show V G K 5 0 0 7 [some (.ref hg), some (.ref (adD G 0)), some (.int x), some (.int y), some (.int z)] [.int (nI 0), .ref (smD G)] ([(hg, .inr (4, [.ref h, .ref hr]))] ++ (stW G h ah as_ rr ra hm nb ns la lo nu tn sh))
  refine V.ti hC hSF.2.2.2.1 dX1_problemWith_7 0 rfl (by decide) (by decide) (.int (nI 1)) rfl ?_
  refine V.tableIn hC (x := nI 1) (off := 36) 44 dX1_problemWith_8 (by decide) (by decide) (by decide) rfl ?_
  refine V.aload_n hC (x := hg) dX1_problemWith_44 rfl ?_
  refine V.iload_n hC (x := x) dX1_problemWith_45 rfl ?_
  refine V.callVr (n := 1) (As := [.int x]) (rest := []) hC (c_pwBird (kl K) G hg hr h ah as_ rr ra hm nb ns la lo nu tn sh hb8 hs6 x) (SFx.k G) hgo gX1_problemWith_X1_problemWithBird rfl ⟨rfl, rfl⟩ (by decide +kernel) ⟨by decide, by decide, by decide, by decide⟩ [0, 1, 2, 3, 4, 5, 6, 7, 8, 9, 10, 11, 12, 13, 14, 15] rfl (by decide) rfl rfl rfl rfl (Nat.le_of_ble_eq_true rfl) dX1_problemWith_46 (fun r_46 u_46 hp_46 => ?_)
  subst hp_46
  show V G K 5 0 0 49 [some (.ref hg), some (.ref (adD G 0)), some (.int x), some (.int y), some (.int z)] [.ref (adP G (pwB nb x))] ([(hg, .inr (4, [.ref h, .ref hr]))] ++ (stW G h ah as_ rr ra hm nb ns la lo nu tn sh))
  exact hE 49 _ (some (adP G (pwB nb x))) () dX1_problemWith_49 rfl

set_option maxHeartbeats 4000000 in
set_option maxRecDepth 100000 in
theorem c_pw1 (l : Launch) (G : Gx) (hg hr : Nat) (h ah as_ : Nat) (rr ra : Nat → Nat) (hm : Nat → Int32) (nb ns : Nat) (la : Int32) (lo : Int64) (nu : Nat → Int32) (tn : Nat → Nat) (sh : Nat → Nat → Int32) (hb8 : nb ≤ 8) (hs6 : ns ≤ 6) (x y z : Int32) : Ct l G (SFx G) yX1_problemWith wsX1_problemWith ({ frames := 2, cells := 0, slots := 0, locals := 43 }) [.ref hg, .ref (adD G 1), .int x, .int y, .int z] ([(hg, .inr (4, [.ref h, .ref hr]))] ++ (stW G h ah as_ rr ra hm nb ns la lo nu tn sh)) mkA (fun (r : Option Nat) (_ : Unit) => r = some (adP G (pwM nb x y))) (fun _ : Unit => ([(hg, .inr (4, [.ref h, .ref hr]))] ++ (stW G h ah as_ rr ra hm nb ns la lo nu tn sh))) 0 0 := by
  refine Ct.ofA (mk := fun r : Option Nat => va_rf r) (fun r => va_rf_or r) (Or.inl ⟨_, rfl⟩) (cc := cX1_problemWith) (maxL := 5) (by decide) rfl ⟨by simp [Value.category], Nat.le_of_ble_eq_true rfl⟩ ?_
  intro K hl hC hSF hnm hE
  subst hl
  have hgo := SFgoS (SFx.k G) hSF
  have q0_ : Cond.fieldLink RX1 25 "FeatherShares$1" "$SwitchMap$FeatherShares$Deed" "[I" ∈ wsX1_problemWith := by decide +kernel
  show V G K 5 0 0 0 [some (.ref hg), some (.ref (adD G 1)), some (.int x), some (.int y), some (.int z)] [] ([(hg, .inr (4, [.ref h, .ref hr]))] ++ (stW G h ah as_ rr ra hm nb ns la lo nu tn sh))
  refine V.gets hC (n := "$SwitchMap$FeatherShares$Deed") hSF.2.2.1 q0_ rfl dX1_problemWith_0 ?_
  refine V.aload_n hC (x := adD G 1) dX1_problemWith_3 rfl ?_
  refine V.callU (x := ⟨"FeatherShares$Deed", "ordinal", "()I"⟩) (n := 0) (As := []) (rest := [.ref (smD G)]) hC (c_ordinalD (kl K) G 1 (by decide)) (SFx.k G) hgo (hSF.dO 1 (by decide)) gX1_problemWith_Jx29ce0_ordinal_8abf5_u31X2 rfl ⟨rfl, rfl⟩ rfl (by decide +kernel) ⟨by decide, by decide, by decide, by decide⟩ [] rfl (by decide) (fun _ => rfl) rfl rfl (Nat.le_of_ble_eq_true rfl) dX1_problemWith_4 (fun r_4 u_4 hp_4 => ?_)
  subst hp_4
  show V G K 5 0 0 7 [some (.ref hg), some (.ref (adD G 1)), some (.int x), some (.int y), some (.int z)] [.int (nI 1), .ref (smD G)] ([(hg, .inr (4, [.ref h, .ref hr]))] ++ (stW G h ah as_ rr ra hm nb ns la lo nu tn sh))
  refine V.ti hC hSF.2.2.2.1 dX1_problemWith_7 1 rfl (by decide) (by decide) (.int (nI 2)) rfl ?_
  refine V.tableIn hC (x := nI 2) (off := 42) 50 dX1_problemWith_8 (by decide) (by decide) (by decide) rfl ?_
  refine V.aload_n hC (x := hg) dX1_problemWith_50 rfl ?_
  refine V.iload_n hC (x := x) dX1_problemWith_51 rfl ?_
  refine V.iload_n hC (x := y) dX1_problemWith_52 rfl ?_
  refine V.callVr (n := 2) (As := [.int x, .int y]) (rest := []) hC (c_pwMove (kl K) G hg hr h ah as_ rr ra hm nb ns la lo nu tn sh hb8 hs6 x y) (SFx.k G) hgo gX1_problemWith_X1_problemWithMove rfl ⟨rfl, rfl⟩ (by decide +kernel) ⟨by decide, by decide, by decide, by decide⟩ [0, 1, 2, 3, 4, 5, 6, 7, 8, 9, 10, 11, 12, 13, 14, 15] rfl (by decide) rfl rfl rfl rfl (Nat.le_of_ble_eq_true rfl) dX1_problemWith_53 (fun r_53 u_53 hp_53 => ?_)
  subst hp_53
  show V G K 5 0 0 56 [some (.ref hg), some (.ref (adD G 1)), some (.int x), some (.int y), some (.int z)] [.ref (adP G (pwM nb x y))] ([(hg, .inr (4, [.ref h, .ref hr]))] ++ (stW G h ah as_ rr ra hm nb ns la lo nu tn sh))
  exact hE 56 _ (some (adP G (pwM nb x y))) () dX1_problemWith_56 rfl

set_option maxHeartbeats 4000000 in
set_option maxRecDepth 100000 in
theorem c_pw2 (l : Launch) (G : Gx) (hg hr : Nat) (h ah as_ : Nat) (rr ra : Nat → Nat) (hm : Nat → Int32) (nb ns : Nat) (la : Int32) (lo : Int64) (nu : Nat → Int32) (tn : Nat → Nat) (sh : Nat → Nat → Int32) (hb8 : nb ≤ 8) (hs6 : ns ≤ 6) (x y z : Int32) : Ct l G (SFx G) yX1_problemWith wsX1_problemWith ({ frames := 2, cells := 0, slots := 0, locals := 43 }) [.ref hg, .ref (adD G 2), .int x, .int y, .int z] ([(hg, .inr (4, [.ref h, .ref hr]))] ++ (stW G h ah as_ rr ra hm nb ns la lo nu tn sh)) mkA (fun (r : Option Nat) (_ : Unit) => r = some (adP G (pwS nb ns x y z))) (fun _ : Unit => ([(hg, .inr (4, [.ref h, .ref hr]))] ++ (stW G h ah as_ rr ra hm nb ns la lo nu tn sh))) 0 0 := by
  refine Ct.ofA (mk := fun r : Option Nat => va_rf r) (fun r => va_rf_or r) (Or.inl ⟨_, rfl⟩) (cc := cX1_problemWith) (maxL := 5) (by decide) rfl ⟨by simp [Value.category], Nat.le_of_ble_eq_true rfl⟩ ?_
  intro K hl hC hSF hnm hE
  subst hl
  have hgo := SFgoS (SFx.k G) hSF
  have q0_ : Cond.fieldLink RX1 25 "FeatherShares$1" "$SwitchMap$FeatherShares$Deed" "[I" ∈ wsX1_problemWith := by decide +kernel
  show V G K 5 0 0 0 [some (.ref hg), some (.ref (adD G 2)), some (.int x), some (.int y), some (.int z)] [] ([(hg, .inr (4, [.ref h, .ref hr]))] ++ (stW G h ah as_ rr ra hm nb ns la lo nu tn sh))
  refine V.gets hC (n := "$SwitchMap$FeatherShares$Deed") hSF.2.2.1 q0_ rfl dX1_problemWith_0 ?_
  refine V.aload_n hC (x := adD G 2) dX1_problemWith_3 rfl ?_
  refine V.callU (x := ⟨"FeatherShares$Deed", "ordinal", "()I"⟩) (n := 0) (As := []) (rest := [.ref (smD G)]) hC (c_ordinalD (kl K) G 2 (by decide)) (SFx.k G) hgo (hSF.dO 2 (by decide)) gX1_problemWith_Jx29ce0_ordinal_8abf5_u31X2 rfl ⟨rfl, rfl⟩ rfl (by decide +kernel) ⟨by decide, by decide, by decide, by decide⟩ [] rfl (by decide) (fun _ => rfl) rfl rfl (Nat.le_of_ble_eq_true rfl) dX1_problemWith_4 (fun r_4 u_4 hp_4 => ?_)
  subst hp_4
  show V G K 5 0 0 7 [some (.ref hg), some (.ref (adD G 2)), some (.int x), some (.int y), some (.int z)] [.int (nI 2), .ref (smD G)] ([(hg, .inr (4, [.ref h, .ref hr]))] ++ (stW G h ah as_ rr ra hm nb ns la lo nu tn sh))
  refine V.ti hC hSF.2.2.2.1 dX1_problemWith_7 2 rfl (by decide) (by decide) (.int (nI 3)) rfl ?_
  refine V.tableIn hC (x := nI 3) (off := 49) 57 dX1_problemWith_8 (by decide) (by decide) (by decide) rfl ?_
  refine V.aload_n hC (x := hg) dX1_problemWith_57 rfl ?_
  refine V.iload_n hC (x := x) dX1_problemWith_58 rfl ?_
  refine V.iload_n hC (x := y) dX1_problemWith_59 rfl ?_
  refine V.iload hC (x := z) dX1_problemWith_60 rfl ?_
  refine V.callVr (n := 3) (As := [.int x, .int y, .int z]) (rest := []) hC (c_pwSplit (kl K) G hg hr h ah as_ rr ra hm nb ns la lo nu tn sh hb8 hs6 x y z) (SFx.k G) hgo gX1_problemWith_X1_problemWithSplit rfl ⟨rfl, rfl⟩ (by decide +kernel) ⟨by decide, by decide, by decide, by decide⟩ [0, 1, 2, 3, 4, 5, 6, 7, 8, 9, 10, 11, 12, 13, 14, 15] rfl (by decide) rfl rfl rfl rfl (Nat.le_of_ble_eq_true rfl) dX1_problemWith_62 (fun r_62 u_62 hp_62 => ?_)
  subst hp_62
  show V G K 5 0 0 65 [some (.ref hg), some (.ref (adD G 2)), some (.int x), some (.int y), some (.int z)] [.ref (adP G (pwS nb ns x y z))] ([(hg, .inr (4, [.ref h, .ref hr]))] ++ (stW G h ah as_ rr ra hm nb ns la lo nu tn sh))
  exact hE 65 _ (some (adP G (pwS nb ns x y z))) () dX1_problemWith_65 rfl

theorem c_pwRefresh (l : Launch) (G : Gx) (hg hr : Nat) (h ah as_ : Nat) (rr ra : Nat → Nat) (hm : Nat → Int32) (nb ns : Nat) (la : Int32) (lo : Int64) (nu : Nat → Int32) (tn : Nat → Nat) (sh : Nat → Nat → Int32) (hb8 : nb ≤ 8) (hs6 : ns ≤ 6) (x y : Int32) : Ct l G (SFx G) yX1_problemWithRefresh wsX1_problemWithRefresh ({ frames := 2, cells := 0, slots := 0, locals := 44 }) [.ref hg, .int x, .int y] ([(hg, .inr (4, [.ref h, .ref hr]))] ++ (stW G h ah as_ rr ra hm nb ns la lo nu tn sh)) mkA (fun (r : Option Nat) (_ : Unit) => r = some (adP G (pwR (fd nu x ns) y))) (fun _ : Unit => ([(hg, .inr (4, [.ref h, .ref hr]))] ++ (stW G h ah as_ rr ra hm nb ns la lo nu tn sh))) 0 0 := by
  rcases hf : fd nu x ns with _ | k
  · exact c_pwRefreshN l G hg hr h ah as_ rr ra hm nb ns la lo nu tn sh hb8 hs6 x y hf
  · exact c_pwRefreshF l G hg hr h ah as_ rr ra hm nb ns la lo nu tn sh hb8 hs6 x y k (Nat.lt_of_lt_of_le (fd_some hf).1 hs6) hf

set_option maxHeartbeats 4000000 in
set_option maxRecDepth 100000 in
theorem c_pw6 (l : Launch) (G : Gx) (hg hr : Nat) (h ah as_ : Nat) (rr ra : Nat → Nat) (hm : Nat → Int32) (nb ns : Nat) (la : Int32) (lo : Int64) (nu : Nat → Int32) (tn : Nat → Nat) (sh : Nat → Nat → Int32) (hb8 : nb ≤ 8) (hs6 : ns ≤ 6) (x y z : Int32) : Ct l G (SFx G) yX1_problemWith wsX1_problemWith ({ frames := 3, cells := 0, slots := 0, locals := 66 }) [.ref hg, .ref (adD G 6), .int x, .int y, .int z] ([(hg, .inr (4, [.ref h, .ref hr]))] ++ (stW G h ah as_ rr ra hm nb ns la lo nu tn sh)) mkA (fun (r : Option Nat) (_ : Unit) => r = some (adP G (pwR (fd nu x ns) y))) (fun _ : Unit => ([(hg, .inr (4, [.ref h, .ref hr]))] ++ (stW G h ah as_ rr ra hm nb ns la lo nu tn sh))) 0 0 := by
  refine Ct.ofA (mk := fun r : Option Nat => va_rf r) (fun r => va_rf_or r) (Or.inl ⟨_, rfl⟩) (cc := cX1_problemWith) (maxL := 5) (by decide) rfl ⟨by simp [Value.category], Nat.le_of_ble_eq_true rfl⟩ ?_
  intro K hl hC hSF hnm hE
  subst hl
  have hgo := SFgoS (SFx.k G) hSF
  have q0_ : Cond.fieldLink RX1 25 "FeatherShares$1" "$SwitchMap$FeatherShares$Deed" "[I" ∈ wsX1_problemWith := by decide +kernel
  show V G K 5 0 0 0 [some (.ref hg), some (.ref (adD G 6)), some (.int x), some (.int y), some (.int z)] [] ([(hg, .inr (4, [.ref h, .ref hr]))] ++ (stW G h ah as_ rr ra hm nb ns la lo nu tn sh))
  refine V.gets hC (n := "$SwitchMap$FeatherShares$Deed") hSF.2.2.1 q0_ rfl dX1_problemWith_0 ?_
  refine V.aload_n hC (x := adD G 6) dX1_problemWith_3 rfl ?_
  refine V.callU (x := ⟨"FeatherShares$Deed", "ordinal", "()I"⟩) (n := 0) (As := []) (rest := [.ref (smD G)]) hC (c_ordinalD (kl K) G 6 (by decide)) (SFx.k G) hgo (hSF.dO 6 (by decide)) gX1_problemWith_Jx29ce0_ordinal_8abf5_u31X2 rfl ⟨rfl, rfl⟩ rfl (by decide +kernel) ⟨by decide, by decide, by decide, by decide⟩ [] rfl (by decide) (fun _ => rfl) rfl rfl (Nat.le_of_ble_eq_true rfl) dX1_problemWith_4 (fun r_4 u_4 hp_4 => ?_)
  subst hp_4
  show V G K 5 0 0 7 [some (.ref hg), some (.ref (adD G 6)), some (.int x), some (.int y), some (.int z)] [.int (nI 6), .ref (smD G)] ([(hg, .inr (4, [.ref h, .ref hr]))] ++ (stW G h ah as_ rr ra hm nb ns la lo nu tn sh))
  refine V.ti hC hSF.2.2.2.1 dX1_problemWith_7 6 rfl (by decide) (by decide) (.int (nI 4)) rfl ?_
  refine V.tableIn hC (x := nI 4) (off := 58) 66 dX1_problemWith_8 (by decide) (by decide) (by decide) rfl ?_
  refine V.aload_n hC (x := hg) dX1_problemWith_66 rfl ?_
  refine V.iload_n hC (x := x) dX1_problemWith_67 rfl ?_
  refine V.iload_n hC (x := y) dX1_problemWith_68 rfl ?_
  refine V.callVr (n := 2) (As := [.int x, .int y]) (rest := []) hC (c_pwRefresh (kl K) G hg hr h ah as_ rr ra hm nb ns la lo nu tn sh hb8 hs6 x y) (SFx.k G) hgo gX1_problemWith_X1_problemWithRefresh rfl ⟨rfl, rfl⟩ (by decide +kernel) ⟨by decide, by decide, by decide, by decide⟩ [0, 1, 2, 3, 4, 5, 6, 7, 8, 9, 10, 11, 12, 13, 14, 15] rfl (by decide) rfl rfl rfl rfl (Nat.le_of_ble_eq_true rfl) dX1_problemWith_69 (fun r_69 u_69 hp_69 => ?_)
  subst hp_69
  show V G K 5 0 0 72 [some (.ref hg), some (.ref (adD G 6)), some (.int x), some (.int y), some (.int z)] [.ref (adP G (pwR (fd nu x ns) y))] ([(hg, .inr (4, [.ref h, .ref hr]))] ++ (stW G h ah as_ rr ra hm nb ns la lo nu tn sh))
  exact hE 72 _ (some (adP G (pwR (fd nu x ns) y))) () dX1_problemWith_72 rfl

set_option maxHeartbeats 4000000 in
set_option maxRecDepth 100000 in
theorem c_pw7F (l : Launch) (G : Gx) (hg hr : Nat) (h ah as_ : Nat) (rr ra : Nat → Nat) (hm : Nat → Int32) (nb ns : Nat) (la : Int32) (lo : Int64) (nu : Nat → Int32) (tn : Nat → Nat) (sh : Nat → Nat → Int32) (hb8 : nb ≤ 8) (hs6 : ns ≤ 6) (x y z : Int32) (k : Nat) (hk : k < 6) (hf : fd nu x ns = some k) : Ct l G (SFx G) yX1_problemWith wsX1_problemWith ({ frames := 2, cells := 0, slots := 0, locals := 44 }) [.ref hg, .ref (adD G 7), .int x, .int y, .int z] ([(hg, .inr (4, [.ref h, .ref hr]))] ++ (stW G h ah as_ rr ra hm nb ns la lo nu tn sh)) mkA (fun (r : Option Nat) (_ : Unit) => r = some (adP G (pwF (some k)))) (fun _ : Unit => ([(hg, .inr (4, [.ref h, .ref hr]))] ++ (stW G h ah as_ rr ra hm nb ns la lo nu tn sh))) 0 0 := by
  refine Ct.ofA (mk := fun r : Option Nat => va_rf r) (fun r => va_rf_or r) (Or.inl ⟨_, rfl⟩) (cc := cX1_problemWith) (maxL := 5) (by decide) rfl ⟨by simp [Value.category], Nat.le_of_ble_eq_true rfl⟩ ?_
  intro K hl hC hSF hnm hE
  subst hl
  have hgo := SFgoS (SFx.k G) hSF
  have q0_ : Cond.fieldLink RX1 25 "FeatherShares$1" "$SwitchMap$FeatherShares$Deed" "[I" ∈ wsX1_problemWith := by decide +kernel
  have q1_ : ∀ w ∈ u_ws RX1 TX1 2, w ∈ wsX1_problemWith := by decide +kernel
  have q2_ : Cond.fieldLink RX1 12 "FeatherShares$Changer" "state" "LFeatherShares$State;" ∈ wsX1_problemWith := by decide +kernel
  have q3_ : Cond.fieldLink RX1 62 "FeatherShares$Problem" "NONE" "LFeatherShares$Problem;" ∈ wsX1_problemWith := by decide +kernel
  show V G K 5 0 0 0 [some (.ref hg), some (.ref (adD G 7)), some (.int x), some (.int y), some (.int z)] [] ([(hg, .inr (4, [.ref h, .ref hr]))] ++ (stW G h ah as_ rr ra hm nb ns la lo nu tn sh))
  refine V.gets hC (n := "$SwitchMap$FeatherShares$Deed") hSF.2.2.1 q0_ rfl dX1_problemWith_0 ?_
  refine V.aload_n hC (x := adD G 7) dX1_problemWith_3 rfl ?_
  refine V.callU (x := ⟨"FeatherShares$Deed", "ordinal", "()I"⟩) (n := 0) (As := []) (rest := [.ref (smD G)]) hC (c_ordinalD (kl K) G 7 (by decide)) (SFx.k G) hgo (hSF.dO 7 (by decide)) gX1_problemWith_Jx29ce0_ordinal_8abf5_u31X2 rfl ⟨rfl, rfl⟩ rfl (by decide +kernel) ⟨by decide, by decide, by decide, by decide⟩ [] rfl (by decide) (fun _ => rfl) rfl rfl (Nat.le_of_ble_eq_true rfl) dX1_problemWith_4 (fun r_4 u_4 hp_4 => ?_)
  subst hp_4
  show V G K 5 0 0 7 [some (.ref hg), some (.ref (adD G 7)), some (.int x), some (.int y), some (.int z)] [.int (nI 7), .ref (smD G)] ([(hg, .inr (4, [.ref h, .ref hr]))] ++ (stW G h ah as_ rr ra hm nb ns la lo nu tn sh))
  refine V.ti hC hSF.2.2.2.1 dX1_problemWith_7 7 rfl (by decide) (by decide) (.int (nI 5)) rfl ?_
  refine V.tableIn hC (x := nI 5) (off := 65) 73 dX1_problemWith_8 (by decide) (by decide) (by decide) rfl ?_
  refine V.aload_n hC (x := hg) dX1_problemWith_73 rfl ?_
  refine V.getf hC (T := TX1) q1_ 0 q2_ rfl (0) rfl rfl (by decide) (.ref h) rfl dX1_problemWith_74 ?_
  refine V.iload_n hC (x := x) dX1_problemWith_77 rfl ?_
  refine V.callVr (n := 1) (As := [.int x]) (rest := []) hC (c_find (kl K) G h ah as_ rr ra hm nb ns la lo nu tn sh hb8 hs6 x) SFk0 SFgo0 gX1_problemWith_X11_find rfl ⟨rfl, rfl⟩ (by decide +kernel) ⟨by decide, by decide, by decide, by decide⟩ [1, 2, 3, 4, 5, 6, 7, 8, 9, 10, 11, 12, 13, 14, 15] rfl (by decide) rfl rfl rfl rfl (Nat.le_of_ble_eq_true rfl) dX1_problemWith_78 (fun r_78 u_78 hp_78 => ?_)
  rw [hf] at hp_78
  subst hp_78
  show V G K 5 0 0 81 [some (.ref hg), some (.ref (adD G 7)), some (.int x), some (.int y), some (.int z)] [.ref (rr k)] ([(hg, .inr (4, [.ref h, .ref hr]))] ++ (stW G h ah as_ rr ra hm nb ns la lo nu tn sh))
  refine V.ifnonnull hC 90 dX1_problemWith_81 rfl ?_
  refine V.gets hC (n := "NONE") (hSF.pz 0 (by decide)) q3_ rfl dX1_problemWith_90 ?_
  exact hE 93 _ (some (adP G 0)) () dX1_problemWith_93 rfl

set_option maxHeartbeats 4000000 in
set_option maxRecDepth 100000 in
theorem c_pw7N (l : Launch) (G : Gx) (hg hr : Nat) (h ah as_ : Nat) (rr ra : Nat → Nat) (hm : Nat → Int32) (nb ns : Nat) (la : Int32) (lo : Int64) (nu : Nat → Int32) (tn : Nat → Nat) (sh : Nat → Nat → Int32) (hb8 : nb ≤ 8) (hs6 : ns ≤ 6) (x y z : Int32) (hf : fd nu x ns = none) : Ct l G (SFx G) yX1_problemWith wsX1_problemWith ({ frames := 2, cells := 0, slots := 0, locals := 44 }) [.ref hg, .ref (adD G 7), .int x, .int y, .int z] ([(hg, .inr (4, [.ref h, .ref hr]))] ++ (stW G h ah as_ rr ra hm nb ns la lo nu tn sh)) mkA (fun (r : Option Nat) (_ : Unit) => r = some (adP G (pwF (none)))) (fun _ : Unit => ([(hg, .inr (4, [.ref h, .ref hr]))] ++ (stW G h ah as_ rr ra hm nb ns la lo nu tn sh))) 0 0 := by
  refine Ct.ofA (mk := fun r : Option Nat => va_rf r) (fun r => va_rf_or r) (Or.inl ⟨_, rfl⟩) (cc := cX1_problemWith) (maxL := 5) (by decide) rfl ⟨by simp [Value.category], Nat.le_of_ble_eq_true rfl⟩ ?_
  intro K hl hC hSF hnm hE
  subst hl
  have hgo := SFgoS (SFx.k G) hSF
  have q0_ : Cond.fieldLink RX1 25 "FeatherShares$1" "$SwitchMap$FeatherShares$Deed" "[I" ∈ wsX1_problemWith := by decide +kernel
  have q1_ : ∀ w ∈ u_ws RX1 TX1 2, w ∈ wsX1_problemWith := by decide +kernel
  have q2_ : Cond.fieldLink RX1 12 "FeatherShares$Changer" "state" "LFeatherShares$State;" ∈ wsX1_problemWith := by decide +kernel
  have q3_ : Cond.fieldLink RX1 56 "FeatherShares$Problem" "SECRET" "LFeatherShares$Problem;" ∈ wsX1_problemWith := by decide +kernel
  show V G K 5 0 0 0 [some (.ref hg), some (.ref (adD G 7)), some (.int x), some (.int y), some (.int z)] [] ([(hg, .inr (4, [.ref h, .ref hr]))] ++ (stW G h ah as_ rr ra hm nb ns la lo nu tn sh))
  refine V.gets hC (n := "$SwitchMap$FeatherShares$Deed") hSF.2.2.1 q0_ rfl dX1_problemWith_0 ?_
  refine V.aload_n hC (x := adD G 7) dX1_problemWith_3 rfl ?_
  refine V.callU (x := ⟨"FeatherShares$Deed", "ordinal", "()I"⟩) (n := 0) (As := []) (rest := [.ref (smD G)]) hC (c_ordinalD (kl K) G 7 (by decide)) (SFx.k G) hgo (hSF.dO 7 (by decide)) gX1_problemWith_Jx29ce0_ordinal_8abf5_u31X2 rfl ⟨rfl, rfl⟩ rfl (by decide +kernel) ⟨by decide, by decide, by decide, by decide⟩ [] rfl (by decide) (fun _ => rfl) rfl rfl (Nat.le_of_ble_eq_true rfl) dX1_problemWith_4 (fun r_4 u_4 hp_4 => ?_)
  subst hp_4
  show V G K 5 0 0 7 [some (.ref hg), some (.ref (adD G 7)), some (.int x), some (.int y), some (.int z)] [.int (nI 7), .ref (smD G)] ([(hg, .inr (4, [.ref h, .ref hr]))] ++ (stW G h ah as_ rr ra hm nb ns la lo nu tn sh))
  refine V.ti hC hSF.2.2.2.1 dX1_problemWith_7 7 rfl (by decide) (by decide) (.int (nI 5)) rfl ?_
  refine V.tableIn hC (x := nI 5) (off := 65) 73 dX1_problemWith_8 (by decide) (by decide) (by decide) rfl ?_
  refine V.aload_n hC (x := hg) dX1_problemWith_73 rfl ?_
  refine V.getf hC (T := TX1) q1_ 0 q2_ rfl (0) rfl rfl (by decide) (.ref h) rfl dX1_problemWith_74 ?_
  refine V.iload_n hC (x := x) dX1_problemWith_77 rfl ?_
  refine V.callVr (n := 1) (As := [.int x]) (rest := []) hC (c_find (kl K) G h ah as_ rr ra hm nb ns la lo nu tn sh hb8 hs6 x) SFk0 SFgo0 gX1_problemWith_X11_find rfl ⟨rfl, rfl⟩ (by decide +kernel) ⟨by decide, by decide, by decide, by decide⟩ [1, 2, 3, 4, 5, 6, 7, 8, 9, 10, 11, 12, 13, 14, 15] rfl (by decide) rfl rfl rfl rfl (Nat.le_of_ble_eq_true rfl) dX1_problemWith_78 (fun r_78 u_78 hp_78 => ?_)
  rw [hf] at hp_78
  subst hp_78
  show V G K 5 0 0 81 [some (.ref hg), some (.ref (adD G 7)), some (.int x), some (.int y), some (.int z)] [.null] ([(hg, .inr (4, [.ref h, .ref hr]))] ++ (stW G h ah as_ rr ra hm nb ns la lo nu tn sh))
  refine V.ifnonnullN hC dX1_problemWith_81 ?_
  refine V.gets hC (n := "SECRET") (hSF.pz 3 (by decide)) q3_ rfl dX1_problemWith_84 ?_
  refine V.goto hC 93 dX1_problemWith_87 rfl ?_
  exact hE 93 _ (some (adP G 3)) () dX1_problemWith_93 rfl

set_option maxHeartbeats 4000000 in
set_option maxRecDepth 100000 in
theorem c_pw3FV (l : Launch) (G : Gx) (hg hr : Nat) (h ah as_ : Nat) (rr ra : Nat → Nat) (hm : Nat → Int32) (nb ns : Nat) (la : Int32) (lo : Int64) (nu : Nat → Int32) (tn : Nat → Nat) (sh : Nat → Nat → Int32) (hb8 : nb ≤ 8) (hs6 : ns ≤ 6) (b : Nat) (hb : b < nb) (y z : Int32) (k : Nat) (hk : k < 6) (hf : fd nu y ns = some k) (ht : tn k ≤ 4) : Ct l G (SFx G) yX1_problemWith wsX1_problemWith ({ frames := 2, cells := 0, slots := 0, locals := 45 }) [.ref hg, .ref (adD G 3), .int (nI b), .int y, .int z] ([(hg, .inr (4, [.ref h, .ref hr]))] ++ (stW G h ah as_ rr ra hm nb ns la lo nu tn sh)) mkA (fun (r : Option Nat) (_ : Unit) => r = some (adP G (pwK 3 (sh k) (tn k) b z))) (fun _ : Unit => ([(hg, .inr (4, [.ref h, .ref hr]))] ++ (stW G h ah as_ rr ra hm nb ns la lo nu tn sh))) 0 0 := by
  refine Ct.ofA (mk := fun r : Option Nat => va_rf r) (fun r => va_rf_or r) (Or.inl ⟨_, rfl⟩) (cc := cX1_problemWith) (maxL := 5) (by decide) rfl ⟨by simp [Value.category], Nat.le_of_ble_eq_true rfl⟩ ?_
  intro K hl hC hSF hnm hE
  subst hl
  have hgo := SFgoS (SFx.k G) hSF
  have q0_ : Cond.fieldLink RX1 25 "FeatherShares$1" "$SwitchMap$FeatherShares$Deed" "[I" ∈ wsX1_problemWith := by decide +kernel
  have q1_ : ∀ w ∈ u_ws RX1 TX1 2, w ∈ wsX1_problemWith := by decide +kernel
  have q2_ : Cond.fieldLink RX1 12 "FeatherShares$Changer" "state" "LFeatherShares$State;" ∈ wsX1_problemWith := by decide +kernel
  show V G K 5 0 0 0 [some (.ref hg), some (.ref (adD G 3)), some (.int (nI b)), some (.int y), some (.int z)] [] ([(hg, .inr (4, [.ref h, .ref hr]))] ++ (stW G h ah as_ rr ra hm nb ns la lo nu tn sh))
  refine V.gets hC (n := "$SwitchMap$FeatherShares$Deed") hSF.2.2.1 q0_ rfl dX1_problemWith_0 ?_
  refine V.aload_n hC (x := adD G 3) dX1_problemWith_3 rfl ?_
  refine V.callU (x := ⟨"FeatherShares$Deed", "ordinal", "()I"⟩) (n := 0) (As := []) (rest := [.ref (smD G)]) hC (c_ordinalD (kl K) G 3 (by decide)) (SFx.k G) hgo (hSF.dO 3 (by decide)) gX1_problemWith_Jx29ce0_ordinal_8abf5_u31X2 rfl ⟨rfl, rfl⟩ rfl (by decide +kernel) ⟨by decide, by decide, by decide, by decide⟩ [] rfl (by decide) (fun _ => rfl) rfl rfl (Nat.le_of_ble_eq_true rfl) dX1_problemWith_4 (fun r_4 u_4 hp_4 => ?_)
  subst hp_4
  show V G K 5 0 0 7 [some (.ref hg), some (.ref (adD G 3)), some (.int (nI b)), some (.int y), some (.int z)] [.int (nI 3), .ref (smD G)] ([(hg, .inr (4, [.ref h, .ref hr]))] ++ (stW G h ah as_ rr ra hm nb ns la lo nu tn sh))
  refine V.ti hC hSF.2.2.2.1 dX1_problemWith_7 3 rfl (by decide) (by decide) (.int (nI 6)) rfl ?_
  refine V.tableOut hC (x := nI 6) 94 dX1_problemWith_8 (by decide) rfl ?_
  refine V.aload_n hC (x := hg) dX1_problemWith_94 rfl ?_
  refine V.aload_n hC (x := adD G 3) dX1_problemWith_95 rfl ?_
  refine V.iload_n hC (x := nI b) dX1_problemWith_96 rfl ?_
  refine V.aload_n hC (x := hg) dX1_problemWith_97 rfl ?_
  refine V.getf hC (T := TX1) q1_ 0 q2_ rfl (0) rfl rfl (by decide) (.ref h) rfl dX1_problemWith_98 ?_
  refine V.iload_n hC (x := y) dX1_problemWith_101 rfl ?_
  refine V.callVr (n := 1) (As := [.int y]) (rest := [.int (nI b), .ref (adD G 3), .ref hg]) hC (c_find (kl K) G h ah as_ rr ra hm nb ns la lo nu tn sh hb8 hs6 y) SFk0 SFgo0 gX1_problemWith_X11_find rfl ⟨rfl, rfl⟩ (by decide +kernel) ⟨by decide, by decide, by decide, by decide⟩ [1, 2, 3, 4, 5, 6, 7, 8, 9, 10, 11, 12, 13, 14, 15] rfl (by decide) rfl rfl rfl rfl (Nat.le_of_ble_eq_true rfl) dX1_problemWith_102 (fun r_102 u_102 hp_102 => ?_)
  rw [hf] at hp_102
  subst hp_102
  show V G K 5 0 0 105 [some (.ref hg), some (.ref (adD G 3)), some (.int (nI b)), some (.int y), some (.int z)] [.ref (rr k), .int (nI b), .ref (adD G 3), .ref hg] ([(hg, .inr (4, [.ref h, .ref hr]))] ++ (stW G h ah as_ rr ra hm nb ns la lo nu tn sh))
  refine V.iload hC (x := z) dX1_problemWith_105 rfl ?_
  refine V.callVr (n := 4) (As := [.ref (adD G 3), .int (nI b), .ref (rr k), .int z]) (rest := []) hC (c_pwShare3FV (kl K) G hg hr h ah as_ rr ra hm nb ns la lo nu tn sh hb8 hs6 b hb k hk ht z) (SFx.k G) hgo gX1_problemWith_X1_problemWithShare rfl ⟨rfl, rfl⟩ (by decide +kernel) ⟨by decide, by decide, by decide, by decide⟩ [0, 1, 2, 3, 4, 5, 6, 7, 8, 9, 10, 11, 12, 13, 14, 15] rfl (by decide) rfl rfl rfl rfl (Nat.le_of_ble_eq_true rfl) dX1_problemWith_107 (fun r_107 u_107 hp_107 => ?_)
  subst hp_107
  show V G K 5 0 0 110 [some (.ref hg), some (.ref (adD G 3)), some (.int (nI b)), some (.int y), some (.int z)] [.ref (adP G (pwK 3 (sh k) (tn k) b z))] ([(hg, .inr (4, [.ref h, .ref hr]))] ++ (stW G h ah as_ rr ra hm nb ns la lo nu tn sh))
  exact hE 110 _ (some (adP G (pwK 3 (sh k) (tn k) b z))) () dX1_problemWith_110 rfl

set_option maxHeartbeats 4000000 in
set_option maxRecDepth 100000 in
theorem c_pw3FX (l : Launch) (G : Gx) (hg hr : Nat) (h ah as_ : Nat) (rr ra : Nat → Nat) (hm : Nat → Int32) (nb ns : Nat) (la : Int32) (lo : Int64) (nu : Nat → Int32) (tn : Nat → Nat) (sh : Nat → Nat → Int32) (hb8 : nb ≤ 8) (hs6 : ns ≤ 6) (x : Int32) (hx : ¬ (¬ x < 0 ∧ x < nI nb)) (y z : Int32) (k : Nat) (hk : k < 6) (hf : fd nu y ns = some k) (ht : tn k ≤ 4) : Ct l G (SFx G) yX1_problemWith wsX1_problemWith ({ frames := 2, cells := 0, slots := 0, locals := 45 }) [.ref hg, .ref (adD G 3), .int x, .int y, .int z] ([(hg, .inr (4, [.ref h, .ref hr]))] ++ (stW G h ah as_ rr ra hm nb ns la lo nu tn sh)) mkA (fun (r : Option Nat) (_ : Unit) => r = some (adP G 2)) (fun _ : Unit => ([(hg, .inr (4, [.ref h, .ref hr]))] ++ (stW G h ah as_ rr ra hm nb ns la lo nu tn sh))) 0 0 := by
  refine Ct.ofA (mk := fun r : Option Nat => va_rf r) (fun r => va_rf_or r) (Or.inl ⟨_, rfl⟩) (cc := cX1_problemWith) (maxL := 5) (by decide) rfl ⟨by simp [Value.category], Nat.le_of_ble_eq_true rfl⟩ ?_
  intro K hl hC hSF hnm hE
  subst hl
  have hgo := SFgoS (SFx.k G) hSF
  have q0_ : Cond.fieldLink RX1 25 "FeatherShares$1" "$SwitchMap$FeatherShares$Deed" "[I" ∈ wsX1_problemWith := by decide +kernel
  have q1_ : ∀ w ∈ u_ws RX1 TX1 2, w ∈ wsX1_problemWith := by decide +kernel
  have q2_ : Cond.fieldLink RX1 12 "FeatherShares$Changer" "state" "LFeatherShares$State;" ∈ wsX1_problemWith := by decide +kernel
  show V G K 5 0 0 0 [some (.ref hg), some (.ref (adD G 3)), some (.int x), some (.int y), some (.int z)] [] ([(hg, .inr (4, [.ref h, .ref hr]))] ++ (stW G h ah as_ rr ra hm nb ns la lo nu tn sh))
  refine V.gets hC (n := "$SwitchMap$FeatherShares$Deed") hSF.2.2.1 q0_ rfl dX1_problemWith_0 ?_
  refine V.aload_n hC (x := adD G 3) dX1_problemWith_3 rfl ?_
  refine V.callU (x := ⟨"FeatherShares$Deed", "ordinal", "()I"⟩) (n := 0) (As := []) (rest := [.ref (smD G)]) hC (c_ordinalD (kl K) G 3 (by decide)) (SFx.k G) hgo (hSF.dO 3 (by decide)) gX1_problemWith_Jx29ce0_ordinal_8abf5_u31X2 rfl ⟨rfl, rfl⟩ rfl (by decide +kernel) ⟨by decide, by decide, by decide, by decide⟩ [] rfl (by decide) (fun _ => rfl) rfl rfl (Nat.le_of_ble_eq_true rfl) dX1_problemWith_4 (fun r_4 u_4 hp_4 => ?_)
  subst hp_4
  show V G K 5 0 0 7 [some (.ref hg), some (.ref (adD G 3)), some (.int x), some (.int y), some (.int z)] [.int (nI 3), .ref (smD G)] ([(hg, .inr (4, [.ref h, .ref hr]))] ++ (stW G h ah as_ rr ra hm nb ns la lo nu tn sh))
  refine V.ti hC hSF.2.2.2.1 dX1_problemWith_7 3 rfl (by decide) (by decide) (.int (nI 6)) rfl ?_
  refine V.tableOut hC (x := nI 6) 94 dX1_problemWith_8 (by decide) rfl ?_
  refine V.aload_n hC (x := hg) dX1_problemWith_94 rfl ?_
  refine V.aload_n hC (x := adD G 3) dX1_problemWith_95 rfl ?_
  refine V.iload_n hC (x := x) dX1_problemWith_96 rfl ?_
  refine V.aload_n hC (x := hg) dX1_problemWith_97 rfl ?_
  refine V.getf hC (T := TX1) q1_ 0 q2_ rfl (0) rfl rfl (by decide) (.ref h) rfl dX1_problemWith_98 ?_
  refine V.iload_n hC (x := y) dX1_problemWith_101 rfl ?_
  refine V.callVr (n := 1) (As := [.int y]) (rest := [.int x, .ref (adD G 3), .ref hg]) hC (c_find (kl K) G h ah as_ rr ra hm nb ns la lo nu tn sh hb8 hs6 y) SFk0 SFgo0 gX1_problemWith_X11_find rfl ⟨rfl, rfl⟩ (by decide +kernel) ⟨by decide, by decide, by decide, by decide⟩ [1, 2, 3, 4, 5, 6, 7, 8, 9, 10, 11, 12, 13, 14, 15] rfl (by decide) rfl rfl rfl rfl (Nat.le_of_ble_eq_true rfl) dX1_problemWith_102 (fun r_102 u_102 hp_102 => ?_)
  rw [hf] at hp_102
  subst hp_102
  show V G K 5 0 0 105 [some (.ref hg), some (.ref (adD G 3)), some (.int x), some (.int y), some (.int z)] [.ref (rr k), .int x, .ref (adD G 3), .ref hg] ([(hg, .inr (4, [.ref h, .ref hr]))] ++ (stW G h ah as_ rr ra hm nb ns la lo nu tn sh))
  refine V.iload hC (x := z) dX1_problemWith_105 rfl ?_
  refine V.callVr (n := 4) (As := [.ref (adD G 3), .int x, .ref (rr k), .int z]) (rest := []) hC (c_pwShare3FX (kl K) G hg hr h ah as_ rr ra hm nb ns la lo nu tn sh hb8 hs6 x hx k hk ht z) (SFx.k G) hgo gX1_problemWith_X1_problemWithShare rfl ⟨rfl, rfl⟩ (by decide +kernel) ⟨by decide, by decide, by decide, by decide⟩ [0, 1, 2, 3, 4, 5, 6, 7, 8, 9, 10, 11, 12, 13, 14, 15] rfl (by decide) rfl rfl rfl rfl (Nat.le_of_ble_eq_true rfl) dX1_problemWith_107 (fun r_107 u_107 hp_107 => ?_)
  subst hp_107
  show V G K 5 0 0 110 [some (.ref hg), some (.ref (adD G 3)), some (.int x), some (.int y), some (.int z)] [.ref (adP G 2)] ([(hg, .inr (4, [.ref h, .ref hr]))] ++ (stW G h ah as_ rr ra hm nb ns la lo nu tn sh))
  exact hE 110 _ (some (adP G 2)) () dX1_problemWith_110 rfl

set_option maxHeartbeats 4000000 in
set_option maxRecDepth 100000 in
theorem c_pw3NV (l : Launch) (G : Gx) (hg hr : Nat) (h ah as_ : Nat) (rr ra : Nat → Nat) (hm : Nat → Int32) (nb ns : Nat) (la : Int32) (lo : Int64) (nu : Nat → Int32) (tn : Nat → Nat) (sh : Nat → Nat → Int32) (hb8 : nb ≤ 8) (hs6 : ns ≤ 6) (b : Nat) (hb : b < nb) (y z : Int32) (hf : fd nu y ns = none) : Ct l G (SFx G) yX1_problemWith wsX1_problemWith ({ frames := 2, cells := 0, slots := 0, locals := 45 }) [.ref hg, .ref (adD G 3), .int (nI b), .int y, .int z] ([(hg, .inr (4, [.ref h, .ref hr]))] ++ (stW G h ah as_ rr ra hm nb ns la lo nu tn sh)) mkA (fun (r : Option Nat) (_ : Unit) => r = some (adP G 3)) (fun _ : Unit => ([(hg, .inr (4, [.ref h, .ref hr]))] ++ (stW G h ah as_ rr ra hm nb ns la lo nu tn sh))) 0 0 := by
  refine Ct.ofA (mk := fun r : Option Nat => va_rf r) (fun r => va_rf_or r) (Or.inl ⟨_, rfl⟩) (cc := cX1_problemWith) (maxL := 5) (by decide) rfl ⟨by simp [Value.category], Nat.le_of_ble_eq_true rfl⟩ ?_
  intro K hl hC hSF hnm hE
  subst hl
  have hgo := SFgoS (SFx.k G) hSF
  have q0_ : Cond.fieldLink RX1 25 "FeatherShares$1" "$SwitchMap$FeatherShares$Deed" "[I" ∈ wsX1_problemWith := by decide +kernel
  have q1_ : ∀ w ∈ u_ws RX1 TX1 2, w ∈ wsX1_problemWith := by decide +kernel
  have q2_ : Cond.fieldLink RX1 12 "FeatherShares$Changer" "state" "LFeatherShares$State;" ∈ wsX1_problemWith := by decide +kernel
  show V G K 5 0 0 0 [some (.ref hg), some (.ref (adD G 3)), some (.int (nI b)), some (.int y), some (.int z)] [] ([(hg, .inr (4, [.ref h, .ref hr]))] ++ (stW G h ah as_ rr ra hm nb ns la lo nu tn sh))
  refine V.gets hC (n := "$SwitchMap$FeatherShares$Deed") hSF.2.2.1 q0_ rfl dX1_problemWith_0 ?_
  refine V.aload_n hC (x := adD G 3) dX1_problemWith_3 rfl ?_
  refine V.callU (x := ⟨"FeatherShares$Deed", "ordinal", "()I"⟩) (n := 0) (As := []) (rest := [.ref (smD G)]) hC (c_ordinalD (kl K) G 3 (by decide)) (SFx.k G) hgo (hSF.dO 3 (by decide)) gX1_problemWith_Jx29ce0_ordinal_8abf5_u31X2 rfl ⟨rfl, rfl⟩ rfl (by decide +kernel) ⟨by decide, by decide, by decide, by decide⟩ [] rfl (by decide) (fun _ => rfl) rfl rfl (Nat.le_of_ble_eq_true rfl) dX1_problemWith_4 (fun r_4 u_4 hp_4 => ?_)
  subst hp_4
  show V G K 5 0 0 7 [some (.ref hg), some (.ref (adD G 3)), some (.int (nI b)), some (.int y), some (.int z)] [.int (nI 3), .ref (smD G)] ([(hg, .inr (4, [.ref h, .ref hr]))] ++ (stW G h ah as_ rr ra hm nb ns la lo nu tn sh))
  refine V.ti hC hSF.2.2.2.1 dX1_problemWith_7 3 rfl (by decide) (by decide) (.int (nI 6)) rfl ?_
  refine V.tableOut hC (x := nI 6) 94 dX1_problemWith_8 (by decide) rfl ?_
  refine V.aload_n hC (x := hg) dX1_problemWith_94 rfl ?_
  refine V.aload_n hC (x := adD G 3) dX1_problemWith_95 rfl ?_
  refine V.iload_n hC (x := nI b) dX1_problemWith_96 rfl ?_
  refine V.aload_n hC (x := hg) dX1_problemWith_97 rfl ?_
  refine V.getf hC (T := TX1) q1_ 0 q2_ rfl (0) rfl rfl (by decide) (.ref h) rfl dX1_problemWith_98 ?_
  refine V.iload_n hC (x := y) dX1_problemWith_101 rfl ?_
  refine V.callVr (n := 1) (As := [.int y]) (rest := [.int (nI b), .ref (adD G 3), .ref hg]) hC (c_find (kl K) G h ah as_ rr ra hm nb ns la lo nu tn sh hb8 hs6 y) SFk0 SFgo0 gX1_problemWith_X11_find rfl ⟨rfl, rfl⟩ (by decide +kernel) ⟨by decide, by decide, by decide, by decide⟩ [1, 2, 3, 4, 5, 6, 7, 8, 9, 10, 11, 12, 13, 14, 15] rfl (by decide) rfl rfl rfl rfl (Nat.le_of_ble_eq_true rfl) dX1_problemWith_102 (fun r_102 u_102 hp_102 => ?_)
  rw [hf] at hp_102
  subst hp_102
  show V G K 5 0 0 105 [some (.ref hg), some (.ref (adD G 3)), some (.int (nI b)), some (.int y), some (.int z)] [.null, .int (nI b), .ref (adD G 3), .ref hg] ([(hg, .inr (4, [.ref h, .ref hr]))] ++ (stW G h ah as_ rr ra hm nb ns la lo nu tn sh))
  refine V.iload hC (x := z) dX1_problemWith_105 rfl ?_
  refine V.callVr (n := 4) (As := [.ref (adD G 3), .int (nI b), .null, .int z]) (rest := []) hC (c_pwShare3NV (kl K) G hg hr h ah as_ rr ra hm nb ns la lo nu tn sh hb8 hs6 b hb z) (SFx.k G) hgo gX1_problemWith_X1_problemWithShare rfl ⟨rfl, rfl⟩ (by decide +kernel) ⟨by decide, by decide, by decide, by decide⟩ [0, 1, 2, 3, 4, 5, 6, 7, 8, 9, 10, 11, 12, 13, 14, 15] rfl (by decide) rfl rfl rfl rfl (Nat.le_of_ble_eq_true rfl) dX1_problemWith_107 (fun r_107 u_107 hp_107 => ?_)
  subst hp_107
  show V G K 5 0 0 110 [some (.ref hg), some (.ref (adD G 3)), some (.int (nI b)), some (.int y), some (.int z)] [.ref (adP G 3)] ([(hg, .inr (4, [.ref h, .ref hr]))] ++ (stW G h ah as_ rr ra hm nb ns la lo nu tn sh))
  exact hE 110 _ (some (adP G 3)) () dX1_problemWith_110 rfl

set_option maxHeartbeats 4000000 in
set_option maxRecDepth 100000 in
theorem c_pw3NX (l : Launch) (G : Gx) (hg hr : Nat) (h ah as_ : Nat) (rr ra : Nat → Nat) (hm : Nat → Int32) (nb ns : Nat) (la : Int32) (lo : Int64) (nu : Nat → Int32) (tn : Nat → Nat) (sh : Nat → Nat → Int32) (hb8 : nb ≤ 8) (hs6 : ns ≤ 6) (x : Int32) (hx : ¬ (¬ x < 0 ∧ x < nI nb)) (y z : Int32) (hf : fd nu y ns = none) : Ct l G (SFx G) yX1_problemWith wsX1_problemWith ({ frames := 2, cells := 0, slots := 0, locals := 45 }) [.ref hg, .ref (adD G 3), .int x, .int y, .int z] ([(hg, .inr (4, [.ref h, .ref hr]))] ++ (stW G h ah as_ rr ra hm nb ns la lo nu tn sh)) mkA (fun (r : Option Nat) (_ : Unit) => r = some (adP G 2)) (fun _ : Unit => ([(hg, .inr (4, [.ref h, .ref hr]))] ++ (stW G h ah as_ rr ra hm nb ns la lo nu tn sh))) 0 0 := by
  refine Ct.ofA (mk := fun r : Option Nat => va_rf r) (fun r => va_rf_or r) (Or.inl ⟨_, rfl⟩) (cc := cX1_problemWith) (maxL := 5) (by decide) rfl ⟨by simp [Value.category], Nat.le_of_ble_eq_true rfl⟩ ?_
  intro K hl hC hSF hnm hE
  subst hl
  have hgo := SFgoS (SFx.k G) hSF
  have q0_ : Cond.fieldLink RX1 25 "FeatherShares$1" "$SwitchMap$FeatherShares$Deed" "[I" ∈ wsX1_problemWith := by decide +kernel
  have q1_ : ∀ w ∈ u_ws RX1 TX1 2, w ∈ wsX1_problemWith := by decide +kernel
  have q2_ : Cond.fieldLink RX1 12 "FeatherShares$Changer" "state" "LFeatherShares$State;" ∈ wsX1_problemWith := by decide +kernel
  show V G K 5 0 0 0 [some (.ref hg), some (.ref (adD G 3)), some (.int x), some (.int y), some (.int z)] [] ([(hg, .inr (4, [.ref h, .ref hr]))] ++ (stW G h ah as_ rr ra hm nb ns la lo nu tn sh))
  refine V.gets hC (n := "$SwitchMap$FeatherShares$Deed") hSF.2.2.1 q0_ rfl dX1_problemWith_0 ?_
  refine V.aload_n hC (x := adD G 3) dX1_problemWith_3 rfl ?_
  refine V.callU (x := ⟨"FeatherShares$Deed", "ordinal", "()I"⟩) (n := 0) (As := []) (rest := [.ref (smD G)]) hC (c_ordinalD (kl K) G 3 (by decide)) (SFx.k G) hgo (hSF.dO 3 (by decide)) gX1_problemWith_Jx29ce0_ordinal_8abf5_u31X2 rfl ⟨rfl, rfl⟩ rfl (by decide +kernel) ⟨by decide, by decide, by decide, by decide⟩ [] rfl (by decide) (fun _ => rfl) rfl rfl (Nat.le_of_ble_eq_true rfl) dX1_problemWith_4 (fun r_4 u_4 hp_4 => ?_)
  subst hp_4
  show V G K 5 0 0 7 [some (.ref hg), some (.ref (adD G 3)), some (.int x), some (.int y), some (.int z)] [.int (nI 3), .ref (smD G)] ([(hg, .inr (4, [.ref h, .ref hr]))] ++ (stW G h ah as_ rr ra hm nb ns la lo nu tn sh))
  refine V.ti hC hSF.2.2.2.1 dX1_problemWith_7 3 rfl (by decide) (by decide) (.int (nI 6)) rfl ?_
  refine V.tableOut hC (x := nI 6) 94 dX1_problemWith_8 (by decide) rfl ?_
  refine V.aload_n hC (x := hg) dX1_problemWith_94 rfl ?_
  refine V.aload_n hC (x := adD G 3) dX1_problemWith_95 rfl ?_
  refine V.iload_n hC (x := x) dX1_problemWith_96 rfl ?_
  refine V.aload_n hC (x := hg) dX1_problemWith_97 rfl ?_
  refine V.getf hC (T := TX1) q1_ 0 q2_ rfl (0) rfl rfl (by decide) (.ref h) rfl dX1_problemWith_98 ?_
  refine V.iload_n hC (x := y) dX1_problemWith_101 rfl ?_
  refine V.callVr (n := 1) (As := [.int y]) (rest := [.int x, .ref (adD G 3), .ref hg]) hC (c_find (kl K) G h ah as_ rr ra hm nb ns la lo nu tn sh hb8 hs6 y) SFk0 SFgo0 gX1_problemWith_X11_find rfl ⟨rfl, rfl⟩ (by decide +kernel) ⟨by decide, by decide, by decide, by decide⟩ [1, 2, 3, 4, 5, 6, 7, 8, 9, 10, 11, 12, 13, 14, 15] rfl (by decide) rfl rfl rfl rfl (Nat.le_of_ble_eq_true rfl) dX1_problemWith_102 (fun r_102 u_102 hp_102 => ?_)
  rw [hf] at hp_102
  subst hp_102
  show V G K 5 0 0 105 [some (.ref hg), some (.ref (adD G 3)), some (.int x), some (.int y), some (.int z)] [.null, .int x, .ref (adD G 3), .ref hg] ([(hg, .inr (4, [.ref h, .ref hr]))] ++ (stW G h ah as_ rr ra hm nb ns la lo nu tn sh))
  refine V.iload hC (x := z) dX1_problemWith_105 rfl ?_
  refine V.callVr (n := 4) (As := [.ref (adD G 3), .int x, .null, .int z]) (rest := []) hC (c_pwShare3NX (kl K) G hg hr h ah as_ rr ra hm nb ns la lo nu tn sh hb8 hs6 x hx z) (SFx.k G) hgo gX1_problemWith_X1_problemWithShare rfl ⟨rfl, rfl⟩ (by decide +kernel) ⟨by decide, by decide, by decide, by decide⟩ [0, 1, 2, 3, 4, 5, 6, 7, 8, 9, 10, 11, 12, 13, 14, 15] rfl (by decide) rfl rfl rfl rfl (Nat.le_of_ble_eq_true rfl) dX1_problemWith_107 (fun r_107 u_107 hp_107 => ?_)
  subst hp_107
  show V G K 5 0 0 110 [some (.ref hg), some (.ref (adD G 3)), some (.int x), some (.int y), some (.int z)] [.ref (adP G 2)] ([(hg, .inr (4, [.ref h, .ref hr]))] ++ (stW G h ah as_ rr ra hm nb ns la lo nu tn sh))
  exact hE 110 _ (some (adP G 2)) () dX1_problemWith_110 rfl

set_option maxHeartbeats 4000000 in
set_option maxRecDepth 100000 in
theorem c_pw4FV (l : Launch) (G : Gx) (hg hr : Nat) (h ah as_ : Nat) (rr ra : Nat → Nat) (hm : Nat → Int32) (nb ns : Nat) (la : Int32) (lo : Int64) (nu : Nat → Int32) (tn : Nat → Nat) (sh : Nat → Nat → Int32) (hb8 : nb ≤ 8) (hs6 : ns ≤ 6) (b : Nat) (hb : b < nb) (y z : Int32) (k : Nat) (hk : k < 6) (hf : fd nu y ns = some k) (ht : tn k ≤ 4) : Ct l G (SFx G) yX1_problemWith wsX1_problemWith ({ frames := 2, cells := 0, slots := 0, locals := 45 }) [.ref hg, .ref (adD G 4), .int (nI b), .int y, .int z] ([(hg, .inr (4, [.ref h, .ref hr]))] ++ (stW G h ah as_ rr ra hm nb ns la lo nu tn sh)) mkA (fun (r : Option Nat) (_ : Unit) => r = some (adP G (pwK 4 (sh k) (tn k) b z))) (fun _ : Unit => ([(hg, .inr (4, [.ref h, .ref hr]))] ++ (stW G h ah as_ rr ra hm nb ns la lo nu tn sh))) 0 0 := by
  refine Ct.ofA (mk := fun r : Option Nat => va_rf r) (fun r => va_rf_or r) (Or.inl ⟨_, rfl⟩) (cc := cX1_problemWith) (maxL := 5) (by decide) rfl ⟨by simp [Value.category], Nat.le_of_ble_eq_true rfl⟩ ?_
  intro K hl hC hSF hnm hE
  subst hl
  have hgo := SFgoS (SFx.k G) hSF
  have q0_ : Cond.fieldLink RX1 25 "FeatherShares$1" "$SwitchMap$FeatherShares$Deed" "[I" ∈ wsX1_problemWith := by decide +kernel
  have q1_ : ∀ w ∈ u_ws RX1 TX1 2, w ∈ wsX1_problemWith := by decide +kernel
  have q2_ : Cond.fieldLink RX1 12 "FeatherShares$Changer" "state" "LFeatherShares$State;" ∈ wsX1_problemWith := by decide +kernel
  show V G K 5 0 0 0 [some (.ref hg), some (.ref (adD G 4)), some (.int (nI b)), some (.int y), some (.int z)] [] ([(hg, .inr (4, [.ref h, .ref hr]))] ++ (stW G h ah as_ rr ra hm nb ns la lo nu tn sh))
  refine V.gets hC (n := "$SwitchMap$FeatherShares$Deed") hSF.2.2.1 q0_ rfl dX1_problemWith_0 ?_
  refine V.aload_n hC (x := adD G 4) dX1_problemWith_3 rfl ?_
  refine V.callU (x := ⟨"FeatherShares$Deed", "ordinal", "()I"⟩) (n := 0) (As := []) (rest := [.ref (smD G)]) hC (c_ordinalD (kl K) G 4 (by decide)) (SFx.k G) hgo (hSF.dO 4 (by decide)) gX1_problemWith_Jx29ce0_ordinal_8abf5_u31X2 rfl ⟨rfl, rfl⟩ rfl (by decide +kernel) ⟨by decide, by decide, by decide, by decide⟩ [] rfl (by decide) (fun _ => rfl) rfl rfl (Nat.le_of_ble_eq_true rfl) dX1_problemWith_4 (fun r_4 u_4 hp_4 => ?_)
  subst hp_4
  show V G K 5 0 0 7 [some (.ref hg), some (.ref (adD G 4)), some (.int (nI b)), some (.int y), some (.int z)] [.int (nI 4), .ref (smD G)] ([(hg, .inr (4, [.ref h, .ref hr]))] ++ (stW G h ah as_ rr ra hm nb ns la lo nu tn sh))
  refine V.ti hC hSF.2.2.2.1 dX1_problemWith_7 4 rfl (by decide) (by decide) (.int (nI 7)) rfl ?_
  refine V.tableOut hC (x := nI 7) 94 dX1_problemWith_8 (by decide) rfl ?_
  refine V.aload_n hC (x := hg) dX1_problemWith_94 rfl ?_
  refine V.aload_n hC (x := adD G 4) dX1_problemWith_95 rfl ?_
  refine V.iload_n hC (x := nI b) dX1_problemWith_96 rfl ?_
  refine V.aload_n hC (x := hg) dX1_problemWith_97 rfl ?_
  refine V.getf hC (T := TX1) q1_ 0 q2_ rfl (0) rfl rfl (by decide) (.ref h) rfl dX1_problemWith_98 ?_
  refine V.iload_n hC (x := y) dX1_problemWith_101 rfl ?_
  refine V.callVr (n := 1) (As := [.int y]) (rest := [.int (nI b), .ref (adD G 4), .ref hg]) hC (c_find (kl K) G h ah as_ rr ra hm nb ns la lo nu tn sh hb8 hs6 y) SFk0 SFgo0 gX1_problemWith_X11_find rfl ⟨rfl, rfl⟩ (by decide +kernel) ⟨by decide, by decide, by decide, by decide⟩ [1, 2, 3, 4, 5, 6, 7, 8, 9, 10, 11, 12, 13, 14, 15] rfl (by decide) rfl rfl rfl rfl (Nat.le_of_ble_eq_true rfl) dX1_problemWith_102 (fun r_102 u_102 hp_102 => ?_)
  rw [hf] at hp_102
  subst hp_102
  show V G K 5 0 0 105 [some (.ref hg), some (.ref (adD G 4)), some (.int (nI b)), some (.int y), some (.int z)] [.ref (rr k), .int (nI b), .ref (adD G 4), .ref hg] ([(hg, .inr (4, [.ref h, .ref hr]))] ++ (stW G h ah as_ rr ra hm nb ns la lo nu tn sh))
  refine V.iload hC (x := z) dX1_problemWith_105 rfl ?_
  refine V.callVr (n := 4) (As := [.ref (adD G 4), .int (nI b), .ref (rr k), .int z]) (rest := []) hC (c_pwShare4FV (kl K) G hg hr h ah as_ rr ra hm nb ns la lo nu tn sh hb8 hs6 b hb k hk ht z) (SFx.k G) hgo gX1_problemWith_X1_problemWithShare rfl ⟨rfl, rfl⟩ (by decide +kernel) ⟨by decide, by decide, by decide, by decide⟩ [0, 1, 2, 3, 4, 5, 6, 7, 8, 9, 10, 11, 12, 13, 14, 15] rfl (by decide) rfl rfl rfl rfl (Nat.le_of_ble_eq_true rfl) dX1_problemWith_107 (fun r_107 u_107 hp_107 => ?_)
  subst hp_107
  show V G K 5 0 0 110 [some (.ref hg), some (.ref (adD G 4)), some (.int (nI b)), some (.int y), some (.int z)] [.ref (adP G (pwK 4 (sh k) (tn k) b z))] ([(hg, .inr (4, [.ref h, .ref hr]))] ++ (stW G h ah as_ rr ra hm nb ns la lo nu tn sh))
  exact hE 110 _ (some (adP G (pwK 4 (sh k) (tn k) b z))) () dX1_problemWith_110 rfl

set_option maxHeartbeats 4000000 in
set_option maxRecDepth 100000 in
theorem c_pw4FX (l : Launch) (G : Gx) (hg hr : Nat) (h ah as_ : Nat) (rr ra : Nat → Nat) (hm : Nat → Int32) (nb ns : Nat) (la : Int32) (lo : Int64) (nu : Nat → Int32) (tn : Nat → Nat) (sh : Nat → Nat → Int32) (hb8 : nb ≤ 8) (hs6 : ns ≤ 6) (x : Int32) (hx : ¬ (¬ x < 0 ∧ x < nI nb)) (y z : Int32) (k : Nat) (hk : k < 6) (hf : fd nu y ns = some k) (ht : tn k ≤ 4) : Ct l G (SFx G) yX1_problemWith wsX1_problemWith ({ frames := 2, cells := 0, slots := 0, locals := 45 }) [.ref hg, .ref (adD G 4), .int x, .int y, .int z] ([(hg, .inr (4, [.ref h, .ref hr]))] ++ (stW G h ah as_ rr ra hm nb ns la lo nu tn sh)) mkA (fun (r : Option Nat) (_ : Unit) => r = some (adP G 2)) (fun _ : Unit => ([(hg, .inr (4, [.ref h, .ref hr]))] ++ (stW G h ah as_ rr ra hm nb ns la lo nu tn sh))) 0 0 := by
  refine Ct.ofA (mk := fun r : Option Nat => va_rf r) (fun r => va_rf_or r) (Or.inl ⟨_, rfl⟩) (cc := cX1_problemWith) (maxL := 5) (by decide) rfl ⟨by simp [Value.category], Nat.le_of_ble_eq_true rfl⟩ ?_
  intro K hl hC hSF hnm hE
  subst hl
  have hgo := SFgoS (SFx.k G) hSF
  have q0_ : Cond.fieldLink RX1 25 "FeatherShares$1" "$SwitchMap$FeatherShares$Deed" "[I" ∈ wsX1_problemWith := by decide +kernel
  have q1_ : ∀ w ∈ u_ws RX1 TX1 2, w ∈ wsX1_problemWith := by decide +kernel
  have q2_ : Cond.fieldLink RX1 12 "FeatherShares$Changer" "state" "LFeatherShares$State;" ∈ wsX1_problemWith := by decide +kernel
  show V G K 5 0 0 0 [some (.ref hg), some (.ref (adD G 4)), some (.int x), some (.int y), some (.int z)] [] ([(hg, .inr (4, [.ref h, .ref hr]))] ++ (stW G h ah as_ rr ra hm nb ns la lo nu tn sh))
  refine V.gets hC (n := "$SwitchMap$FeatherShares$Deed") hSF.2.2.1 q0_ rfl dX1_problemWith_0 ?_
  refine V.aload_n hC (x := adD G 4) dX1_problemWith_3 rfl ?_
  refine V.callU (x := ⟨"FeatherShares$Deed", "ordinal", "()I"⟩) (n := 0) (As := []) (rest := [.ref (smD G)]) hC (c_ordinalD (kl K) G 4 (by decide)) (SFx.k G) hgo (hSF.dO 4 (by decide)) gX1_problemWith_Jx29ce0_ordinal_8abf5_u31X2 rfl ⟨rfl, rfl⟩ rfl (by decide +kernel) ⟨by decide, by decide, by decide, by decide⟩ [] rfl (by decide) (fun _ => rfl) rfl rfl (Nat.le_of_ble_eq_true rfl) dX1_problemWith_4 (fun r_4 u_4 hp_4 => ?_)
  subst hp_4
  show V G K 5 0 0 7 [some (.ref hg), some (.ref (adD G 4)), some (.int x), some (.int y), some (.int z)] [.int (nI 4), .ref (smD G)] ([(hg, .inr (4, [.ref h, .ref hr]))] ++ (stW G h ah as_ rr ra hm nb ns la lo nu tn sh))
  refine V.ti hC hSF.2.2.2.1 dX1_problemWith_7 4 rfl (by decide) (by decide) (.int (nI 7)) rfl ?_
  refine V.tableOut hC (x := nI 7) 94 dX1_problemWith_8 (by decide) rfl ?_
  refine V.aload_n hC (x := hg) dX1_problemWith_94 rfl ?_
  refine V.aload_n hC (x := adD G 4) dX1_problemWith_95 rfl ?_
  refine V.iload_n hC (x := x) dX1_problemWith_96 rfl ?_
  refine V.aload_n hC (x := hg) dX1_problemWith_97 rfl ?_
  refine V.getf hC (T := TX1) q1_ 0 q2_ rfl (0) rfl rfl (by decide) (.ref h) rfl dX1_problemWith_98 ?_
  refine V.iload_n hC (x := y) dX1_problemWith_101 rfl ?_
  refine V.callVr (n := 1) (As := [.int y]) (rest := [.int x, .ref (adD G 4), .ref hg]) hC (c_find (kl K) G h ah as_ rr ra hm nb ns la lo nu tn sh hb8 hs6 y) SFk0 SFgo0 gX1_problemWith_X11_find rfl ⟨rfl, rfl⟩ (by decide +kernel) ⟨by decide, by decide, by decide, by decide⟩ [1, 2, 3, 4, 5, 6, 7, 8, 9, 10, 11, 12, 13, 14, 15] rfl (by decide) rfl rfl rfl rfl (Nat.le_of_ble_eq_true rfl) dX1_problemWith_102 (fun r_102 u_102 hp_102 => ?_)
  rw [hf] at hp_102
  subst hp_102
  show V G K 5 0 0 105 [some (.ref hg), some (.ref (adD G 4)), some (.int x), some (.int y), some (.int z)] [.ref (rr k), .int x, .ref (adD G 4), .ref hg] ([(hg, .inr (4, [.ref h, .ref hr]))] ++ (stW G h ah as_ rr ra hm nb ns la lo nu tn sh))
  refine V.iload hC (x := z) dX1_problemWith_105 rfl ?_
  refine V.callVr (n := 4) (As := [.ref (adD G 4), .int x, .ref (rr k), .int z]) (rest := []) hC (c_pwShare4FX (kl K) G hg hr h ah as_ rr ra hm nb ns la lo nu tn sh hb8 hs6 x hx k hk ht z) (SFx.k G) hgo gX1_problemWith_X1_problemWithShare rfl ⟨rfl, rfl⟩ (by decide +kernel) ⟨by decide, by decide, by decide, by decide⟩ [0, 1, 2, 3, 4, 5, 6, 7, 8, 9, 10, 11, 12, 13, 14, 15] rfl (by decide) rfl rfl rfl rfl (Nat.le_of_ble_eq_true rfl) dX1_problemWith_107 (fun r_107 u_107 hp_107 => ?_)
  subst hp_107
  show V G K 5 0 0 110 [some (.ref hg), some (.ref (adD G 4)), some (.int x), some (.int y), some (.int z)] [.ref (adP G 2)] ([(hg, .inr (4, [.ref h, .ref hr]))] ++ (stW G h ah as_ rr ra hm nb ns la lo nu tn sh))
  exact hE 110 _ (some (adP G 2)) () dX1_problemWith_110 rfl

set_option maxHeartbeats 4000000 in
set_option maxRecDepth 100000 in
theorem c_pw4NV (l : Launch) (G : Gx) (hg hr : Nat) (h ah as_ : Nat) (rr ra : Nat → Nat) (hm : Nat → Int32) (nb ns : Nat) (la : Int32) (lo : Int64) (nu : Nat → Int32) (tn : Nat → Nat) (sh : Nat → Nat → Int32) (hb8 : nb ≤ 8) (hs6 : ns ≤ 6) (b : Nat) (hb : b < nb) (y z : Int32) (hf : fd nu y ns = none) : Ct l G (SFx G) yX1_problemWith wsX1_problemWith ({ frames := 2, cells := 0, slots := 0, locals := 45 }) [.ref hg, .ref (adD G 4), .int (nI b), .int y, .int z] ([(hg, .inr (4, [.ref h, .ref hr]))] ++ (stW G h ah as_ rr ra hm nb ns la lo nu tn sh)) mkA (fun (r : Option Nat) (_ : Unit) => r = some (adP G 3)) (fun _ : Unit => ([(hg, .inr (4, [.ref h, .ref hr]))] ++ (stW G h ah as_ rr ra hm nb ns la lo nu tn sh))) 0 0 := by
  refine Ct.ofA (mk := fun r : Option Nat => va_rf r) (fun r => va_rf_or r) (Or.inl ⟨_, rfl⟩) (cc := cX1_problemWith) (maxL := 5) (by decide) rfl ⟨by simp [Value.category], Nat.le_of_ble_eq_true rfl⟩ ?_
  intro K hl hC hSF hnm hE
  subst hl
  have hgo := SFgoS (SFx.k G) hSF
  have q0_ : Cond.fieldLink RX1 25 "FeatherShares$1" "$SwitchMap$FeatherShares$Deed" "[I" ∈ wsX1_problemWith := by decide +kernel
  have q1_ : ∀ w ∈ u_ws RX1 TX1 2, w ∈ wsX1_problemWith := by decide +kernel
  have q2_ : Cond.fieldLink RX1 12 "FeatherShares$Changer" "state" "LFeatherShares$State;" ∈ wsX1_problemWith := by decide +kernel
  show V G K 5 0 0 0 [some (.ref hg), some (.ref (adD G 4)), some (.int (nI b)), some (.int y), some (.int z)] [] ([(hg, .inr (4, [.ref h, .ref hr]))] ++ (stW G h ah as_ rr ra hm nb ns la lo nu tn sh))
  refine V.gets hC (n := "$SwitchMap$FeatherShares$Deed") hSF.2.2.1 q0_ rfl dX1_problemWith_0 ?_
  refine V.aload_n hC (x := adD G 4) dX1_problemWith_3 rfl ?_
  refine V.callU (x := ⟨"FeatherShares$Deed", "ordinal", "()I"⟩) (n := 0) (As := []) (rest := [.ref (smD G)]) hC (c_ordinalD (kl K) G 4 (by decide)) (SFx.k G) hgo (hSF.dO 4 (by decide)) gX1_problemWith_Jx29ce0_ordinal_8abf5_u31X2 rfl ⟨rfl, rfl⟩ rfl (by decide +kernel) ⟨by decide, by decide, by decide, by decide⟩ [] rfl (by decide) (fun _ => rfl) rfl rfl (Nat.le_of_ble_eq_true rfl) dX1_problemWith_4 (fun r_4 u_4 hp_4 => ?_)
  subst hp_4
  show V G K 5 0 0 7 [some (.ref hg), some (.ref (adD G 4)), some (.int (nI b)), some (.int y), some (.int z)] [.int (nI 4), .ref (smD G)] ([(hg, .inr (4, [.ref h, .ref hr]))] ++ (stW G h ah as_ rr ra hm nb ns la lo nu tn sh))
  refine V.ti hC hSF.2.2.2.1 dX1_problemWith_7 4 rfl (by decide) (by decide) (.int (nI 7)) rfl ?_
  refine V.tableOut hC (x := nI 7) 94 dX1_problemWith_8 (by decide) rfl ?_
  refine V.aload_n hC (x := hg) dX1_problemWith_94 rfl ?_
  refine V.aload_n hC (x := adD G 4) dX1_problemWith_95 rfl ?_
  refine V.iload_n hC (x := nI b) dX1_problemWith_96 rfl ?_
  refine V.aload_n hC (x := hg) dX1_problemWith_97 rfl ?_
  refine V.getf hC (T := TX1) q1_ 0 q2_ rfl (0) rfl rfl (by decide) (.ref h) rfl dX1_problemWith_98 ?_
  refine V.iload_n hC (x := y) dX1_problemWith_101 rfl ?_
  refine V.callVr (n := 1) (As := [.int y]) (rest := [.int (nI b), .ref (adD G 4), .ref hg]) hC (c_find (kl K) G h ah as_ rr ra hm nb ns la lo nu tn sh hb8 hs6 y) SFk0 SFgo0 gX1_problemWith_X11_find rfl ⟨rfl, rfl⟩ (by decide +kernel) ⟨by decide, by decide, by decide, by decide⟩ [1, 2, 3, 4, 5, 6, 7, 8, 9, 10, 11, 12, 13, 14, 15] rfl (by decide) rfl rfl rfl rfl (Nat.le_of_ble_eq_true rfl) dX1_problemWith_102 (fun r_102 u_102 hp_102 => ?_)
  rw [hf] at hp_102
  subst hp_102
  show V G K 5 0 0 105 [some (.ref hg), some (.ref (adD G 4)), some (.int (nI b)), some (.int y), some (.int z)] [.null, .int (nI b), .ref (adD G 4), .ref hg] ([(hg, .inr (4, [.ref h, .ref hr]))] ++ (stW G h ah as_ rr ra hm nb ns la lo nu tn sh))
  refine V.iload hC (x := z) dX1_problemWith_105 rfl ?_
  refine V.callVr (n := 4) (As := [.ref (adD G 4), .int (nI b), .null, .int z]) (rest := []) hC (c_pwShare4NV (kl K) G hg hr h ah as_ rr ra hm nb ns la lo nu tn sh hb8 hs6 b hb z) (SFx.k G) hgo gX1_problemWith_X1_problemWithShare rfl ⟨rfl, rfl⟩ (by decide +kernel) ⟨by decide, by decide, by decide, by decide⟩ [0, 1, 2, 3, 4, 5, 6, 7, 8, 9, 10, 11, 12, 13, 14, 15] rfl (by decide) rfl rfl rfl rfl (Nat.le_of_ble_eq_true rfl) dX1_problemWith_107 (fun r_107 u_107 hp_107 => ?_)
  subst hp_107
  show V G K 5 0 0 110 [some (.ref hg), some (.ref (adD G 4)), some (.int (nI b)), some (.int y), some (.int z)] [.ref (adP G 3)] ([(hg, .inr (4, [.ref h, .ref hr]))] ++ (stW G h ah as_ rr ra hm nb ns la lo nu tn sh))
  exact hE 110 _ (some (adP G 3)) () dX1_problemWith_110 rfl

set_option maxHeartbeats 4000000 in
set_option maxRecDepth 100000 in
theorem c_pw4NX (l : Launch) (G : Gx) (hg hr : Nat) (h ah as_ : Nat) (rr ra : Nat → Nat) (hm : Nat → Int32) (nb ns : Nat) (la : Int32) (lo : Int64) (nu : Nat → Int32) (tn : Nat → Nat) (sh : Nat → Nat → Int32) (hb8 : nb ≤ 8) (hs6 : ns ≤ 6) (x : Int32) (hx : ¬ (¬ x < 0 ∧ x < nI nb)) (y z : Int32) (hf : fd nu y ns = none) : Ct l G (SFx G) yX1_problemWith wsX1_problemWith ({ frames := 2, cells := 0, slots := 0, locals := 45 }) [.ref hg, .ref (adD G 4), .int x, .int y, .int z] ([(hg, .inr (4, [.ref h, .ref hr]))] ++ (stW G h ah as_ rr ra hm nb ns la lo nu tn sh)) mkA (fun (r : Option Nat) (_ : Unit) => r = some (adP G 2)) (fun _ : Unit => ([(hg, .inr (4, [.ref h, .ref hr]))] ++ (stW G h ah as_ rr ra hm nb ns la lo nu tn sh))) 0 0 := by
  refine Ct.ofA (mk := fun r : Option Nat => va_rf r) (fun r => va_rf_or r) (Or.inl ⟨_, rfl⟩) (cc := cX1_problemWith) (maxL := 5) (by decide) rfl ⟨by simp [Value.category], Nat.le_of_ble_eq_true rfl⟩ ?_
  intro K hl hC hSF hnm hE
  subst hl
  have hgo := SFgoS (SFx.k G) hSF
  have q0_ : Cond.fieldLink RX1 25 "FeatherShares$1" "$SwitchMap$FeatherShares$Deed" "[I" ∈ wsX1_problemWith := by decide +kernel
  have q1_ : ∀ w ∈ u_ws RX1 TX1 2, w ∈ wsX1_problemWith := by decide +kernel
  have q2_ : Cond.fieldLink RX1 12 "FeatherShares$Changer" "state" "LFeatherShares$State;" ∈ wsX1_problemWith := by decide +kernel
  show V G K 5 0 0 0 [some (.ref hg), some (.ref (adD G 4)), some (.int x), some (.int y), some (.int z)] [] ([(hg, .inr (4, [.ref h, .ref hr]))] ++ (stW G h ah as_ rr ra hm nb ns la lo nu tn sh))
  refine V.gets hC (n := "$SwitchMap$FeatherShares$Deed") hSF.2.2.1 q0_ rfl dX1_problemWith_0 ?_
  refine V.aload_n hC (x := adD G 4) dX1_problemWith_3 rfl ?_
  refine V.callU (x := ⟨"FeatherShares$Deed", "ordinal", "()I"⟩) (n := 0) (As := []) (rest := [.ref (smD G)]) hC (c_ordinalD (kl K) G 4 (by decide)) (SFx.k G) hgo (hSF.dO 4 (by decide)) gX1_problemWith_Jx29ce0_ordinal_8abf5_u31X2 rfl ⟨rfl, rfl⟩ rfl (by decide +kernel) ⟨by decide, by decide, by decide, by decide⟩ [] rfl (by decide) (fun _ => rfl) rfl rfl (Nat.le_of_ble_eq_true rfl) dX1_problemWith_4 (fun r_4 u_4 hp_4 => ?_)
  subst hp_4
  show V G K 5 0 0 7 [some (.ref hg), some (.ref (adD G 4)), some (.int x), some (.int y), some (.int z)] [.int (nI 4), .ref (smD G)] ([(hg, .inr (4, [.ref h, .ref hr]))] ++ (stW G h ah as_ rr ra hm nb ns la lo nu tn sh))
  refine V.ti hC hSF.2.2.2.1 dX1_problemWith_7 4 rfl (by decide) (by decide) (.int (nI 7)) rfl ?_
  refine V.tableOut hC (x := nI 7) 94 dX1_problemWith_8 (by decide) rfl ?_
  refine V.aload_n hC (x := hg) dX1_problemWith_94 rfl ?_
  refine V.aload_n hC (x := adD G 4) dX1_problemWith_95 rfl ?_
  refine V.iload_n hC (x := x) dX1_problemWith_96 rfl ?_
  refine V.aload_n hC (x := hg) dX1_problemWith_97 rfl ?_
  refine V.getf hC (T := TX1) q1_ 0 q2_ rfl (0) rfl rfl (by decide) (.ref h) rfl dX1_problemWith_98 ?_
  refine V.iload_n hC (x := y) dX1_problemWith_101 rfl ?_
  refine V.callVr (n := 1) (As := [.int y]) (rest := [.int x, .ref (adD G 4), .ref hg]) hC (c_find (kl K) G h ah as_ rr ra hm nb ns la lo nu tn sh hb8 hs6 y) SFk0 SFgo0 gX1_problemWith_X11_find rfl ⟨rfl, rfl⟩ (by decide +kernel) ⟨by decide, by decide, by decide, by decide⟩ [1, 2, 3, 4, 5, 6, 7, 8, 9, 10, 11, 12, 13, 14, 15] rfl (by decide) rfl rfl rfl rfl (Nat.le_of_ble_eq_true rfl) dX1_problemWith_102 (fun r_102 u_102 hp_102 => ?_)
  rw [hf] at hp_102
  subst hp_102
  show V G K 5 0 0 105 [some (.ref hg), some (.ref (adD G 4)), some (.int x), some (.int y), some (.int z)] [.null, .int x, .ref (adD G 4), .ref hg] ([(hg, .inr (4, [.ref h, .ref hr]))] ++ (stW G h ah as_ rr ra hm nb ns la lo nu tn sh))
  refine V.iload hC (x := z) dX1_problemWith_105 rfl ?_
  refine V.callVr (n := 4) (As := [.ref (adD G 4), .int x, .null, .int z]) (rest := []) hC (c_pwShare4NX (kl K) G hg hr h ah as_ rr ra hm nb ns la lo nu tn sh hb8 hs6 x hx z) (SFx.k G) hgo gX1_problemWith_X1_problemWithShare rfl ⟨rfl, rfl⟩ (by decide +kernel) ⟨by decide, by decide, by decide, by decide⟩ [0, 1, 2, 3, 4, 5, 6, 7, 8, 9, 10, 11, 12, 13, 14, 15] rfl (by decide) rfl rfl rfl rfl (Nat.le_of_ble_eq_true rfl) dX1_problemWith_107 (fun r_107 u_107 hp_107 => ?_)
  subst hp_107
  show V G K 5 0 0 110 [some (.ref hg), some (.ref (adD G 4)), some (.int x), some (.int y), some (.int z)] [.ref (adP G 2)] ([(hg, .inr (4, [.ref h, .ref hr]))] ++ (stW G h ah as_ rr ra hm nb ns la lo nu tn sh))
  exact hE 110 _ (some (adP G 2)) () dX1_problemWith_110 rfl

set_option maxHeartbeats 4000000 in
set_option maxRecDepth 100000 in
theorem c_pw5FV (l : Launch) (G : Gx) (hg hr : Nat) (h ah as_ : Nat) (rr ra : Nat → Nat) (hm : Nat → Int32) (nb ns : Nat) (la : Int32) (lo : Int64) (nu : Nat → Int32) (tn : Nat → Nat) (sh : Nat → Nat → Int32) (hb8 : nb ≤ 8) (hs6 : ns ≤ 6) (b : Nat) (hb : b < nb) (y z : Int32) (k : Nat) (hk : k < 6) (hf : fd nu y ns = some k) (ht : tn k ≤ 4) : Ct l G (SFx G) yX1_problemWith wsX1_problemWith ({ frames := 4, cells := 0, slots := 0, locals := 88 }) [.ref hg, .ref (adD G 5), .int (nI b), .int y, .int z] ([(hg, .inr (4, [.ref h, .ref hr]))] ++ (stW G h ah as_ rr ra hm nb ns la lo nu tn sh)) mkA (fun (r : Option Nat) (_ : Unit) => r = some (adP G (pwK 5 (sh k) (tn k) b z))) (fun _ : Unit => ([(hg, .inr (4, [.ref h, .ref hr]))] ++ (stW G h ah as_ rr ra hm nb ns la lo nu tn sh))) 0 0 := by
  refine Ct.ofA (mk := fun r : Option Nat => va_rf r) (fun r => va_rf_or r) (Or.inl ⟨_, rfl⟩) (cc := cX1_problemWith) (maxL := 5) (by decide) rfl ⟨by simp [Value.category], Nat.le_of_ble_eq_true rfl⟩ ?_
  intro K hl hC hSF hnm hE
  subst hl
  have hgo := SFgoS (SFx.k G) hSF
  have q0_ : Cond.fieldLink RX1 25 "FeatherShares$1" "$SwitchMap$FeatherShares$Deed" "[I" ∈ wsX1_problemWith := by decide +kernel
  have q1_ : ∀ w ∈ u_ws RX1 TX1 2, w ∈ wsX1_problemWith := by decide +kernel
  have q2_ : Cond.fieldLink RX1 12 "FeatherShares$Changer" "state" "LFeatherShares$State;" ∈ wsX1_problemWith := by decide +kernel
  show V G K 5 0 0 0 [some (.ref hg), some (.ref (adD G 5)), some (.int (nI b)), some (.int y), some (.int z)] [] ([(hg, .inr (4, [.ref h, .ref hr]))] ++ (stW G h ah as_ rr ra hm nb ns la lo nu tn sh))
  refine V.gets hC (n := "$SwitchMap$FeatherShares$Deed") hSF.2.2.1 q0_ rfl dX1_problemWith_0 ?_
  refine V.aload_n hC (x := adD G 5) dX1_problemWith_3 rfl ?_
  refine V.callU (x := ⟨"FeatherShares$Deed", "ordinal", "()I"⟩) (n := 0) (As := []) (rest := [.ref (smD G)]) hC (c_ordinalD (kl K) G 5 (by decide)) (SFx.k G) hgo (hSF.dO 5 (by decide)) gX1_problemWith_Jx29ce0_ordinal_8abf5_u31X2 rfl ⟨rfl, rfl⟩ rfl (by decide +kernel) ⟨by decide, by decide, by decide, by decide⟩ [] rfl (by decide) (fun _ => rfl) rfl rfl (Nat.le_of_ble_eq_true rfl) dX1_problemWith_4 (fun r_4 u_4 hp_4 => ?_)
  subst hp_4
  show V G K 5 0 0 7 [some (.ref hg), some (.ref (adD G 5)), some (.int (nI b)), some (.int y), some (.int z)] [.int (nI 5), .ref (smD G)] ([(hg, .inr (4, [.ref h, .ref hr]))] ++ (stW G h ah as_ rr ra hm nb ns la lo nu tn sh))
  refine V.ti hC hSF.2.2.2.1 dX1_problemWith_7 5 rfl (by decide) (by decide) (.int (nI 0)) rfl ?_
  refine V.tableOut hC (x := nI 0) 94 dX1_problemWith_8 (by decide) rfl ?_
  refine V.aload_n hC (x := hg) dX1_problemWith_94 rfl ?_
  refine V.aload_n hC (x := adD G 5) dX1_problemWith_95 rfl ?_
  refine V.iload_n hC (x := nI b) dX1_problemWith_96 rfl ?_
  refine V.aload_n hC (x := hg) dX1_problemWith_97 rfl ?_
  refine V.getf hC (T := TX1) q1_ 0 q2_ rfl (0) rfl rfl (by decide) (.ref h) rfl dX1_problemWith_98 ?_
  refine V.iload_n hC (x := y) dX1_problemWith_101 rfl ?_
  refine V.callVr (n := 1) (As := [.int y]) (rest := [.int (nI b), .ref (adD G 5), .ref hg]) hC (c_find (kl K) G h ah as_ rr ra hm nb ns la lo nu tn sh hb8 hs6 y) SFk0 SFgo0 gX1_problemWith_X11_find rfl ⟨rfl, rfl⟩ (by decide +kernel) ⟨by decide, by decide, by decide, by decide⟩ [1, 2, 3, 4, 5, 6, 7, 8, 9, 10, 11, 12, 13, 14, 15] rfl (by decide) rfl rfl rfl rfl (Nat.le_of_ble_eq_true rfl) dX1_problemWith_102 (fun r_102 u_102 hp_102 => ?_)
  rw [hf] at hp_102
  subst hp_102
  show V G K 5 0 0 105 [some (.ref hg), some (.ref (adD G 5)), some (.int (nI b)), some (.int y), some (.int z)] [.ref (rr k), .int (nI b), .ref (adD G 5), .ref hg] ([(hg, .inr (4, [.ref h, .ref hr]))] ++ (stW G h ah as_ rr ra hm nb ns la lo nu tn sh))
  refine V.iload hC (x := z) dX1_problemWith_105 rfl ?_
  refine V.callVr (n := 4) (As := [.ref (adD G 5), .int (nI b), .ref (rr k), .int z]) (rest := []) hC (c_pwShare5FV (kl K) G hg hr h ah as_ rr ra hm nb ns la lo nu tn sh hb8 hs6 b hb k hk ht z) (SFx.k G) hgo gX1_problemWith_X1_problemWithShare rfl ⟨rfl, rfl⟩ (by decide +kernel) ⟨by decide, by decide, by decide, by decide⟩ [0, 1, 2, 3, 4, 5, 6, 7, 8, 9, 10, 11, 12, 13, 14, 15] rfl (by decide) rfl rfl rfl rfl (Nat.le_of_ble_eq_true rfl) dX1_problemWith_107 (fun r_107 u_107 hp_107 => ?_)
  subst hp_107
  show V G K 5 0 0 110 [some (.ref hg), some (.ref (adD G 5)), some (.int (nI b)), some (.int y), some (.int z)] [.ref (adP G (pwK 5 (sh k) (tn k) b z))] ([(hg, .inr (4, [.ref h, .ref hr]))] ++ (stW G h ah as_ rr ra hm nb ns la lo nu tn sh))
  exact hE 110 _ (some (adP G (pwK 5 (sh k) (tn k) b z))) () dX1_problemWith_110 rfl

set_option maxHeartbeats 4000000 in
set_option maxRecDepth 100000 in
theorem c_pw5FX (l : Launch) (G : Gx) (hg hr : Nat) (h ah as_ : Nat) (rr ra : Nat → Nat) (hm : Nat → Int32) (nb ns : Nat) (la : Int32) (lo : Int64) (nu : Nat → Int32) (tn : Nat → Nat) (sh : Nat → Nat → Int32) (hb8 : nb ≤ 8) (hs6 : ns ≤ 6) (x : Int32) (hx : ¬ (¬ x < 0 ∧ x < nI nb)) (y z : Int32) (k : Nat) (hk : k < 6) (hf : fd nu y ns = some k) (ht : tn k ≤ 4) : Ct l G (SFx G) yX1_problemWith wsX1_problemWith ({ frames := 2, cells := 0, slots := 0, locals := 45 }) [.ref hg, .ref (adD G 5), .int x, .int y, .int z] ([(hg, .inr (4, [.ref h, .ref hr]))] ++ (stW G h ah as_ rr ra hm nb ns la lo nu tn sh)) mkA (fun (r : Option Nat) (_ : Unit) => r = some (adP G 2)) (fun _ : Unit => ([(hg, .inr (4, [.ref h, .ref hr]))] ++ (stW G h ah as_ rr ra hm nb ns la lo nu tn sh))) 0 0 := by
  refine Ct.ofA (mk := fun r : Option Nat => va_rf r) (fun r => va_rf_or r) (Or.inl ⟨_, rfl⟩) (cc := cX1_problemWith) (maxL := 5) (by decide) rfl ⟨by simp [Value.category], Nat.le_of_ble_eq_true rfl⟩ ?_
  intro K hl hC hSF hnm hE
  subst hl
  have hgo := SFgoS (SFx.k G) hSF
  have q0_ : Cond.fieldLink RX1 25 "FeatherShares$1" "$SwitchMap$FeatherShares$Deed" "[I" ∈ wsX1_problemWith := by decide +kernel
  have q1_ : ∀ w ∈ u_ws RX1 TX1 2, w ∈ wsX1_problemWith := by decide +kernel
  have q2_ : Cond.fieldLink RX1 12 "FeatherShares$Changer" "state" "LFeatherShares$State;" ∈ wsX1_problemWith := by decide +kernel
  show V G K 5 0 0 0 [some (.ref hg), some (.ref (adD G 5)), some (.int x), some (.int y), some (.int z)] [] ([(hg, .inr (4, [.ref h, .ref hr]))] ++ (stW G h ah as_ rr ra hm nb ns la lo nu tn sh))
  refine V.gets hC (n := "$SwitchMap$FeatherShares$Deed") hSF.2.2.1 q0_ rfl dX1_problemWith_0 ?_
  refine V.aload_n hC (x := adD G 5) dX1_problemWith_3 rfl ?_
  refine V.callU (x := ⟨"FeatherShares$Deed", "ordinal", "()I"⟩) (n := 0) (As := []) (rest := [.ref (smD G)]) hC (c_ordinalD (kl K) G 5 (by decide)) (SFx.k G) hgo (hSF.dO 5 (by decide)) gX1_problemWith_Jx29ce0_ordinal_8abf5_u31X2 rfl ⟨rfl, rfl⟩ rfl (by decide +kernel) ⟨by decide, by decide, by decide, by decide⟩ [] rfl (by decide) (fun _ => rfl) rfl rfl (Nat.le_of_ble_eq_true rfl) dX1_problemWith_4 (fun r_4 u_4 hp_4 => ?_)
  subst hp_4
  show V G K 5 0 0 7 [some (.ref hg), some (.ref (adD G 5)), some (.int x), some (.int y), some (.int z)] [.int (nI 5), .ref (smD G)] ([(hg, .inr (4, [.ref h, .ref hr]))] ++ (stW G h ah as_ rr ra hm nb ns la lo nu tn sh))
  refine V.ti hC hSF.2.2.2.1 dX1_problemWith_7 5 rfl (by decide) (by decide) (.int (nI 0)) rfl ?_
  refine V.tableOut hC (x := nI 0) 94 dX1_problemWith_8 (by decide) rfl ?_
  refine V.aload_n hC (x := hg) dX1_problemWith_94 rfl ?_
  refine V.aload_n hC (x := adD G 5) dX1_problemWith_95 rfl ?_
  refine V.iload_n hC (x := x) dX1_problemWith_96 rfl ?_
  refine V.aload_n hC (x := hg) dX1_problemWith_97 rfl ?_
  refine V.getf hC (T := TX1) q1_ 0 q2_ rfl (0) rfl rfl (by decide) (.ref h) rfl dX1_problemWith_98 ?_
  refine V.iload_n hC (x := y) dX1_problemWith_101 rfl ?_
  refine V.callVr (n := 1) (As := [.int y]) (rest := [.int x, .ref (adD G 5), .ref hg]) hC (c_find (kl K) G h ah as_ rr ra hm nb ns la lo nu tn sh hb8 hs6 y) SFk0 SFgo0 gX1_problemWith_X11_find rfl ⟨rfl, rfl⟩ (by decide +kernel) ⟨by decide, by decide, by decide, by decide⟩ [1, 2, 3, 4, 5, 6, 7, 8, 9, 10, 11, 12, 13, 14, 15] rfl (by decide) rfl rfl rfl rfl (Nat.le_of_ble_eq_true rfl) dX1_problemWith_102 (fun r_102 u_102 hp_102 => ?_)
  rw [hf] at hp_102
  subst hp_102
  show V G K 5 0 0 105 [some (.ref hg), some (.ref (adD G 5)), some (.int x), some (.int y), some (.int z)] [.ref (rr k), .int x, .ref (adD G 5), .ref hg] ([(hg, .inr (4, [.ref h, .ref hr]))] ++ (stW G h ah as_ rr ra hm nb ns la lo nu tn sh))
  refine V.iload hC (x := z) dX1_problemWith_105 rfl ?_
  refine V.callVr (n := 4) (As := [.ref (adD G 5), .int x, .ref (rr k), .int z]) (rest := []) hC (c_pwShare5FX (kl K) G hg hr h ah as_ rr ra hm nb ns la lo nu tn sh hb8 hs6 x hx k hk ht z) (SFx.k G) hgo gX1_problemWith_X1_problemWithShare rfl ⟨rfl, rfl⟩ (by decide +kernel) ⟨by decide, by decide, by decide, by decide⟩ [0, 1, 2, 3, 4, 5, 6, 7, 8, 9, 10, 11, 12, 13, 14, 15] rfl (by decide) rfl rfl rfl rfl (Nat.le_of_ble_eq_true rfl) dX1_problemWith_107 (fun r_107 u_107 hp_107 => ?_)
  subst hp_107
  show V G K 5 0 0 110 [some (.ref hg), some (.ref (adD G 5)), some (.int x), some (.int y), some (.int z)] [.ref (adP G 2)] ([(hg, .inr (4, [.ref h, .ref hr]))] ++ (stW G h ah as_ rr ra hm nb ns la lo nu tn sh))
  exact hE 110 _ (some (adP G 2)) () dX1_problemWith_110 rfl

set_option maxHeartbeats 4000000 in
set_option maxRecDepth 100000 in
theorem c_pw5NV (l : Launch) (G : Gx) (hg hr : Nat) (h ah as_ : Nat) (rr ra : Nat → Nat) (hm : Nat → Int32) (nb ns : Nat) (la : Int32) (lo : Int64) (nu : Nat → Int32) (tn : Nat → Nat) (sh : Nat → Nat → Int32) (hb8 : nb ≤ 8) (hs6 : ns ≤ 6) (b : Nat) (hb : b < nb) (y z : Int32) (hf : fd nu y ns = none) : Ct l G (SFx G) yX1_problemWith wsX1_problemWith ({ frames := 2, cells := 0, slots := 0, locals := 45 }) [.ref hg, .ref (adD G 5), .int (nI b), .int y, .int z] ([(hg, .inr (4, [.ref h, .ref hr]))] ++ (stW G h ah as_ rr ra hm nb ns la lo nu tn sh)) mkA (fun (r : Option Nat) (_ : Unit) => r = some (adP G 3)) (fun _ : Unit => ([(hg, .inr (4, [.ref h, .ref hr]))] ++ (stW G h ah as_ rr ra hm nb ns la lo nu tn sh))) 0 0 := by
  refine Ct.ofA (mk := fun r : Option Nat => va_rf r) (fun r => va_rf_or r) (Or.inl ⟨_, rfl⟩) (cc := cX1_problemWith) (maxL := 5) (by decide) rfl ⟨by simp [Value.category], Nat.le_of_ble_eq_true rfl⟩ ?_
  intro K hl hC hSF hnm hE
  subst hl
  have hgo := SFgoS (SFx.k G) hSF
  have q0_ : Cond.fieldLink RX1 25 "FeatherShares$1" "$SwitchMap$FeatherShares$Deed" "[I" ∈ wsX1_problemWith := by decide +kernel
  have q1_ : ∀ w ∈ u_ws RX1 TX1 2, w ∈ wsX1_problemWith := by decide +kernel
  have q2_ : Cond.fieldLink RX1 12 "FeatherShares$Changer" "state" "LFeatherShares$State;" ∈ wsX1_problemWith := by decide +kernel
  show V G K 5 0 0 0 [some (.ref hg), some (.ref (adD G 5)), some (.int (nI b)), some (.int y), some (.int z)] [] ([(hg, .inr (4, [.ref h, .ref hr]))] ++ (stW G h ah as_ rr ra hm nb ns la lo nu tn sh))
  refine V.gets hC (n := "$SwitchMap$FeatherShares$Deed") hSF.2.2.1 q0_ rfl dX1_problemWith_0 ?_
  refine V.aload_n hC (x := adD G 5) dX1_problemWith_3 rfl ?_
  refine V.callU (x := ⟨"FeatherShares$Deed", "ordinal", "()I"⟩) (n := 0) (As := []) (rest := [.ref (smD G)]) hC (c_ordinalD (kl K) G 5 (by decide)) (SFx.k G) hgo (hSF.dO 5 (by decide)) gX1_problemWith_Jx29ce0_ordinal_8abf5_u31X2 rfl ⟨rfl, rfl⟩ rfl (by decide +kernel) ⟨by decide, by decide, by decide, by decide⟩ [] rfl (by decide) (fun _ => rfl) rfl rfl (Nat.le_of_ble_eq_true rfl) dX1_problemWith_4 (fun r_4 u_4 hp_4 => ?_)
  subst hp_4
  show V G K 5 0 0 7 [some (.ref hg), some (.ref (adD G 5)), some (.int (nI b)), some (.int y), some (.int z)] [.int (nI 5), .ref (smD G)] ([(hg, .inr (4, [.ref h, .ref hr]))] ++ (stW G h ah as_ rr ra hm nb ns la lo nu tn sh))
  refine V.ti hC hSF.2.2.2.1 dX1_problemWith_7 5 rfl (by decide) (by decide) (.int (nI 0)) rfl ?_
  refine V.tableOut hC (x := nI 0) 94 dX1_problemWith_8 (by decide) rfl ?_
  refine V.aload_n hC (x := hg) dX1_problemWith_94 rfl ?_
  refine V.aload_n hC (x := adD G 5) dX1_problemWith_95 rfl ?_
  refine V.iload_n hC (x := nI b) dX1_problemWith_96 rfl ?_
  refine V.aload_n hC (x := hg) dX1_problemWith_97 rfl ?_
  refine V.getf hC (T := TX1) q1_ 0 q2_ rfl (0) rfl rfl (by decide) (.ref h) rfl dX1_problemWith_98 ?_
  refine V.iload_n hC (x := y) dX1_problemWith_101 rfl ?_
  refine V.callVr (n := 1) (As := [.int y]) (rest := [.int (nI b), .ref (adD G 5), .ref hg]) hC (c_find (kl K) G h ah as_ rr ra hm nb ns la lo nu tn sh hb8 hs6 y) SFk0 SFgo0 gX1_problemWith_X11_find rfl ⟨rfl, rfl⟩ (by decide +kernel) ⟨by decide, by decide, by decide, by decide⟩ [1, 2, 3, 4, 5, 6, 7, 8, 9, 10, 11, 12, 13, 14, 15] rfl (by decide) rfl rfl rfl rfl (Nat.le_of_ble_eq_true rfl) dX1_problemWith_102 (fun r_102 u_102 hp_102 => ?_)
  rw [hf] at hp_102
  subst hp_102
  show V G K 5 0 0 105 [some (.ref hg), some (.ref (adD G 5)), some (.int (nI b)), some (.int y), some (.int z)] [.null, .int (nI b), .ref (adD G 5), .ref hg] ([(hg, .inr (4, [.ref h, .ref hr]))] ++ (stW G h ah as_ rr ra hm nb ns la lo nu tn sh))
  refine V.iload hC (x := z) dX1_problemWith_105 rfl ?_
  refine V.callVr (n := 4) (As := [.ref (adD G 5), .int (nI b), .null, .int z]) (rest := []) hC (c_pwShare5NV (kl K) G hg hr h ah as_ rr ra hm nb ns la lo nu tn sh hb8 hs6 b hb z) (SFx.k G) hgo gX1_problemWith_X1_problemWithShare rfl ⟨rfl, rfl⟩ (by decide +kernel) ⟨by decide, by decide, by decide, by decide⟩ [0, 1, 2, 3, 4, 5, 6, 7, 8, 9, 10, 11, 12, 13, 14, 15] rfl (by decide) rfl rfl rfl rfl (Nat.le_of_ble_eq_true rfl) dX1_problemWith_107 (fun r_107 u_107 hp_107 => ?_)
  subst hp_107
  show V G K 5 0 0 110 [some (.ref hg), some (.ref (adD G 5)), some (.int (nI b)), some (.int y), some (.int z)] [.ref (adP G 3)] ([(hg, .inr (4, [.ref h, .ref hr]))] ++ (stW G h ah as_ rr ra hm nb ns la lo nu tn sh))
  exact hE 110 _ (some (adP G 3)) () dX1_problemWith_110 rfl

set_option maxHeartbeats 4000000 in
set_option maxRecDepth 100000 in
theorem c_pw5NX (l : Launch) (G : Gx) (hg hr : Nat) (h ah as_ : Nat) (rr ra : Nat → Nat) (hm : Nat → Int32) (nb ns : Nat) (la : Int32) (lo : Int64) (nu : Nat → Int32) (tn : Nat → Nat) (sh : Nat → Nat → Int32) (hb8 : nb ≤ 8) (hs6 : ns ≤ 6) (x : Int32) (hx : ¬ (¬ x < 0 ∧ x < nI nb)) (y z : Int32) (hf : fd nu y ns = none) : Ct l G (SFx G) yX1_problemWith wsX1_problemWith ({ frames := 2, cells := 0, slots := 0, locals := 45 }) [.ref hg, .ref (adD G 5), .int x, .int y, .int z] ([(hg, .inr (4, [.ref h, .ref hr]))] ++ (stW G h ah as_ rr ra hm nb ns la lo nu tn sh)) mkA (fun (r : Option Nat) (_ : Unit) => r = some (adP G 2)) (fun _ : Unit => ([(hg, .inr (4, [.ref h, .ref hr]))] ++ (stW G h ah as_ rr ra hm nb ns la lo nu tn sh))) 0 0 := by
  refine Ct.ofA (mk := fun r : Option Nat => va_rf r) (fun r => va_rf_or r) (Or.inl ⟨_, rfl⟩) (cc := cX1_problemWith) (maxL := 5) (by decide) rfl ⟨by simp [Value.category], Nat.le_of_ble_eq_true rfl⟩ ?_
  intro K hl hC hSF hnm hE
  subst hl
  have hgo := SFgoS (SFx.k G) hSF
  have q0_ : Cond.fieldLink RX1 25 "FeatherShares$1" "$SwitchMap$FeatherShares$Deed" "[I" ∈ wsX1_problemWith := by decide +kernel
  have q1_ : ∀ w ∈ u_ws RX1 TX1 2, w ∈ wsX1_problemWith := by decide +kernel
  have q2_ : Cond.fieldLink RX1 12 "FeatherShares$Changer" "state" "LFeatherShares$State;" ∈ wsX1_problemWith := by decide +kernel
  show V G K 5 0 0 0 [some (.ref hg), some (.ref (adD G 5)), some (.int x), some (.int y), some (.int z)] [] ([(hg, .inr (4, [.ref h, .ref hr]))] ++ (stW G h ah as_ rr ra hm nb ns la lo nu tn sh))
  refine V.gets hC (n := "$SwitchMap$FeatherShares$Deed") hSF.2.2.1 q0_ rfl dX1_problemWith_0 ?_
  refine V.aload_n hC (x := adD G 5) dX1_problemWith_3 rfl ?_
  refine V.callU (x := ⟨"FeatherShares$Deed", "ordinal", "()I"⟩) (n := 0) (As := []) (rest := [.ref (smD G)]) hC (c_ordinalD (kl K) G 5 (by decide)) (SFx.k G) hgo (hSF.dO 5 (by decide)) gX1_problemWith_Jx29ce0_ordinal_8abf5_u31X2 rfl ⟨rfl, rfl⟩ rfl (by decide +kernel) ⟨by decide, by decide, by decide, by decide⟩ [] rfl (by decide) (fun _ => rfl) rfl rfl (Nat.le_of_ble_eq_true rfl) dX1_problemWith_4 (fun r_4 u_4 hp_4 => ?_)
  subst hp_4
  show V G K 5 0 0 7 [some (.ref hg), some (.ref (adD G 5)), some (.int x), some (.int y), some (.int z)] [.int (nI 5), .ref (smD G)] ([(hg, .inr (4, [.ref h, .ref hr]))] ++ (stW G h ah as_ rr ra hm nb ns la lo nu tn sh))
  refine V.ti hC hSF.2.2.2.1 dX1_problemWith_7 5 rfl (by decide) (by decide) (.int (nI 0)) rfl ?_
  refine V.tableOut hC (x := nI 0) 94 dX1_problemWith_8 (by decide) rfl ?_
  refine V.aload_n hC (x := hg) dX1_problemWith_94 rfl ?_
  refine V.aload_n hC (x := adD G 5) dX1_problemWith_95 rfl ?_
  refine V.iload_n hC (x := x) dX1_problemWith_96 rfl ?_
  refine V.aload_n hC (x := hg) dX1_problemWith_97 rfl ?_
  refine V.getf hC (T := TX1) q1_ 0 q2_ rfl (0) rfl rfl (by decide) (.ref h) rfl dX1_problemWith_98 ?_
  refine V.iload_n hC (x := y) dX1_problemWith_101 rfl ?_
  refine V.callVr (n := 1) (As := [.int y]) (rest := [.int x, .ref (adD G 5), .ref hg]) hC (c_find (kl K) G h ah as_ rr ra hm nb ns la lo nu tn sh hb8 hs6 y) SFk0 SFgo0 gX1_problemWith_X11_find rfl ⟨rfl, rfl⟩ (by decide +kernel) ⟨by decide, by decide, by decide, by decide⟩ [1, 2, 3, 4, 5, 6, 7, 8, 9, 10, 11, 12, 13, 14, 15] rfl (by decide) rfl rfl rfl rfl (Nat.le_of_ble_eq_true rfl) dX1_problemWith_102 (fun r_102 u_102 hp_102 => ?_)
  rw [hf] at hp_102
  subst hp_102
  show V G K 5 0 0 105 [some (.ref hg), some (.ref (adD G 5)), some (.int x), some (.int y), some (.int z)] [.null, .int x, .ref (adD G 5), .ref hg] ([(hg, .inr (4, [.ref h, .ref hr]))] ++ (stW G h ah as_ rr ra hm nb ns la lo nu tn sh))
  refine V.iload hC (x := z) dX1_problemWith_105 rfl ?_
  refine V.callVr (n := 4) (As := [.ref (adD G 5), .int x, .null, .int z]) (rest := []) hC (c_pwShare5NX (kl K) G hg hr h ah as_ rr ra hm nb ns la lo nu tn sh hb8 hs6 x hx z) (SFx.k G) hgo gX1_problemWith_X1_problemWithShare rfl ⟨rfl, rfl⟩ (by decide +kernel) ⟨by decide, by decide, by decide, by decide⟩ [0, 1, 2, 3, 4, 5, 6, 7, 8, 9, 10, 11, 12, 13, 14, 15] rfl (by decide) rfl rfl rfl rfl (Nat.le_of_ble_eq_true rfl) dX1_problemWith_107 (fun r_107 u_107 hp_107 => ?_)
  subst hp_107
  show V G K 5 0 0 110 [some (.ref hg), some (.ref (adD G 5)), some (.int x), some (.int y), some (.int z)] [.ref (adP G 2)] ([(hg, .inr (4, [.ref h, .ref hr]))] ++ (stW G h ah as_ rr ra hm nb ns la lo nu tn sh))
  exact hE 110 _ (some (adP G 2)) () dX1_problemWith_110 rfl
