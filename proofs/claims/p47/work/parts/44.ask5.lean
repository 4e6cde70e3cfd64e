/-! FeatherShares: possible values (printed by gen/s42.py) -/
set_option maxHeartbeats 4000000 in
set_option maxRecDepth 100000 in
theorem q_possible (l : Launch) (G : Gx) (hst : l.stackTraces = false) (fs h h2 h3 hh hr hg hq hl : Nat) (iS eA fA : Int32) (ah as_ : Nat) (rr ra : Nat → Nat) (s : ASt) (B : Nat) (hI : InvA B s) (hp ap av he aw al af as3 : Nat) (ar : Nat → Nat) (E : Scr) (hok : Sok E) (x y : Int32) : CtX l G (SFt G) yX12_possibleValues wsX12_possibleValues ({ frames := 8, cells := 2, slots := 12, locals := 127 }) [.ref fs, .int x, .int y] ([(fs, .inr (12, [.ref h, .ref h2, .ref h3, .ref hh, .ref hr, .ref hg, .ref hq, .ref hl, .int iS, .int eA, .int fA]))] ++ ((stW G h ah as_ rr ra (sHm s) (sNb s) (sNs s) (sLa s) (sLo s) (sNu s) (sTn s) (sSh s)) ++ (rbW G hr hp ap av he aw al af as3 ar E))) mkI (fun (r : Int32) (u : Scr) => qPoss s x y = (0, r) ∧ Sok u) (fun u : Scr => ([(fs, .inr (12, [.ref h, .ref h2, .ref h3, .ref hh, .ref hr, .ref hg, .ref hq, .ref hl, .int iS, .int eA, .int fA]))] ++ ((stW G h ah as_ rr ra (sHm s) (sNb s) (sNs s) (sLa s) (sLo s) (sNu s) (sTn s) (sSh s)) ++ (rbW G hr hp ap av he aw al af as3 ar u)))) (fun (E : String) (_ : Unit) => XE ["java/util/NoSuchElementException", "java/lang/IllegalArgumentException"] (qPoss s x y) E) (fun _ : Unit => ([(fs, .inr (12, [.ref h, .ref h2, .ref h3, .ref hh, .ref hr, .ref hg, .ref hq, .ref hl, .int iS, .int eA, .int fA]))] ++ ((stW G h ah as_ rr ra (sHm s) (sNb s) (sNs s) (sLa s) (sLo s) (sNu s) (sTn s) (sSh s)) ++ (rbW G hr hp ap av he aw al af as3 ar E)))) 2 12 := by
  have hb8 := hI.1
  have hs6 := hI.2.1
  refine CtX.ofI (cc := cX12_possibleValues) (maxL := 3) (by decide) rfl ⟨by simp [Value.category], Nat.le_of_ble_eq_true rfl⟩ ?_
  intro K hl hC hSF hnm hQ hE
  subst hl
  have hgot := SFgoS (SFt.k G) hSF
  have hgo := SFgo.x hgot
  have hSFt := hSF
  replace hSF := hSF.1
  have q0_ : ∀ w ∈ u_ws RX12 TX12 11, w ∈ wsX12_possibleValues := by decide +kernel
  have q1_ : Cond.fieldLink RX12 28 "FeatherShares" "rebuilder" "LFeatherShares$Rebuilder;" ∈ wsX12_possibleValues := by decide +kernel
  show V G K 3 0 0 0 [some (.ref fs), some (.int x), some (.int y)] [] ([(fs, .inr (12, [.ref h, .ref h2, .ref h3, .ref hh, .ref hr, .ref hg, .ref hq, .ref hl, .int iS, .int eA, .int fA]))] ++ ((stW G h ah as_ rr ra (sHm s) (sNb s) (sNs s) (sLa s) (sLo s) (sNu s) (sTn s) (sSh s)) ++ (rbW G hr hp ap av he aw al af as3 ar E)))
  refine V.aload_n hC (x := fs) dX12_possibleValues_0 rfl ?_
  refine V.getf hC (T := TX12) q0_ 4 q1_ rfl (0) rfl rfl (by decide) (.ref hr) rfl dX12_possibleValues_1 ?_
  refine V.aload_n hC (x := fs) dX12_possibleValues_4 rfl ?_
  refine V.iload_n hC (x := x) dX12_possibleValues_5 rfl ?_
  refine V.iload_n hC (x := y) dX12_possibleValues_6 rfl ?_
  refine V.callVXr (n := 2) (As := [.int x, .int y]) (rest := [.ref hr]) hC (c_withKnown (kl K) G hst fs h h2 h3 hh hr hg hq hl iS eA fA ah as_ rr ra s B hI x y) (SFt.k G) hgot gX12_possibleValues_X12_withKnown rfl ⟨rfl, rfl⟩ (by decide +kernel) ⟨by decide, by decide, by decide, by decide⟩ [0, 1, 2, 3, 4, 5, 6, 7, 8, 9, 10, 11, 12, 13, 14, 15] rfl (by decide) rfl rfl rfl rfl (Nat.le_of_ble_eq_true rfl) dX12_possibleValues_7 (fun E_ u_ hx_ => VX.out hC hQ () (Or.elim hx_ (fun z => ⟨0, by decide, qS_n z.2, z.1⟩) (fun ⟨e, k, f, g⟩ => ⟨1, by decide, (qS_y f).trans (qI_n g), e⟩)) rfl (Nat.le_of_ble_eq_true rfl) (Nat.le_of_ble_eq_true rfl)) (fun r_7 u_7 hp_7 => ?_)
  obtain ⟨k, hf, er_7, hKN⟩ := hp_7
  subst er_7
  have hk := (fd_lt hf hs6).2
  have ik := hI.2.2.1 k (fd_lt hf hs6).1
  obtain ⟨n, hn, hyn⟩ := i32_natLe (n := hc (sSh s k) 8) (by have := hc_le (sSh s k) 8; omega) hKN
  have hny : y.toNatClampNeg = n := by rw [hyn, nI_clamp (by have := hc_le (sSh s k) 8; omega)]
  rw [← hny] at hyn hn
  show V G K 3 2 12 10 [some (.ref fs), some (.int x), some (.int y)] [.ref (rr k), .ref hr] ([(fs, .inr (12, [.ref h, .ref h2, .ref h3, .ref hh, .ref hr, .ref hg, .ref hq, .ref hl, .int iS, .int eA, .int fA]))] ++ ((stW G h ah as_ rr ra (sHm s) (sNb s) (sNs s) (sLa s) (sLo s) (sNu s) (sTn s) (sSh s)) ++ (rbW G hr hp ap av he aw al af as3 ar E)))
  refine V.iload_n hC (x := y) dX12_possibleValues_10 rfl ?_
  refine V.topeq (nI (y.toNatClampNeg)) hyn ?_
  refine V.callV (n := 2) (As := [.ref (rr k), .int (nI (y.toNatClampNeg))]) (rest := []) hC (c_byFit (kl K) G hr hp ap av he aw al af as3 ar E (rr k) (ra k) (sSh s k) (sNu s k) (sTn s k) hok ik.2.2.1 ik.1 ik.2.1 y.toNatClampNeg hn) SFk0 SFgo0 gX12_possibleValues_X8_valuesByFit rfl ⟨rfl, rfl⟩ (by decide +kernel) ⟨by decide, by decide, by decide, by decide⟩ [16, 17, 18, 19, 20, 21, 22, 23, 24, 25, 26, 27, 28, 1 + (3 + 2 * k), 1 + (4 + 2 * k)] (by rcases (lt6 hk) with rfl | rfl | rfl | rfl | rfl | rfl <;> rfl) (by rcases (lt6 hk) with rfl | rfl | rfl | rfl | rfl | rfl <;> rfl) (fun _ => Eq.refl [hr, hp, ap, av, he, aw, al, af, as3, ar 0, ar 1, ar 2, ar 3, rr k, ra k]) rfl rfl rfl rfl (Nat.le_of_ble_eq_true rfl) dX12_possibleValues_11 (fun r_11 u_11 hp_11 => ?_)
  obtain ⟨e_11, hE_11⟩ := hp_11
  subst e_11
  refine V.eqw (ws' := ([(fs, .inr (12, [.ref h, .ref h2, .ref h3, .ref hh, .ref hr, .ref hg, .ref hq, .ref hl, .int iS, .int eA, .int fA]))] ++ ((stW G h ah as_ rr ra (sHm s) (sNb s) (sNs s) (sLa s) (sLo s) (sNu s) (sTn s) (sSh s)) ++ (rbW G hr hp ap av he aw al af as3 ar u_11)))) (by
      rcases (lt6 hk) with rfl | rfl | rfl | rfl | rfl | rfl
      · exact rj_by2 [16, 17, 18, 19, 20, 21, 22, 23, 24, 25, 26, 27, 28, 1 + (3 + 2 * 0), 1 + (4 + 2 * 0)] [0, 1, 2, 3, 6, 7, 8, 9, 10, 11, 12, 13, 14, 15] 29 rfl rfl (by decide) (by decide) rfl ⟨⟨_, rfl, rfl⟩, ⟨_, rfl, rfl⟩, ⟨_, rfl, rfl⟩, ⟨_, rfl, rfl⟩, ⟨_, rfl, rfl⟩, ⟨_, rfl, rfl⟩, ⟨_, rfl, rfl⟩, ⟨_, rfl, rfl⟩, ⟨_, rfl, rfl⟩, ⟨_, rfl, rfl⟩, ⟨_, rfl, rfl⟩, ⟨_, rfl, rfl⟩, ⟨_, rfl, rfl⟩, ⟨_, rfl, rfl⟩, trivial⟩
      · exact rj_by2 [16, 17, 18, 19, 20, 21, 22, 23, 24, 25, 26, 27, 28, 1 + (3 + 2 * 1), 1 + (4 + 2 * 1)] [0, 1, 2, 3, 4, 5, 8, 9, 10, 11, 12, 13, 14, 15] 29 rfl rfl (by decide) (by decide) rfl ⟨⟨_, rfl, rfl⟩, ⟨_, rfl, rfl⟩, ⟨_, rfl, rfl⟩, ⟨_, rfl, rfl⟩, ⟨_, rfl, rfl⟩, ⟨_, rfl, rfl⟩, ⟨_, rfl, rfl⟩, ⟨_, rfl, rfl⟩, ⟨_, rfl, rfl⟩, ⟨_, rfl, rfl⟩, ⟨_, rfl, rfl⟩, ⟨_, rfl, rfl⟩, ⟨_, rfl, rfl⟩, ⟨_, rfl, rfl⟩, trivial⟩
      · exact rj_by2 [16, 17, 18, 19, 20, 21, 22, 23, 24, 25, 26, 27, 28, 1 + (3 + 2 * 2), 1 + (4 + 2 * 2)] [0, 1, 2, 3, 4, 5, 6, 7, 10, 11, 12, 13, 14, 15] 29 rfl rfl (by decide) (by decide) rfl ⟨⟨_, rfl, rfl⟩, ⟨_, rfl, rfl⟩, ⟨_, rfl, rfl⟩, ⟨_, rfl, rfl⟩, ⟨_, rfl, rfl⟩, ⟨_, rfl, rfl⟩, ⟨_, rfl, rfl⟩, ⟨_, rfl, rfl⟩, ⟨_, rfl, rfl⟩, ⟨_, rfl, rfl⟩, ⟨_, rfl, rfl⟩, ⟨_, rfl, rfl⟩, ⟨_, rfl, rfl⟩, ⟨_, rfl, rfl⟩, trivial⟩
      · exact rj_by2 [16, 17, 18, 19, 20, 21, 22, 23, 24, 25, 26, 27, 28, 1 + (3 + 2 * 3), 1 + (4 + 2 * 3)] [0, 1, 2, 3, 4, 5, 6, 7, 8, 9, 12, 13, 14, 15] 29 rfl rfl (by decide) (by decide) rfl ⟨⟨_, rfl, rfl⟩, ⟨_, rfl, rfl⟩, ⟨_, rfl, rfl⟩, ⟨_, rfl, rfl⟩, ⟨_, rfl, rfl⟩, ⟨_, rfl, rfl⟩, ⟨_, rfl, rfl⟩, ⟨_, rfl, rfl⟩, ⟨_, rfl, rfl⟩, ⟨_, rfl, rfl⟩, ⟨_, rfl, rfl⟩, ⟨_, rfl, rfl⟩, ⟨_, rfl, rfl⟩, ⟨_, rfl, rfl⟩, trivial⟩
      · exact rj_by2 [16, 17, 18, 19, 20, 21, 22, 23, 24, 25, 26, 27, 28, 1 + (3 + 2 * 4), 1 + (4 + 2 * 4)] [0, 1, 2, 3, 4, 5, 6, 7, 8, 9, 10, 11, 14, 15] 29 rfl rfl (by decide) (by decide) rfl ⟨⟨_, rfl, rfl⟩, ⟨_, rfl, rfl⟩, ⟨_, rfl, rfl⟩, ⟨_, rfl, rfl⟩, ⟨_, rfl, rfl⟩, ⟨_, rfl, rfl⟩, ⟨_, rfl, rfl⟩, ⟨_, rfl, rfl⟩, ⟨_, rfl, rfl⟩, ⟨_, rfl, rfl⟩, ⟨_, rfl, rfl⟩, ⟨_, rfl, rfl⟩, ⟨_, rfl, rfl⟩, ⟨_, rfl, rfl⟩, trivial⟩
      · exact rj_by2 [16, 17, 18, 19, 20, 21, 22, 23, 24, 25, 26, 27, 28, 1 + (3 + 2 * 5), 1 + (4 + 2 * 5)] [0, 1, 2, 3, 4, 5, 6, 7, 8, 9, 10, 11, 12, 13] 29 rfl rfl (by decide) (by decide) rfl ⟨⟨_, rfl, rfl⟩, ⟨_, rfl, rfl⟩, ⟨_, rfl, rfl⟩, ⟨_, rfl, rfl⟩, ⟨_, rfl, rfl⟩, ⟨_, rfl, rfl⟩, ⟨_, rfl, rfl⟩, ⟨_, rfl, rfl⟩, ⟨_, rfl, rfl⟩, ⟨_, rfl, rfl⟩, ⟨_, rfl, rfl⟩, ⟨_, rfl, rfl⟩, ⟨_, rfl, rfl⟩, ⟨_, rfl, rfl⟩, trivial⟩) ?_
  show V G K 3 2 12 14 [some (.ref fs), some (.int x), some (.int y)] [.int (nI (pvc (sSh s k) (sTn s k) y.toNatClampNeg 97))] ([(fs, .inr (12, [.ref h, .ref h2, .ref h3, .ref hh, .ref hr, .ref hg, .ref hq, .ref hl, .int iS, .int eA, .int fA]))] ++ ((stW G h ah as_ rr ra (sHm s) (sNb s) (sNs s) (sLa s) (sLo s) (sNu s) (sTn s) (sSh s)) ++ (rbW G hr hp ap av he aw al af as3 ar u_11)))
  exact hE 14 _ (nI (pvc (sSh s k) (sTn s k) y.toNatClampNeg 97)) u_11 dX12_possibleValues_14 rfl ⟨(qS_y hf).trans (qI_y hKN), hE_11⟩

set_option maxHeartbeats 4000000 in
set_option maxRecDepth 100000 in
theorem q_possibleT (l : Launch) (G : Gx) (hst : l.stackTraces = false) (fs h h2 h3 hh hr hg hq hl : Nat) (iS eA fA : Int32) (ah as_ : Nat) (rr ra : Nat → Nat) (s : ASt) (B : Nat) (hI : InvA B s) (hp ap av he aw al af as3 : Nat) (ar : Nat → Nat) (E : Scr) (hok : Sok E) (x y : Int32) : CtX l G (SFt G) yX12_possibleValuesByTrying wsX12_possibleValuesByTrying ({ frames := 8, cells := 2, slots := 12, locals := 127 }) [.ref fs, .int x, .int y] ([(fs, .inr (12, [.ref h, .ref h2, .ref h3, .ref hh, .ref hr, .ref hg, .ref hq, .ref hl, .int iS, .int eA, .int fA]))] ++ ((stW G h ah as_ rr ra (sHm s) (sNb s) (sNs s) (sLa s) (sLo s) (sNu s) (sTn s) (sSh s)) ++ (rbW G hr hp ap av he aw al af as3 ar E))) mkI (fun (r : Int32) (u : Scr) => qPoss s x y = (0, r) ∧ Sok u) (fun u : Scr => ([(fs, .inr (12, [.ref h, .ref h2, .ref h3, .ref hh, .ref hr, .ref hg, .ref hq, .ref hl, .int iS, .int eA, .int fA]))] ++ ((stW G h ah as_ rr ra (sHm s) (sNb s) (sNs s) (sLa s) (sLo s) (sNu s) (sTn s) (sSh s)) ++ (rbW G hr hp ap av he aw al af as3 ar u)))) (fun (E : String) (_ : Unit) => XE ["java/util/NoSuchElementException", "java/lang/IllegalArgumentException"] (qPoss s x y) E) (fun _ : Unit => ([(fs, .inr (12, [.ref h, .ref h2, .ref h3, .ref hh, .ref hr, .ref hg, .ref hq, .ref hl, .int iS, .int eA, .int fA]))] ++ ((stW G h ah as_ rr ra (sHm s) (sNb s) (sNs s) (sLa s) (sLo s) (sNu s) (sTn s) (sSh s)) ++ (rbW G hr hp ap av he aw al af as3 ar E)))) 2 12 := by
  have hb8 := hI.1
  have hs6 := hI.2.1
  refine CtX.ofI (cc := cX12_possibleValuesByTrying) (maxL := 3) (by decide) rfl ⟨by simp [Value.category], Nat.le_of_ble_eq_true rfl⟩ ?_
  intro K hl hC hSF hnm hQ hE
  subst hl
  have hgot := SFgoS (SFt.k G) hSF
  have hgo := SFgo.x hgot
  have hSFt := hSF
  replace hSF := hSF.1
  have q0_ : ∀ w ∈ u_ws RX12 TX12 11, w ∈ wsX12_possibleValuesByTrying := by decide +kernel
  have q1_ : Cond.fieldLink RX12 28 "FeatherShares" "rebuilder" "LFeatherShares$Rebuilder;" ∈ wsX12_possibleValuesByTrying := by decide +kernel
  show V G K 3 0 0 0 [some (.ref fs), some (.int x), some (.int y)] [] ([(fs, .inr (12, [.ref h, .ref h2, .ref h3, .ref hh, .ref hr, .ref hg, .ref hq, .ref hl, .int iS, .int eA, .int fA]))] ++ ((stW G h ah as_ rr ra (sHm s) (sNb s) (sNs s) (sLa s) (sLo s) (sNu s) (sTn s) (sSh s)) ++ (rbW G hr hp ap av he aw al af as3 ar E)))
  refine V.aload_n hC (x := fs) dX12_possibleValuesByTrying_0 rfl ?_
  refine V.getf hC (T := TX12) q0_ 4 q1_ rfl (0) rfl rfl (by decide) (.ref hr) rfl dX12_possibleValuesByTrying_1 ?_
  refine V.aload_n hC (x := fs) dX12_possibleValuesByTrying_4 rfl ?_
  refine V.iload_n hC (x := x) dX12_possibleValuesByTrying_5 rfl ?_
  refine V.iload_n hC (x := y) dX12_possibleValuesByTrying_6 rfl ?_
  refine V.callVXr (n := 2) (As := [.int x, .int y]) (rest := [.ref hr]) hC (c_withKnown (kl K) G hst fs h h2 h3 hh hr hg hq hl iS eA fA ah as_ rr ra s B hI x y) (SFt.k G) hgot gX12_possibleValuesByTrying_X12_withKnown rfl ⟨rfl, rfl⟩ (by decide +kernel) ⟨by decide, by decide, by decide, by decide⟩ [0, 1, 2, 3, 4, 5, 6, 7, 8, 9, 10, 11, 12, 13, 14, 15] rfl (by decide) rfl rfl rfl rfl (Nat.le_of_ble_eq_true rfl) dX12_possibleValuesByTrying_7 (fun E_ u_ hx_ => VX.out hC hQ () (Or.elim hx_ (fun z => ⟨0, by decide, qS_n z.2, z.1⟩) (fun ⟨e, k, f, g⟩ => ⟨1, by decide, (qS_y f).trans (qI_n g), e⟩)) rfl (Nat.le_of_ble_eq_true rfl) (Nat.le_of_ble_eq_true rfl)) (fun r_7 u_7 hp_7 => ?_)
  obtain ⟨k, hf, er_7, hKN⟩ := hp_7
  subst er_7
  have hk := (fd_lt hf hs6).2
  have ik := hI.2.2.1 k (fd_lt hf hs6).1
  obtain ⟨n, hn, hyn⟩ := i32_natLe (n := hc (sSh s k) 8) (by have := hc_le (sSh s k) 8; omega) hKN
  have hny : y.toNatClampNeg = n := by rw [hyn, nI_clamp (by have := hc_le (sSh s k) 8; omega)]
  rw [← hny] at hyn hn
  show V G K 3 2 12 10 [some (.ref fs), some (.int x), some (.int y)] [.ref (rr k), .ref hr] ([(fs, .inr (12, [.ref h, .ref h2, .ref h3, .ref hh, .ref hr, .ref hg, .ref hq, .ref hl, .int iS, .int eA, .int fA]))] ++ ((stW G h ah as_ rr ra (sHm s) (sNb s) (sNs s) (sLa s) (sLo s) (sNu s) (sTn s) (sSh s)) ++ (rbW G hr hp ap av he aw al af as3 ar E)))
  refine V.iload_n hC (x := y) dX12_possibleValuesByTrying_10 rfl ?_
  refine V.topeq (nI (y.toNatClampNeg)) hyn ?_
  refine V.callV (n := 2) (As := [.ref (rr k), .int (nI (y.toNatClampNeg))]) (rest := []) hC (c_byTrial (kl K) G hr hp ap av he aw al af as3 ar E (rr k) (ra k) (sSh s k) (sNu s k) (sTn s k) hok ik.2.2.1 ik.1 ik.2.1 y.toNatClampNeg hn) SFk0 SFgo0 gX12_possibleValuesByTrying_X8_valuesByTrial rfl ⟨rfl, rfl⟩ (by decide +kernel) ⟨by decide, by decide, by decide, by decide⟩ [16, 17, 18, 19, 20, 21, 22, 23, 24, 25, 26, 27, 28, 1 + (3 + 2 * k), 1 + (4 + 2 * k)] (by rcases (lt6 hk) with rfl | rfl | rfl | rfl | rfl | rfl <;> rfl) (by rcases (lt6 hk) with rfl | rfl | rfl | rfl | rfl | rfl <;> rfl) (fun _ => Eq.refl [hr, hp, ap, av, he, aw, al, af, as3, ar 0, ar 1, ar 2, ar 3, rr k, ra k]) rfl rfl rfl rfl (Nat.le_of_ble_eq_true rfl) dX12_possibleValuesByTrying_11 (fun r_11 u_11 hp_11 => ?_)
  obtain ⟨e_11, hE_11⟩ := hp_11
  subst e_11
  refine V.eqw (ws' := ([(fs, .inr (12, [.ref h, .ref h2, .ref h3, .ref hh, .ref hr, .ref hg, .ref hq, .ref hl, .int iS, .int eA, .int fA]))] ++ ((stW G h ah as_ rr ra (sHm s) (sNb s) (sNs s) (sLa s) (sLo s) (sNu s) (sTn s) (sSh s)) ++ (rbW G hr hp ap av he aw al af as3 ar u_11)))) (by
      rcases (lt6 hk) with rfl | rfl | rfl | rfl | rfl | rfl
      · exact rj_by2 [16, 17, 18, 19, 20, 21, 22, 23, 24, 25, 26, 27, 28, 1 + (3 + 2 * 0), 1 + (4 + 2 * 0)] [0, 1, 2, 3, 6, 7, 8, 9, 10, 11, 12, 13, 14, 15] 29 rfl rfl (by decide) (by decide) rfl ⟨⟨_, rfl, rfl⟩, ⟨_, rfl, rfl⟩, ⟨_, rfl, rfl⟩, ⟨_, rfl, rfl⟩, ⟨_, rfl, rfl⟩, ⟨_, rfl, rfl⟩, ⟨_, rfl, rfl⟩, ⟨_, rfl, rfl⟩, ⟨_, rfl, rfl⟩, ⟨_, rfl, rfl⟩, ⟨_, rfl, rfl⟩, ⟨_, rfl, rfl⟩, ⟨_, rfl, rfl⟩, ⟨_, rfl, rfl⟩, trivial⟩
      · exact rj_by2 [16, 17, 18, 19, 20, 21, 22, 23, 24, 25, 26, 27, 28, 1 + (3 + 2 * 1), 1 + (4 + 2 * 1)] [0, 1, 2, 3, 4, 5, 8, 9, 10, 11, 12, 13, 14, 15] 29 rfl rfl (by decide) (by decide) rfl ⟨⟨_, rfl, rfl⟩, ⟨_, rfl, rfl⟩, ⟨_, rfl, rfl⟩, ⟨_, rfl, rfl⟩, ⟨_, rfl, rfl⟩, ⟨_, rfl, rfl⟩, ⟨_, rfl, rfl⟩, ⟨_, rfl, rfl⟩, ⟨_, rfl, rfl⟩, ⟨_, rfl, rfl⟩, ⟨_, rfl, rfl⟩, ⟨_, rfl, rfl⟩, ⟨_, rfl, rfl⟩, ⟨_, rfl, rfl⟩, trivial⟩
      · exact rj_by2 [16, 17, 18, 19, 20, 21, 22, 23, 24, 25, 26, 27, 28, 1 + (3 + 2 * 2), 1 + (4 + 2 * 2)] [0, 1, 2, 3, 4, 5, 6, 7, 10, 11, 12, 13, 14, 15] 29 rfl rfl (by decide) (by decide) rfl ⟨⟨_, rfl, rfl⟩, ⟨_, rfl, rfl⟩, ⟨_, rfl, rfl⟩, ⟨_, rfl, rfl⟩, ⟨_, rfl, rfl⟩, ⟨_, rfl, rfl⟩, ⟨_, rfl, rfl⟩, ⟨_, rfl, rfl⟩, ⟨_, rfl, rfl⟩, ⟨_, rfl, rfl⟩, ⟨_, rfl, rfl⟩, ⟨_, rfl, rfl⟩, ⟨_, rfl, rfl⟩, ⟨_, rfl, rfl⟩, trivial⟩
      · exact rj_by2 [16, 17, 18, 19, 20, 21, 22, 23, 24, 25, 26, 27, 28, 1 + (3 + 2 * 3), 1 + (4 + 2 * 3)] [0, 1, 2, 3, 4, 5, 6, 7, 8, 9, 12, 13, 14, 15] 29 rfl rfl (by decide) (by decide) rfl ⟨⟨_, rfl, rfl⟩, ⟨_, rfl, rfl⟩, ⟨_, rfl, rfl⟩, ⟨_, rfl, rfl⟩, ⟨_, rfl, rfl⟩, ⟨_, rfl, rfl⟩, ⟨_, rfl, rfl⟩, ⟨_, rfl, rfl⟩, ⟨_, rfl, rfl⟩, ⟨_, rfl, rfl⟩, ⟨_, rfl, rfl⟩, ⟨_, rfl, rfl⟩, ⟨_, rfl, rfl⟩, ⟨_, rfl, rfl⟩, trivial⟩
      · exact rj_by2 [16, 17, 18, 19, 20, 21, 22, 23, 24, 25, 26, 27, 28, 1 + (3 + 2 * 4), 1 + (4 + 2 * 4)] [0, 1, 2, 3, 4, 5, 6, 7, 8, 9, 10, 11, 14, 15] 29 rfl rfl (by decide) (by decide) rfl ⟨⟨_, rfl, rfl⟩, ⟨_, rfl, rfl⟩, ⟨_, rfl, rfl⟩, ⟨_, rfl, rfl⟩, ⟨_, rfl, rfl⟩, ⟨_, rfl, rfl⟩, ⟨_, rfl, rfl⟩, ⟨_, rfl, rfl⟩, ⟨_, rfl, rfl⟩, ⟨_, rfl, rfl⟩, ⟨_, rfl, rfl⟩, ⟨_, rfl, rfl⟩, ⟨_, rfl, rfl⟩, ⟨_, rfl, rfl⟩, trivial⟩
      · exact rj_by2 [16, 17, 18, 19, 20, 21, 22, 23, 24, 25, 26, 27, 28, 1 + (3 + 2 * 5), 1 + (4 + 2 * 5)] [0, 1, 2, 3, 4, 5, 6, 7, 8, 9, 10, 11, 12, 13] 29 rfl rfl (by decide) (by decide) rfl ⟨⟨_, rfl, rfl⟩, ⟨_, rfl, rfl⟩, ⟨_, rfl, rfl⟩, ⟨_, rfl, rfl⟩, ⟨_, rfl, rfl⟩, ⟨_, rfl, rfl⟩, ⟨_, rfl, rfl⟩, ⟨_, rfl, rfl⟩, ⟨_, rfl, rfl⟩, ⟨_, rfl, rfl⟩, ⟨_, rfl, rfl⟩, ⟨_, rfl, rfl⟩, ⟨_, rfl, rfl⟩, ⟨_, rfl, rfl⟩, trivial⟩) ?_
  show V G K 3 2 12 14 [some (.ref fs), some (.int x), some (.int y)] [.int (nI (pvc (sSh s k) (sTn s k) y.toNatClampNeg 97))] ([(fs, .inr (12, [.ref h, .ref h2, .ref h3, .ref hh, .ref hr, .ref hg, .ref hq, .ref hl, .int iS, .int eA, .int fA]))] ++ ((stW G h ah as_ rr ra (sHm s) (sNb s) (sNs s) (sLa s) (sLo s) (sNu s) (sTn s) (sSh s)) ++ (rbW G hr hp ap av he aw al af as3 ar u_11)))
  exact hE 14 _ (nI (pvc (sSh s k) (sTn s k) y.toNatClampNeg 97)) u_11 dX12_possibleValuesByTrying_14 rfl ⟨(qS_y hf).trans (qI_y hKN), hE_11⟩
