/-! FeatherShares: what rebuilds (printed by gen/s42.py) -/
set_option maxHeartbeats 4000000 in
set_option maxRecDepth 100000 in
theorem q_rebuild (l : Launch) (G : Gx) (hst : l.stackTraces = false) (fs h h2 h3 hh hr hg hq hl : Nat) (iS eA fA : Int32) (ah as_ : Nat) (rr ra : Nat → Nat) (s : ASt) (B : Nat) (hI : InvA B s) (hp ap av he aw al af as3 : Nat) (ar : Nat → Nat) (E : Scr) (hok : Sok E) (x : Int32) : CtX l G (SFt G) yX12_rebuild wsX12_rebuild ({ frames := 8, cells := 2, slots := 12, locals := 126 }) [.ref fs, .int x] ([(fs, .inr (12, [.ref h, .ref h2, .ref h3, .ref hh, .ref hr, .ref hg, .ref hq, .ref hl, .int iS, .int eA, .int fA]))] ++ ((stW G h ah as_ rr ra (sHm s) (sNb s) (sNs s) (sLa s) (sLo s) (sNu s) (sTn s) (sSh s)) ++ (rbW G hr hp ap av he aw al af as3 ar E))) mkI (fun (r : Int32) (u : Scr) => qReb s x = (0, r) ∧ Sok u) (fun u : Scr => ([(fs, .inr (12, [.ref h, .ref h2, .ref h3, .ref hh, .ref hr, .ref hg, .ref hq, .ref hl, .int iS, .int eA, .int fA]))] ++ ((stW G h ah as_ rr ra (sHm s) (sNb s) (sNs s) (sLa s) (sLo s) (sNu s) (sTn s) (sSh s)) ++ (rbW G hr hp ap av he aw al af as3 ar u)))) (fun (E : String) (_ : Unit) => XE ["java/util/NoSuchElementException", "java/lang/IllegalStateException"] (qReb s x) E) (fun _ : Unit => ([(fs, .inr (12, [.ref h, .ref h2, .ref h3, .ref hh, .ref hr, .ref hg, .ref hq, .ref hl, .int iS, .int eA, .int fA]))] ++ ((stW G h ah as_ rr ra (sHm s) (sNb s) (sNs s) (sLa s) (sLo s) (sNu s) (sTn s) (sSh s)) ++ (rbW G hr hp ap av he aw al af as3 ar E)))) 2 12 := by
  have hb8 := hI.1
  have hs6 := hI.2.1
  refine CtX.ofI (cc := cX12_rebuild) (maxL := 2) (by decide) rfl ⟨by simp [Value.category], Nat.le_of_ble_eq_true rfl⟩ ?_
  intro K hl hC hSF hnm hQ hE
  subst hl
  have hgot := SFgoS (SFt.k G) hSF
  have hgo := SFgo.x hgot
  have hSFt := hSF
  replace hSF := hSF.1
  have q0_ : ∀ w ∈ u_ws RX12 TX12 11, w ∈ wsX12_rebuild := by decide +kernel
  have q1_ : Cond.fieldLink RX12 28 "FeatherShares" "rebuilder" "LFeatherShares$Rebuilder;" ∈ wsX12_rebuild := by decide +kernel
  show V G K 2 0 0 0 [some (.ref fs), some (.int x)] [] ([(fs, .inr (12, [.ref h, .ref h2, .ref h3, .ref hh, .ref hr, .ref hg, .ref hq, .ref hl, .int iS, .int eA, .int fA]))] ++ ((stW G h ah as_ rr ra (sHm s) (sNb s) (sNs s) (sLa s) (sLo s) (sNu s) (sTn s) (sSh s)) ++ (rbW G hr hp ap av he aw al af as3 ar E)))
  refine V.aload_n hC (x := fs) dX12_rebuild_0 rfl ?_
  refine V.getf hC (T := TX12) q0_ 4 q1_ rfl (0) rfl rfl (by decide) (.ref hr) rfl dX12_rebuild_1 ?_
  refine V.aload_n hC (x := fs) dX12_rebuild_4 rfl ?_
  refine V.iload_n hC (x := x) dX12_rebuild_5 rfl ?_
  refine V.callVXr (n := 1) (As := [.int x]) (rest := [.ref hr]) hC (c_rebuildable (kl K) G hst fs h h2 h3 hh hr hg hq hl iS eA fA ah as_ rr ra s B hI x) (SFt.k G) hgot gX12_rebuild_X12_rebuildable rfl ⟨rfl, rfl⟩ (by decide +kernel) ⟨by decide, by decide, by decide, by decide⟩ [0, 1, 2, 3, 4, 5, 6, 7, 8, 9, 10, 11, 12, 13, 14, 15] rfl (by decide) rfl rfl rfl rfl (Nat.le_of_ble_eq_true rfl) dX12_rebuild_6 (fun E_ u_ hx_ => VX.out hC hQ () (Or.elim hx_ (fun z => ⟨0, by decide, qS_n z.2, z.1⟩) (fun ⟨e, k, f, g⟩ => ⟨1, by decide, (qS_y f).trans (qI_n g), e⟩)) rfl (Nat.le_of_ble_eq_true rfl) (Nat.le_of_ble_eq_true rfl)) (fun r_6 u_6 hp_6 => ?_)
  obtain ⟨k, hf, er_6, hTK⟩ := hp_6
  subst er_6
  have hk := (fd_lt hf hs6).2
  have ik := hI.2.2.1 k (fd_lt hf hs6).1
  show V G K 2 2 12 9 [some (.ref fs), some (.int x)] [.ref (rr k), .ref hr] ([(fs, .inr (12, [.ref h, .ref h2, .ref h3, .ref hh, .ref hr, .ref hg, .ref hq, .ref hl, .int iS, .int eA, .int fA]))] ++ ((stW G h ah as_ rr ra (sHm s) (sNb s) (sNs s) (sLa s) (sLo s) (sNu s) (sTn s) (sSh s)) ++ (rbW G hr hp ap av he aw al af as3 ar E)))
  refine V.iconst hC 0 dX12_rebuild_9 rfl ?_
  refine V.callV (n := 2) (As := [.ref (rr k), .int 0]) (rest := []) hC (c_rbValueAt (kl K) G hr hp ap av he aw al af as3 ar E (rr k) (ra k) (sSh s k) (sNu s k) (sTn s k) hok ik.2.2.1 ik.1 ik.2.1 0 (by omega)) SFk0 SFgo0 gX12_rebuild_X8_valueAt rfl ⟨rfl, rfl⟩ (by decide +kernel) ⟨by decide, by decide, by decide, by decide⟩ [16, 17, 18, 19, 20, 21, 22, 23, 24, 25, 26, 27, 28, 1 + (3 + 2 * k), 1 + (4 + 2 * k)] (by rcases (lt6 hk) with rfl | rfl | rfl | rfl | rfl | rfl <;> rfl) (by rcases (lt6 hk) with rfl | rfl | rfl | rfl | rfl | rfl <;> rfl) (fun _ => Eq.refl [hr, hp, ap, av, he, aw, al, af, as3, ar 0, ar 1, ar 2, ar 3, rr k, ra k]) rfl rfl rfl rfl (Nat.le_of_ble_eq_true rfl) dX12_rebuild_10 (fun r_10 u_10 hp_10 => ?_)
  obtain ⟨e_10, hE_10⟩ := hp_10
  subst e_10
  refine V.eqw (ws' := ([(fs, .inr (12, [.ref h, .ref h2, .ref h3, .ref hh, .ref hr, .ref hg, .ref hq, .ref hl, .int iS, .int eA, .int fA]))] ++ ((stW G h ah as_ rr ra (sHm s) (sNb s) (sNs s) (sLa s) (sLo s) (sNu s) (sTn s) (sSh s)) ++ (rbW G hr hp ap av he aw al af as3 ar u_10)))) (by
      rcases (lt6 hk) with rfl | rfl | rfl | rfl | rfl | rfl
      · exact rj_by2 [16, 17, 18, 19, 20, 21, 22, 23, 24, 25, 26, 27, 28, 1 + (3 + 2 * 0), 1 + (4 + 2 * 0)] [0, 1, 2, 3, 6, 7, 8, 9, 10, 11, 12, 13, 14, 15] 29 rfl rfl (by decide) (by decide) rfl ⟨⟨_, rfl, rfl⟩, ⟨_, rfl, rfl⟩, ⟨_, rfl, rfl⟩, ⟨_, rfl, rfl⟩, ⟨_, rfl, rfl⟩, ⟨_, rfl, rfl⟩, ⟨_, rfl, rfl⟩, ⟨_, rfl, rfl⟩, ⟨_, rfl, rfl⟩, ⟨_, rfl, rfl⟩, ⟨_, rfl, rfl⟩, ⟨_, rfl, rfl⟩, ⟨_, rfl, rfl⟩, ⟨_, rfl, rfl⟩, trivial⟩
      · exact rj_by2 [16, 17, 18, 19, 20, 21, 22, 23, 24, 25, 26, 27, 28, 1 + (3 + 2 * 1), 1 + (4 + 2 * 1)] [0, 1, 2, 3, 4, 5, 8, 9, 10, 11, 12, 13, 14, 15] 29 rfl rfl (by decide) (by decide) rfl ⟨⟨_, rfl, rfl⟩, ⟨_, rfl, rfl⟩, ⟨_, rfl, rfl⟩, ⟨_, rfl, rfl⟩, ⟨_, rfl, rfl⟩, ⟨_, rfl, rfl⟩, ⟨_, rfl, rfl⟩, ⟨_, rfl, rfl⟩, ⟨_, rfl, rfl⟩, ⟨_, rfl, rfl⟩, ⟨_, rfl, rfl⟩, ⟨_, rfl, rfl⟩, ⟨_, rfl, rfl⟩, ⟨_, rfl, rfl⟩, trivial⟩
      · exact rj_by2 [16, 17, 18, 19, 20, 21, 22, 23, 24, 25, 26, 27, 28, 1 + (3 + 2 * 2), 1 + (4 + 2 * 2)] [0, 1, 2, 3, 4, 5, 6, 7, 10, 11, 12, 13, 14, 15] 29 rfl rfl (by decide) (by decide) rfl ⟨⟨_, rfl, rfl⟩, ⟨_, rfl, rfl⟩, ⟨_, rfl, rfl⟩, ⟨_, rfl, rfl⟩, ⟨_, rfl, rfl⟩, ⟨_, rfl, rfl⟩, ⟨_, rfl, rfl⟩, ⟨_, rfl, rfl⟩, ⟨_, rfl, rfl⟩, ⟨_, rfl, rfl⟩, ⟨_, rfl, rfl⟩, ⟨_, rfl, rfl⟩, ⟨_, rfl, rfl⟩, ⟨_, rfl, rfl⟩, trivial⟩
      · exact rj_by2 [16, 17, 18, 19, 20, 21, 22, 23, 24, 25, 26, 27, 28, 1 + (3 + 2 * 3), 1 + (4 + 2 * 3)] [0, 1, 2, 3, 4, 5, 6, 7, 8, 9, 12, 13, 14, 15] 29 rfl rfl (by decide) (by decide) rfl ⟨⟨_, rfl, rfl⟩, ⟨_, rfl, rfl⟩, ⟨_, rfl, rfl⟩, ⟨_, rfl, rfl⟩, ⟨_, rfl, rfl⟩, ⟨_, rfl, rfl⟩, ⟨_, rfl, rfl⟩, ⟨_, rfl, rfl⟩, ⟨_, rfl, rfl⟩, ⟨_, rfl, rfl⟩, ⟨_, rfl, rfl⟩, ⟨_, rfl, rfl⟩, ⟨_, rfl, rfl⟩, ⟨_, rfl, rfl⟩, trivial⟩
      · exact rj_by2 [16, 17, 18, 19, 20, 21, 22, 23, 24, 25, 26, 27, 28, 1 + (3 + 2 * 4), 1 + (4 + 2 * 4)] [0, 1, 2, 3, 4, 5, 6, 7, 8, 9, 10, 11, 14, 15] 29 rfl rfl (by decide) (by decide) rfl ⟨⟨_, rfl, rfl⟩, ⟨_, rfl, rfl⟩, ⟨_, rfl, rfl⟩, ⟨_, rfl, rfl⟩, ⟨_, rfl, rfl⟩, ⟨_, rfl, rfl⟩, ⟨_, rfl, rfl⟩, ⟨_, rfl, rfl⟩, ⟨_, rfl, rfl⟩, ⟨_, rfl, rfl⟩, ⟨_, rfl, rfl⟩, ⟨_, rfl, rfl⟩, ⟨_, rfl, rfl⟩, ⟨_, rfl, rfl⟩, trivial⟩
      · exact rj_by2 [16, 17, 18, 19, 20, 21, 22, 23, 24, 25, 26, 27, 28, 1 + (3 + 2 * 5), 1 + (4 + 2 * 5)] [0, 1, 2, 3, 4, 5, 6, 7, 8, 9, 10, 11, 12, 13] 29 rfl rfl (by decide) (by decide) rfl ⟨⟨_, rfl, rfl⟩, ⟨_, rfl, rfl⟩, ⟨_, rfl, rfl⟩, ⟨_, rfl, rfl⟩, ⟨_, rfl, rfl⟩, ⟨_, rfl, rfl⟩, ⟨_, rfl, rfl⟩, ⟨_, rfl, rfl⟩, ⟨_, rfl, rfl⟩, ⟨_, rfl, rfl⟩, ⟨_, rfl, rfl⟩, ⟨_, rfl, rfl⟩, ⟨_, rfl, rfl⟩, ⟨_, rfl, rfl⟩, trivial⟩) ?_
  show V G K 2 2 12 13 [some (.ref fs), some (.int x)] [.int (nI (lagS (fh (sSh s k) (sTn s k) 8) (svn (sSh s k)) 0))] ([(fs, .inr (12, [.ref h, .ref h2, .ref h3, .ref hh, .ref hr, .ref hg, .ref hq, .ref hl, .int iS, .int eA, .int fA]))] ++ ((stW G h ah as_ rr ra (sHm s) (sNb s) (sNs s) (sLa s) (sLo s) (sNu s) (sTn s) (sSh s)) ++ (rbW G hr hp ap av he aw al af as3 ar u_10)))
  exact hE 13 _ (nI (lagS (fh (sSh s k) (sTn s k) 8) (svn (sSh s k)) 0)) u_10 dX12_rebuild_13 rfl ⟨(qS_y hf).trans (qI_y hTK), hE_10⟩

set_option maxHeartbeats 4000000 in
set_option maxRecDepth 100000 in
theorem q_rebuildElim (l : Launch) (G : Gx) (hst : l.stackTraces = false) (fs h h2 h3 hh hr hg hq hl : Nat) (iS eA fA : Int32) (ah as_ : Nat) (rr ra : Nat → Nat) (s : ASt) (B : Nat) (hI : InvA B s) (hp ap av he aw al af as3 : Nat) (ar : Nat → Nat) (E : Scr) (hok : Sok E) (x : Int32) : CtX l G (SFt G) yX12_rebuildByElimination wsX12_rebuildByElimination ({ frames := 8, cells := 2, slots := 12, locals := 126 }) [.ref fs, .int x] ([(fs, .inr (12, [.ref h, .ref h2, .ref h3, .ref hh, .ref hr, .ref hg, .ref hq, .ref hl, .int iS, .int eA, .int fA]))] ++ ((stW G h ah as_ rr ra (sHm s) (sNb s) (sNs s) (sLa s) (sLo s) (sNu s) (sTn s) (sSh s)) ++ (rbW G hr hp ap av he aw al af as3 ar E))) mkI (fun (r : Int32) (u : Scr) => qReb s x = (0, r) ∧ Sok u) (fun u : Scr => ([(fs, .inr (12, [.ref h, .ref h2, .ref h3, .ref hh, .ref hr, .ref hg, .ref hq, .ref hl, .int iS, .int eA, .int fA]))] ++ ((stW G h ah as_ rr ra (sHm s) (sNb s) (sNs s) (sLa s) (sLo s) (sNu s) (sTn s) (sSh s)) ++ (rbW G hr hp ap av he aw al af as3 ar u)))) (fun (E : String) (_ : Unit) => XE ["java/util/NoSuchElementException", "java/lang/IllegalStateException"] (qReb s x) E) (fun _ : Unit => ([(fs, .inr (12, [.ref h, .ref h2, .ref h3, .ref hh, .ref hr, .ref hg, .ref hq, .ref hl, .int iS, .int eA, .int fA]))] ++ ((stW G h ah as_ rr ra (sHm s) (sNb s) (sNs s) (sLa s) (sLo s) (sNu s) (sTn s) (sSh s)) ++ (rbW G hr hp ap av he aw al af as3 ar E)))) 2 12 := by
  have hb8 := hI.1
  have hs6 := hI.2.1
  refine CtX.ofI (cc := cX12_rebuildByElimination) (maxL := 2) (by decide) rfl ⟨by simp [Value.category], Nat.le_of_ble_eq_true rfl⟩ ?_
  intro K hl hC hSF hnm hQ hE
  subst hl
  have hgot := SFgoS (SFt.k G) hSF
  have hgo := SFgo.x hgot
  have hSFt := hSF
  replace hSF := hSF.1
  have q0_ : ∀ w ∈ u_ws RX12 TX12 11, w ∈ wsX12_rebuildByElimination := by decide +kernel
  have q1_ : Cond.fieldLink RX12 28 "FeatherShares" "rebuilder" "LFeatherShares$Rebuilder;" ∈ wsX12_rebuildByElimination := by decide +kernel
  show V G K 2 0 0 0 [some (.ref fs), some (.int x)] [] ([(fs, .inr (12, [.ref h, .ref h2, .ref h3, .ref hh, .ref hr, .ref hg, .ref hq, .ref hl, .int iS, .int eA, .int fA]))] ++ ((stW G h ah as_ rr ra (sHm s) (sNb s) (sNs s) (sLa s) (sLo s) (sNu s) (sTn s) (sSh s)) ++ (rbW G hr hp ap av he aw al af as3 ar E)))
  refine V.aload_n hC (x := fs) dX12_rebuildByElimination_0 rfl ?_
  refine V.getf hC (T := TX12) q0_ 4 q1_ rfl (0) rfl rfl (by decide) (.ref hr) rfl dX12_rebuildByElimination_1 ?_
  refine V.aload_n hC (x := fs) dX12_rebuildByElimination_4 rfl ?_
  refine V.iload_n hC (x := x) dX12_rebuildByElimination_5 rfl ?_
  refine V.callVXr (n := 1) (As := [.int x]) (rest := [.ref hr]) hC (c_rebuildable (kl K) G hst fs h h2 h3 hh hr hg hq hl iS eA fA ah as_ rr ra s B hI x) (SFt.k G) hgot gX12_rebuildByElimination_X12_rebuildable rfl ⟨rfl, rfl⟩ (by decide +kernel) ⟨by decide, by decide, by decide, by decide⟩ [0, 1, 2, 3, 4, 5, 6, 7, 8, 9, 10, 11, 12, 13, 14, 15] rfl (by decide) rfl rfl rfl rfl (Nat.le_of_ble_eq_true rfl) dX12_rebuildByElimination_6 (fun E_ u_ hx_ => VX.out hC hQ () (Or.elim hx_ (fun z => ⟨0, by decide, qS_n z.2, z.1⟩) (fun ⟨e, k, f, g⟩ => ⟨1, by decide, (qS_y f).trans (qI_n g), e⟩)) rfl (Nat.le_of_ble_eq_true rfl) (Nat.le_of_ble_eq_true rfl)) (fun r_6 u_6 hp_6 => ?_)
  obtain ⟨k, hf, er_6, hTK⟩ := hp_6
  subst er_6
  have hk := (fd_lt hf hs6).2
  have ik := hI.2.2.1 k (fd_lt hf hs6).1
  show V G K 2 2 12 9 [some (.ref fs), some (.int x)] [.ref (rr k), .ref hr] ([(fs, .inr (12, [.ref h, .ref h2, .ref h3, .ref hh, .ref hr, .ref hg, .ref hq, .ref hl, .int iS, .int eA, .int fA]))] ++ ((stW G h ah as_ rr ra (sHm s) (sNb s) (sNs s) (sLa s) (sLo s) (sNu s) (sTn s) (sSh s)) ++ (rbW G hr hp ap av he aw al af as3 ar E)))
  refine V.callV (n := 1) (As := [.ref (rr k)]) (rest := []) hC (c_rbElim (kl K) G hr hp ap av he aw al af as3 ar E (rr k) (ra k) (sSh s k) (sNu s k) (sTn s k) hok ik.2.2.1 ik.1 ik.2.1 hTK) SFk0 SFgo0 gX12_rebuildByElimination_X8_valueByElimination rfl ⟨rfl, rfl⟩ (by decide +kernel) ⟨by decide, by decide, by decide, by decide⟩ [16, 17, 18, 19, 20, 21, 22, 23, 24, 25, 26, 27, 28, 1 + (3 + 2 * k), 1 + (4 + 2 * k)] (by rcases (lt6 hk) with rfl | rfl | rfl | rfl | rfl | rfl <;> rfl) (by rcases (lt6 hk) with rfl | rfl | rfl | rfl | rfl | rfl <;> rfl) (fun _ => Eq.refl [hr, hp, ap, av, he, aw, al, af, as3, ar 0, ar 1, ar 2, ar 3, rr k, ra k]) rfl rfl rfl rfl (Nat.le_of_ble_eq_true rfl) dX12_rebuildByElimination_9 (fun r_9 u_9 hp_9 => ?_)
  obtain ⟨e_9, hE_9⟩ := hp_9
  subst e_9
  refine V.eqw (ws' := ([(fs, .inr (12, [.ref h, .ref h2, .ref h3, .ref hh, .ref hr, .ref hg, .ref hq, .ref hl, .int iS, .int eA, .int fA]))] ++ ((stW G h ah as_ rr ra (sHm s) (sNb s) (sNs s) (sLa s) (sLo s) (sNu s) (sTn s) (sSh s)) ++ (rbW G hr hp ap av he aw al af as3 ar u_9)))) (by
      rcases (lt6 hk) with rfl | rfl | rfl | rfl | rfl | rfl
      · exact rj_by2 [16, 17, 18, 19, 20, 21, 22, 23, 24, 25, 26, 27, 28, 1 + (3 + 2 * 0), 1 + (4 + 2 * 0)] [0, 1, 2, 3, 6, 7, 8, 9, 10, 11, 12, 13, 14, 15] 29 rfl rfl (by decide) (by decide) rfl ⟨⟨_, rfl, rfl⟩, ⟨_, rfl, rfl⟩, ⟨_, rfl, rfl⟩, ⟨_, rfl, rfl⟩, ⟨_, rfl, rfl⟩, ⟨_, rfl, rfl⟩, ⟨_, rfl, rfl⟩, ⟨_, rfl, rfl⟩, ⟨_, rfl, rfl⟩, ⟨_, rfl, rfl⟩, ⟨_, rfl, rfl⟩, ⟨_, rfl, rfl⟩, ⟨_, rfl, rfl⟩, ⟨_, rfl, rfl⟩, trivial⟩
      · exact rj_by2 [16, 17, 18, 19, 20, 21, 22, 23, 24, 25, 26, 27, 28, 1 + (3 + 2 * 1), 1 + (4 + 2 * 1)] [0, 1, 2, 3, 4, 5, 8, 9, 10, 11, 12, 13, 14, 15] 29 rfl rfl (by decide) (by decide) rfl ⟨⟨_, rfl, rfl⟩, ⟨_, rfl, rfl⟩, ⟨_, rfl, rfl⟩, ⟨_, rfl, rfl⟩, ⟨_, rfl, rfl⟩, ⟨_, rfl, rfl⟩, ⟨_, rfl, rfl⟩, ⟨_, rfl, rfl⟩, ⟨_, rfl, rfl⟩, ⟨_, rfl, rfl⟩, ⟨_, rfl, rfl⟩, ⟨_, rfl, rfl⟩, ⟨_, rfl, rfl⟩, ⟨_, rfl, rfl⟩, trivial⟩
      · exact rj_by2 [16, 17, 18, 19, 20, 21, 22, 23, 24, 25, 26, 27, 28, 1 + (3 + 2 * 2), 1 + (4 + 2 * 2)] [0, 1, 2, 3, 4, 5, 6, 7, 10, 11, 12, 13, 14, 15] 29 rfl rfl (by decide) (by decide) rfl ⟨⟨_, rfl, rfl⟩, ⟨_, rfl, rfl⟩, ⟨_, rfl, rfl⟩, ⟨_, rfl, rfl⟩, ⟨_, rfl, rfl⟩, ⟨_, rfl, rfl⟩, ⟨_, rfl, rfl⟩, ⟨_, rfl, rfl⟩, ⟨_, rfl, rfl⟩, ⟨_, rfl, rfl⟩, ⟨_, rfl, rfl⟩, ⟨_, rfl, rfl⟩, ⟨_, rfl, rfl⟩, ⟨_, rfl, rfl⟩, trivial⟩
      · exact rj_by2 [16, 17, 18, 19, 20, 21, 22, 23, 24, 25, 26, 27, 28, 1 + (3 + 2 * 3), 1 + (4 + 2 * 3)] [0, 1, 2, 3, 4, 5, 6, 7, 8, 9, 12, 13, 14, 15] 29 rfl rfl (by decide) (by decide) rfl ⟨⟨_, rfl, rfl⟩, ⟨_, rfl, rfl⟩, ⟨_, rfl, rfl⟩, ⟨_, rfl, rfl⟩, ⟨_, rfl, rfl⟩, ⟨_, rfl, rfl⟩, ⟨_, rfl, rfl⟩, ⟨_, rfl, rfl⟩, ⟨_, rfl, rfl⟩, ⟨_, rfl, rfl⟩, ⟨_, rfl, rfl⟩, ⟨_, rfl, rfl⟩, ⟨_, rfl, rfl⟩, ⟨_, rfl, rfl⟩, trivial⟩
      · exact rj_by2 [16, 17, 18, 19, 20, 21, 22, 23, 24, 25, 26, 27, 28, 1 + (3 + 2 * 4), 1 + (4 + 2 * 4)] [0, 1, 2, 3, 4, 5, 6, 7, 8, 9, 10, 11, 14, 15] 29 rfl rfl (by decide) (by decide) rfl ⟨⟨_, rfl, rfl⟩, ⟨_, rfl, rfl⟩, ⟨_, rfl, rfl⟩, ⟨_, rfl, rfl⟩, ⟨_, rfl, rfl⟩, ⟨_, rfl, rfl⟩, ⟨_, rfl, rfl⟩, ⟨_, rfl, rfl⟩, ⟨_, rfl, rfl⟩, ⟨_, rfl, rfl⟩, ⟨_, rfl, rfl⟩, ⟨_, rfl, rfl⟩, ⟨_, rfl, rfl⟩, ⟨_, rfl, rfl⟩, trivial⟩
      · exact rj_by2 [16, 17, 18, 19, 20, 21, 22, 23, 24, 25, 26, 27, 28, 1 + (3 + 2 * 5), 1 + (4 + 2 * 5)] [0, 1, 2, 3, 4, 5, 6, 7, 8, 9, 10, 11, 12, 13] 29 rfl rfl (by decide) (by decide) rfl ⟨⟨_, rfl, rfl⟩, ⟨_, rfl, rfl⟩, ⟨_, rfl, rfl⟩, ⟨_, rfl, rfl⟩, ⟨_, rfl, rfl⟩, ⟨_, rfl, rfl⟩, ⟨_, rfl, rfl⟩, ⟨_, rfl, rfl⟩, ⟨_, rfl, rfl⟩, ⟨_, rfl, rfl⟩, ⟨_, rfl, rfl⟩, ⟨_, rfl, rfl⟩, ⟨_, rfl, rfl⟩, ⟨_, rfl, rfl⟩, trivial⟩) ?_
  show V G K 2 2 12 12 [some (.ref fs), some (.int x)] [.int (nI (lagS (fh (sSh s k) (sTn s k) 8) (svn (sSh s k)) 0))] ([(fs, .inr (12, [.ref h, .ref h2, .ref h3, .ref hh, .ref hr, .ref hg, .ref hq, .ref hl, .int iS, .int eA, .int fA]))] ++ ((stW G h ah as_ rr ra (sHm s) (sNb s) (sNs s) (sLa s) (sLo s) (sNu s) (sTn s) (sSh s)) ++ (rbW G hr hp ap av he aw al af as3 ar u_9)))
  exact hE 12 _ (nI (lagS (fh (sSh s k) (sTn s k) 8) (svn (sSh s k)) 0)) u_9 dX12_rebuildByElimination_12 rfl ⟨(qS_y hf).trans (qI_y hTK), hE_9⟩

set_option maxHeartbeats 4000000 in
set_option maxRecDepth 100000 in
theorem q_unfit (l : Launch) (G : Gx) (hst : l.stackTraces = false) (fs h h2 h3 hh hr hg hq hl : Nat) (iS eA fA : Int32) (ah as_ : Nat) (rr ra : Nat → Nat) (s : ASt) (B : Nat) (hI : InvA B s) (hp ap av he aw al af as3 : Nat) (ar : Nat → Nat) (E : Scr) (hok : Sok E) (x : Int32) : CtX l G (SFt G) yX12_unfitShares wsX12_unfitShares ({ frames := 8, cells := 2, slots := 12, locals := 126 }) [.ref fs, .int x] ([(fs, .inr (12, [.ref h, .ref h2, .ref h3, .ref hh, .ref hr, .ref hg, .ref hq, .ref hl, .int iS, .int eA, .int fA]))] ++ ((stW G h ah as_ rr ra (sHm s) (sNb s) (sNs s) (sLa s) (sLo s) (sNu s) (sTn s) (sSh s)) ++ (rbW G hr hp ap av he aw al af as3 ar E))) mkI (fun (r : Int32) (u : Scr) => qUnf s x = (0, r) ∧ Sok u) (fun u : Scr => ([(fs, .inr (12, [.ref h, .ref h2, .ref h3, .ref hh, .ref hr, .ref hg, .ref hq, .ref hl, .int iS, .int eA, .int fA]))] ++ ((stW G h ah as_ rr ra (sHm s) (sNb s) (sNs s) (sLa s) (sLo s) (sNu s) (sTn s) (sSh s)) ++ (rbW G hr hp ap av he aw al af as3 ar u)))) (fun (E : String) (_ : Unit) => XE ["java/util/NoSuchElementException", "java/lang/IllegalStateException"] (qUnf s x) E) (fun _ : Unit => ([(fs, .inr (12, [.ref h, .ref h2, .ref h3, .ref hh, .ref hr, .ref hg, .ref hq, .ref hl, .int iS, .int eA, .int fA]))] ++ ((stW G h ah as_ rr ra (sHm s) (sNb s) (sNs s) (sLa s) (sLo s) (sNu s) (sTn s) (sSh s)) ++ (rbW G hr hp ap av he aw al af as3 ar E)))) 2 12 := by
  have hb8 := hI.1
  have hs6 := hI.2.1
  refine CtX.ofI (cc := cX12_unfitShares) (maxL := 2) (by decide) rfl ⟨by simp [Value.category], Nat.le_of_ble_eq_true rfl⟩ ?_
  intro K hl hC hSF hnm hQ hE
  subst hl
  have hgot := SFgoS (SFt.k G) hSF
  have hgo := SFgo.x hgot
  have hSFt := hSF
  replace hSF := hSF.1
  have q0_ : ∀ w ∈ u_ws RX12 TX12 11, w ∈ wsX12_unfitShares := by decide +kernel
  have q1_ : Cond.fieldLink RX12 28 "FeatherShares" "rebuilder" "LFeatherShares$Rebuilder;" ∈ wsX12_unfitShares := by decide +kernel
  show V G K 2 0 0 0 [some (.ref fs), some (.int x)] [] ([(fs, .inr (12, [.ref h, .ref h2, .ref h3, .ref hh, .ref hr, .ref hg, .ref hq, .ref hl, .int iS, .int eA, .int fA]))] ++ ((stW G h ah as_ rr ra (sHm s) (sNb s) (sNs s) (sLa s) (sLo s) (sNu s) (sTn s) (sSh s)) ++ (rbW G hr hp ap av he aw al af as3 ar E)))
  refine V.aload_n hC (x := fs) dX12_unfitShares_0 rfl ?_
  refine V.getf hC (T := TX12) q0_ 4 q1_ rfl (0) rfl rfl (by decide) (.ref hr) rfl dX12_unfitShares_1 ?_
  refine V.aload_n hC (x := fs) dX12_unfitShares_4 rfl ?_
  refine V.iload_n hC (x := x) dX12_unfitShares_5 rfl ?_
  refine V.callVXr (n := 1) (As := [.int x]) (rest := [.ref hr]) hC (c_rebuildable (kl K) G hst fs h h2 h3 hh hr hg hq hl iS eA fA ah as_ rr ra s B hI x) (SFt.k G) hgot gX12_unfitShares_X12_rebuildable rfl ⟨rfl, rfl⟩ (by decide +kernel) ⟨by decide, by decide, by decide, by decide⟩ [0, 1, 2, 3, 4, 5, 6, 7, 8, 9, 10, 11, 12, 13, 14, 15] rfl (by decide) rfl rfl rfl rfl (Nat.le_of_ble_eq_true rfl) dX12_unfitShares_6 (fun E_ u_ hx_ => VX.out hC hQ () (Or.elim hx_ (fun z => ⟨0, by decide, qS_n z.2, z.1⟩) (fun ⟨e, k, f, g⟩ => ⟨1, by decide, (qS_y f).trans (qI_n g), e⟩)) rfl (Nat.le_of_ble_eq_true rfl) (Nat.le_of_ble_eq_true rfl)) (fun r_6 u_6 hp_6 => ?_)
  obtain ⟨k, hf, er_6, hTK⟩ := hp_6
  subst er_6
  have hk := (fd_lt hf hs6).2
  have ik := hI.2.2.1 k (fd_lt hf hs6).1
  show V G K 2 2 12 9 [some (.ref fs), some (.int x)] [.ref (rr k), .ref hr] ([(fs, .inr (12, [.ref h, .ref h2, .ref h3, .ref hh, .ref hr, .ref hg, .ref hq, .ref hl, .int iS, .int eA, .int fA]))] ++ ((stW G h ah as_ rr ra (sHm s) (sNb s) (sNs s) (sLa s) (sLo s) (sNu s) (sTn s) (sSh s)) ++ (rbW G hr hp ap av he aw al af as3 ar E)))
  refine V.callV (n := 1) (As := [.ref (rr k)]) (rest := []) hC (c_unfitLead (kl K) G hr hp ap av he aw al af as3 ar E (rr k) (ra k) (sSh s k) (sNu s k) (sTn s k) hok ik.2.2.1 ik.1 ik.2.1) SFk0 SFgo0 gX12_unfitShares_X8_unfitWithLeading rfl ⟨rfl, rfl⟩ (by decide +kernel) ⟨by decide, by decide, by decide, by decide⟩ [16, 17, 18, 19, 20, 21, 22, 23, 24, 25, 26, 27, 28, 1 + (3 + 2 * k), 1 + (4 + 2 * k)] (by rcases (lt6 hk) with rfl | rfl | rfl | rfl | rfl | rfl <;> rfl) (by rcases (lt6 hk) with rfl | rfl | rfl | rfl | rfl | rfl <;> rfl) (fun _ => Eq.refl [hr, hp, ap, av, he, aw, al, af, as3, ar 0, ar 1, ar 2, ar 3, rr k, ra k]) rfl rfl rfl rfl (Nat.le_of_ble_eq_true rfl) dX12_unfitShares_9 (fun r_9 u_9 hp_9 => ?_)
  obtain ⟨e_9, hE_9⟩ := hp_9
  subst e_9
  refine V.eqw (ws' := ([(fs, .inr (12, [.ref h, .ref h2, .ref h3, .ref hh, .ref hr, .ref hg, .ref hq, .ref hl, .int iS, .int eA, .int fA]))] ++ ((stW G h ah as_ rr ra (sHm s) (sNb s) (sNs s) (sLa s) (sLo s) (sNu s) (sTn s) (sSh s)) ++ (rbW G hr hp ap av he aw al af as3 ar u_9)))) (by
      rcases (lt6 hk) with rfl | rfl | rfl | rfl | rfl | rfl
      · exact rj_by2 [16, 17, 18, 19, 20, 21, 22, 23, 24, 25, 26, 27, 28, 1 + (3 + 2 * 0), 1 + (4 + 2 * 0)] [0, 1, 2, 3, 6, 7, 8, 9, 10, 11, 12, 13, 14, 15] 29 rfl rfl (by decide) (by decide) rfl ⟨⟨_, rfl, rfl⟩, ⟨_, rfl, rfl⟩, ⟨_, rfl, rfl⟩, ⟨_, rfl, rfl⟩, ⟨_, rfl, rfl⟩, ⟨_, rfl, rfl⟩, ⟨_, rfl, rfl⟩, ⟨_, rfl, rfl⟩, ⟨_, rfl, rfl⟩, ⟨_, rfl, rfl⟩, ⟨_, rfl, rfl⟩, ⟨_, rfl, rfl⟩, ⟨_, rfl, rfl⟩, ⟨_, rfl, rfl⟩, trivial⟩
      · exact rj_by2 [16, 17, 18, 19, 20, 21, 22, 23, 24, 25, 26, 27, 28, 1 + (3 + 2 * 1), 1 + (4 + 2 * 1)] [0, 1, 2, 3, 4, 5, 8, 9, 10, 11, 12, 13, 14, 15] 29 rfl rfl (by decide) (by decide) rfl ⟨⟨_, rfl, rfl⟩, ⟨_, rfl, rfl⟩, ⟨_, rfl, rfl⟩, ⟨_, rfl, rfl⟩, ⟨_, rfl, rfl⟩, ⟨_, rfl, rfl⟩, ⟨_, rfl, rfl⟩, ⟨_, rfl, rfl⟩, ⟨_, rfl, rfl⟩, ⟨_, rfl, rfl⟩, ⟨_, rfl, rfl⟩, ⟨_, rfl, rfl⟩, ⟨_, rfl, rfl⟩, ⟨_, rfl, rfl⟩, trivial⟩
      · exact rj_by2 [16, 17, 18, 19, 20, 21, 22, 23, 24, 25, 26, 27, 28, 1 + (3 + 2 * 2), 1 + (4 + 2 * 2)] [0, 1, 2, 3, 4, 5, 6, 7, 10, 11, 12, 13, 14, 15] 29 rfl rfl (by decide) (by decide) rfl ⟨⟨_, rfl, rfl⟩, ⟨_, rfl, rfl⟩, ⟨_, rfl, rfl⟩, ⟨_, rfl, rfl⟩, ⟨_, rfl, rfl⟩, ⟨_, rfl, rfl⟩, ⟨_, rfl, rfl⟩, ⟨_, rfl, rfl⟩, ⟨_, rfl, rfl⟩, ⟨_, rfl, rfl⟩, ⟨_, rfl, rfl⟩, ⟨_, rfl, rfl⟩, ⟨_, rfl, rfl⟩, ⟨_, rfl, rfl⟩, trivial⟩
      · exact rj_by2 [16, 17, 18, 19, 20, 21, 22, 23, 24, 25, 26, 27, 28, 1 + (3 + 2 * 3), 1 + (4 + 2 * 3)] [0, 1, 2, 3, 4, 5, 6, 7, 8, 9, 12, 13, 14, 15] 29 rfl rfl (by decide) (by decide) rfl ⟨⟨_, rfl, rfl⟩, ⟨_, rfl, rfl⟩, ⟨_, rfl, rfl⟩, ⟨_, rfl, rfl⟩, ⟨_, rfl, rfl⟩, ⟨_, rfl, rfl⟩, ⟨_, rfl, rfl⟩, ⟨_, rfl, rfl⟩, ⟨_, rfl, rfl⟩, ⟨_, rfl, rfl⟩, ⟨_, rfl, rfl⟩, ⟨_, rfl, rfl⟩, ⟨_, rfl, rfl⟩, ⟨_, rfl, rfl⟩, trivial⟩
      · exact rj_by2 [16, 17, 18, 19, 20, 21, 22, 23, 24, 25, 26, 27, 28, 1 + (3 + 2 * 4), 1 + (4 + 2 * 4)] [0, 1, 2, 3, 4, 5, 6, 7, 8, 9, 10, 11, 14, 15] 29 rfl rfl (by decide) (by decide) rfl ⟨⟨_, rfl, rfl⟩, ⟨_, rfl, rfl⟩, ⟨_, rfl, rfl⟩, ⟨_, rfl, rfl⟩, ⟨_, rfl, rfl⟩, ⟨_, rfl, rfl⟩, ⟨_, rfl, rfl⟩, ⟨_, rfl, rfl⟩, ⟨_, rfl, rfl⟩, ⟨_, rfl, rfl⟩, ⟨_, rfl, rfl⟩, ⟨_, rfl, rfl⟩, ⟨_, rfl, rfl⟩, ⟨_, rfl, rfl⟩, trivial⟩
      · exact rj_by2 [16, 17, 18, 19, 20, 21, 22, 23, 24, 25, 26, 27, 28, 1 + (3 + 2 * 5), 1 + (4 + 2 * 5)] [0, 1, 2, 3, 4, 5, 6, 7, 8, 9, 10, 11, 12, 13] 29 rfl rfl (by decide) (by decide) rfl ⟨⟨_, rfl, rfl⟩, ⟨_, rfl, rfl⟩, ⟨_, rfl, rfl⟩, ⟨_, rfl, rfl⟩, ⟨_, rfl, rfl⟩, ⟨_, rfl, rfl⟩, ⟨_, rfl, rfl⟩, ⟨_, rfl, rfl⟩, ⟨_, rfl, rfl⟩, ⟨_, rfl, rfl⟩, ⟨_, rfl, rfl⟩, ⟨_, rfl, rfl⟩, ⟨_, rfl, rfl⟩, ⟨_, rfl, rfl⟩, trivial⟩) ?_
  show V G K 2 2 12 12 [some (.ref fs), some (.int x)] [.int (nI (unfA (sSh s k) (sTn s k)))] ([(fs, .inr (12, [.ref h, .ref h2, .ref h3, .ref hh, .ref hr, .ref hg, .ref hq, .ref hl, .int iS, .int eA, .int fA]))] ++ ((stW G h ah as_ rr ra (sHm s) (sNb s) (sNs s) (sLa s) (sLo s) (sNu s) (sTn s) (sSh s)) ++ (rbW G hr hp ap av he aw al af as3 ar u_9)))
  exact hE 12 _ (nI (unfA (sSh s k) (sTn s k))) u_9 dX12_unfitShares_12 rfl ⟨(qS_y hf).trans (qI_y hTK), hE_9⟩
