/-! FeatherShares: what asks of secrets (printed by gen/s40.py) -/
set_option maxHeartbeats 4000000 in
set_option maxRecDepth 100000 in
theorem q_threshold (l : Launch) (G : Gx) (hst : l.stackTraces = false) (fs h h2 h3 hh hr hg hq hl : Nat) (iS eA fA : Int32) (ah as_ : Nat) (rr ra : Nat → Nat) (s : ASt) (B : Nat) (hI : InvA B s) (x : Int32) : CtX l G (SFt G) yX12_threshold wsX12_threshold ({ frames := 7, cells := 1, slots := 6, locals := 104 }) [.ref fs, .int x] ([(fs, .inr (12, [.ref h, .ref h2, .ref h3, .ref hh, .ref hr, .ref hg, .ref hq, .ref hl, .int iS, .int eA, .int fA]))] ++ (stW G h ah as_ rr ra (sHm s) (sNb s) (sNs s) (sLa s) (sLo s) (sNu s) (sTn s) (sSh s))) mkI (fun (r : Int32) (_ : Unit) => qThr s x = (0, r)) (fun _ : Unit => ([(fs, .inr (12, [.ref h, .ref h2, .ref h3, .ref hh, .ref hr, .ref hg, .ref hq, .ref hl, .int iS, .int eA, .int fA]))] ++ (stW G h ah as_ rr ra (sHm s) (sNb s) (sNs s) (sLa s) (sLo s) (sNu s) (sTn s) (sSh s)))) (fun (E : String) (_ : Unit) => XE ["java/util/NoSuchElementException"] (qThr s x) E) (fun _ : Unit => ([(fs, .inr (12, [.ref h, .ref h2, .ref h3, .ref hh, .ref hr, .ref hg, .ref hq, .ref hl, .int iS, .int eA, .int fA]))] ++ (stW G h ah as_ rr ra (sHm s) (sNb s) (sNs s) (sLa s) (sLo s) (sNu s) (sTn s) (sSh s)))) 1 6 := by
  have hb8 := hI.1
  have hs6 := hI.2.1
  refine CtX.ofI (cc := cX12_threshold) (maxL := 2) (by decide) rfl ⟨by simp [Value.category], Nat.le_of_ble_eq_true rfl⟩ ?_
  intro K hl hC hSF hnm hQ hE
  subst hl
  have hgot := SFgoS (SFt.k G) hSF
  have hgo := SFgo.x hgot
  have hSFt := hSF
  replace hSF := hSF.1
  show V G K 2 0 0 0 [some (.ref fs), some (.int x)] [] ([(fs, .inr (12, [.ref h, .ref h2, .ref h3, .ref hh, .ref hr, .ref hg, .ref hq, .ref hl, .int iS, .int eA, .int fA]))] ++ (stW G h ah as_ rr ra (sHm s) (sNb s) (sNs s) (sLa s) (sLo s) (sNu s) (sTn s) (sSh s)))
  refine V.aload_n hC (x := fs) dX12_threshold_0 rfl ?_
  refine V.iload_n hC (x := x) dX12_threshold_1 rfl ?_
  refine V.callVXr (n := 1) (As := [.int x]) (rest := []) hC (c_existing (kl K) G hst fs h h2 h3 hh hr hg hq hl iS eA fA ah as_ rr ra s B hI x) (SFt.k G) hgot gX12_threshold_X12_existing rfl ⟨rfl, rfl⟩ (by decide +kernel) ⟨by decide, by decide, by decide, by decide⟩ [0, 1, 2, 3, 4, 5, 6, 7, 8, 9, 10, 11, 12, 13, 14, 15] rfl (by decide) rfl rfl rfl rfl (Nat.le_of_ble_eq_true rfl) dX12_threshold_2 (fun E_ u_ hx_ => VX.out hC hQ () ⟨0, by decide, qS_n hx_.2, hx_.1⟩ rfl (Nat.le_of_ble_eq_true rfl) (Nat.le_of_ble_eq_true rfl)) (fun r_2 u_2 hp_2 => ?_)
  obtain ⟨k, hf, er_2⟩ := hp_2
  subst er_2
  have hk := (fd_lt hf hs6).2
  have ik := hI.2.2.1 k (fd_lt hf hs6).1
  show V G K 2 1 6 5 [some (.ref fs), some (.int x)] [.ref (rr k)] ([(fs, .inr (12, [.ref h, .ref h2, .ref h3, .ref hh, .ref hr, .ref hg, .ref hq, .ref hl, .int iS, .int eA, .int fA]))] ++ (stW G h ah as_ rr ra (sHm s) (sNb s) (sNs s) (sLa s) (sLo s) (sNu s) (sTn s) (sSh s)))
  refine V.callVr (n := 0) (As := []) (rest := []) hC (c_need (kl K) G (rr k) (ra k) (sSh s k) (sNu s k) (nI (sTn s k))) SFk0 SFgo0 gX12_threshold_X10_need rfl ⟨rfl, rfl⟩ (by decide +kernel) ⟨by decide, by decide, by decide, by decide⟩ [1 + (3 + 2 * k), 1 + (4 + 2 * k)] (by rcases (lt6 hk) with rfl | rfl | rfl | rfl | rfl | rfl <;> rfl) (by rcases (lt6 hk) with rfl | rfl | rfl | rfl | rfl | rfl <;> rfl) rfl rfl rfl rfl (Nat.le_of_ble_eq_true rfl) dX12_threshold_5 (fun r_5 u_5 hp_5 => ?_)
  subst hp_5
  show V G K 2 1 6 8 [some (.ref fs), some (.int x)] [.int (nI (sTn s k))] ([(fs, .inr (12, [.ref h, .ref h2, .ref h3, .ref hh, .ref hr, .ref hg, .ref hq, .ref hl, .int iS, .int eA, .int fA]))] ++ (stW G h ah as_ rr ra (sHm s) (sNb s) (sNs s) (sLa s) (sLo s) (sNu s) (sTn s) (sSh s)))
  exact hE 8 _ (nI (sTn s k)) () dX12_threshold_8 rfl (qS_y hf)

set_option maxHeartbeats 4000000 in
set_option maxRecDepth 100000 in
theorem q_holds (l : Launch) (G : Gx) (hst : l.stackTraces = false) (fs h h2 h3 hh hr hg hq hl : Nat) (iS eA fA : Int32) (ah as_ : Nat) (rr ra : Nat → Nat) (s : ASt) (B : Nat) (hI : InvA B s) (x y : Int32) : CtX l G (SFt G) yX12_holds wsX12_holds ({ frames := 7, cells := 2, slots := 12, locals := 104 }) [.ref fs, .int x, .int y] ([(fs, .inr (12, [.ref h, .ref h2, .ref h3, .ref hh, .ref hr, .ref hg, .ref hq, .ref hl, .int iS, .int eA, .int fA]))] ++ (stW G h ah as_ rr ra (sHm s) (sNb s) (sNs s) (sLa s) (sLo s) (sNu s) (sTn s) (sSh s))) mkI (fun (r : Int32) (_ : Unit) => qHolds s x y = (0, r)) (fun _ : Unit => ([(fs, .inr (12, [.ref h, .ref h2, .ref h3, .ref hh, .ref hr, .ref hg, .ref hq, .ref hl, .int iS, .int eA, .int fA]))] ++ (stW G h ah as_ rr ra (sHm s) (sNb s) (sNs s) (sLa s) (sLo s) (sNu s) (sTn s) (sSh s)))) (fun (E : String) (_ : Unit) => XE ["java/lang/IndexOutOfBoundsException", "java/util/NoSuchElementException"] (qHolds s x y) E) (fun _ : Unit => ([(fs, .inr (12, [.ref h, .ref h2, .ref h3, .ref hh, .ref hr, .ref hg, .ref hq, .ref hl, .int iS, .int eA, .int fA]))] ++ (stW G h ah as_ rr ra (sHm s) (sNb s) (sNs s) (sLa s) (sLo s) (sNu s) (sTn s) (sSh s)))) 2 12 := by
  have hb8 := hI.1
  have hs6 := hI.2.1
  refine CtX.ofI (cc := cX12_holds) (maxL := 3) (by decide) rfl ⟨by simp [Value.category], Nat.le_of_ble_eq_true rfl⟩ ?_
  intro K hl hC hSF hnm hQ hE
  subst hl
  have hgot := SFgoS (SFt.k G) hSF
  have hgo := SFgo.x hgot
  have hSFt := hSF
  replace hSF := hSF.1
  show V G K 3 0 0 0 [some (.ref fs), some (.int x), some (.int y)] [] ([(fs, .inr (12, [.ref h, .ref h2, .ref h3, .ref hh, .ref hr, .ref hg, .ref hq, .ref hl, .int iS, .int eA, .int fA]))] ++ (stW G h ah as_ rr ra (sHm s) (sNb s) (sNs s) (sLa s) (sLo s) (sNu s) (sTn s) (sSh s)))
  refine V.aload_n hC (x := fs) dX12_holds_0 rfl ?_
  refine V.iload_n hC (x := x) dX12_holds_1 rfl ?_
  refine V.callVXr (n := 1) (As := [.int x]) (rest := []) hC (c_requireBird (kl K) G hst fs h h2 h3 hh hr hg hq hl iS eA fA ah as_ rr ra s B hI x) (SFt.k G) hgot gX12_holds_X12_requireBird rfl ⟨rfl, rfl⟩ (by decide +kernel) ⟨by decide, by decide, by decide, by decide⟩ [0, 1, 2, 3, 4, 5, 6, 7, 8, 9, 10, 11, 12, 13, 14, 15] rfl (by decide) rfl rfl rfl rfl (Nat.le_of_ble_eq_true rfl) dX12_holds_2 (fun E_ u_ hx_ => VX.out hC hQ () ⟨0, by decide, qB_n hx_.2, hx_.1⟩ rfl (Nat.le_of_ble_eq_true rfl) (Nat.le_of_ble_eq_true rfl)) (fun r_2 u_2 hp_2 => ?_)
  obtain ⟨b, hb, hxb⟩ := i32_nat (by omega) hp_2
  refine V.lset 1 (x := .int x) (y := .int (nI b)) (congrArg Value.int hxb) rfl (lv' := [some (.ref fs), some (.int (nI b)), some (.int y)]) rfl ?_
  show V G K 3 1 6 5 [some (.ref fs), some (.int (nI b)), some (.int y)] [] ([(fs, .inr (12, [.ref h, .ref h2, .ref h3, .ref hh, .ref hr, .ref hg, .ref hq, .ref hl, .int iS, .int eA, .int fA]))] ++ (stW G h ah as_ rr ra (sHm s) (sNb s) (sNs s) (sLa s) (sLo s) (sNu s) (sTn s) (sSh s)))
  refine V.aload_n hC (x := fs) dX12_holds_5 rfl ?_
  refine V.iload_n hC (x := y) dX12_holds_6 rfl ?_
  refine V.callVXr (n := 1) (As := [.int y]) (rest := []) hC (c_existing (kl K) G hst fs h h2 h3 hh hr hg hq hl iS eA fA ah as_ rr ra s B hI y) (SFt.k G) hgot gX12_holds_X12_existing rfl ⟨rfl, rfl⟩ (by decide +kernel) ⟨by decide, by decide, by decide, by decide⟩ [0, 1, 2, 3, 4, 5, 6, 7, 8, 9, 10, 11, 12, 13, 14, 15] rfl (by decide) rfl rfl rfl rfl (Nat.le_of_ble_eq_true rfl) dX12_holds_7 (fun E_ u_ hx_ => VX.out hC hQ () ⟨1, by decide, (qB_y hI.1 hb hxb).trans <| qS_n hx_.2, hx_.1⟩ rfl (Nat.le_of_ble_eq_true rfl) (Nat.le_of_ble_eq_true rfl)) (fun r_7 u_7 hp_7 => ?_)
  obtain ⟨k, hf, er_7⟩ := hp_7
  subst er_7
  have hk := (fd_lt hf hs6).2
  have ik := hI.2.2.1 k (fd_lt hf hs6).1
  show V G K 3 2 12 10 [some (.ref fs), some (.int (nI b)), some (.int y)] [.ref (rr k)] ([(fs, .inr (12, [.ref h, .ref h2, .ref h3, .ref hh, .ref hr, .ref hg, .ref hq, .ref hl, .int iS, .int eA, .int fA]))] ++ (stW G h ah as_ rr ra (sHm s) (sNb s) (sNs s) (sLa s) (sLo s) (sNu s) (sTn s) (sSh s)))
  refine V.iload_n hC (x := nI b) dX12_holds_10 rfl ?_
  refine V.callVr (n := 1) (As := [.int (nI b)]) (rest := []) hC (c_isHeldBy (kl K) G (rr k) (ra k) (sSh s k) (sNu s k) (nI (sTn s k)) b (by omega)) SFk0 SFgo0 gX12_holds_X10_isHeldBy rfl ⟨rfl, rfl⟩ (by decide +kernel) ⟨by decide, by decide, by decide, by decide⟩ [1 + (3 + 2 * k), 1 + (4 + 2 * k)] (by rcases (lt6 hk) with rfl | rfl | rfl | rfl | rfl | rfl <;> rfl) (by rcases (lt6 hk) with rfl | rfl | rfl | rfl | rfl | rfl <;> rfl) rfl rfl rfl rfl (Nat.le_of_ble_eq_true rfl) dX12_holds_11 (fun r_11 u_11 hp_11 => ?_)
  subst hp_11
  show V G K 3 2 12 14 [some (.ref fs), some (.int (nI b)), some (.int y)] [.int (if sSh s k b = -1 then 0 else 1)] ([(fs, .inr (12, [.ref h, .ref h2, .ref h3, .ref hh, .ref hr, .ref hg, .ref hq, .ref hl, .int iS, .int eA, .int fA]))] ++ (stW G h ah as_ rr ra (sHm s) (sNb s) (sNs s) (sLa s) (sLo s) (sNu s) (sTn s) (sSh s)))
  exact hE 14 _ (if sSh s k b = -1 then 0 else 1) () dX12_holds_14 (by split <;> rfl) ((qB_y hI.1 hb hxb).trans (qS_y hf))

set_option maxHeartbeats 4000000 in
set_option maxRecDepth 100000 in
theorem q_share (l : Launch) (G : Gx) (hst : l.stackTraces = false) (fs h h2 h3 hh hr hg hq hl : Nat) (iS eA fA : Int32) (ah as_ : Nat) (rr ra : Nat → Nat) (s : ASt) (B : Nat) (hI : InvA B s) (x y : Int32) : CtX l G (SFt G) yX12_share wsX12_share ({ frames := 7, cells := 3, slots := 18, locals := 104 }) [.ref fs, .int x, .int y] ([(fs, .inr (12, [.ref h, .ref h2, .ref h3, .ref hh, .ref hr, .ref hg, .ref hq, .ref hl, .int iS, .int eA, .int fA]))] ++ (stW G h ah as_ rr ra (sHm s) (sNb s) (sNs s) (sLa s) (sLo s) (sNu s) (sTn s) (sSh s))) mkI (fun (r : Int32) (_ : Unit) => qShare s x y = (0, r)) (fun _ : Unit => ([(fs, .inr (12, [.ref h, .ref h2, .ref h3, .ref hh, .ref hr, .ref hg, .ref hq, .ref hl, .int iS, .int eA, .int fA]))] ++ (stW G h ah as_ rr ra (sHm s) (sNb s) (sNs s) (sLa s) (sLo s) (sNu s) (sTn s) (sSh s)))) (fun (E : String) (_ : Unit) => XE ["java/lang/IndexOutOfBoundsException", "java/util/NoSuchElementException", "java/lang/IllegalStateException"] (qShare s x y) E) (fun _ : Unit => ([(fs, .inr (12, [.ref h, .ref h2, .ref h3, .ref hh, .ref hr, .ref hg, .ref hq, .ref hl, .int iS, .int eA, .int fA]))] ++ (stW G h ah as_ rr ra (sHm s) (sNb s) (sNs s) (sLa s) (sLo s) (sNu s) (sTn s) (sSh s)))) 3 18 := by
  have hb8 := hI.1
  have hs6 := hI.2.1
  refine CtX.ofI (cc := cX12_share) (maxL := 4) (by decide) rfl ⟨by simp [Value.category], Nat.le_of_ble_eq_true rfl⟩ ?_
  intro K hl hC hSF hnm hQ hE
  subst hl
  have hgot := SFgoS (SFt.k G) hSF
  have hgo := SFgo.x hgot
  have hSFt := hSF
  replace hSF := hSF.1
  have q0_ : Cond.classLink RX12 165 "java/lang/IllegalStateException" ∈ wsX12_share := by decide +kernel
  have q1_ : Cond.initialized "java/lang/IllegalStateException" ∈ wsX12_share := by decide +kernel
  have q2_ : ∀ w ∈ (vx_atS RX12 169 "java/lang/IllegalStateException" nm2).filter goodWord, w ∈ wsX12_share := by decide +kernel
  show V G K 4 0 0 0 [some (.ref fs), some (.int x), some (.int y), none] [] ([(fs, .inr (12, [.ref h, .ref h2, .ref h3, .ref hh, .ref hr, .ref hg, .ref hq, .ref hl, .int iS, .int eA, .int fA]))] ++ (stW G h ah as_ rr ra (sHm s) (sNb s) (sNs s) (sLa s) (sLo s) (sNu s) (sTn s) (sSh s)))
  refine V.aload_n hC (x := fs) dX12_share_0 rfl ?_
  refine V.iload_n hC (x := x) dX12_share_1 rfl ?_
  refine V.callVXr (n := 1) (As := [.int x]) (rest := []) hC (c_requireBird (kl K) G hst fs h h2 h3 hh hr hg hq hl iS eA fA ah as_ rr ra s B hI x) (SFt.k G) hgot gX12_share_X12_requireBird rfl ⟨rfl, rfl⟩ (by decide +kernel) ⟨by decide, by decide, by decide, by decide⟩ [0, 1, 2, 3, 4, 5, 6, 7, 8, 9, 10, 11, 12, 13, 14, 15] rfl (by decide) rfl rfl rfl rfl (Nat.le_of_ble_eq_true rfl) dX12_share_2 (fun E_ u_ hx_ => VX.out hC hQ () ⟨0, by decide, qB_n hx_.2, hx_.1⟩ rfl (Nat.le_of_ble_eq_true rfl) (Nat.le_of_ble_eq_true rfl)) (fun r_2 u_2 hp_2 => ?_)
  obtain ⟨b, hb, hxb⟩ := i32_nat (by omega) hp_2
  refine V.lset 1 (x := .int x) (y := .int (nI b)) (congrArg Value.int hxb) rfl (lv' := [some (.ref fs), some (.int (nI b)), some (.int y), none]) rfl ?_
  show V G K 4 1 6 5 [some (.ref fs), some (.int (nI b)), some (.int y), none] [] ([(fs, .inr (12, [.ref h, .ref h2, .ref h3, .ref hh, .ref hr, .ref hg, .ref hq, .ref hl, .int iS, .int eA, .int fA]))] ++ (stW G h ah as_ rr ra (sHm s) (sNb s) (sNs s) (sLa s) (sLo s) (sNu s) (sTn s) (sSh s)))
  refine V.aload_n hC (x := fs) dX12_share_5 rfl ?_
  refine V.iload_n hC (x := y) dX12_share_6 rfl ?_
  refine V.callVXr (n := 1) (As := [.int y]) (rest := []) hC (c_existing (kl K) G hst fs h h2 h3 hh hr hg hq hl iS eA fA ah as_ rr ra s B hI y) (SFt.k G) hgot gX12_share_X12_existing rfl ⟨rfl, rfl⟩ (by decide +kernel) ⟨by decide, by decide, by decide, by decide⟩ [0, 1, 2, 3, 4, 5, 6, 7, 8, 9, 10, 11, 12, 13, 14, 15] rfl (by decide) rfl rfl rfl rfl (Nat.le_of_ble_eq_true rfl) dX12_share_7 (fun E_ u_ hx_ => VX.out hC hQ () ⟨1, by decide, (qB_y hI.1 hb hxb).trans <| qS_n hx_.2, hx_.1⟩ rfl (Nat.le_of_ble_eq_true rfl) (Nat.le_of_ble_eq_true rfl)) (fun r_7 u_7 hp_7 => ?_)
  obtain ⟨k, hf, er_7⟩ := hp_7
  subst er_7
  have hk := (fd_lt hf hs6).2
  have ik := hI.2.2.1 k (fd_lt hf hs6).1
  show V G K 4 2 12 10 [some (.ref fs), some (.int (nI b)), some (.int y), none] [.ref (rr k)] ([(fs, .inr (12, [.ref h, .ref h2, .ref h3, .ref hh, .ref hr, .ref hg, .ref hq, .ref hl, .int iS, .int eA, .int fA]))] ++ (stW G h ah as_ rr ra (sHm s) (sNb s) (sNs s) (sLa s) (sLo s) (sNu s) (sTn s) (sSh s)))
  refine V.astore_n hC dX12_share_10 [some (.ref fs), some (.int (nI b)), some (.int y), some (.ref (rr k))] (Nat.le_of_ble_eq_true rfl) rfl ?_
  refine V.aload_n hC (x := rr k) dX12_share_11 rfl ?_
  refine V.iload_n hC (x := nI b) dX12_share_12 rfl ?_
  refine V.callVr (n := 1) (As := [.int (nI b)]) (rest := []) hC (c_isHeldBy (kl K) G (rr k) (ra k) (sSh s k) (sNu s k) (nI (sTn s k)) b (by omega)) SFk0 SFgo0 gX12_share_X10_isHeldBy rfl ⟨rfl, rfl⟩ (by decide +kernel) ⟨by decide, by decide, by decide, by decide⟩ [1 + (3 + 2 * k), 1 + (4 + 2 * k)] (by rcases (lt6 hk) with rfl | rfl | rfl | rfl | rfl | rfl <;> rfl) (by rcases (lt6 hk) with rfl | rfl | rfl | rfl | rfl | rfl <;> rfl) rfl rfl rfl rfl (Nat.le_of_ble_eq_true rfl) dX12_share_13 (fun r_13 u_13 hp_13 => ?_)
  subst hp_13
  show V G K 4 2 12 16 [some (.ref fs), some (.int (nI b)), some (.int y), some (.ref (rr k))] [.int (if sSh s k b = -1 then 0 else 1)] ([(fs, .inr (12, [.ref h, .ref h2, .ref h3, .ref hh, .ref hr, .ref hg, .ref hq, .ref hl, .int iS, .int eA, .int fA]))] ++ (stW G h ah as_ rr ra (sHm s) (sNb s) (sNs s) (sLa s) (sLo s) (sNu s) (sTn s) (sSh s)))
  refine V.if_ne hC 29 dX12_share_16 rfl (fun c_16 => ?_) (fun c_16 => ?_)
  · refine V.aload_n hC (x := rr k) dX12_share_29 rfl ?_
    refine V.iload_n hC (x := nI b) dX12_share_30 rfl ?_
    refine V.callVr (n := 1) (As := [.int (nI b)]) (rest := []) hC (c_shareWith (kl K) G (rr k) (ra k) (sSh s k) (sNu s k) (nI (sTn s k)) b (by omega)) SFk0 SFgo0 gX12_share_X10_shareWith rfl ⟨rfl, rfl⟩ (by decide +kernel) ⟨by decide, by decide, by decide, by decide⟩ [1 + (3 + 2 * k), 1 + (4 + 2 * k)] (by rcases (lt6 hk) with rfl | rfl | rfl | rfl | rfl | rfl <;> rfl) (by rcases (lt6 hk) with rfl | rfl | rfl | rfl | rfl | rfl <;> rfl) rfl rfl rfl rfl (Nat.le_of_ble_eq_true rfl) dX12_share_31 (fun r_31 u_31 hp_31 => ?_)
    subst hp_31
    show V G K 4 2 12 34 [some (.ref fs), some (.int (nI b)), some (.int y), some (.ref (rr k))] [.int (sSh s k b)] ([(fs, .inr (12, [.ref h, .ref h2, .ref h3, .ref hh, .ref hr, .ref hg, .ref hq, .ref hl, .int iS, .int eA, .int fA]))] ++ (stW G h ah as_ rr ra (sHm s) (sNb s) (sNs s) (sLa s) (sLo s) (sNu s) (sTn s) (sSh s)))
    refine V.widen (k := 3) (n := 18) (Nat.le_of_ble_eq_true rfl) (Nat.le_of_ble_eq_true rfl) ?_
    exact hE 34 _ (sSh s k b) () dX12_share_34 rfl ((qB_y hI.1 hb hxb).trans ((qS_y hf).trans (qI_y (if01n c_16))))
  · exact V.throwS hC hQ hst (text := "the bird does not hold a share of it") () ⟨2, by decide, (qB_y hI.1 hb hxb).trans ((qS_y hf).trans (qI_n (fun z => z (if01 c_16)))), rfl⟩ rfl thr2_IS hSFt.2.1.1 hSFt.2.1.2.1 (hSFt.msg (167, "the bird does not hold a share of it") (by decide)) (hSFt.ca _ (by decide)) hSFt.de q0_ q1_ q2_ dX12_share_19 dX12_share_22 dX12_share_23 dX12_share_25 dX12_share_28 ⟨by decide, by decide, by decide, by decide, by decide, by decide⟩

set_option maxHeartbeats 4000000 in
set_option maxRecDepth 100000 in
theorem q_holders (l : Launch) (G : Gx) (hst : l.stackTraces = false) (fs h h2 h3 hh hr hg hq hl : Nat) (iS eA fA : Int32) (ah as_ : Nat) (rr ra : Nat → Nat) (s : ASt) (B : Nat) (hI : InvA B s) (x : Int32) : CtX l G (SFt G) yX12_holders wsX12_holders ({ frames := 7, cells := 1, slots := 6, locals := 104 }) [.ref fs, .int x] ([(fs, .inr (12, [.ref h, .ref h2, .ref h3, .ref hh, .ref hr, .ref hg, .ref hq, .ref hl, .int iS, .int eA, .int fA]))] ++ (stW G h ah as_ rr ra (sHm s) (sNb s) (sNs s) (sLa s) (sLo s) (sNu s) (sTn s) (sSh s))) mkI (fun (r : Int32) (_ : Unit) => qHolders s x = (0, r)) (fun _ : Unit => ([(fs, .inr (12, [.ref h, .ref h2, .ref h3, .ref hh, .ref hr, .ref hg, .ref hq, .ref hl, .int iS, .int eA, .int fA]))] ++ (stW G h ah as_ rr ra (sHm s) (sNb s) (sNs s) (sLa s) (sLo s) (sNu s) (sTn s) (sSh s)))) (fun (E : String) (_ : Unit) => XE ["java/util/NoSuchElementException"] (qHolders s x) E) (fun _ : Unit => ([(fs, .inr (12, [.ref h, .ref h2, .ref h3, .ref hh, .ref hr, .ref hg, .ref hq, .ref hl, .int iS, .int eA, .int fA]))] ++ (stW G h ah as_ rr ra (sHm s) (sNb s) (sNs s) (sLa s) (sLo s) (sNu s) (sTn s) (sSh s)))) 1 6 := by
  have hb8 := hI.1
  have hs6 := hI.2.1
  refine CtX.ofI (cc := cX12_holders) (maxL := 2) (by decide) rfl ⟨by simp [Value.category], Nat.le_of_ble_eq_true rfl⟩ ?_
  intro K hl hC hSF hnm hQ hE
  subst hl
  have hgot := SFgoS (SFt.k G) hSF
  have hgo := SFgo.x hgot
  have hSFt := hSF
  replace hSF := hSF.1
  show V G K 2 0 0 0 [some (.ref fs), some (.int x)] [] ([(fs, .inr (12, [.ref h, .ref h2, .ref h3, .ref hh, .ref hr, .ref hg, .ref hq, .ref hl, .int iS, .int eA, .int fA]))] ++ (stW G h ah as_ rr ra (sHm s) (sNb s) (sNs s) (sLa s) (sLo s) (sNu s) (sTn s) (sSh s)))
  refine V.aload_n hC (x := fs) dX12_holders_0 rfl ?_
  refine V.iload_n hC (x := x) dX12_holders_1 rfl ?_
  refine V.callVXr (n := 1) (As := [.int x]) (rest := []) hC (c_existing (kl K) G hst fs h h2 h3 hh hr hg hq hl iS eA fA ah as_ rr ra s B hI x) (SFt.k G) hgot gX12_holders_X12_existing rfl ⟨rfl, rfl⟩ (by decide +kernel) ⟨by decide, by decide, by decide, by decide⟩ [0, 1, 2, 3, 4, 5, 6, 7, 8, 9, 10, 11, 12, 13, 14, 15] rfl (by decide) rfl rfl rfl rfl (Nat.le_of_ble_eq_true rfl) dX12_holders_2 (fun E_ u_ hx_ => VX.out hC hQ () ⟨0, by decide, qS_n hx_.2, hx_.1⟩ rfl (Nat.le_of_ble_eq_true rfl) (Nat.le_of_ble_eq_true rfl)) (fun r_2 u_2 hp_2 => ?_)
  obtain ⟨k, hf, er_2⟩ := hp_2
  subst er_2
  have hk := (fd_lt hf hs6).2
  have ik := hI.2.2.1 k (fd_lt hf hs6).1
  show V G K 2 1 6 5 [some (.ref fs), some (.int x)] [.ref (rr k)] ([(fs, .inr (12, [.ref h, .ref h2, .ref h3, .ref hh, .ref hr, .ref hg, .ref hq, .ref hl, .int iS, .int eA, .int fA]))] ++ (stW G h ah as_ rr ra (sHm s) (sNb s) (sNs s) (sLa s) (sLo s) (sNu s) (sTn s) (sSh s)))
  refine V.callVr (n := 0) (As := []) (rest := []) hC (c_holderTally (kl K) G (rr k) (ra k) (sSh s k) (sNu s k) (nI (sTn s k))) SFk0 SFgo0 gX12_holders_X10_holderTally rfl ⟨rfl, rfl⟩ (by decide +kernel) ⟨by decide, by decide, by decide, by decide⟩ [1 + (3 + 2 * k), 1 + (4 + 2 * k)] (by rcases (lt6 hk) with rfl | rfl | rfl | rfl | rfl | rfl <;> rfl) (by rcases (lt6 hk) with rfl | rfl | rfl | rfl | rfl | rfl <;> rfl) rfl rfl rfl rfl (Nat.le_of_ble_eq_true rfl) dX12_holders_5 (fun r_5 u_5 hp_5 => ?_)
  subst hp_5
  show V G K 2 1 6 8 [some (.ref fs), some (.int x)] [.int (nI (hc (sSh s k) 8))] ([(fs, .inr (12, [.ref h, .ref h2, .ref h3, .ref hh, .ref hr, .ref hg, .ref hq, .ref hl, .int iS, .int eA, .int fA]))] ++ (stW G h ah as_ rr ra (sHm s) (sNb s) (sNs s) (sLa s) (sLo s) (sNu s) (sTn s) (sSh s)))
  exact hE 8 _ (nI (hc (sSh s k) 8)) () dX12_holders_8 rfl (qS_y hf)

set_option maxHeartbeats 4000000 in
set_option maxRecDepth 100000 in
theorem q_spareShares (l : Launch) (G : Gx) (hst : l.stackTraces = false) (fs h h2 h3 hh hr hg hq hl : Nat) (iS eA fA : Int32) (ah as_ : Nat) (rr ra : Nat → Nat) (s : ASt) (B : Nat) (hI : InvA B s) (x : Int32) : CtX l G (SFt G) yX12_spareShares wsX12_spareShares ({ frames := 7, cells := 1, slots := 6, locals := 104 }) [.ref fs, .int x] ([(fs, .inr (12, [.ref h, .ref h2, .ref h3, .ref hh, .ref hr, .ref hg, .ref hq, .ref hl, .int iS, .int eA, .int fA]))] ++ (stW G h ah as_ rr ra (sHm s) (sNb s) (sNs s) (sLa s) (sLo s) (sNu s) (sTn s) (sSh s))) mkI (fun (r : Int32) (_ : Unit) => qSpare s x = (0, r)) (fun _ : Unit => ([(fs, .inr (12, [.ref h, .ref h2, .ref h3, .ref hh, .ref hr, .ref hg, .ref hq, .ref hl, .int iS, .int eA, .int fA]))] ++ (stW G h ah as_ rr ra (sHm s) (sNb s) (sNs s) (sLa s) (sLo s) (sNu s) (sTn s) (sSh s)))) (fun (E : String) (_ : Unit) => XE ["java/util/NoSuchElementException"] (qSpare s x) E) (fun _ : Unit => ([(fs, .inr (12, [.ref h, .ref h2, .ref h3, .ref hh, .ref hr, .ref hg, .ref hq, .ref hl, .int iS, .int eA, .int fA]))] ++ (stW G h ah as_ rr ra (sHm s) (sNb s) (sNs s) (sLa s) (sLo s) (sNu s) (sTn s) (sSh s)))) 1 6 := by
  have hb8 := hI.1
  have hs6 := hI.2.1
  refine CtX.ofI (cc := cX12_spareShares) (maxL := 3) (by decide) rfl ⟨by simp [Value.category], Nat.le_of_ble_eq_true rfl⟩ ?_
  intro K hl hC hSF hnm hQ hE
  subst hl
  have hgot := SFgoS (SFt.k G) hSF
  have hgo := SFgo.x hgot
  have hSFt := hSF
  replace hSF := hSF.1
  show V G K 3 0 0 0 [some (.ref fs), some (.int x), none] [] ([(fs, .inr (12, [.ref h, .ref h2, .ref h3, .ref hh, .ref hr, .ref hg, .ref hq, .ref hl, .int iS, .int eA, .int fA]))] ++ (stW G h ah as_ rr ra (sHm s) (sNb s) (sNs s) (sLa s) (sLo s) (sNu s) (sTn s) (sSh s)))
  refine V.aload_n hC (x := fs) dX12_spareShares_0 rfl ?_
  refine V.iload_n hC (x := x) dX12_spareShares_1 rfl ?_
  refine V.callVXr (n := 1) (As := [.int x]) (rest := []) hC (c_existing (kl K) G hst fs h h2 h3 hh hr hg hq hl iS eA fA ah as_ rr ra s B hI x) (SFt.k G) hgot gX12_spareShares_X12_existing rfl ⟨rfl, rfl⟩ (by decide +kernel) ⟨by decide, by decide, by decide, by decide⟩ [0, 1, 2, 3, 4, 5, 6, 7, 8, 9, 10, 11, 12, 13, 14, 15] rfl (by decide) rfl rfl rfl rfl (Nat.le_of_ble_eq_true rfl) dX12_spareShares_2 (fun E_ u_ hx_ => VX.out hC hQ () ⟨0, by decide, qS_n hx_.2, hx_.1⟩ rfl (Nat.le_of_ble_eq_true rfl) (Nat.le_of_ble_eq_true rfl)) (fun r_2 u_2 hp_2 => ?_)
  obtain ⟨k, hf, er_2⟩ := hp_2
  subst er_2
  have hk := (fd_lt hf hs6).2
  have ik := hI.2.2.1 k (fd_lt hf hs6).1
  show V G K 3 1 6 5 [some (.ref fs), some (.int x), none] [.ref (rr k)] ([(fs, .inr (12, [.ref h, .ref h2, .ref h3, .ref hh, .ref hr, .ref hg, .ref hq, .ref hl, .int iS, .int eA, .int fA]))] ++ (stW G h ah as_ rr ra (sHm s) (sNb s) (sNs s) (sLa s) (sLo s) (sNu s) (sTn s) (sSh s)))
  refine V.astore_n hC dX12_spareShares_5 [some (.ref fs), some (.int x), some (.ref (rr k))] (Nat.le_of_ble_eq_true rfl) rfl ?_
  refine V.aload_n hC (x := rr k) dX12_spareShares_6 rfl ?_
  refine V.callVr (n := 0) (As := []) (rest := []) hC (c_holderTally (kl K) G (rr k) (ra k) (sSh s k) (sNu s k) (nI (sTn s k))) SFk0 SFgo0 gX12_spareShares_X10_holderTally rfl ⟨rfl, rfl⟩ (by decide +kernel) ⟨by decide, by decide, by decide, by decide⟩ [1 + (3 + 2 * k), 1 + (4 + 2 * k)] (by rcases (lt6 hk) with rfl | rfl | rfl | rfl | rfl | rfl <;> rfl) (by rcases (lt6 hk) with rfl | rfl | rfl | rfl | rfl | rfl <;> rfl) rfl rfl rfl rfl (Nat.le_of_ble_eq_true rfl) dX12_spareShares_7 (fun r_7 u_7 hp_7 => ?_)
  subst hp_7
  show V G K 3 1 6 10 [some (.ref fs), some (.int x), some (.ref (rr k))] [.int (nI (hc (sSh s k) 8))] ([(fs, .inr (12, [.ref h, .ref h2, .ref h3, .ref hh, .ref hr, .ref hg, .ref hq, .ref hl, .int iS, .int eA, .int fA]))] ++ (stW G h ah as_ rr ra (sHm s) (sNb s) (sNs s) (sLa s) (sLo s) (sNu s) (sTn s) (sSh s)))
  refine V.aload_n hC (x := rr k) dX12_spareShares_10 rfl ?_
  refine V.callVr (n := 0) (As := []) (rest := [.int (nI (hc (sSh s k) 8))]) hC (c_need (kl K) G (rr k) (ra k) (sSh s k) (sNu s k) (nI (sTn s k))) SFk0 SFgo0 gX12_spareShares_X10_need rfl ⟨rfl, rfl⟩ (by decide +kernel) ⟨by decide, by decide, by decide, by decide⟩ [1 + (3 + 2 * k), 1 + (4 + 2 * k)] (by rcases (lt6 hk) with rfl | rfl | rfl | rfl | rfl | rfl <;> rfl) (by rcases (lt6 hk) with rfl | rfl | rfl | rfl | rfl | rfl <;> rfl) rfl rfl rfl rfl (Nat.le_of_ble_eq_true rfl) dX12_spareShares_11 (fun r_11 u_11 hp_11 => ?_)
  subst hp_11
  show V G K 3 1 6 14 [some (.ref fs), some (.int x), some (.ref (rr k))] [.int (nI (sTn s k)), .int (nI (hc (sSh s k) 8))] ([(fs, .inr (12, [.ref h, .ref h2, .ref h3, .ref hh, .ref hr, .ref hg, .ref hq, .ref hl, .int iS, .int eA, .int fA]))] ++ (stW G h ah as_ rr ra (sHm s) (sNb s) (sNs s) (sLa s) (sLo s) (sNu s) (sTn s) (sSh s)))
  refine V.isub hC dX12_spareShares_14 ?_
  exact hE 15 _ ((nI (hc (sSh s k) 8)) - (nI (sTn s k))) () dX12_spareShares_15 rfl (qS_y hf)

set_option maxHeartbeats 4000000 in
set_option maxRecDepth 100000 in
theorem q_canNestRebuild (l : Launch) (G : Gx) (hst : l.stackTraces = false) (fs h h2 h3 hh hr hg hq hl : Nat) (iS eA fA : Int32) (ah as_ : Nat) (rr ra : Nat → Nat) (s : ASt) (B : Nat) (hI : InvA B s) (x y : Int32) : CtX l G (SFt G) yX12_canNestRebuild wsX12_canNestRebuild ({ frames := 7, cells := 2, slots := 12, locals := 104 }) [.ref fs, .int x, .int y] ([(fs, .inr (12, [.ref h, .ref h2, .ref h3, .ref hh, .ref hr, .ref hg, .ref hq, .ref hl, .int iS, .int eA, .int fA]))] ++ (stW G h ah as_ rr ra (sHm s) (sNb s) (sNs s) (sLa s) (sLo s) (sNu s) (sTn s) (sSh s))) mkI (fun (r : Int32) (_ : Unit) => qCan s x y = (0, r)) (fun _ : Unit => ([(fs, .inr (12, [.ref h, .ref h2, .ref h3, .ref hh, .ref hr, .ref hg, .ref hq, .ref hl, .int iS, .int eA, .int fA]))] ++ (stW G h ah as_ rr ra (sHm s) (sNb s) (sNs s) (sLa s) (sLo s) (sNu s) (sTn s) (sSh s)))) (fun (E : String) (_ : Unit) => XE ["java/lang/IllegalArgumentException", "java/util/NoSuchElementException"] (qCan s x y) E) (fun _ : Unit => ([(fs, .inr (12, [.ref h, .ref h2, .ref h3, .ref hh, .ref hr, .ref hg, .ref hq, .ref hl, .int iS, .int eA, .int fA]))] ++ (stW G h ah as_ rr ra (sHm s) (sNb s) (sNs s) (sLa s) (sLo s) (sNu s) (sTn s) (sSh s)))) 2 12 := by
  have hb8 := hI.1
  have hs6 := hI.2.1
  refine CtX.ofI (cc := cX12_canNestRebuild) (maxL := 4) (by decide) rfl ⟨by simp [Value.category], Nat.le_of_ble_eq_true rfl⟩ ?_
  intro K hl hC hSF hnm hQ hE
  subst hl
  have hgot := SFgoS (SFt.k G) hSF
  have hgo := SFgo.x hgot
  have hSFt := hSF
  replace hSF := hSF.1
  have q0_ : ∀ w ∈ u_ws RX12 TX12 11, w ∈ wsX12_canNestRebuild := by decide +kernel
  have q1_ : Cond.fieldLink RX12 20 "FeatherShares" "state" "LFeatherShares$State;" ∈ wsX12_canNestRebuild := by decide +kernel
  show V G K 4 0 0 0 [some (.ref fs), some (.int x), some (.int y), none] [] ([(fs, .inr (12, [.ref h, .ref h2, .ref h3, .ref hh, .ref hr, .ref hg, .ref hq, .ref hl, .int iS, .int eA, .int fA]))] ++ (stW G h ah as_ rr ra (sHm s) (sNb s) (sNs s) (sLa s) (sLo s) (sNu s) (sTn s) (sSh s)))
  refine V.iload_n hC (x := x) dX12_canNestRebuild_0 rfl ?_
  refine V.callSXr (n := 1) (As := [.int x]) (rest := []) hC (c_requireNest (kl K) G hst x) (SFt.k G) hgot gX12_canNestRebuild_X12_requireNest rfl ⟨rfl, rfl⟩ (by decide +kernel) ⟨by decide, by decide, by decide, by decide⟩ [] rfl (by decide) rfl rfl (Nat.le_of_ble_eq_true rfl) dX12_canNestRebuild_1 (fun E_ u_ hx_ => VX.out hC hQ () ⟨0, by decide, qN_n hx_.2, hx_.1⟩ rfl (Nat.le_of_ble_eq_true rfl) (Nat.le_of_ble_eq_true rfl)) (fun r_1 u_1 hp_1 => ?_)
  show V G K 4 1 6 4 [some (.ref fs), some (.int x), some (.int y), none] [] ([(fs, .inr (12, [.ref h, .ref h2, .ref h3, .ref hh, .ref hr, .ref hg, .ref hq, .ref hl, .int iS, .int eA, .int fA]))] ++ (stW G h ah as_ rr ra (sHm s) (sNb s) (sNs s) (sLa s) (sLo s) (sNu s) (sTn s) (sSh s)))
  refine V.aload_n hC (x := fs) dX12_canNestRebuild_4 rfl ?_
  refine V.iload_n hC (x := y) dX12_canNestRebuild_5 rfl ?_
  refine V.callVXr (n := 1) (As := [.int y]) (rest := []) hC (c_existing (kl K) G hst fs h h2 h3 hh hr hg hq hl iS eA fA ah as_ rr ra s B hI y) (SFt.k G) hgot gX12_canNestRebuild_X12_existing rfl ⟨rfl, rfl⟩ (by decide +kernel) ⟨by decide, by decide, by decide, by decide⟩ [0, 1, 2, 3, 4, 5, 6, 7, 8, 9, 10, 11, 12, 13, 14, 15] rfl (by decide) rfl rfl rfl rfl (Nat.le_of_ble_eq_true rfl) dX12_canNestRebuild_6 (fun E_ u_ hx_ => VX.out hC hQ () ⟨1, by decide, (qN_y hp_1).trans <| qS_n hx_.2, hx_.1⟩ rfl (Nat.le_of_ble_eq_true rfl) (Nat.le_of_ble_eq_true rfl)) (fun r_6 u_6 hp_6 => ?_)
  obtain ⟨k, hf, er_6⟩ := hp_6
  subst er_6
  have hk := (fd_lt hf hs6).2
  have ik := hI.2.2.1 k (fd_lt hf hs6).1
  show V G K 4 2 12 9 [some (.ref fs), some (.int x), some (.int y), none] [.ref (rr k)] ([(fs, .inr (12, [.ref h, .ref h2, .ref h3, .ref hh, .ref hr, .ref hg, .ref hq, .ref hl, .int iS, .int eA, .int fA]))] ++ (stW G h ah as_ rr ra (sHm s) (sNb s) (sNs s) (sLa s) (sLo s) (sNu s) (sTn s) (sSh s)))
  refine V.astore_n hC dX12_canNestRebuild_9 [some (.ref fs), some (.int x), some (.int y), some (.ref (rr k))] (Nat.le_of_ble_eq_true rfl) rfl ?_
  refine V.aload_n hC (x := fs) dX12_canNestRebuild_10 rfl ?_
  refine V.getf hC (T := TX12) q0_ 0 q1_ rfl (0) rfl rfl (by decide) (.ref h) rfl dX12_canNestRebuild_11 ?_
  refine V.iload_n hC (x := x) dX12_canNestRebuild_14 rfl ?_
  refine V.aload_n hC (x := rr k) dX12_canNestRebuild_15 rfl ?_
  refine V.callVr (n := 2) (As := [.int x, .ref (rr k)]) (rest := []) hC (c_holdersIn (kl K) G h ah as_ rr ra (sHm s) (sNb s) (sNs s) (sLa s) (sLo s) (sNu s) (sTn s) (sSh s) hb8 hs6 x k hk) SFk0 SFgo0 gX12_canNestRebuild_X11_holdersIn rfl ⟨rfl, rfl⟩ (by decide +kernel) ⟨by decide, by decide, by decide, by decide⟩ [1, 2, 3, 4, 5, 6, 7, 8, 9, 10, 11, 12, 13, 14, 15] rfl (by decide) rfl rfl rfl rfl (Nat.le_of_ble_eq_true rfl) dX12_canNestRebuild_16 (fun r_16 u_16 hp_16 => ?_)
  subst hp_16
  show V G K 4 2 12 19 [some (.ref fs), some (.int x), some (.int y), some (.ref (rr k))] [.int (nI (hin (sHm s) (sSh s k) x (sNb s)))] ([(fs, .inr (12, [.ref h, .ref h2, .ref h3, .ref hh, .ref hr, .ref hg, .ref hq, .ref hl, .int iS, .int eA, .int fA]))] ++ (stW G h ah as_ rr ra (sHm s) (sNb s) (sNs s) (sLa s) (sLo s) (sNu s) (sTn s) (sSh s)))
  refine V.aload_n hC (x := rr k) dX12_canNestRebuild_19 rfl ?_
  refine V.callVr (n := 0) (As := []) (rest := [.int (nI (hin (sHm s) (sSh s k) x (sNb s)))]) hC (c_need (kl K) G (rr k) (ra k) (sSh s k) (sNu s k) (nI (sTn s k))) SFk0 SFgo0 gX12_canNestRebuild_X10_need rfl ⟨rfl, rfl⟩ (by decide +kernel) ⟨by decide, by decide, by decide, by decide⟩ [1 + (3 + 2 * k), 1 + (4 + 2 * k)] (by rcases (lt6 hk) with rfl | rfl | rfl | rfl | rfl | rfl <;> rfl) (by rcases (lt6 hk) with rfl | rfl | rfl | rfl | rfl | rfl <;> rfl) rfl rfl rfl rfl (Nat.le_of_ble_eq_true rfl) dX12_canNestRebuild_20 (fun r_20 u_20 hp_20 => ?_)
  subst hp_20
  show V G K 4 2 12 23 [some (.ref fs), some (.int x), some (.int y), some (.ref (rr k))] [.int (nI (sTn s k)), .int (nI (hin (sHm s) (sSh s k) x (sNb s)))] ([(fs, .inr (12, [.ref h, .ref h2, .ref h3, .ref hh, .ref hr, .ref hg, .ref hq, .ref hl, .int iS, .int eA, .int fA]))] ++ (stW G h ah as_ rr ra (sHm s) (sNb s) (sNs s) (sLa s) (sLo s) (sNu s) (sTn s) (sSh s)))
  refine V.icmpN_lt hC (hin (sHm s) (sSh s k) x (sNb s)) (sTn s k) 30 dX12_canNestRebuild_23 rfl rfl rfl (by have := hin_le (sHm s) (sSh s k) x (sNb s); omega) (by omega) (fun c_23 => ?_) (fun c_23 => ?_)
  · refine V.iconst hC 0 dX12_canNestRebuild_30 rfl ?_
    exact hE 31 _ 0 () dX12_canNestRebuild_31 rfl ((qN_y hp_1).trans ((qS_y hf).trans (congrArg (Prod.mk 0) (if_neg (by omega)))))
  · refine V.iconst hC 1 dX12_canNestRebuild_26 rfl ?_
    refine V.goto hC 31 dX12_canNestRebuild_27 rfl ?_
    exact hE 31 _ 1 () dX12_canNestRebuild_31 rfl ((qN_y hp_1).trans ((qS_y hf).trans (congrArg (Prod.mk 0) (if_pos c_23))))

set_option maxHeartbeats 4000000 in
set_option maxRecDepth 100000 in
theorem q_inverse (l : Launch) (G : Gx) (hst : l.stackTraces = false) (fs h h2 h3 hh hr hg hq hl : Nat) (iS eA fA : Int32) (ah as_ : Nat) (rr ra : Nat → Nat) (s : ASt) (B : Nat) (hI : InvA B s) (x : Int32) : CtX l G (SFt G) yX12_inverse wsX12_inverse ({ frames := 6, cells := 1, slots := 6, locals := 82 }) [.ref fs, .int x] ([(fs, .inr (12, [.ref h, .ref h2, .ref h3, .ref hh, .ref hr, .ref hg, .ref hq, .ref hl, .int iS, .int eA, .int fA]))] ++ (stW G h ah as_ rr ra (sHm s) (sNb s) (sNs s) (sLa s) (sLo s) (sNu s) (sTn s) (sSh s))) mkI (fun (r : Int32) (_ : Unit) => qInv x = (0, r)) (fun _ : Unit => ([(fs, .inr (12, [.ref h, .ref h2, .ref h3, .ref hh, .ref hr, .ref hg, .ref hq, .ref hl, .int iS, .int eA, .int fA]))] ++ (stW G h ah as_ rr ra (sHm s) (sNb s) (sNs s) (sLa s) (sLo s) (sNu s) (sTn s) (sSh s)))) (fun (E : String) (_ : Unit) => XE ["java/lang/IllegalArgumentException"] (qInv x) E) (fun _ : Unit => ([(fs, .inr (12, [.ref h, .ref h2, .ref h3, .ref hh, .ref hr, .ref hg, .ref hq, .ref hl, .int iS, .int eA, .int fA]))] ++ (stW G h ah as_ rr ra (sHm s) (sNb s) (sNs s) (sLa s) (sLo s) (sNu s) (sTn s) (sSh s)))) 1 6 := by
  have hb8 := hI.1
  have hs6 := hI.2.1
  refine CtX.ofI (cc := cX12_inverse) (maxL := 2) (by decide) rfl ⟨by simp [Value.category], Nat.le_of_ble_eq_true rfl⟩ ?_
  intro K hl hC hSF hnm hQ hE
  subst hl
  have hgot := SFgoS (SFt.k G) hSF
  have hgo := SFgo.x hgot
  have hSFt := hSF
  replace hSF := hSF.1
  have q0_ : Cond.classLink RX12 209 "java/lang/IllegalArgumentException" ∈ wsX12_inverse := by decide +kernel
  have q1_ : Cond.initialized "java/lang/IllegalArgumentException" ∈ wsX12_inverse := by decide +kernel
  have q2_ : ∀ w ∈ (vx_atS RX12 213 "java/lang/IllegalArgumentException" nm2).filter goodWord, w ∈ wsX12_inverse := by decide +kernel
  show V G K 2 0 0 0 [some (.ref fs), some (.int x)] [] ([(fs, .inr (12, [.ref h, .ref h2, .ref h3, .ref hh, .ref hr, .ref hg, .ref hq, .ref hl, .int iS, .int eA, .int fA]))] ++ (stW G h ah as_ rr ra (sHm s) (sNb s) (sNs s) (sLa s) (sLo s) (sNu s) (sTn s) (sSh s)))
  refine V.iload_n hC (x := x) dX12_inverse_0 rfl ?_
  refine V.iconst hC 1 dX12_inverse_1 rfl ?_
  refine V.icmp_lt hC 11 dX12_inverse_2 rfl (fun c_2 => ?_) (fun c_2 => ?_)
  · exact V.throwS hC hQ hst (text := "the number is out of range") () ⟨0, by decide, qI_n (fun z => z.1 c_2), rfl⟩ rfl thr2_IA hSFt.2.1.1 hSFt.2.1.2.1 (hSFt.msg (211, "the number is out of range") (by decide)) (hSFt.ca _ (by decide)) hSFt.de q0_ q1_ q2_ dX12_inverse_11 dX12_inverse_14 dX12_inverse_15 dX12_inverse_17 dX12_inverse_20 ⟨by decide, by decide, by decide, by decide, by decide, by decide⟩
  · refine V.iload_n hC (x := x) dX12_inverse_5 rfl ?_
    refine V.bipush hC 97 dX12_inverse_6 rfl ?_
    refine V.icmp_lt hC 21 dX12_inverse_8 rfl (fun c_8 => ?_) (fun c_8 => ?_)
    · obtain ⟨n, hn, hxn⟩ := i32_nat (n := 97) (by decide) ⟨fun z => c_2 (Int32.lt_trans z (by decide)), c_8⟩
      have hnx : x.toNatClampNeg = n := by rw [hxn, nI_clamp (by omega)]
      refine V.iload_n hC (x := x) dX12_inverse_21 rfl ?_
      refine V.topeq (nI (x.toNatClampNeg)) (by rw [hnx]; exact hxn) ?_
      refine V.callSr (n := 1) (As := [.int (nI (x.toNatClampNeg))]) (rest := []) hC (c_inverseOf (kl K) G x.toNatClampNeg (by omega)) SFk0 SFgo0 gX12_inverse_X9_inverseOf rfl ⟨rfl, rfl⟩ (by decide +kernel) ⟨by decide, by decide, by decide, by decide⟩ [] rfl (by decide) rfl rfl (Nat.le_of_ble_eq_true rfl) dX12_inverse_22 (fun r_22 u_22 hp_22 => ?_)
      subst hp_22
      show V G K 2 0 0 25 [some (.ref fs), some (.int x)] [.int (nI (inv97 x.toNatClampNeg))] ([(fs, .inr (12, [.ref h, .ref h2, .ref h3, .ref hh, .ref hr, .ref hg, .ref hq, .ref hl, .int iS, .int eA, .int fA]))] ++ (stW G h ah as_ rr ra (sHm s) (sNb s) (sNs s) (sLa s) (sLo s) (sNu s) (sTn s) (sSh s)))
      refine V.widen (k := 1) (n := 6) (Nat.le_of_ble_eq_true rfl) (Nat.le_of_ble_eq_true rfl) ?_
      exact hE 25 _ (nI (inv97 x.toNatClampNeg)) () dX12_inverse_25 rfl (qI_y ⟨c_2, c_8⟩)
    · exact V.throwS hC hQ hst (text := "the number is out of range") () ⟨0, by decide, qI_n (fun z => c_8 z.2), rfl⟩ rfl thr2_IA hSFt.2.1.1 hSFt.2.1.2.1 (hSFt.msg (211, "the number is out of range") (by decide)) (hSFt.ca _ (by decide)) hSFt.de q0_ q1_ q2_ dX12_inverse_11 dX12_inverse_14 dX12_inverse_15 dX12_inverse_17 dX12_inverse_20 ⟨by decide, by decide, by decide, by decide, by decide, by decide⟩
