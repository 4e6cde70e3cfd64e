/-! FeatherShares: save, restore, undo, append, the stored errors (printed by gen/s49.py) -/
set_option maxHeartbeats 4000000 in
set_option maxRecDepth 100000 in
theorem c_save (l : Launch) (G : Gx) (hst : l.stackTraces = false) (fs h h2 h3 hh hr hg hq hl : Nat) (iS eA fA : Int32) (ah as_ : Nat) (rr ra : Nat → Nat) (s : ASt) (B : Nat) (hI : InvA B s) (sa sb_ : Nat) (sr_ sq : Nat → Nat) (Z : ASt) : Ct l G (SFt G) yX12_save wsX12_save ({ frames := 3, cells := 0, slots := 0, locals := 61 }) [.ref fs] ([(fs, .inr (12, [.ref h, .ref h2, .ref h3, .ref hh, .ref hr, .ref hg, .ref hq, .ref hl, .int iS, .int eA, .int fA]))] ++ ((stW G h ah as_ rr ra (sHm s) (sNb s) (sNs s) (sLa s) (sLo s) (sNu s) (sTn s) (sSh s)) ++ (stW G h2 sa sb_ sr_ sq (sHm Z) (sNb Z) (sNs Z) (sLa Z) (sLo Z) (sNu Z) (sTn Z) (sSh Z)))) mkV (fun (_ : Unit) (_ : Unit) => True) (fun _ : Unit => ([(fs, .inr (12, [.ref h, .ref h2, .ref h3, .ref hh, .ref hr, .ref hg, .ref hq, .ref hl, .int 1, .int eA, .int fA]))] ++ ((stW G h ah as_ rr ra (sHm s) (sNb s) (sNs s) (sLa s) (sLo s) (sNu s) (sTn s) (sSh s)) ++ (stW G h2 sa sb_ sr_ sq (sHm s) (sNb s) (sNs s) (sLa s) (sLo s) (sNu s) (sTn s) (sSh s))))) 0 0 := by
  have hb8 := hI.1
  have hs6 := hI.2.1
  refine Ct.ofV (cc := cX12_save) (maxL := 1) (by decide) rfl ⟨by simp [Value.category], Nat.le_of_ble_eq_true rfl⟩ ?_
  intro K hl hC hSF hnm hE
  subst hl
  have hgot := SFgoS (SFt.k G) hSF
  have hgo := SFgo.x hgot
  have hSFt := hSF
  replace hSF := hSF.1
  have q0_ : ∀ w ∈ u_ws RX12 TX12 11, w ∈ wsX12_save := by decide +kernel
  have q1_ : Cond.fieldLink RX12 35 "FeatherShares" "saved" "LFeatherShares$State;" ∈ wsX12_save := by decide +kernel
  have q2_ : Cond.fieldLink RX12 20 "FeatherShares" "state" "LFeatherShares$State;" ∈ wsX12_save := by decide +kernel
  have q3_ : Cond.fieldLink RX12 62 "FeatherShares" "isSaved" "Z" ∈ wsX12_save := by decide +kernel
  show V G K 1 0 0 0 [some (.ref fs)] [] ([(fs, .inr (12, [.ref h, .ref h2, .ref h3, .ref hh, .ref hr, .ref hg, .ref hq, .ref hl, .int iS, .int eA, .int fA]))] ++ ((stW G h ah as_ rr ra (sHm s) (sNb s) (sNs s) (sLa s) (sLo s) (sNu s) (sTn s) (sSh s)) ++ (stW G h2 sa sb_ sr_ sq (sHm Z) (sNb Z) (sNs Z) (sLa Z) (sLo Z) (sNu Z) (sTn Z) (sSh Z))))
  refine V.aload_n hC (x := fs) dX12_save_0 rfl ?_
  refine V.getf hC (T := TX12) q0_ 1 q1_ rfl (0) rfl rfl (by decide) (.ref h2) rfl dX12_save_1 ?_
  refine V.aload_n hC (x := fs) dX12_save_4 rfl ?_
  refine V.getf hC (T := TX12) q0_ 0 q2_ rfl (0) rfl rfl (by decide) (.ref h) rfl dX12_save_5 ?_
  refine V.callV (n := 1) (As := [.ref h]) (rest := []) hC (c_copyFrom (kl K) G h2 sa sb_ sr_ sq (sHm Z) (sNb Z) (sNs Z) (sLa Z) (sLo Z) (sNu Z) (sTn Z) (sSh Z) h ah as_ rr ra (sHm s) (sNb s) (sNs s) (sLa s) (sLo s) (sNu s) (sTn s) (sSh s)) SFk0 SFgo0 gX12_save_X11_copyFrom rfl ⟨rfl, rfl⟩ (by decide +kernel) ⟨by decide, by decide, by decide, by decide⟩ [16, 17, 18, 19, 20, 21, 22, 23, 24, 25, 26, 27, 28, 29, 30, 1, 2, 3, 4, 5, 6, 7, 8, 9, 10, 11, 12, 13, 14, 15] rfl (by decide) (fun _ => Eq.refl [h2, sa, sb_, sr_ 0, sq 0, sr_ 1, sq 1, sr_ 2, sq 2, sr_ 3, sq 3, sr_ 4, sq 4, sr_ 5, sq 5, h, ah, as_, rr 0, ra 0, rr 1, ra 1, rr 2, ra 2, rr 3, ra 3, rr 4, ra 4, rr 5, ra 5]) rfl rfl rfl rfl (Nat.le_of_ble_eq_true rfl) dX12_save_8 (fun r_8 u_8 hp_8 => ?_)
  refine V.eqw (ws' := ([(fs, .inr (12, [.ref h, .ref h2, .ref h3, .ref hh, .ref hr, .ref hg, .ref hq, .ref hl, .int iS, .int eA, .int fA]))] ++ ((stW G h ah as_ rr ra (sHm s) (sNb s) (sNs s) (sLa s) (sLo s) (sNu s) (sTn s) (sSh s)) ++ (stW G h2 sa sb_ sr_ sq (sHm s) (sNb s) (sNs s) (sLa s) (sLo s) (sNu s) (sTn s) (sSh s))))) (rj_by2 [16, 17, 18, 19, 20, 21, 22, 23, 24, 25, 26, 27, 28, 29, 30, 1, 2, 3, 4, 5, 6, 7, 8, 9, 10, 11, 12, 13, 14, 15] [0] 31 rfl rfl (by decide) (by decide) rfl ⟨⟨_, rfl, rfl⟩, trivial⟩) ?_
  show V G K 1 0 0 11 [some (.ref fs)] [] ([(fs, .inr (12, [.ref h, .ref h2, .ref h3, .ref hh, .ref hr, .ref hg, .ref hq, .ref hl, .int iS, .int eA, .int fA]))] ++ ((stW G h ah as_ rr ra (sHm s) (sNb s) (sNs s) (sLa s) (sLo s) (sNu s) (sTn s) (sSh s)) ++ (stW G h2 sa sb_ sr_ sq (sHm s) (sNb s) (sNs s) (sLa s) (sLo s) (sNu s) (sTn s) (sSh s))))
  refine V.aload_n hC (x := fs) dX12_save_11 rfl ?_
  refine V.iconst hC 1 dX12_save_12 rfl ?_
  refine V.putf hC (T := TX12) q0_ tyX12 tyX12_ok nmX12 8 q3_ rfl rfl (0) rfl rfl (by decide) (by simp) rfl rfl dX12_save_13 ([(fs, .inr (12, [.ref h, .ref h2, .ref h3, .ref hh, .ref hr, .ref hg, .ref hq, .ref hl, .int 1, .int eA, .int fA]))] ++ ((stW G h ah as_ rr ra (sHm s) (sNb s) (sNs s) (sLa s) (sLo s) (sNu s) (sTn s) (sSh s)) ++ (stW G h2 sa sb_ sr_ sq (sHm s) (sNb s) (sNs s) (sLa s) (sLo s) (sNu s) (sTn s) (sSh s)))) rfl ?_
  exact hE 16 _ () dX12_save_16 trivial

set_option maxHeartbeats 4000000 in
set_option maxRecDepth 100000 in
theorem c_restore (l : Launch) (G : Gx) (hst : l.stackTraces = false) (fs h h2 h3 hh hr hg hq hl : Nat) (iS eA fA : Int32) (ah as_ : Nat) (rr ra : Nat → Nat) (s : ASt) (B : Nat) (hI : InvA B s) (sa sb_ : Nat) (sr_ sq : Nat → Nat) (Z : ASt) (ht : Nat) (hs : Nat → Nat) (cn nx : Nat) : CtX l G (SFt G) yX12_restore wsX12_restore ({ frames := 6, cells := 1, slots := 6, locals := 82 }) [.ref fs] ([(fs, .inr (12, [.ref h, .ref h2, .ref h3, .ref hh, .ref hr, .ref hg, .ref hq, .ref hl, .int iS, .int eA, .int fA]))] ++ ((stW G h ah as_ rr ra (sHm s) (sNb s) (sNs s) (sLa s) (sLo s) (sNu s) (sTn s) (sSh s)) ++ ((stW G h2 sa sb_ sr_ sq (sHm Z) (sNb Z) (sNs Z) (sLa Z) (sLo Z) (sNu Z) (sTn Z) (sSh Z)) ++ [(hh, .inr (6, [.ref ht, .int (nI cn), .int (nI nx)])), (ht, .inl (gSt G, 8, .inr (.inr (.inr (.inr (fun k => some (hs k)))))))]))) mkV (fun (_ : Unit) (_ : Unit) => ¬ iS = 0) (fun _ : Unit => ([(fs, .inr (12, [.ref h, .ref h2, .ref h3, .ref hh, .ref hr, .ref hg, .ref hq, .ref hl, .int iS, .int eA, .int fA]))] ++ ((stW G h ah as_ rr ra (sHm Z) (sNb Z) (sNs Z) (sLa Z) (sLo Z) (sNu Z) (sTn Z) (sSh Z)) ++ ((stW G h2 sa sb_ sr_ sq (sHm Z) (sNb Z) (sNs Z) (sLa Z) (sLo Z) (sNu Z) (sTn Z) (sSh Z)) ++ [(hh, .inr (6, [.ref ht, .int (nI 0), .int (nI nx)])), (ht, .inl (gSt G, 8, .inr (.inr (.inr (.inr (fun k => some (hs k)))))))])))) (fun (E : String) (_ : Unit) => E = "java/lang/IllegalStateException" ∧ iS = 0) (fun _ : Unit => ([(fs, .inr (12, [.ref h, .ref h2, .ref h3, .ref hh, .ref hr, .ref hg, .ref hq, .ref hl, .int iS, .int eA, .int fA]))] ++ ((stW G h ah as_ rr ra (sHm s) (sNb s) (sNs s) (sLa s) (sLo s) (sNu s) (sTn s) (sSh s)) ++ ((stW G h2 sa sb_ sr_ sq (sHm Z) (sNb Z) (sNs Z) (sLa Z) (sLo Z) (sNu Z) (sTn Z) (sSh Z)) ++ [(hh, .inr (6, [.ref ht, .int (nI cn), .int (nI nx)])), (ht, .inl (gSt G, 8, .inr (.inr (.inr (.inr (fun k => some (hs k)))))))])))) 1 6 := by
  have hb8 := hI.1
  have hs6 := hI.2.1
  refine CtX.ofV (cc := cX12_restore) (maxL := 1) (by decide) rfl ⟨by simp [Value.category], Nat.le_of_ble_eq_true rfl⟩ ?_
  intro K hl hC hSF hnm hQ hE
  subst hl
  have hgot := SFgoS (SFt.k G) hSF
  have hgo := SFgo.x hgot
  have hSFt := hSF
  replace hSF := hSF.1
  have q0_ : ∀ w ∈ u_ws RX12 TX12 11, w ∈ wsX12_restore := by decide +kernel
  have q1_ : Cond.fieldLink RX12 62 "FeatherShares" "isSaved" "Z" ∈ wsX12_restore := by decide +kernel
  have q2_ : Cond.fieldLink RX12 20 "FeatherShares" "state" "LFeatherShares$State;" ∈ wsX12_restore := by decide +kernel
  have q3_ : Cond.fieldLink RX12 35 "FeatherShares" "saved" "LFeatherShares$State;" ∈ wsX12_restore := by decide +kernel
  have q4_ : Cond.fieldLink RX12 44 "FeatherShares" "history" "LFeatherShares$History;" ∈ wsX12_restore := by decide +kernel
  have q5_ : Cond.classLink RX12 165 "java/lang/IllegalStateException" ∈ wsX12_restore := by decide +kernel
  have q6_ : Cond.initialized "java/lang/IllegalStateException" ∈ wsX12_restore := by decide +kernel
  have q7_ : ∀ w ∈ (vx_atS RX12 169 "java/lang/IllegalStateException" nm2).filter goodWord, w ∈ wsX12_restore := by decide +kernel
  show V G K 1 0 0 0 [some (.ref fs)] [] ([(fs, .inr (12, [.ref h, .ref h2, .ref h3, .ref hh, .ref hr, .ref hg, .ref hq, .ref hl, .int iS, .int eA, .int fA]))] ++ ((stW G h ah as_ rr ra (sHm s) (sNb s) (sNs s) (sLa s) (sLo s) (sNu s) (sTn s) (sSh s)) ++ ((stW G h2 sa sb_ sr_ sq (sHm Z) (sNb Z) (sNs Z) (sLa Z) (sLo Z) (sNu Z) (sTn Z) (sSh Z)) ++ [(hh, .inr (6, [.ref ht, .int (nI cn), .int (nI nx)])), (ht, .inl (gSt G, 8, .inr (.inr (.inr (.inr (fun k => some (hs k)))))))])))
  refine V.aload_n hC (x := fs) dX12_restore_0 rfl ?_
  refine V.getf hC (T := TX12) q0_ 8 q1_ rfl (0) rfl rfl (by decide) (.int iS) rfl dX12_restore_1 ?_
  refine V.if_ne hC 18 dX12_restore_4 rfl (fun c_4 => ?_) (fun c_4 => ?_)
  · refine V.aload_n hC (x := fs) dX12_restore_18 rfl ?_
    refine V.getf hC (T := TX12) q0_ 0 q2_ rfl (0) rfl rfl (by decide) (.ref h) rfl dX12_restore_19 ?_
    refine V.aload_n hC (x := fs) dX12_restore_22 rfl ?_
    refine V.getf hC (T := TX12) q0_ 1 q3_ rfl (0) rfl rfl (by decide) (.ref h2) rfl dX12_restore_23 ?_
    refine V.callV (n := 1) (As := [.ref h2]) (rest := []) hC (c_copyFrom (kl K) G h ah as_ rr ra (sHm s) (sNb s) (sNs s) (sLa s) (sLo s) (sNu s) (sTn s) (sSh s) h2 sa sb_ sr_ sq (sHm Z) (sNb Z) (sNs Z) (sLa Z) (sLo Z) (sNu Z) (sTn Z) (sSh Z)) SFk0 SFgo0 gX12_restore_X11_copyFrom rfl ⟨rfl, rfl⟩ (by decide +kernel) ⟨by decide, by decide, by decide, by decide⟩ [1, 2, 3, 4, 5, 6, 7, 8, 9, 10, 11, 12, 13, 14, 15, 16, 17, 18, 19, 20, 21, 22, 23, 24, 25, 26, 27, 28, 29, 30] rfl (by decide) (fun _ => Eq.refl [h, ah, as_, rr 0, ra 0, rr 1, ra 1, rr 2, ra 2, rr 3, ra 3, rr 4, ra 4, rr 5, ra 5, h2, sa, sb_, sr_ 0, sq 0, sr_ 1, sq 1, sr_ 2, sq 2, sr_ 3, sq 3, sr_ 4, sq 4, sr_ 5, sq 5]) rfl rfl rfl rfl (Nat.le_of_ble_eq_true rfl) dX12_restore_26 (fun r_26 u_26 hp_26 => ?_)
    refine V.eqw (ws' := ([(fs, .inr (12, [.ref h, .ref h2, .ref h3, .ref hh, .ref hr, .ref hg, .ref hq, .ref hl, .int iS, .int eA, .int fA]))] ++ ((stW G h ah as_ rr ra (sHm Z) (sNb Z) (sNs Z) (sLa Z) (sLo Z) (sNu Z) (sTn Z) (sSh Z)) ++ ((stW G h2 sa sb_ sr_ sq (sHm Z) (sNb Z) (sNs Z) (sLa Z) (sLo Z) (sNu Z) (sTn Z) (sSh Z)) ++ [(hh, .inr (6, [.ref ht, .int (nI cn), .int (nI nx)])), (ht, .inl (gSt G, 8, .inr (.inr (.inr (.inr (fun k => some (hs k)))))))])))) (rj_by2 [1, 2, 3, 4, 5, 6, 7, 8, 9, 10, 11, 12, 13, 14, 15, 16, 17, 18, 19, 20, 21, 22, 23, 24, 25, 26, 27, 28, 29, 30] [0, 31, 32] 33 rfl rfl (by decide) (by decide) rfl ⟨⟨_, rfl, rfl⟩, ⟨_, rfl, rfl⟩, ⟨_, rfl, rfl⟩, trivial⟩) ?_
    show V G K 1 0 0 29 [some (.ref fs)] [] ([(fs, .inr (12, [.ref h, .ref h2, .ref h3, .ref hh, .ref hr, .ref hg, .ref hq, .ref hl, .int iS, .int eA, .int fA]))] ++ ((stW G h ah as_ rr ra (sHm Z) (sNb Z) (sNs Z) (sLa Z) (sLo Z) (sNu Z) (sTn Z) (sSh Z)) ++ ((stW G h2 sa sb_ sr_ sq (sHm Z) (sNb Z) (sNs Z) (sLa Z) (sLo Z) (sNu Z) (sTn Z) (sSh Z)) ++ [(hh, .inr (6, [.ref ht, .int (nI cn), .int (nI nx)])), (ht, .inl (gSt G, 8, .inr (.inr (.inr (.inr (fun k => some (hs k)))))))])))
    refine V.aload_n hC (x := fs) dX12_restore_29 rfl ?_
    refine V.getf hC (T := TX12) q0_ 3 q4_ rfl (0) rfl rfl (by decide) (.ref hh) rfl dX12_restore_30 ?_
    refine V.callV (n := 0) (As := []) (rest := []) hC (c_histEmpty (kl K) G hh ht hs cn nx) SFk0 SFgo0 gX12_restore_X4_empty rfl ⟨rfl, rfl⟩ (by decide +kernel) ⟨by decide, by decide, by decide, by decide⟩ [31, 32] rfl (by decide) (fun _ => rfl) rfl rfl rfl rfl (Nat.le_of_ble_eq_true rfl) dX12_restore_33 (fun r_33 u_33 hp_33 => ?_)
    show V G K 1 0 0 36 [some (.ref fs)] [] ([(fs, .inr (12, [.ref h, .ref h2, .ref h3, .ref hh, .ref hr, .ref hg, .ref hq, .ref hl, .int iS, .int eA, .int fA]))] ++ ((stW G h ah as_ rr ra (sHm Z) (sNb Z) (sNs Z) (sLa Z) (sLo Z) (sNu Z) (sTn Z) (sSh Z)) ++ ((stW G h2 sa sb_ sr_ sq (sHm Z) (sNb Z) (sNs Z) (sLa Z) (sLo Z) (sNu Z) (sTn Z) (sSh Z)) ++ [(hh, .inr (6, [.ref ht, .int (nI 0), .int (nI nx)])), (ht, .inl (gSt G, 8, .inr (.inr (.inr (.inr (fun k => some (hs k)))))))])))
    refine V.widen (k := 1) (n := 6) (Nat.le_of_ble_eq_true rfl) (Nat.le_of_ble_eq_true rfl) ?_
    exact hE 36 _ () dX12_restore_36 c_4
  · exact V.throwSW hC hQ hst (text := "no state was saved") () ⟨rfl, c_4⟩ rfl thr2_IS hSFt.2.1.1 hSFt.2.1.2.1 (hSFt.msg (305, "no state was saved") (by decide)) (hSFt.ca _ (by decide)) hSFt.de q5_ q6_ q7_ dX12_restore_7 dX12_restore_10 dX12_restore_11 dX12_restore_14 dX12_restore_17 ⟨by decide, by decide, by decide, by decide, by decide, by decide⟩

set_option maxHeartbeats 4000000 in
set_option maxRecDepth 100000 in
theorem c_errorPosition (l : Launch) (G : Gx) (hst : l.stackTraces = false) (fs h h2 h3 hh hr hg hq hl : Nat) (iS eA fA : Int32) : CtX l G (SFt G) yX12_errorPosition wsX12_errorPosition ({ frames := 6, cells := 1, slots := 6, locals := 82 }) [.ref fs] [(fs, .inr (12, [.ref h, .ref h2, .ref h3, .ref hh, .ref hr, .ref hg, .ref hq, .ref hl, .int iS, .int eA, .int fA]))] mkI (fun (r : Int32) (_ : Unit) => ¬ eA = -1 ∧ r = eA) (fun _ : Unit => [(fs, .inr (12, [.ref h, .ref h2, .ref h3, .ref hh, .ref hr, .ref hg, .ref hq, .ref hl, .int iS, .int eA, .int fA]))]) (fun (E : String) (_ : Unit) => E = "java/util/NoSuchElementException" ∧ eA = -1) (fun _ : Unit => [(fs, .inr (12, [.ref h, .ref h2, .ref h3, .ref hh, .ref hr, .ref hg, .ref hq, .ref hl, .int iS, .int eA, .int fA]))]) 1 6 := by
  refine CtX.ofI (cc := cX12_errorPosition) (maxL := 1) (by decide) rfl ⟨by simp [Value.category], Nat.le_of_ble_eq_true rfl⟩ ?_
  intro K hl hC hSF hnm hQ hE
  subst hl
  have hgot := SFgoS (SFt.k G) hSF
  have hgo := SFgo.x hgot
  have hSFt := hSF
  replace hSF := hSF.1
  have q0_ : ∀ w ∈ u_ws RX12 TX12 11, w ∈ wsX12_errorPosition := by decide +kernel
  have q1_ : Cond.fieldLink RX12 66 "FeatherShares" "storedError" "I" ∈ wsX12_errorPosition := by decide +kernel
  have q2_ : Cond.classLink RX12 125 "java/util/NoSuchElementException" ∈ wsX12_errorPosition := by decide +kernel
  have q3_ : Cond.initialized "java/util/NoSuchElementException" ∈ wsX12_errorPosition := by decide +kernel
  have q4_ : ∀ w ∈ (vx_atS RX12 129 "java/util/NoSuchElementException" nm2).filter goodWord, w ∈ wsX12_errorPosition := by decide +kernel
  show V G K 1 0 0 0 [some (.ref fs)] [] [(fs, .inr (12, [.ref h, .ref h2, .ref h3, .ref hh, .ref hr, .ref hg, .ref hq, .ref hl, .int iS, .int eA, .int fA]))]
  refine V.aload_n hC (x := fs) dX12_errorPosition_0 rfl ?_
  refine V.getf hC (T := TX12) q0_ 9 q1_ rfl (0) rfl rfl (by decide) (.int eA) rfl dX12_errorPosition_1 ?_
  refine V.iconst hC (-1) dX12_errorPosition_4 rfl ?_
  refine V.icmp_ne hC 19 dX12_errorPosition_5 rfl (fun c_5 => ?_) (fun c_5 => ?_)
  · refine V.aload_n hC (x := fs) dX12_errorPosition_19 rfl ?_
    refine V.getf hC (T := TX12) q0_ 9 q1_ rfl (0) rfl rfl (by decide) (.int eA) rfl dX12_errorPosition_20 ?_
    refine V.widen (k := 1) (n := 6) (Nat.le_of_ble_eq_true rfl) (Nat.le_of_ble_eq_true rfl) ?_
    exact hE 23 _ eA () dX12_errorPosition_23 rfl ⟨c_5, rfl⟩
  · exact V.throwSW hC hQ hst (text := "no error position was stored") () ⟨rfl, c_5⟩ rfl thr2_NS hSFt.2.1.1 hSFt.2.1.2.1 (hSFt.msg (276, "no error position was stored") (by decide)) (hSFt.ca _ (by decide)) hSFt.de q2_ q3_ q4_ dX12_errorPosition_8 dX12_errorPosition_11 dX12_errorPosition_12 dX12_errorPosition_15 dX12_errorPosition_18 ⟨by decide, by decide, by decide, by decide, by decide, by decide⟩

set_option maxHeartbeats 4000000 in
set_option maxRecDepth 100000 in
theorem c_failedCommand (l : Launch) (G : Gx) (hst : l.stackTraces = false) (fs h h2 h3 hh hr hg hq hl : Nat) (iS eA fA : Int32) : CtX l G (SFt G) yX12_failedCommand wsX12_failedCommand ({ frames := 6, cells := 1, slots := 6, locals := 82 }) [.ref fs] [(fs, .inr (12, [.ref h, .ref h2, .ref h3, .ref hh, .ref hr, .ref hg, .ref hq, .ref hl, .int iS, .int eA, .int fA]))] mkI (fun (r : Int32) (_ : Unit) => ¬ fA = -1 ∧ r = fA) (fun _ : Unit => [(fs, .inr (12, [.ref h, .ref h2, .ref h3, .ref hh, .ref hr, .ref hg, .ref hq, .ref hl, .int iS, .int eA, .int fA]))]) (fun (E : String) (_ : Unit) => E = "java/util/NoSuchElementException" ∧ fA = -1) (fun _ : Unit => [(fs, .inr (12, [.ref h, .ref h2, .ref h3, .ref hh, .ref hr, .ref hg, .ref hq, .ref hl, .int iS, .int eA, .int fA]))]) 1 6 := by
  refine CtX.ofI (cc := cX12_failedCommand) (maxL := 1) (by decide) rfl ⟨by simp [Value.category], Nat.le_of_ble_eq_true rfl⟩ ?_
  intro K hl hC hSF hnm hQ hE
  subst hl
  have hgot := SFgoS (SFt.k G) hSF
  have hgo := SFgo.x hgot
  have hSFt := hSF
  replace hSF := hSF.1
  have q0_ : ∀ w ∈ u_ws RX12 TX12 11, w ∈ wsX12_failedCommand := by decide +kernel
  have q1_ : Cond.fieldLink RX12 70 "FeatherShares" "storedFailure" "I" ∈ wsX12_failedCommand := by decide +kernel
  have q2_ : Cond.classLink RX12 125 "java/util/NoSuchElementException" ∈ wsX12_failedCommand := by decide +kernel
  have q3_ : Cond.initialized "java/util/NoSuchElementException" ∈ wsX12_failedCommand := by decide +kernel
  have q4_ : ∀ w ∈ (vx_atS RX12 129 "java/util/NoSuchElementException" nm2).filter goodWord, w ∈ wsX12_failedCommand := by decide +kernel
  show V G K 1 0 0 0 [some (.ref fs)] [] [(fs, .inr (12, [.ref h, .ref h2, .ref h3, .ref hh, .ref hr, .ref hg, .ref hq, .ref hl, .int iS, .int eA, .int fA]))]
  refine V.aload_n hC (x := fs) dX12_failedCommand_0 rfl ?_
  refine V.getf hC (T := TX12) q0_ 10 q1_ rfl (0) rfl rfl (by decide) (.int fA) rfl dX12_failedCommand_1 ?_
  refine V.iconst hC (-1) dX12_failedCommand_4 rfl ?_
  refine V.icmp_ne hC 19 dX12_failedCommand_5 rfl (fun c_5 => ?_) (fun c_5 => ?_)
  · refine V.aload_n hC (x := fs) dX12_failedCommand_19 rfl ?_
    refine V.getf hC (T := TX12) q0_ 10 q1_ rfl (0) rfl rfl (by decide) (.int fA) rfl dX12_failedCommand_20 ?_
    refine V.widen (k := 1) (n := 6) (Nat.le_of_ble_eq_true rfl) (Nat.le_of_ble_eq_true rfl) ?_
    exact hE 23 _ fA () dX12_failedCommand_23 rfl ⟨c_5, rfl⟩
  · exact V.throwSW hC hQ hst (text := "no failed command was stored") () ⟨rfl, c_5⟩ rfl thr2_NS hSFt.2.1.1 hSFt.2.1.2.1 (hSFt.msg (278, "no failed command was stored") (by decide)) (hSFt.ca _ (by decide)) hSFt.de q2_ q3_ q4_ dX12_failedCommand_8 dX12_failedCommand_11 dX12_failedCommand_12 dX12_failedCommand_15 dX12_failedCommand_18 ⟨by decide, by decide, by decide, by decide, by decide, by decide⟩
