/-! FeatherShares: what asks, without a change (printed by gen/s40.py) -/
/-- what a call answers: 0 and the value, or which of its exceptions, counted from 1 -/
def XE (L : List String) (q : Nat × Int32) (E : String) : Prop := ∃ j, j < L.length ∧ q = (j + 1, 0) ∧ E = L.getD j ""
def qB (s : ASt) (x : Int32) (f : Nat → Nat × Int32) : Nat × Int32 := if ¬ x < 0 ∧ x < nI (sNb s) then f x.toNatClampNeg else (1, 0)
theorem qB_y {s : ASt} {x : Int32} {b : Nat} {f : Nat → Nat × Int32} (h8 : sNb s ≤ 8) (hb : b < sNb s) (hx : x = nI b) : qB s x f = f b := by
  subst hx
  rw [qB, if_pos ⟨nI_nn (by omega), nI_lt hb (by omega)⟩, nI_clamp (by omega)]
theorem qB_n {s : ASt} {x : Int32} {f : Nat → Nat × Int32} (h : ¬ (¬ x < 0 ∧ x < nI (sNb s))) : qB s x f = (1, 0) := if_neg h
def qN (x : Int32) (f : Nat × Int32) : Nat × Int32 := if ¬ x < 0 ∧ x < 4 then f else (1, 0)
theorem qN_y {x : Int32} {f : Nat × Int32} (h : ¬ x < 0 ∧ x < 4) : qN x f = f := if_pos h
theorem qN_n {x : Int32} {f : Nat × Int32} (h : ¬ (¬ x < 0 ∧ x < 4)) : qN x f = (1, 0) := if_neg h
def qS (s : ASt) (x : Int32) (e : Nat) (f : Nat → Nat × Int32) : Nat × Int32 := match fd (sNu s) x (sNs s) with
  | none => (e, 0)
  | some k => f k
theorem qS_y {s : ASt} {x : Int32} {e k : Nat} {f : Nat → Nat × Int32} (h : fd (sNu s) x (sNs s) = some k) : qS s x e f = f k := by rw [qS, h]
theorem qS_n {s : ASt} {x : Int32} {e : Nat} {f : Nat → Nat × Int32} (h : fd (sNu s) x (sNs s) = none) : qS s x e f = (e, 0) := by rw [qS, h]
def qI (c : Prop) [Decidable c] (e : Nat) (v : Int32) : Nat × Int32 := if c then (0, v) else (e, 0)
theorem qI_y {c : Prop} [Decidable c] {e : Nat} {v : Int32} (h : c) : qI c e v = (0, v) := if_pos h
theorem qI_n {c : Prop} [Decidable c] {e : Nat} {v : Int32} (h : ¬ c) : qI c e v = (e, 0) := if_neg h
def qNestOf (s : ASt) (x : Int32) := qB s x (fun b => (0, sHm s b))
def qBirdsIn (s : ASt) (x : Int32) := qN x (0, nI (rsn (sHm s) x (sNb s)))
def qSharesOf (s : ASt) (x : Int32) := qB s x (fun b => (0, nI (ldn (sSh s) b (sNs s))))
def rnkd (s : ASt) (x : Int32) : Nat := (fd (fun z => nI (ahn (fun z => ldn (sSh s) z (sNs s)) (sHm s) z (sNb s))) x (sNb s)).getD 0
def qRank (s : ASt) (x : Int32) := qI (¬ x < 0 ∧ x < nI (sNb s)) 1 (nI (rnkd s x))
def qExists (s : ASt) (x : Int32) : Int32 := if fd (sNu s) x (sNs s) = none then 0 else 1
def qSecAt (s : ASt) (x : Int32) := qI (¬ x < 0 ∧ x < nI (sNs s)) 1 (sNu s x.toNatClampNeg)
def qThr (s : ASt) (x : Int32) := qS s x 1 (fun k => (0, nI (sTn s k)))
def qHolds (s : ASt) (x y : Int32) := qB s x (fun b => qS s y 2 (fun k => (0, if sSh s k b = -1 then 0 else 1)))
def qShare (s : ASt) (x y : Int32) := qB s x (fun b => qS s y 2 (fun k => qI (¬ sSh s k b = -1) 3 (sSh s k b)))
def qHolders (s : ASt) (x : Int32) := qS s x 1 (fun k => (0, nI (hc (sSh s k) 8)))
def qSpare (s : ASt) (x : Int32) := qS s x 1 (fun k => (0, nI (hc (sSh s k) 8) - nI (sTn s k)))
def qCan (s : ASt) (x y : Int32) := qN x (qS s y 2 (fun k => (0, if sTn s k ≤ hin (sHm s) (sSh s k) x (sNb s) then 1 else 0)))
def qReb (s : ASt) (x : Int32) := qS s x 1 (fun k => qI (sTn s k ≤ hc (sSh s k) 8) 2 (nI (lagS (fh (sSh s k) (sTn s k) 8) (svn (sSh s k)) 0)))
def unfA (sh : Nat → Int32) (t : Nat) : Nat := unf (fh sh t 8) (svn sh) (fh sh 8 8) 8
def qUnf (s : ASt) (x : Int32) := qS s x 1 (fun k => qI (sTn s k ≤ hc (sSh s k) 8) 2 (nI (unfA (sSh s k) (sTn s k))))
def qLeast (s : ASt) (x : Int32) := qS s x 1 (fun k => qI (sTn s k ≤ hc (sSh s k) 8) 2 (nI (lstu (fh (sSh s k) 8 8) (sTn s k) (svn (sSh s k)) 256)))
def qPoss (s : ASt) (x y : Int32) := qS s x 1 (fun k => qI (¬ y < 0 ∧ y ≤ nI (hc (sSh s k) 8)) 2 (nI (pvc (sSh s k) (sTn s k) y.toNatClampNeg 97)))
def qInv (x : Int32) := qI (¬ x < 1 ∧ x < 97) 1 (nI (inv97 x.toNatClampNeg))
theorem i32_natLe {x : Int32} {n : Nat} (hn : n < 2 ^ 30) (h : ¬ x < 0 ∧ x ≤ nI n) : ∃ b, b ≤ n ∧ x = nI b := by
  obtain ⟨b, hb, rfl⟩ := i32_nat (x := x) (n := n + 1) (by omega) ⟨h.1, Int32.lt_of_le_of_lt h.2 (nI_lt (Nat.lt_succ_self n) (by omega))⟩
  exact ⟨b, by omega, rfl⟩
set_option maxHeartbeats 4000000 in
set_option maxRecDepth 100000 in
theorem q_birdCount (l : Launch) (G : Gx) (hst : l.stackTraces = false) (fs h h2 h3 hh hr hg hq hl : Nat) (iS eA fA : Int32) (ah as_ : Nat) (rr ra : Nat → Nat) (s : ASt) (B : Nat) (hI : InvA B s) : Ct l G (SFt G) yX12_birdCount wsX12_birdCount ({ frames := 1, cells := 0, slots := 0, locals := 20 }) [.ref fs] ([(fs, .inr (12, [.ref h, .ref h2, .ref h3, .ref hh, .ref hr, .ref hg, .ref hq, .ref hl, .int iS, .int eA, .int fA]))] ++ (stW G h ah as_ rr ra (sHm s) (sNb s) (sNs s) (sLa s) (sLo s) (sNu s) (sTn s) (sSh s))) mkI (fun (r : Int32) (_ : Unit) => r = nI (sNb s)) (fun _ : Unit => ([(fs, .inr (12, [.ref h, .ref h2, .ref h3, .ref hh, .ref hr, .ref hg, .ref hq, .ref hl, .int iS, .int eA, .int fA]))] ++ (stW G h ah as_ rr ra (sHm s) (sNb s) (sNs s) (sLa s) (sLo s) (sNu s) (sTn s) (sSh s)))) 0 0 := by
  have hb8 := hI.1
  have hs6 := hI.2.1
  refine Ct.ofI (cc := cX12_birdCount) (maxL := 1) (by decide) rfl ⟨by simp [Value.category], Nat.le_of_ble_eq_true rfl⟩ ?_
  intro K hl hC hSF hnm hE
  subst hl
  have hgot := SFgoS (SFt.k G) hSF
  have hgo := SFgo.x hgot
  have hSFt := hSF
  replace hSF := hSF.1
  have q0_ : ∀ w ∈ u_ws RX12 TX12 11, w ∈ wsX12_birdCount := by decide +kernel
  have q1_ : Cond.fieldLink RX12 20 "FeatherShares" "state" "LFeatherShares$State;" ∈ wsX12_birdCount := by decide +kernel
  show V G K 1 0 0 0 [some (.ref fs)] [] ([(fs, .inr (12, [.ref h, .ref h2, .ref h3, .ref hh, .ref hr, .ref hg, .ref hq, .ref hl, .int iS, .int eA, .int fA]))] ++ (stW G h ah as_ rr ra (sHm s) (sNb s) (sNs s) (sLa s) (sLo s) (sNu s) (sTn s) (sSh s)))
  refine V.aload_n hC (x := fs) dX12_birdCount_0 rfl ?_
  refine V.getf hC (T := TX12) q0_ 0 q1_ rfl (0) rfl rfl (by decide) (.ref h) rfl dX12_birdCount_1 ?_
  refine V.callVr (n := 0) (As := []) (rest := []) hC (c_birdTally (kl K) G h ah as_ rr ra (sHm s) (sNb s) (sNs s) (sLa s) (sLo s) (sNu s) (sTn s) (sSh s) hb8 hs6) SFk0 SFgo0 gX12_birdCount_X11_birdTally rfl ⟨rfl, rfl⟩ (by decide +kernel) ⟨by decide, by decide, by decide, by decide⟩ [1, 2, 3, 4, 5, 6, 7, 8, 9, 10, 11, 12, 13, 14, 15] rfl (by decide) rfl rfl rfl rfl (Nat.le_of_ble_eq_true rfl) dX12_birdCount_4 (fun r_4 u_4 hp_4 => ?_)
  subst hp_4
  show V G K 1 0 0 7 [some (.ref fs)] [.int (nI (sNb s))] ([(fs, .inr (12, [.ref h, .ref h2, .ref h3, .ref hh, .ref hr, .ref hg, .ref hq, .ref hl, .int iS, .int eA, .int fA]))] ++ (stW G h ah as_ rr ra (sHm s) (sNb s) (sNs s) (sLa s) (sLo s) (sNu s) (sTn s) (sSh s)))
  exact hE 7 _ (nI (sNb s)) () dX12_birdCount_7 rfl rfl

set_option maxHeartbeats 4000000 in
set_option maxRecDepth 100000 in
theorem q_secretCount (l : Launch) (G : Gx) (hst : l.stackTraces = false) (fs h h2 h3 hh hr hg hq hl : Nat) (iS eA fA : Int32) (ah as_ : Nat) (rr ra : Nat → Nat) (s : ASt) (B : Nat) (hI : InvA B s) : Ct l G (SFt G) yX12_secretCount wsX12_secretCount ({ frames := 1, cells := 0, slots := 0, locals := 20 }) [.ref fs] ([(fs, .inr (12, [.ref h, .ref h2, .ref h3, .ref hh, .ref hr, .ref hg, .ref hq, .ref hl, .int iS, .int eA, .int fA]))] ++ (stW G h ah as_ rr ra (sHm s) (sNb s) (sNs s) (sLa s) (sLo s) (sNu s) (sTn s) (sSh s))) mkI (fun (r : Int32) (_ : Unit) => r = nI (sNs s)) (fun _ : Unit => ([(fs, .inr (12, [.ref h, .ref h2, .ref h3, .ref hh, .ref hr, .ref hg, .ref hq, .ref hl, .int iS, .int eA, .int fA]))] ++ (stW G h ah as_ rr ra (sHm s) (sNb s) (sNs s) (sLa s) (sLo s) (sNu s) (sTn s) (sSh s)))) 0 0 := by
  have hb8 := hI.1
  have hs6 := hI.2.1
  refine Ct.ofI (cc := cX12_secretCount) (maxL := 1) (by decide) rfl ⟨by simp [Value.category], Nat.le_of_ble_eq_true rfl⟩ ?_
  intro K hl hC hSF hnm hE
  subst hl
  have hgot := SFgoS (SFt.k G) hSF
  have hgo := SFgo.x hgot
  have hSFt := hSF
  replace hSF := hSF.1
  have q0_ : ∀ w ∈ u_ws RX12 TX12 11, w ∈ wsX12_secretCount := by decide +kernel
  have q1_ : Cond.fieldLink RX12 20 "FeatherShares" "state" "LFeatherShares$State;" ∈ wsX12_secretCount := by decide +kernel
  show V G K 1 0 0 0 [some (.ref fs)] [] ([(fs, .inr (12, [.ref h, .ref h2, .ref h3, .ref hh, .ref hr, .ref hg, .ref hq, .ref hl, .int iS, .int eA, .int fA]))] ++ (stW G h ah as_ rr ra (sHm s) (sNb s) (sNs s) (sLa s) (sLo s) (sNu s) (sTn s) (sSh s)))
  refine V.aload_n hC (x := fs) dX12_secretCount_0 rfl ?_
  refine V.getf hC (T := TX12) q0_ 0 q1_ rfl (0) rfl rfl (by decide) (.ref h) rfl dX12_secretCount_1 ?_
  refine V.callVr (n := 0) (As := []) (rest := []) hC (c_secretTally (kl K) G h ah as_ rr ra (sHm s) (sNb s) (sNs s) (sLa s) (sLo s) (sNu s) (sTn s) (sSh s) hb8 hs6) SFk0 SFgo0 gX12_secretCount_X11_secretTally rfl ⟨rfl, rfl⟩ (by decide +kernel) ⟨by decide, by decide, by decide, by decide⟩ [1, 2, 3, 4, 5, 6, 7, 8, 9, 10, 11, 12, 13, 14, 15] rfl (by decide) rfl rfl rfl rfl (Nat.le_of_ble_eq_true rfl) dX12_secretCount_4 (fun r_4 u_4 hp_4 => ?_)
  subst hp_4
  show V G K 1 0 0 7 [some (.ref fs)] [.int (nI (sNs s))] ([(fs, .inr (12, [.ref h, .ref h2, .ref h3, .ref hh, .ref hr, .ref hg, .ref hq, .ref hl, .int iS, .int eA, .int fA]))] ++ (stW G h ah as_ rr ra (sHm s) (sNb s) (sNs s) (sLa s) (sLo s) (sNu s) (sTn s) (sSh s)))
  exact hE 7 _ (nI (sNs s)) () dX12_secretCount_7 rfl rfl

set_option maxHeartbeats 4000000 in
set_option maxRecDepth 100000 in
theorem q_shareTotal (l : Launch) (G : Gx) (hst : l.stackTraces = false) (fs h h2 h3 hh hr hg hq hl : Nat) (iS eA fA : Int32) (ah as_ : Nat) (rr ra : Nat → Nat) (s : ASt) (B : Nat) (hI : InvA B s) : Ct l G (SFt G) yX12_shareTotal wsX12_shareTotal ({ frames := 3, cells := 0, slots := 0, locals := 67 }) [.ref fs] ([(fs, .inr (12, [.ref h, .ref h2, .ref h3, .ref hh, .ref hr, .ref hg, .ref hq, .ref hl, .int iS, .int eA, .int fA]))] ++ (stW G h ah as_ rr ra (sHm s) (sNb s) (sNs s) (sLa s) (sLo s) (sNu s) (sTn s) (sSh s))) mkI (fun (r : Int32) (_ : Unit) => r = nI (als (fun z => ldn (sSh s) z (sNs s)) (sNb s))) (fun _ : Unit => ([(fs, .inr (12, [.ref h, .ref h2, .ref h3, .ref hh, .ref hr, .ref hg, .ref hq, .ref hl, .int iS, .int eA, .int fA]))] ++ (stW G h ah as_ rr ra (sHm s) (sNb s) (sNs s) (sLa s) (sLo s) (sNu s) (sTn s) (sSh s)))) 0 0 := by
  have hb8 := hI.1
  have hs6 := hI.2.1
  refine Ct.ofI (cc := cX12_shareTotal) (maxL := 1) (by decide) rfl ⟨by simp [Value.category], Nat.le_of_ble_eq_true rfl⟩ ?_
  intro K hl hC hSF hnm hE
  subst hl
  have hgot := SFgoS (SFt.k G) hSF
  have hgo := SFgo.x hgot
  have hSFt := hSF
  replace hSF := hSF.1
  have q0_ : ∀ w ∈ u_ws RX12 TX12 11, w ∈ wsX12_shareTotal := by decide +kernel
  have q1_ : Cond.fieldLink RX12 20 "FeatherShares" "state" "LFeatherShares$State;" ∈ wsX12_shareTotal := by decide +kernel
  show V G K 1 0 0 0 [some (.ref fs)] [] ([(fs, .inr (12, [.ref h, .ref h2, .ref h3, .ref hh, .ref hr, .ref hg, .ref hq, .ref hl, .int iS, .int eA, .int fA]))] ++ (stW G h ah as_ rr ra (sHm s) (sNb s) (sNs s) (sLa s) (sLo s) (sNu s) (sTn s) (sSh s)))
  refine V.aload_n hC (x := fs) dX12_shareTotal_0 rfl ?_
  refine V.getf hC (T := TX12) q0_ 0 q1_ rfl (0) rfl rfl (by decide) (.ref h) rfl dX12_shareTotal_1 ?_
  refine V.callVr (n := 0) (As := []) (rest := []) hC (c_allShares (kl K) G h ah as_ rr ra (sHm s) (sNb s) (sNs s) (sLa s) (sLo s) (sNu s) (sTn s) (sSh s) hb8 hs6) SFk0 SFgo0 gX12_shareTotal_X11_allShares rfl ⟨rfl, rfl⟩ (by decide +kernel) ⟨by decide, by decide, by decide, by decide⟩ [1, 2, 3, 4, 5, 6, 7, 8, 9, 10, 11, 12, 13, 14, 15] rfl (by decide) rfl rfl rfl rfl (Nat.le_of_ble_eq_true rfl) dX12_shareTotal_4 (fun r_4 u_4 hp_4 => ?_)
  subst hp_4
  show V G K 1 0 0 7 [some (.ref fs)] [.int (nI (als (fun z => ldn (sSh s) z (sNs s)) (sNb s)))] ([(fs, .inr (12, [.ref h, .ref h2, .ref h3, .ref hh, .ref hr, .ref hg, .ref hq, .ref hl, .int iS, .int eA, .int fA]))] ++ (stW G h ah as_ rr ra (sHm s) (sNb s) (sNs s) (sLa s) (sLo s) (sNu s) (sTn s) (sSh s)))
  exact hE 7 _ (nI (als (fun z => ldn (sSh s) z (sNs s)) (sNb s))) () dX12_shareTotal_7 rfl rfl

set_option maxHeartbeats 4000000 in
set_option maxRecDepth 100000 in
theorem q_lostTotal (l : Launch) (G : Gx) (hst : l.stackTraces = false) (fs h h2 h3 hh hr hg hq hl : Nat) (iS eA fA : Int32) (ah as_ : Nat) (rr ra : Nat → Nat) (s : ASt) (B : Nat) (hI : InvA B s) : Ct l G (SFt G) yX12_lostTotal wsX12_lostTotal ({ frames := 1, cells := 0, slots := 0, locals := 20 }) [.ref fs] ([(fs, .inr (12, [.ref h, .ref h2, .ref h3, .ref hh, .ref hr, .ref hg, .ref hq, .ref hl, .int iS, .int eA, .int fA]))] ++ (stW G h ah as_ rr ra (sHm s) (sNb s) (sNs s) (sLa s) (sLo s) (sNu s) (sTn s) (sSh s))) mkL (fun (r : Int64) (_ : Unit) => r = sLo s) (fun _ : Unit => ([(fs, .inr (12, [.ref h, .ref h2, .ref h3, .ref hh, .ref hr, .ref hg, .ref hq, .ref hl, .int iS, .int eA, .int fA]))] ++ (stW G h ah as_ rr ra (sHm s) (sNb s) (sNs s) (sLa s) (sLo s) (sNu s) (sTn s) (sSh s)))) 0 0 := by
  have hb8 := hI.1
  have hs6 := hI.2.1
  refine Ct.ofL (cc := cX12_lostTotal) (maxL := 1) (by decide) rfl ⟨by simp [Value.category], Nat.le_of_ble_eq_true rfl⟩ ?_
  intro K hl hC hSF hnm hE
  subst hl
  have hgot := SFgoS (SFt.k G) hSF
  have hgo := SFgo.x hgot
  have hSFt := hSF
  replace hSF := hSF.1
  have q0_ : ∀ w ∈ u_ws RX12 TX12 11, w ∈ wsX12_lostTotal := by decide +kernel
  have q1_ : Cond.fieldLink RX12 20 "FeatherShares" "state" "LFeatherShares$State;" ∈ wsX12_lostTotal := by decide +kernel
  show V G K 1 0 0 0 [some (.ref fs)] [] ([(fs, .inr (12, [.ref h, .ref h2, .ref h3, .ref hh, .ref hr, .ref hg, .ref hq, .ref hl, .int iS, .int eA, .int fA]))] ++ (stW G h ah as_ rr ra (sHm s) (sNb s) (sNs s) (sLa s) (sLo s) (sNu s) (sTn s) (sSh s)))
  refine V.aload_n hC (x := fs) dX12_lostTotal_0 rfl ?_
  refine V.getf hC (T := TX12) q0_ 0 q1_ rfl (0) rfl rfl (by decide) (.ref h) rfl dX12_lostTotal_1 ?_
  refine V.callVr (n := 0) (As := []) (rest := []) hC (c_lossTally (kl K) G h ah as_ rr ra (sHm s) (sNb s) (sNs s) (sLa s) (sLo s) (sNu s) (sTn s) (sSh s) hb8 hs6) SFk0 SFgo0 gX12_lostTotal_X11_lossTally rfl ⟨rfl, rfl⟩ (by decide +kernel) ⟨by decide, by decide, by decide, by decide⟩ [1, 2, 3, 4, 5, 6, 7, 8, 9, 10, 11, 12, 13, 14, 15] rfl (by decide) rfl rfl rfl rfl (Nat.le_of_ble_eq_true rfl) dX12_lostTotal_4 (fun r_4 u_4 hp_4 => ?_)
  subst hp_4
  show V G K 1 0 0 7 [some (.ref fs)] [.long (sLo s)] ([(fs, .inr (12, [.ref h, .ref h2, .ref h3, .ref hh, .ref hr, .ref hg, .ref hq, .ref hl, .int iS, .int eA, .int fA]))] ++ (stW G h ah as_ rr ra (sHm s) (sNb s) (sNs s) (sLa s) (sLo s) (sNu s) (sTn s) (sSh s)))
  exact hE 7 _ (sLo s) () dX12_lostTotal_7 rfl

set_option maxHeartbeats 4000000 in
set_option maxRecDepth 100000 in
theorem q_nestOf (l : Launch) (G : Gx) (hst : l.stackTraces = false) (fs h h2 h3 hh hr hg hq hl : Nat) (iS eA fA : Int32) (ah as_ : Nat) (rr ra : Nat → Nat) (s : ASt) (B : Nat) (hI : InvA B s) (x : Int32) : CtX l G (SFt G) yX12_nestOf wsX12_nestOf ({ frames := 7, cells := 1, slots := 6, locals := 103 }) [.ref fs, .int x] ([(fs, .inr (12, [.ref h, .ref h2, .ref h3, .ref hh, .ref hr, .ref hg, .ref hq, .ref hl, .int iS, .int eA, .int fA]))] ++ (stW G h ah as_ rr ra (sHm s) (sNb s) (sNs s) (sLa s) (sLo s) (sNu s) (sTn s) (sSh s))) mkI (fun (r : Int32) (_ : Unit) => qNestOf s x = (0, r)) (fun _ : Unit => ([(fs, .inr (12, [.ref h, .ref h2, .ref h3, .ref hh, .ref hr, .ref hg, .ref hq, .ref hl, .int iS, .int eA, .int fA]))] ++ (stW G h ah as_ rr ra (sHm s) (sNb s) (sNs s) (sLa s) (sLo s) (sNu s) (sTn s) (sSh s)))) (fun (E : String) (_ : Unit) => XE ["java/lang/IndexOutOfBoundsException"] (qNestOf s x) E) (fun _ : Unit => ([(fs, .inr (12, [.ref h, .ref h2, .ref h3, .ref hh, .ref hr, .ref hg, .ref hq, .ref hl, .int iS, .int eA, .int fA]))] ++ (stW G h ah as_ rr ra (sHm s) (sNb s) (sNs s) (sLa s) (sLo s) (sNu s) (sTn s) (sSh s)))) 1 6 := by
  have hb8 := hI.1
  have hs6 := hI.2.1
  refine CtX.ofI (cc := cX12_nestOf) (maxL := 2) (by decide) rfl ⟨by simp [Value.category], Nat.le_of_ble_eq_true rfl⟩ ?_
  intro K hl hC hSF hnm hQ hE
  subst hl
  have hgot := SFgoS (SFt.k G) hSF
  have hgo := SFgo.x hgot
  have hSFt := hSF
  replace hSF := hSF.1
  have q0_ : ∀ w ∈ u_ws RX12 TX12 11, w ∈ wsX12_nestOf := by decide +kernel
  have q1_ : Cond.fieldLink RX12 20 "FeatherShares" "state" "LFeatherShares$State;" ∈ wsX12_nestOf := by decide +kernel
  show V G K 2 0 0 0 [some (.ref fs), some (.int x)] [] ([(fs, .inr (12, [.ref h, .ref h2, .ref h3, .ref hh, .ref hr, .ref hg, .ref hq, .ref hl, .int iS, .int eA, .int fA]))] ++ (stW G h ah as_ rr ra (sHm s) (sNb s) (sNs s) (sLa s) (sLo s) (sNu s) (sTn s) (sSh s)))
  refine V.aload_n hC (x := fs) dX12_nestOf_0 rfl ?_
  refine V.iload_n hC (x := x) dX12_nestOf_1 rfl ?_
  refine V.callVXr (n := 1) (As := [.int x]) (rest := []) hC (c_requireBird (kl K) G hst fs h h2 h3 hh hr hg hq hl iS eA fA ah as_ rr ra s B hI x) (SFt.k G) hgot gX12_nestOf_X12_requireBird rfl ⟨rfl, rfl⟩ (by decide +kernel) ⟨by decide, by decide, by decide, by decide⟩ [0, 1, 2, 3, 4, 5, 6, 7, 8, 9, 10, 11, 12, 13, 14, 15] rfl (by decide) rfl rfl rfl rfl (Nat.le_of_ble_eq_true rfl) dX12_nestOf_2 (fun E_ u_ hx_ => VX.out hC hQ () ⟨0, by decide, qB_n hx_.2, hx_.1⟩ rfl (Nat.le_of_ble_eq_true rfl) (Nat.le_of_ble_eq_true rfl)) (fun r_2 u_2 hp_2 => ?_)
  obtain ⟨b, hb, hxb⟩ := i32_nat (by omega) hp_2
  refine V.lset 1 (x := .int x) (y := .int (nI b)) (congrArg Value.int hxb) rfl (lv' := [some (.ref fs), some (.int (nI b))]) rfl ?_
  show V G K 2 1 6 5 [some (.ref fs), some (.int (nI b))] [] ([(fs, .inr (12, [.ref h, .ref h2, .ref h3, .ref hh, .ref hr, .ref hg, .ref hq, .ref hl, .int iS, .int eA, .int fA]))] ++ (stW G h ah as_ rr ra (sHm s) (sNb s) (sNs s) (sLa s) (sLo s) (sNu s) (sTn s) (sSh s)))
  refine V.aload_n hC (x := fs) dX12_nestOf_5 rfl ?_
  refine V.getf hC (T := TX12) q0_ 0 q1_ rfl (0) rfl rfl (by decide) (.ref h) rfl dX12_nestOf_6 ?_
  refine V.iload_n hC (x := nI b) dX12_nestOf_9 rfl ?_
  refine V.callVr (n := 1) (As := [.int (nI b)]) (rest := []) hC (c_homeOf (kl K) G h ah as_ rr ra (sHm s) (sNb s) (sNs s) (sLa s) (sLo s) (sNu s) (sTn s) (sSh s) hb8 hs6 b (by omega)) SFk0 SFgo0 gX12_nestOf_X11_homeOf rfl ⟨rfl, rfl⟩ (by decide +kernel) ⟨by decide, by decide, by decide, by decide⟩ [1, 2, 3, 4, 5, 6, 7, 8, 9, 10, 11, 12, 13, 14, 15] rfl (by decide) rfl rfl rfl rfl (Nat.le_of_ble_eq_true rfl) dX12_nestOf_10 (fun r_10 u_10 hp_10 => ?_)
  subst hp_10
  show V G K 2 1 6 13 [some (.ref fs), some (.int (nI b))] [.int (sHm s b)] ([(fs, .inr (12, [.ref h, .ref h2, .ref h3, .ref hh, .ref hr, .ref hg, .ref hq, .ref hl, .int iS, .int eA, .int fA]))] ++ (stW G h ah as_ rr ra (sHm s) (sNb s) (sNs s) (sLa s) (sLo s) (sNu s) (sTn s) (sSh s)))
  exact hE 13 _ (sHm s b) () dX12_nestOf_13 rfl (qB_y hI.1 hb hxb)

set_option maxHeartbeats 4000000 in
set_option maxRecDepth 100000 in
theorem q_birdsIn (l : Launch) (G : Gx) (hst : l.stackTraces = false) (fs h h2 h3 hh hr hg hq hl : Nat) (iS eA fA : Int32) (ah as_ : Nat) (rr ra : Nat → Nat) (s : ASt) (B : Nat) (hI : InvA B s) (x : Int32) : CtX l G (SFt G) yX12_birdsIn wsX12_birdsIn ({ frames := 7, cells := 1, slots := 6, locals := 102 }) [.ref fs, .int x] ([(fs, .inr (12, [.ref h, .ref h2, .ref h3, .ref hh, .ref hr, .ref hg, .ref hq, .ref hl, .int iS, .int eA, .int fA]))] ++ (stW G h ah as_ rr ra (sHm s) (sNb s) (sNs s) (sLa s) (sLo s) (sNu s) (sTn s) (sSh s))) mkI (fun (r : Int32) (_ : Unit) => qBirdsIn s x = (0, r)) (fun _ : Unit => ([(fs, .inr (12, [.ref h, .ref h2, .ref h3, .ref hh, .ref hr, .ref hg, .ref hq, .ref hl, .int iS, .int eA, .int fA]))] ++ (stW G h ah as_ rr ra (sHm s) (sNb s) (sNs s) (sLa s) (sLo s) (sNu s) (sTn s) (sSh s)))) (fun (E : String) (_ : Unit) => XE ["java/lang/IllegalArgumentException"] (qBirdsIn s x) E) (fun _ : Unit => ([(fs, .inr (12, [.ref h, .ref h2, .ref h3, .ref hh, .ref hr, .ref hg, .ref hq, .ref hl, .int iS, .int eA, .int fA]))] ++ (stW G h ah as_ rr ra (sHm s) (sNb s) (sNs s) (sLa s) (sLo s) (sNu s) (sTn s) (sSh s)))) 1 6 := by
  have hb8 := hI.1
  have hs6 := hI.2.1
  refine CtX.ofI (cc := cX12_birdsIn) (maxL := 2) (by decide) rfl ⟨by simp [Value.category], Nat.le_of_ble_eq_true rfl⟩ ?_
  intro K hl hC hSF hnm hQ hE
  subst hl
  have hgot := SFgoS (SFt.k G) hSF
  have hgo := SFgo.x hgot
  have hSFt := hSF
  replace hSF := hSF.1
  have q0_ : ∀ w ∈ u_ws RX12 TX12 11, w ∈ wsX12_birdsIn := by decide +kernel
  have q1_ : Cond.fieldLink RX12 20 "FeatherShares" "state" "LFeatherShares$State;" ∈ wsX12_birdsIn := by decide +kernel
  show V G K 2 0 0 0 [some (.ref fs), some (.int x)] [] ([(fs, .inr (12, [.ref h, .ref h2, .ref h3, .ref hh, .ref hr, .ref hg, .ref hq, .ref hl, .int iS, .int eA, .int fA]))] ++ (stW G h ah as_ rr ra (sHm s) (sNb s) (sNs s) (sLa s) (sLo s) (sNu s) (sTn s) (sSh s)))
  refine V.iload_n hC (x := x) dX12_birdsIn_0 rfl ?_
  refine V.callSXr (n := 1) (As := [.int x]) (rest := []) hC (c_requireNest (kl K) G hst x) (SFt.k G) hgot gX12_birdsIn_X12_requireNest rfl ⟨rfl, rfl⟩ (by decide +kernel) ⟨by decide, by decide, by decide, by decide⟩ [] rfl (by decide) rfl rfl (Nat.le_of_ble_eq_true rfl) dX12_birdsIn_1 (fun E_ u_ hx_ => VX.out hC hQ () ⟨0, by decide, qN_n hx_.2, hx_.1⟩ rfl (Nat.le_of_ble_eq_true rfl) (Nat.le_of_ble_eq_true rfl)) (fun r_1 u_1 hp_1 => ?_)
  show V G K 2 1 6 4 [some (.ref fs), some (.int x)] [] ([(fs, .inr (12, [.ref h, .ref h2, .ref h3, .ref hh, .ref hr, .ref hg, .ref hq, .ref hl, .int iS, .int eA, .int fA]))] ++ (stW G h ah as_ rr ra (sHm s) (sNb s) (sNs s) (sLa s) (sLo s) (sNu s) (sTn s) (sSh s)))
  refine V.aload_n hC (x := fs) dX12_birdsIn_4 rfl ?_
  refine V.getf hC (T := TX12) q0_ 0 q1_ rfl (0) rfl rfl (by decide) (.ref h) rfl dX12_birdsIn_5 ?_
  refine V.iload_n hC (x := x) dX12_birdsIn_8 rfl ?_
  refine V.callVr (n := 1) (As := [.int x]) (rest := []) hC (c_residentsOf (kl K) G h ah as_ rr ra (sHm s) (sNb s) (sNs s) (sLa s) (sLo s) (sNu s) (sTn s) (sSh s) hb8 hs6 x) SFk0 SFgo0 gX12_birdsIn_X11_residentsOf rfl ⟨rfl, rfl⟩ (by decide +kernel) ⟨by decide, by decide, by decide, by decide⟩ [1, 2, 3, 4, 5, 6, 7, 8, 9, 10, 11, 12, 13, 14, 15] rfl (by decide) rfl rfl rfl rfl (Nat.le_of_ble_eq_true rfl) dX12_birdsIn_9 (fun r_9 u_9 hp_9 => ?_)
  subst hp_9
  show V G K 2 1 6 12 [some (.ref fs), some (.int x)] [.int (nI (rsn (sHm s) x (sNb s)))] ([(fs, .inr (12, [.ref h, .ref h2, .ref h3, .ref hh, .ref hr, .ref hg, .ref hq, .ref hl, .int iS, .int eA, .int fA]))] ++ (stW G h ah as_ rr ra (sHm s) (sNb s) (sNs s) (sLa s) (sLo s) (sNu s) (sTn s) (sSh s)))
  exact hE 12 _ (nI (rsn (sHm s) x (sNb s))) () dX12_birdsIn_12 rfl (qN_y hp_1)

set_option maxHeartbeats 4000000 in
set_option maxRecDepth 100000 in
theorem q_sharesOf (l : Launch) (G : Gx) (hst : l.stackTraces = false) (fs h h2 h3 hh hr hg hq hl : Nat) (iS eA fA : Int32) (ah as_ : Nat) (rr ra : Nat → Nat) (s : ASt) (B : Nat) (hI : InvA B s) (x : Int32) : CtX l G (SFt G) yX12_sharesOf wsX12_sharesOf ({ frames := 7, cells := 1, slots := 6, locals := 103 }) [.ref fs, .int x] ([(fs, .inr (12, [.ref h, .ref h2, .ref h3, .ref hh, .ref hr, .ref hg, .ref hq, .ref hl, .int iS, .int eA, .int fA]))] ++ (stW G h ah as_ rr ra (sHm s) (sNb s) (sNs s) (sLa s) (sLo s) (sNu s) (sTn s) (sSh s))) mkI (fun (r : Int32) (_ : Unit) => qSharesOf s x = (0, r)) (fun _ : Unit => ([(fs, .inr (12, [.ref h, .ref h2, .ref h3, .ref hh, .ref hr, .ref hg, .ref hq, .ref hl, .int iS, .int eA, .int fA]))] ++ (stW G h ah as_ rr ra (sHm s) (sNb s) (sNs s) (sLa s) (sLo s) (sNu s) (sTn s) (sSh s)))) (fun (E : String) (_ : Unit) => XE ["java/lang/IndexOutOfBoundsException"] (qSharesOf s x) E) (fun _ : Unit => ([(fs, .inr (12, [.ref h, .ref h2, .ref h3, .ref hh, .ref hr, .ref hg, .ref hq, .ref hl, .int iS, .int eA, .int fA]))] ++ (stW G h ah as_ rr ra (sHm s) (sNb s) (sNs s) (sLa s) (sLo s) (sNu s) (sTn s) (sSh s)))) 1 6 := by
  have hb8 := hI.1
  have hs6 := hI.2.1
  refine CtX.ofI (cc := cX12_sharesOf) (maxL := 2) (by decide) rfl ⟨by simp [Value.category], Nat.le_of_ble_eq_true rfl⟩ ?_
  intro K hl hC hSF hnm hQ hE
  subst hl
  have hgot := SFgoS (SFt.k G) hSF
  have hgo := SFgo.x hgot
  have hSFt := hSF
  replace hSF := hSF.1
  have q0_ : ∀ w ∈ u_ws RX12 TX12 11, w ∈ wsX12_sharesOf := by decide +kernel
  have q1_ : Cond.fieldLink RX12 20 "FeatherShares" "state" "LFeatherShares$State;" ∈ wsX12_sharesOf := by decide +kernel
  show V G K 2 0 0 0 [some (.ref fs), some (.int x)] [] ([(fs, .inr (12, [.ref h, .ref h2, .ref h3, .ref hh, .ref hr, .ref hg, .ref hq, .ref hl, .int iS, .int eA, .int fA]))] ++ (stW G h ah as_ rr ra (sHm s) (sNb s) (sNs s) (sLa s) (sLo s) (sNu s) (sTn s) (sSh s)))
  refine V.aload_n hC (x := fs) dX12_sharesOf_0 rfl ?_
  refine V.iload_n hC (x := x) dX12_sharesOf_1 rfl ?_
  refine V.callVXr (n := 1) (As := [.int x]) (rest := []) hC (c_requireBird (kl K) G hst fs h h2 h3 hh hr hg hq hl iS eA fA ah as_ rr ra s B hI x) (SFt.k G) hgot gX12_sharesOf_X12_requireBird rfl ⟨rfl, rfl⟩ (by decide +kernel) ⟨by decide, by decide, by decide, by decide⟩ [0, 1, 2, 3, 4, 5, 6, 7, 8, 9, 10, 11, 12, 13, 14, 15] rfl (by decide) rfl rfl rfl rfl (Nat.le_of_ble_eq_true rfl) dX12_sharesOf_2 (fun E_ u_ hx_ => VX.out hC hQ () ⟨0, by decide, qB_n hx_.2, hx_.1⟩ rfl (Nat.le_of_ble_eq_true rfl) (Nat.le_of_ble_eq_true rfl)) (fun r_2 u_2 hp_2 => ?_)
  obtain ⟨b, hb, hxb⟩ := i32_nat (by omega) hp_2
  refine V.lset 1 (x := .int x) (y := .int (nI b)) (congrArg Value.int hxb) rfl (lv' := [some (.ref fs), some (.int (nI b))]) rfl ?_
  show V G K 2 1 6 5 [some (.ref fs), some (.int (nI b))] [] ([(fs, .inr (12, [.ref h, .ref h2, .ref h3, .ref hh, .ref hr, .ref hg, .ref hq, .ref hl, .int iS, .int eA, .int fA]))] ++ (stW G h ah as_ rr ra (sHm s) (sNb s) (sNs s) (sLa s) (sLo s) (sNu s) (sTn s) (sSh s)))
  refine V.aload_n hC (x := fs) dX12_sharesOf_5 rfl ?_
  refine V.getf hC (T := TX12) q0_ 0 q1_ rfl (0) rfl rfl (by decide) (.ref h) rfl dX12_sharesOf_6 ?_
  refine V.iload_n hC (x := nI b) dX12_sharesOf_9 rfl ?_
  refine V.callVr (n := 1) (As := [.int (nI b)]) (rest := []) hC (c_loadOf (kl K) G h ah as_ rr ra (sHm s) (sNb s) (sNs s) (sLa s) (sLo s) (sNu s) (sTn s) (sSh s) hb8 hs6 b (by omega)) SFk0 SFgo0 gX12_sharesOf_X11_loadOf rfl ⟨rfl, rfl⟩ (by decide +kernel) ⟨by decide, by decide, by decide, by decide⟩ [1, 2, 3, 4, 5, 6, 7, 8, 9, 10, 11, 12, 13, 14, 15] rfl (by decide) rfl rfl rfl rfl (Nat.le_of_ble_eq_true rfl) dX12_sharesOf_10 (fun r_10 u_10 hp_10 => ?_)
  subst hp_10
  show V G K 2 1 6 13 [some (.ref fs), some (.int (nI b))] [.int (nI (ldn (sSh s) b (sNs s)))] ([(fs, .inr (12, [.ref h, .ref h2, .ref h3, .ref hh, .ref hr, .ref hg, .ref hq, .ref hl, .int iS, .int eA, .int fA]))] ++ (stW G h ah as_ rr ra (sHm s) (sNb s) (sNs s) (sLa s) (sLo s) (sNu s) (sTn s) (sSh s)))
  exact hE 13 _ (nI (ldn (sSh s) b (sNs s))) () dX12_sharesOf_13 rfl (qB_y hI.1 hb hxb)

set_option maxHeartbeats 4000000 in
set_option maxRecDepth 100000 in
theorem q_birdAtRank (l : Launch) (G : Gx) (hst : l.stackTraces = false) (fs h h2 h3 hh hr hg hq hl : Nat) (iS eA fA : Int32) (ah as_ : Nat) (rr ra : Nat → Nat) (s : ASt) (B : Nat) (hI : InvA B s) (x : Int32) : CtX l G (SFt G) yX12_birdAtRank wsX12_birdAtRank ({ frames := 6, cells := 1, slots := 6, locals := 114 }) [.ref fs, .int x] ([(fs, .inr (12, [.ref h, .ref h2, .ref h3, .ref hh, .ref hr, .ref hg, .ref hq, .ref hl, .int iS, .int eA, .int fA]))] ++ (stW G h ah as_ rr ra (sHm s) (sNb s) (sNs s) (sLa s) (sLo s) (sNu s) (sTn s) (sSh s))) mkI (fun (r : Int32) (_ : Unit) => qRank s x = (0, r)) (fun _ : Unit => ([(fs, .inr (12, [.ref h, .ref h2, .ref h3, .ref hh, .ref hr, .ref hg, .ref hq, .ref hl, .int iS, .int eA, .int fA]))] ++ (stW G h ah as_ rr ra (sHm s) (sNb s) (sNs s) (sLa s) (sLo s) (sNu s) (sTn s) (sSh s)))) (fun (E : String) (_ : Unit) => XE ["java/util/NoSuchElementException"] (qRank s x) E) (fun _ : Unit => ([(fs, .inr (12, [.ref h, .ref h2, .ref h3, .ref hh, .ref hr, .ref hg, .ref hq, .ref hl, .int iS, .int eA, .int fA]))] ++ (stW G h ah as_ rr ra (sHm s) (sNb s) (sNs s) (sLa s) (sLo s) (sNu s) (sTn s) (sSh s)))) 1 6 := by
  have hb8 := hI.1
  have hs6 := hI.2.1
  refine CtX.ofI (cc := cX12_birdAtRank) (maxL := 2) (by decide) rfl ⟨by simp [Value.category], Nat.le_of_ble_eq_true rfl⟩ ?_
  intro K hl hC hSF hnm hQ hE
  subst hl
  have hgot := SFgoS (SFt.k G) hSF
  have hgo := SFgo.x hgot
  have hSFt := hSF
  replace hSF := hSF.1
  have q0_ : Cond.classLink RX12 125 "java/util/NoSuchElementException" ∈ wsX12_birdAtRank := by decide +kernel
  have q1_ : Cond.initialized "java/util/NoSuchElementException" ∈ wsX12_birdAtRank := by decide +kernel
  have q2_ : ∀ w ∈ (vx_atS RX12 129 "java/util/NoSuchElementException" nm2).filter goodWord, w ∈ wsX12_birdAtRank := by decide +kernel
  have q3_ : ∀ w ∈ u_ws RX12 TX12 11, w ∈ wsX12_birdAtRank := by decide +kernel
  have q4_ : Cond.fieldLink RX12 20 "FeatherShares" "state" "LFeatherShares$State;" ∈ wsX12_birdAtRank := by decide +kernel
  show V G K 2 0 0 0 [some (.ref fs), some (.int x)] [] ([(fs, .inr (12, [.ref h, .ref h2, .ref h3, .ref hh, .ref hr, .ref hg, .ref hq, .ref hl, .int iS, .int eA, .int fA]))] ++ (stW G h ah as_ rr ra (sHm s) (sNb s) (sNs s) (sLa s) (sLo s) (sNu s) (sTn s) (sSh s)))
  refine V.iload_n hC (x := x) dX12_birdAtRank_0 rfl ?_
  refine V.if_lt hC 15 dX12_birdAtRank_1 rfl (fun c_1 => ?_) (fun c_1 => ?_)
  · exact V.throwS hC hQ hst (text := "no bird has this rank") () ⟨0, by decide, qI_n (fun z => z.1 c_1), rfl⟩ rfl thr2_NS hSFt.2.1.1 hSFt.2.1.2.1 (hSFt.msg (127, "no bird has this rank") (by decide)) (hSFt.ca _ (by decide)) hSFt.de q0_ q1_ q2_ dX12_birdAtRank_15 dX12_birdAtRank_18 dX12_birdAtRank_19 dX12_birdAtRank_21 dX12_birdAtRank_24 ⟨by decide, by decide, by decide, by decide, by decide, by decide⟩
  · refine V.iload_n hC (x := x) dX12_birdAtRank_4 rfl ?_
    refine V.aload_n hC (x := fs) dX12_birdAtRank_5 rfl ?_
    refine V.getf hC (T := TX12) q3_ 0 q4_ rfl (0) rfl rfl (by decide) (.ref h) rfl dX12_birdAtRank_6 ?_
    refine V.callVr (n := 0) (As := []) (rest := [.int x]) hC (c_birdTally (kl K) G h ah as_ rr ra (sHm s) (sNb s) (sNs s) (sLa s) (sLo s) (sNu s) (sTn s) (sSh s) hb8 hs6) SFk0 SFgo0 gX12_birdAtRank_X11_birdTally rfl ⟨rfl, rfl⟩ (by decide +kernel) ⟨by decide, by decide, by decide, by decide⟩ [1, 2, 3, 4, 5, 6, 7, 8, 9, 10, 11, 12, 13, 14, 15] rfl (by decide) rfl rfl rfl rfl (Nat.le_of_ble_eq_true rfl) dX12_birdAtRank_9 (fun r_9 u_9 hp_9 => ?_)
    subst hp_9
    show V G K 2 0 0 12 [some (.ref fs), some (.int x)] [.int (nI (sNb s)), .int x] ([(fs, .inr (12, [.ref h, .ref h2, .ref h3, .ref hh, .ref hr, .ref hg, .ref hq, .ref hl, .int iS, .int eA, .int fA]))] ++ (stW G h ah as_ rr ra (sHm s) (sNb s) (sNs s) (sLa s) (sLo s) (sNu s) (sTn s) (sSh s)))
    refine V.icmp_lt hC 25 dX12_birdAtRank_12 rfl (fun c_12 => ?_) (fun c_12 => ?_)
    · refine V.aload_n hC (x := fs) dX12_birdAtRank_25 rfl ?_
      refine V.getf hC (T := TX12) q3_ 0 q4_ rfl (0) rfl rfl (by decide) (.ref h) rfl dX12_birdAtRank_26 ?_
      refine V.iload_n hC (x := x) dX12_birdAtRank_29 rfl ?_
      refine V.callVr (n := 1) (As := [.int x]) (rest := []) hC (c_birdRanked (kl K) G h ah as_ rr ra (sHm s) (sNb s) (sNs s) (sLa s) (sLo s) (sNu s) (sTn s) (sSh s) hb8 hs6 x) SFk0 SFgo0 gX12_birdAtRank_X11_birdRanked rfl ⟨rfl, rfl⟩ (by decide +kernel) ⟨by decide, by decide, by decide, by decide⟩ [1, 2, 3, 4, 5, 6, 7, 8, 9, 10, 11, 12, 13, 14, 15] rfl (by decide) rfl rfl rfl rfl (Nat.le_of_ble_eq_true rfl) dX12_birdAtRank_30 (fun r_30 u_30 hp_30 => ?_)
      subst hp_30
      show V G K 2 0 0 33 [some (.ref fs), some (.int x)] [.int (nI (rnkd s x))] ([(fs, .inr (12, [.ref h, .ref h2, .ref h3, .ref hh, .ref hr, .ref hg, .ref hq, .ref hl, .int iS, .int eA, .int fA]))] ++ (stW G h ah as_ rr ra (sHm s) (sNb s) (sNs s) (sLa s) (sLo s) (sNu s) (sTn s) (sSh s)))
      refine V.widen (k := 1) (n := 6) (Nat.le_of_ble_eq_true rfl) (Nat.le_of_ble_eq_true rfl) ?_
      exact hE 33 _ (nI (rnkd s x)) () dX12_birdAtRank_33 rfl (qI_y ⟨c_1, c_12⟩)
    · exact V.throwS hC hQ hst (text := "no bird has this rank") () ⟨0, by decide, qI_n (fun z => c_12 z.2), rfl⟩ rfl thr2_NS hSFt.2.1.1 hSFt.2.1.2.1 (hSFt.msg (127, "no bird has this rank") (by decide)) (hSFt.ca _ (by decide)) hSFt.de q0_ q1_ q2_ dX12_birdAtRank_15 dX12_birdAtRank_18 dX12_birdAtRank_19 dX12_birdAtRank_21 dX12_birdAtRank_24 ⟨by decide, by decide, by decide, by decide, by decide, by decide⟩

set_option maxHeartbeats 4000000 in
set_option maxRecDepth 100000 in
theorem q_exists (l : Launch) (G : Gx) (hst : l.stackTraces = false) (fs h h2 h3 hh hr hg hq hl : Nat) (iS eA fA : Int32) (ah as_ : Nat) (rr ra : Nat → Nat) (s : ASt) (B : Nat) (hI : InvA B s) (x : Int32) : Ct l G (SFt G) yX12_exists wsX12_exists ({ frames := 2, cells := 0, slots := 0, locals := 44 }) [.ref fs, .int x] ([(fs, .inr (12, [.ref h, .ref h2, .ref h3, .ref hh, .ref hr, .ref hg, .ref hq, .ref hl, .int iS, .int eA, .int fA]))] ++ (stW G h ah as_ rr ra (sHm s) (sNb s) (sNs s) (sLa s) (sLo s) (sNu s) (sTn s) (sSh s))) mkI (fun (r : Int32) (_ : Unit) => r = qExists s x) (fun _ : Unit => ([(fs, .inr (12, [.ref h, .ref h2, .ref h3, .ref hh, .ref hr, .ref hg, .ref hq, .ref hl, .int iS, .int eA, .int fA]))] ++ (stW G h ah as_ rr ra (sHm s) (sNb s) (sNs s) (sLa s) (sLo s) (sNu s) (sTn s) (sSh s)))) 0 0 := by
  have hb8 := hI.1
  have hs6 := hI.2.1
  refine Ct.ofI (cc := cX12_exists) (maxL := 2) (by decide) rfl ⟨by simp [Value.category], Nat.le_of_ble_eq_true rfl⟩ ?_
  intro K hl hC hSF hnm hE
  subst hl
  have hgot := SFgoS (SFt.k G) hSF
  have hgo := SFgo.x hgot
  have hSFt := hSF
  replace hSF := hSF.1
  have q0_ : ∀ w ∈ u_ws RX12 TX12 11, w ∈ wsX12_exists := by decide +kernel
  have q1_ : Cond.fieldLink RX12 20 "FeatherShares" "state" "LFeatherShares$State;" ∈ wsX12_exists := by decide +kernel
  show V G K 2 0 0 0 [some (.ref fs), some (.int x)] [] ([(fs, .inr (12, [.ref h, .ref h2, .ref h3, .ref hh, .ref hr, .ref hg, .ref hq, .ref hl, .int iS, .int eA, .int fA]))] ++ (stW G h ah as_ rr ra (sHm s) (sNb s) (sNs s) (sLa s) (sLo s) (sNu s) (sTn s) (sSh s)))
  refine V.aload_n hC (x := fs) dX12_exists_0 rfl ?_
  refine V.getf hC (T := TX12) q0_ 0 q1_ rfl (0) rfl rfl (by decide) (.ref h) rfl dX12_exists_1 ?_
  refine V.iload_n hC (x := x) dX12_exists_4 rfl ?_
  refine V.callVr (n := 1) (As := [.int x]) (rest := []) hC (c_find (kl K) G h ah as_ rr ra (sHm s) (sNb s) (sNs s) (sLa s) (sLo s) (sNu s) (sTn s) (sSh s) hb8 hs6 x) SFk0 SFgo0 gX12_exists_X11_find rfl ⟨rfl, rfl⟩ (by decide +kernel) ⟨by decide, by decide, by decide, by decide⟩ [1, 2, 3, 4, 5, 6, 7, 8, 9, 10, 11, 12, 13, 14, 15] rfl (by decide) rfl rfl rfl rfl (Nat.le_of_ble_eq_true rfl) dX12_exists_5 (fun r_5 u_5 hp_5 => ?_)
  rcases hf : fd (sNu s) x (sNs s) with _ | k
  · rw [hf] at hp_5
    subst hp_5
    show V G K 2 0 0 8 [some (.ref fs), some (.int x)] [.null] ([(fs, .inr (12, [.ref h, .ref h2, .ref h3, .ref hh, .ref hr, .ref hg, .ref hq, .ref hl, .int iS, .int eA, .int fA]))] ++ (stW G h ah as_ rr ra (sHm s) (sNb s) (sNs s) (sLa s) (sLo s) (sNu s) (sTn s) (sSh s)))
    refine V.ifnullN hC 15 dX12_exists_8 rfl ?_
    refine V.iconst hC 0 dX12_exists_15 rfl ?_
    exact hE 16 _ 0 () dX12_exists_16 rfl (by rw [qExists, hf]; rfl)
  · rw [hf] at hp_5
    subst hp_5
    show V G K 2 0 0 8 [some (.ref fs), some (.int x)] [.ref (rr k)] ([(fs, .inr (12, [.ref h, .ref h2, .ref h3, .ref hh, .ref hr, .ref hg, .ref hq, .ref hl, .int iS, .int eA, .int fA]))] ++ (stW G h ah as_ rr ra (sHm s) (sNb s) (sNs s) (sLa s) (sLo s) (sNu s) (sTn s) (sSh s)))
    refine V.ifnull hC dX12_exists_8 ?_
    refine V.iconst hC 1 dX12_exists_11 rfl ?_
    refine V.goto hC 16 dX12_exists_12 rfl ?_
    exact hE 16 _ 1 () dX12_exists_16 rfl (by rw [qExists, hf]; rfl)
