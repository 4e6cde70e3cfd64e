/-! FeatherShares: a secret by its place, the means, whether all agrees (printed by gen/s45.py) -/
set_option maxHeartbeats 4000000 in
set_option maxRecDepth 100000 in
theorem q_secretAtP (l : Launch) (G : Gx) (hst : l.stackTraces = false) (fs h h2 h3 hh hr hg hq hl : Nat) (iS eA fA : Int32) (ah as_ : Nat) (rr ra : Nat → Nat) (s : ASt) (B : Nat) (hI : InvA B s) (k : Nat) (hk31 : k < 2 ^ 31) : CtX l G (SFt G) yX12_secretAt wsX12_secretAt ({ frames := 6, cells := 1, slots := 6, locals := 82 }) [.ref fs, .int (nI k)] ([(fs, .inr (12, [.ref h, .ref h2, .ref h3, .ref hh, .ref hr, .ref hg, .ref hq, .ref hl, .int iS, .int eA, .int fA]))] ++ (stW G h ah as_ rr ra (sHm s) (sNb s) (sNs s) (sLa s) (sLo s) (sNu s) (sTn s) (sSh s))) mkI (fun (r : Int32) (_ : Unit) => qSecAt s (nI k) = (0, r)) (fun _ : Unit => ([(fs, .inr (12, [.ref h, .ref h2, .ref h3, .ref hh, .ref hr, .ref hg, .ref hq, .ref hl, .int iS, .int eA, .int fA]))] ++ (stW G h ah as_ rr ra (sHm s) (sNb s) (sNs s) (sLa s) (sLo s) (sNu s) (sTn s) (sSh s)))) (fun (E : String) (_ : Unit) => XE ["java/lang/IndexOutOfBoundsException"] (qSecAt s (nI k)) E) (fun _ : Unit => ([(fs, .inr (12, [.ref h, .ref h2, .ref h3, .ref hh, .ref hr, .ref hg, .ref hq, .ref hl, .int iS, .int eA, .int fA]))] ++ (stW G h ah as_ rr ra (sHm s) (sNb s) (sNs s) (sLa s) (sLo s) (sNu s) (sTn s) (sSh s)))) 1 6 := by
  have hb8 := hI.1
  have hs6 := hI.2.1
  refine CtX.ofI (cc := cX12_secretAt) (maxL := 3) (by decide) rfl ⟨by simp [Value.category], Nat.le_of_ble_eq_true rfl⟩ ?_
  intro K hl hC hSF hnm hQ hE
  subst hl
  have hgot := SFgoS (SFt.k G) hSF
  have hgo := SFgo.x hgot
  have hSFt := hSF
  replace hSF := hSF.1
  have q0_ : ∀ w ∈ u_ws RX12 TX12 11, w ∈ wsX12_secretAt := by decide +kernel
  have q1_ : Cond.fieldLink RX12 20 "FeatherShares" "state" "LFeatherShares$State;" ∈ wsX12_secretAt := by decide +kernel
  have q2_ : Cond.classLink RX12 145 "java/lang/IndexOutOfBoundsException" ∈ wsX12_secretAt := by decide +kernel
  have q3_ : Cond.initialized "java/lang/IndexOutOfBoundsException" ∈ wsX12_secretAt := by decide +kernel
  have q4_ : ∀ w ∈ (vx_atS RX12 149 "java/lang/IndexOutOfBoundsException" nm2).filter goodWord, w ∈ wsX12_secretAt := by decide +kernel
  show V G K 3 0 0 0 [some (.ref fs), some (.int (nI k)), none] [] ([(fs, .inr (12, [.ref h, .ref h2, .ref h3, .ref hh, .ref hr, .ref hg, .ref hq, .ref hl, .int iS, .int eA, .int fA]))] ++ (stW G h ah as_ rr ra (sHm s) (sNb s) (sNs s) (sLa s) (sLo s) (sNu s) (sTn s) (sSh s)))
  refine V.aload_n hC (x := fs) dX12_secretAt_0 rfl ?_
  refine V.getf hC (T := TX12) q0_ 0 q1_ rfl (0) rfl rfl (by decide) (.ref h) rfl dX12_secretAt_1 ?_
  refine V.iload_n hC (x := nI k) dX12_secretAt_4 rfl ?_
  refine V.callVr (n := 1) (As := [.int (nI k)]) (rest := []) hC (c_secretPlaced (kl K) G h ah as_ rr ra (sHm s) (sNb s) (sNs s) (sLa s) (sLo s) (sNu s) (sTn s) (sSh s) hb8 hs6 k hk31) SFk0 SFgo0 gX12_secretAt_X11_secretPlaced rfl ⟨rfl, rfl⟩ (by decide +kernel) ⟨by decide, by decide, by decide, by decide⟩ [1, 2, 3, 4, 5, 6, 7, 8, 9, 10, 11, 12, 13, 14, 15] rfl (by decide) rfl rfl rfl rfl (Nat.le_of_ble_eq_true rfl) dX12_secretAt_5 (fun r_5 u_5 hp_5 => ?_)
  by_cases hkn : k < sNs s
  · rw [if_pos hkn] at hp_5
    subst hp_5
    have hk : k < 6 := by omega
    show V G K 3 0 0 8 [some (.ref fs), some (.int (nI k)), none] [.ref (rr k)] ([(fs, .inr (12, [.ref h, .ref h2, .ref h3, .ref hh, .ref hr, .ref hg, .ref hq, .ref hl, .int iS, .int eA, .int fA]))] ++ (stW G h ah as_ rr ra (sHm s) (sNb s) (sNs s) (sLa s) (sLo s) (sNu s) (sTn s) (sSh s)))
    refine V.astore_n hC dX12_secretAt_8 [some (.ref fs), some (.int (nI k)), some (.ref (rr k))] (Nat.le_of_ble_eq_true rfl) rfl ?_
    refine V.aload_n hC (x := rr k) dX12_secretAt_9 rfl ?_
    refine V.ifnonnull hC 23 dX12_secretAt_10 rfl ?_
    refine V.aload_n hC (x := rr k) dX12_secretAt_23 rfl ?_
    refine V.callVr (n := 0) (As := []) (rest := []) hC (c_ownNumber (kl K) G (rr k) (ra k) (sSh s k) (sNu s k) (nI (sTn s k))) SFk0 SFgo0 gX12_secretAt_X10_ownNumber rfl ⟨rfl, rfl⟩ (by decide +kernel) ⟨by decide, by decide, by decide, by decide⟩ [1 + (3 + 2 * k), 1 + (4 + 2 * k)] (by rcases (lt6 hk) with rfl | rfl | rfl | rfl | rfl | rfl <;> rfl) (by rcases (lt6 hk) with rfl | rfl | rfl | rfl | rfl | rfl <;> rfl) rfl rfl rfl rfl (Nat.le_of_ble_eq_true rfl) dX12_secretAt_24 (fun r_24 u_24 hp_24 => ?_)
    subst hp_24
    show V G K 3 0 0 27 [some (.ref fs), some (.int (nI k)), some (.ref (rr k))] [.int (sNu s k)] ([(fs, .inr (12, [.ref h, .ref h2, .ref h3, .ref hh, .ref hr, .ref hg, .ref hq, .ref hl, .int iS, .int eA, .int fA]))] ++ (stW G h ah as_ rr ra (sHm s) (sNb s) (sNs s) (sLa s) (sLo s) (sNu s) (sTn s) (sSh s)))
    refine V.widen (k := 1) (n := 6) (Nat.le_of_ble_eq_true rfl) (Nat.le_of_ble_eq_true rfl) ?_
    exact hE 27 _ (sNu s k) () dX12_secretAt_27 rfl (by rw [qSecAt, qI_y ⟨nI_nn hk31, nI_lt hkn (by omega)⟩, nI_clamp hk31])
  · rw [if_neg hkn] at hp_5
    subst hp_5
    show V G K 3 0 0 8 [some (.ref fs), some (.int (nI k)), none] [.null] ([(fs, .inr (12, [.ref h, .ref h2, .ref h3, .ref hh, .ref hr, .ref hg, .ref hq, .ref hl, .int iS, .int eA, .int fA]))] ++ (stW G h ah as_ rr ra (sHm s) (sNb s) (sNs s) (sLa s) (sLo s) (sNu s) (sTn s) (sSh s)))
    refine V.astore_nN hC dX12_secretAt_8 [some (.ref fs), some (.int (nI k)), some (.null)] (Nat.le_of_ble_eq_true rfl) rfl ?_
    refine V.aload_nN hC dX12_secretAt_9 rfl ?_
    refine V.ifnonnullN hC dX12_secretAt_10 ?_
    exact V.throwS hC hQ hst (text := "no secret has this position") () ⟨0, by decide, qI_n (fun z => hkn ((nI_ltI hk31 (by omega)).mp z.2)), rfl⟩ rfl thr2_IO hSFt.2.1.1 hSFt.2.1.2.1 (hSFt.msg (147, "no secret has this position") (by decide)) (hSFt.ca _ (by decide)) hSFt.de q2_ q3_ q4_ dX12_secretAt_13 dX12_secretAt_16 dX12_secretAt_17 dX12_secretAt_19 dX12_secretAt_22 ⟨by decide, by decide, by decide, by decide, by decide, by decide⟩

set_option maxHeartbeats 4000000 in
set_option maxRecDepth 100000 in
theorem q_secretAtN (l : Launch) (G : Gx) (hst : l.stackTraces = false) (fs h h2 h3 hh hr hg hq hl : Nat) (iS eA fA : Int32) (ah as_ : Nat) (rr ra : Nat → Nat) (s : ASt) (B : Nat) (hI : InvA B s) (x : Int32) (hx : x < 0) : CtX l G (SFt G) yX12_secretAt wsX12_secretAt ({ frames := 6, cells := 1, slots := 6, locals := 82 }) [.ref fs, .int x] ([(fs, .inr (12, [.ref h, .ref h2, .ref h3, .ref hh, .ref hr, .ref hg, .ref hq, .ref hl, .int iS, .int eA, .int fA]))] ++ (stW G h ah as_ rr ra (sHm s) (sNb s) (sNs s) (sLa s) (sLo s) (sNu s) (sTn s) (sSh s))) mkI (fun (r : Int32) (_ : Unit) => qSecAt s x = (0, r)) (fun _ : Unit => ([(fs, .inr (12, [.ref h, .ref h2, .ref h3, .ref hh, .ref hr, .ref hg, .ref hq, .ref hl, .int iS, .int eA, .int fA]))] ++ (stW G h ah as_ rr ra (sHm s) (sNb s) (sNs s) (sLa s) (sLo s) (sNu s) (sTn s) (sSh s)))) (fun (E : String) (_ : Unit) => XE ["java/lang/IndexOutOfBoundsException"] (qSecAt s x) E) (fun _ : Unit => ([(fs, .inr (12, [.ref h, .ref h2, .ref h3, .ref hh, .ref hr, .ref hg, .ref hq, .ref hl, .int iS, .int eA, .int fA]))] ++ (stW G h ah as_ rr ra (sHm s) (sNb s) (sNs s) (sLa s) (sLo s) (sNu s) (sTn s) (sSh s)))) 1 6 := by
  have hb8 := hI.1
  have hs6 := hI.2.1
  refine CtX.ofI (cc := cX12_secretAt) (maxL := 3) (by decide) rfl ⟨by simp [Value.category], Nat.le_of_ble_eq_true rfl⟩ ?_
  intro K hl hC hSF hnm hQ hE
  subst hl
  have hgot := SFgoS (SFt.k G) hSF
  have hgo := SFgo.x hgot
  have hSFt := hSF
  replace hSF := hSF.1
  have q0_ : ∀ w ∈ u_ws RX12 TX12 11, w ∈ wsX12_secretAt := by decide +kernel
  have q1_ : Cond.fieldLink RX12 20 "FeatherShares" "state" "LFeatherShares$State;" ∈ wsX12_secretAt := by decide +kernel
  have q2_ : Cond.classLink RX12 145 "java/lang/IndexOutOfBoundsException" ∈ wsX12_secretAt := by decide +kernel
  have q3_ : Cond.initialized "java/lang/IndexOutOfBoundsException" ∈ wsX12_secretAt := by decide +kernel
  have q4_ : ∀ w ∈ (vx_atS RX12 149 "java/lang/IndexOutOfBoundsException" nm2).filter goodWord, w ∈ wsX12_secretAt := by decide +kernel
  show V G K 3 0 0 0 [some (.ref fs), some (.int x), none] [] ([(fs, .inr (12, [.ref h, .ref h2, .ref h3, .ref hh, .ref hr, .ref hg, .ref hq, .ref hl, .int iS, .int eA, .int fA]))] ++ (stW G h ah as_ rr ra (sHm s) (sNb s) (sNs s) (sLa s) (sLo s) (sNu s) (sTn s) (sSh s)))
  refine V.aload_n hC (x := fs) dX12_secretAt_0 rfl ?_
  refine V.getf hC (T := TX12) q0_ 0 q1_ rfl (0) rfl rfl (by decide) (.ref h) rfl dX12_secretAt_1 ?_
  refine V.iload_n hC (x := x) dX12_secretAt_4 rfl ?_
  refine V.callVr (n := 1) (As := [.int x]) (rest := []) hC (c_secretPlacedN (kl K) G h ah as_ rr ra (sHm s) (sNb s) (sNs s) (sLa s) (sLo s) (sNu s) (sTn s) (sSh s) hb8 hs6 x hx) SFk0 SFgo0 gX12_secretAt_X11_secretPlaced rfl ⟨rfl, rfl⟩ (by decide +kernel) ⟨by decide, by decide, by decide, by decide⟩ [1, 2, 3, 4, 5, 6, 7, 8, 9, 10, 11, 12, 13, 14, 15] rfl (by decide) rfl rfl rfl rfl (Nat.le_of_ble_eq_true rfl) dX12_secretAt_5 (fun r_5 u_5 hp_5 => ?_)
  subst hp_5
  show V G K 3 0 0 8 [some (.ref fs), some (.int x), none] [.null] ([(fs, .inr (12, [.ref h, .ref h2, .ref h3, .ref hh, .ref hr, .ref hg, .ref hq, .ref hl, .int iS, .int eA, .int fA]))] ++ (stW G h ah as_ rr ra (sHm s) (sNb s) (sNs s) (sLa s) (sLo s) (sNu s) (sTn s) (sSh s)))
  refine V.astore_nN hC dX12_secretAt_8 [some (.ref fs), some (.int x), some (.null)] (Nat.le_of_ble_eq_true rfl) rfl ?_
  refine V.aload_nN hC dX12_secretAt_9 rfl ?_
  refine V.ifnonnullN hC dX12_secretAt_10 ?_
  exact V.throwS hC hQ hst (text := "no secret has this position") () ⟨0, by decide, qI_n (fun z => z.1 hx), rfl⟩ rfl thr2_IO hSFt.2.1.1 hSFt.2.1.2.1 (hSFt.msg (147, "no secret has this position") (by decide)) (hSFt.ca _ (by decide)) hSFt.de q2_ q3_ q4_ dX12_secretAt_13 dX12_secretAt_16 dX12_secretAt_17 dX12_secretAt_19 dX12_secretAt_22 ⟨by decide, by decide, by decide, by decide, by decide, by decide⟩

theorem q_secretAt (l : Launch) (G : Gx) (hst : l.stackTraces = false) (fs h h2 h3 hh hr hg hq hl : Nat) (iS eA fA : Int32) (ah as_ : Nat) (rr ra : Nat → Nat) (s : ASt) (B : Nat) (hI : InvA B s) (x : Int32) : CtX l G (SFt G) yX12_secretAt wsX12_secretAt ({ frames := 6, cells := 1, slots := 6, locals := 82 }) [.ref fs, .int x] ([(fs, .inr (12, [.ref h, .ref h2, .ref h3, .ref hh, .ref hr, .ref hg, .ref hq, .ref hl, .int iS, .int eA, .int fA]))] ++ (stW G h ah as_ rr ra (sHm s) (sNb s) (sNs s) (sLa s) (sLo s) (sNu s) (sTn s) (sSh s))) mkI (fun (r : Int32) (_ : Unit) => qSecAt s x = (0, r)) (fun _ : Unit => ([(fs, .inr (12, [.ref h, .ref h2, .ref h3, .ref hh, .ref hr, .ref hg, .ref hq, .ref hl, .int iS, .int eA, .int fA]))] ++ (stW G h ah as_ rr ra (sHm s) (sNb s) (sNs s) (sLa s) (sLo s) (sNu s) (sTn s) (sSh s)))) (fun (E : String) (_ : Unit) => XE ["java/lang/IndexOutOfBoundsException"] (qSecAt s x) E) (fun _ : Unit => ([(fs, .inr (12, [.ref h, .ref h2, .ref h3, .ref hh, .ref hr, .ref hg, .ref hq, .ref hl, .int iS, .int eA, .int fA]))] ++ (stW G h ah as_ rr ra (sHm s) (sNb s) (sNs s) (sLa s) (sLo s) (sNu s) (sTn s) (sSh s)))) 1 6 := by
  by_cases hx : x < 0
  · exact CtX.room (q_secretAtN l G hst fs h h2 h3 hh hr hg hq hl iS eA fA ah as_ rr ra s B hI x hx) (by decide) (by decide) (by decide) (by decide)
  · have h0 : 0 ≤ x := Int32.not_lt.mp hx
    have e1 : (0 : Int) ≤ x.toInt := by have := Int32.le_iff_toInt_le.mp h0; simpa using this
    have e2 := Int32.toInt_lt x
    have e3 : x = nI x.toInt.toNat := by
      apply Int32.toInt_inj.mp
      rw [nI_toInt (by omega)]
      omega
    rw [e3]
    exact q_secretAtP l G hst fs h h2 h3 hh hr hg hq hl iS eA fA ah as_ rr ra s B hI _ (by omega)
theorem als_le48 (s : ASt) (hs : sNs s ≤ 6) : ∀ n, als (fun z => ldn (sSh s) z (sNs s)) n ≤ 6 * n
  | 0 => Nat.le_refl 0
  | n + 1 => by
    have := als_le48 s hs n
    have := ldn_le (sSh s) n (sNs s)
    show als (fun z => ldn (sSh s) z (sNs s)) n + ldn (sSh s) n (sNs s) ≤ _
    omega
theorem mean_ok : ∀ a, a < 49 → ∀ n, n < 9 → 1 ≤ n → FP.ddiv (FP.i2d (nI a)) (FP.i2d (nI n)) &&& 0x7fffffffffffffff ≤ 0x7ff0000000000000 := by decide +kernel
theorem rbsh_ok : ∀ a, a < 7 → ∀ n, n < 7 → 1 ≤ n → FP.fdiv (FP.i2f (nI a)) (FP.i2f (nI n)) &&& 0x7fffffff ≤ 0x7f800000 := by decide +kernel
def mean (s : ASt) : UInt64 := FP.ddiv (FP.i2d (nI (als (fun z => ldn (sSh s) z (sNs s)) (sNb s)))) (FP.i2d (nI (sNb s)))
def rbsh (s : ASt) : UInt32 := FP.fdiv (FP.i2f (nI (rbt (sSh s) (sTn s) (sNs s)))) (FP.i2f (nI (sNs s)))
set_option maxHeartbeats 4000000 in
set_option maxRecDepth 100000 in
theorem q_mean (l : Launch) (G : Gx) (hst : l.stackTraces = false) (fs h h2 h3 hh hr hg hq hl : Nat) (iS eA fA : Int32) (ah as_ : Nat) (rr ra : Nat → Nat) (s : ASt) (B : Nat) (hI : InvA B s) : CtX l G (SFt G) yX12_meanShares wsX12_meanShares ({ frames := 6, cells := 1, slots := 6, locals := 82 }) [.ref fs] ([(fs, .inr (12, [.ref h, .ref h2, .ref h3, .ref hh, .ref hr, .ref hg, .ref hq, .ref hl, .int iS, .int eA, .int fA]))] ++ (stW G h ah as_ rr ra (sHm s) (sNb s) (sNs s) (sLa s) (sLo s) (sNu s) (sTn s) (sSh s))) mkD (fun (r : UInt64) (_ : Unit) => 1 ≤ sNb s ∧ r = mean s) (fun _ : Unit => ([(fs, .inr (12, [.ref h, .ref h2, .ref h3, .ref hh, .ref hr, .ref hg, .ref hq, .ref hl, .int iS, .int eA, .int fA]))] ++ (stW G h ah as_ rr ra (sHm s) (sNb s) (sNs s) (sLa s) (sLo s) (sNu s) (sTn s) (sSh s)))) (fun (E : String) (_ : Unit) => E = "java/lang/ArithmeticException" ∧ sNb s = 0) (fun _ : Unit => ([(fs, .inr (12, [.ref h, .ref h2, .ref h3, .ref hh, .ref hr, .ref hg, .ref hq, .ref hl, .int iS, .int eA, .int fA]))] ++ (stW G h ah as_ rr ra (sHm s) (sNb s) (sNs s) (sLa s) (sLo s) (sNu s) (sTn s) (sSh s)))) 1 6 := by
  have hb8 := hI.1
  have hs6 := hI.2.1
  refine CtX.ofD (cc := cX12_meanShares) (maxL := 2) (by decide) rfl ⟨by simp [Value.category], Nat.le_of_ble_eq_true rfl⟩ ?_
  intro K hl hC hSF hnm hQ hE
  subst hl
  have hgot := SFgoS (SFt.k G) hSF
  have hgo := SFgo.x hgot
  have hSFt := hSF
  replace hSF := hSF.1
  have q0_ : ∀ w ∈ u_ws RX12 TX12 11, w ∈ wsX12_meanShares := by decide +kernel
  have q1_ : Cond.fieldLink RX12 20 "FeatherShares" "state" "LFeatherShares$State;" ∈ wsX12_meanShares := by decide +kernel
  have q2_ : Cond.classLink RX12 226 "java/lang/ArithmeticException" ∈ wsX12_meanShares := by decide +kernel
  have q3_ : Cond.initialized "java/lang/ArithmeticException" ∈ wsX12_meanShares := by decide +kernel
  have q4_ : ∀ w ∈ (vx_atS RX12 230 "java/lang/ArithmeticException" nm2).filter goodWord, w ∈ wsX12_meanShares := by decide +kernel
  show V G K 2 0 0 0 [some (.ref fs), none] [] ([(fs, .inr (12, [.ref h, .ref h2, .ref h3, .ref hh, .ref hr, .ref hg, .ref hq, .ref hl, .int iS, .int eA, .int fA]))] ++ (stW G h ah as_ rr ra (sHm s) (sNb s) (sNs s) (sLa s) (sLo s) (sNu s) (sTn s) (sSh s)))
  refine V.aload_n hC (x := fs) dX12_meanShares_0 rfl ?_
  refine V.getf hC (T := TX12) q0_ 0 q1_ rfl (0) rfl rfl (by decide) (.ref h) rfl dX12_meanShares_1 ?_
  refine V.callVr (n := 0) (As := []) (rest := []) hC (c_birdTally (kl K) G h ah as_ rr ra (sHm s) (sNb s) (sNs s) (sLa s) (sLo s) (sNu s) (sTn s) (sSh s) hb8 hs6) SFk0 SFgo0 gX12_meanShares_X11_birdTally rfl ⟨rfl, rfl⟩ (by decide +kernel) ⟨by decide, by decide, by decide, by decide⟩ [1, 2, 3, 4, 5, 6, 7, 8, 9, 10, 11, 12, 13, 14, 15] rfl (by decide) rfl rfl rfl rfl (Nat.le_of_ble_eq_true rfl) dX12_meanShares_4 (fun r_4 u_4 hp_4 => ?_)
  subst hp_4
  show V G K 2 0 0 7 [some (.ref fs), none] [.int (nI (sNb s))] ([(fs, .inr (12, [.ref h, .ref h2, .ref h3, .ref hh, .ref hr, .ref hg, .ref hq, .ref hl, .int iS, .int eA, .int fA]))] ++ (stW G h ah as_ rr ra (sHm s) (sNb s) (sNs s) (sLa s) (sLo s) (sNu s) (sTn s) (sSh s)))
  refine V.istore_n hC dX12_meanShares_7 [some (.ref fs), some (.int (nI (sNb s)))] (Nat.le_of_ble_eq_true rfl) rfl ?_
  refine V.iload_n hC (x := nI (sNb s)) dX12_meanShares_8 rfl ?_
  refine V.ifN_gt hC (sNb s) 22 dX12_meanShares_9 rfl rfl (by omega) (fun c_9 => ?_) (fun c_9 => ?_)
  · refine V.aload_n hC (x := fs) dX12_meanShares_22 rfl ?_
    refine V.getf hC (T := TX12) q0_ 0 q1_ rfl (0) rfl rfl (by decide) (.ref h) rfl dX12_meanShares_23 ?_
    refine V.callVr (n := 0) (As := []) (rest := []) hC (c_allShares (kl K) G h ah as_ rr ra (sHm s) (sNb s) (sNs s) (sLa s) (sLo s) (sNu s) (sTn s) (sSh s) hb8 hs6) SFk0 SFgo0 gX12_meanShares_X11_allShares rfl ⟨rfl, rfl⟩ (by decide +kernel) ⟨by decide, by decide, by decide, by decide⟩ [1, 2, 3, 4, 5, 6, 7, 8, 9, 10, 11, 12, 13, 14, 15] rfl (by decide) rfl rfl rfl rfl (Nat.le_of_ble_eq_true rfl) dX12_meanShares_26 (fun r_26 u_26 hp_26 => ?_)
    subst hp_26
    show V G K 2 0 0 29 [some (.ref fs), some (.int (nI (sNb s)))] [.int (nI (als (fun z => ldn (sSh s) z (sNs s)) (sNb s)))] ([(fs, .inr (12, [.ref h, .ref h2, .ref h3, .ref hh, .ref hr, .ref hg, .ref hq, .ref hl, .int iS, .int eA, .int fA]))] ++ (stW G h ah as_ rr ra (sHm s) (sNb s) (sNs s) (sLa s) (sLo s) (sNu s) (sTn s) (sSh s)))
    refine V.i2d hC dX12_meanShares_29 ?_
    refine V.iload_n hC (x := nI (sNb s)) dX12_meanShares_30 rfl ?_
    refine V.i2d hC dX12_meanShares_31 ?_
    refine V.ddiv hC dX12_meanShares_32 (mean_ok _ (by have := als_le48 s hs6 (sNb s); omega) _ (by omega) c_9) ?_
    refine V.widen (k := 1) (n := 6) (Nat.le_of_ble_eq_true rfl) (Nat.le_of_ble_eq_true rfl) ?_
    exact hE 33 _ (FP.ddiv (FP.i2d (nI (als (fun z => ldn (sSh s) z (sNs s)) (sNb s)))) (FP.i2d (nI (sNb s)))) () dX12_meanShares_33 ⟨c_9, rfl⟩
  · exact V.throwS hC hQ hst (text := "there are no birds") () ⟨rfl, by omega⟩ rfl thr2_AE hSFt.2.1.1 hSFt.2.1.2.1 (hSFt.msg (228, "there are no birds") (by decide)) (hSFt.ca _ (by decide)) hSFt.de q2_ q3_ q4_ dX12_meanShares_12 dX12_meanShares_15 dX12_meanShares_16 dX12_meanShares_18 dX12_meanShares_21 ⟨by decide, by decide, by decide, by decide, by decide, by decide⟩

set_option maxHeartbeats 4000000 in
set_option maxRecDepth 100000 in
theorem q_rbShare (l : Launch) (G : Gx) (hst : l.stackTraces = false) (fs h h2 h3 hh hr hg hq hl : Nat) (iS eA fA : Int32) (ah as_ : Nat) (rr ra : Nat → Nat) (s : ASt) (B : Nat) (hI : InvA B s) : CtX l G (SFt G) yX12_rebuildableShare wsX12_rebuildableShare ({ frames := 6, cells := 1, slots := 6, locals := 87 }) [.ref fs] ([(fs, .inr (12, [.ref h, .ref h2, .ref h3, .ref hh, .ref hr, .ref hg, .ref hq, .ref hl, .int iS, .int eA, .int fA]))] ++ (stW G h ah as_ rr ra (sHm s) (sNb s) (sNs s) (sLa s) (sLo s) (sNu s) (sTn s) (sSh s))) mkF (fun (r : UInt32) (_ : Unit) => 1 ≤ sNs s ∧ r = rbsh s) (fun _ : Unit => ([(fs, .inr (12, [.ref h, .ref h2, .ref h3, .ref hh, .ref hr, .ref hg, .ref hq, .ref hl, .int iS, .int eA, .int fA]))] ++ (stW G h ah as_ rr ra (sHm s) (sNb s) (sNs s) (sLa s) (sLo s) (sNu s) (sTn s) (sSh s)))) (fun (E : String) (_ : Unit) => E = "java/lang/ArithmeticException" ∧ sNs s = 0) (fun _ : Unit => ([(fs, .inr (12, [.ref h, .ref h2, .ref h3, .ref hh, .ref hr, .ref hg, .ref hq, .ref hl, .int iS, .int eA, .int fA]))] ++ (stW G h ah as_ rr ra (sHm s) (sNb s) (sNs s) (sLa s) (sLo s) (sNu s) (sTn s) (sSh s)))) 1 6 := by
  have hb8 := hI.1
  have hs6 := hI.2.1
  refine CtX.ofF (cc := cX12_rebuildableShare) (maxL := 2) (by decide) rfl ⟨by simp [Value.category], Nat.le_of_ble_eq_true rfl⟩ ?_
  intro K hl hC hSF hnm hQ hE
  subst hl
  have hgot := SFgoS (SFt.k G) hSF
  have hgo := SFgo.x hgot
  have hSFt := hSF
  replace hSF := hSF.1
  have q0_ : ∀ w ∈ u_ws RX12 TX12 11, w ∈ wsX12_rebuildableShare := by decide +kernel
  have q1_ : Cond.fieldLink RX12 20 "FeatherShares" "state" "LFeatherShares$State;" ∈ wsX12_rebuildableShare := by decide +kernel
  have q2_ : Cond.classLink RX12 226 "java/lang/ArithmeticException" ∈ wsX12_rebuildableShare := by decide +kernel
  have q3_ : Cond.initialized "java/lang/ArithmeticException" ∈ wsX12_rebuildableShare := by decide +kernel
  have q4_ : ∀ w ∈ (vx_atS RX12 230 "java/lang/ArithmeticException" nm2).filter goodWord, w ∈ wsX12_rebuildableShare := by decide +kernel
  show V G K 2 0 0 0 [some (.ref fs), none] [] ([(fs, .inr (12, [.ref h, .ref h2, .ref h3, .ref hh, .ref hr, .ref hg, .ref hq, .ref hl, .int iS, .int eA, .int fA]))] ++ (stW G h ah as_ rr ra (sHm s) (sNb s) (sNs s) (sLa s) (sLo s) (sNu s) (sTn s) (sSh s)))
  refine V.aload_n hC (x := fs) dX12_rebuildableShare_0 rfl ?_
  refine V.getf hC (T := TX12) q0_ 0 q1_ rfl (0) rfl rfl (by decide) (.ref h) rfl dX12_rebuildableShare_1 ?_
  refine V.callVr (n := 0) (As := []) (rest := []) hC (c_secretTally (kl K) G h ah as_ rr ra (sHm s) (sNb s) (sNs s) (sLa s) (sLo s) (sNu s) (sTn s) (sSh s) hb8 hs6) SFk0 SFgo0 gX12_rebuildableShare_X11_secretTally rfl ⟨rfl, rfl⟩ (by decide +kernel) ⟨by decide, by decide, by decide, by decide⟩ [1, 2, 3, 4, 5, 6, 7, 8, 9, 10, 11, 12, 13, 14, 15] rfl (by decide) rfl rfl rfl rfl (Nat.le_of_ble_eq_true rfl) dX12_rebuildableShare_4 (fun r_4 u_4 hp_4 => ?_)
  subst hp_4
  show V G K 2 0 0 7 [some (.ref fs), none] [.int (nI (sNs s))] ([(fs, .inr (12, [.ref h, .ref h2, .ref h3, .ref hh, .ref hr, .ref hg, .ref hq, .ref hl, .int iS, .int eA, .int fA]))] ++ (stW G h ah as_ rr ra (sHm s) (sNb s) (sNs s) (sLa s) (sLo s) (sNu s) (sTn s) (sSh s)))
  refine V.istore_n hC dX12_rebuildableShare_7 [some (.ref fs), some (.int (nI (sNs s)))] (Nat.le_of_ble_eq_true rfl) rfl ?_
  refine V.iload_n hC (x := nI (sNs s)) dX12_rebuildableShare_8 rfl ?_
  refine V.ifN_gt hC (sNs s) 22 dX12_rebuildableShare_9 rfl rfl (by omega) (fun c_9 => ?_) (fun c_9 => ?_)
  · refine V.aload_n hC (x := fs) dX12_rebuildableShare_22 rfl ?_
    refine V.getf hC (T := TX12) q0_ 0 q1_ rfl (0) rfl rfl (by decide) (.ref h) rfl dX12_rebuildableShare_23 ?_
    refine V.callVr (n := 0) (As := []) (rest := []) hC (c_rebuildableTally (kl K) G h ah as_ rr ra (sHm s) (sNb s) (sNs s) (sLa s) (sLo s) (sNu s) (sTn s) (sSh s) hb8 hs6 (fun k hk => (hI.2.2.1 k hk).2.1)) SFk0 SFgo0 gX12_rebuildableShare_X11_rebuildableTally rfl ⟨rfl, rfl⟩ (by decide +kernel) ⟨by decide, by decide, by decide, by decide⟩ [1, 2, 3, 4, 5, 6, 7, 8, 9, 10, 11, 12, 13, 14, 15] rfl (by decide) rfl rfl rfl rfl (Nat.le_of_ble_eq_true rfl) dX12_rebuildableShare_26 (fun r_26 u_26 hp_26 => ?_)
    subst hp_26
    show V G K 2 0 0 29 [some (.ref fs), some (.int (nI (sNs s)))] [.int (nI (rbt (sSh s) (sTn s) (sNs s)))] ([(fs, .inr (12, [.ref h, .ref h2, .ref h3, .ref hh, .ref hr, .ref hg, .ref hq, .ref hl, .int iS, .int eA, .int fA]))] ++ (stW G h ah as_ rr ra (sHm s) (sNb s) (sNs s) (sLa s) (sLo s) (sNu s) (sTn s) (sSh s)))
    refine V.i2f hC dX12_rebuildableShare_29 ?_
    refine V.iload_n hC (x := nI (sNs s)) dX12_rebuildableShare_30 rfl ?_
    refine V.i2f hC dX12_rebuildableShare_31 ?_
    refine V.fdiv hC dX12_rebuildableShare_32 (rbsh_ok _ (by have := rbt_le (sSh s) (sTn s) (sNs s); omega) _ (by omega) c_9) ?_
    refine V.widen (k := 1) (n := 6) (Nat.le_of_ble_eq_true rfl) (Nat.le_of_ble_eq_true rfl) ?_
    exact hE 33 _ (FP.fdiv (FP.i2f (nI (rbt (sSh s) (sTn s) (sNs s)))) (FP.i2f (nI (sNs s)))) () dX12_rebuildableShare_33 ⟨c_9, rfl⟩
  · exact V.throwS hC hQ hst (text := "there are no secrets") () ⟨rfl, by omega⟩ rfl thr2_AE hSFt.2.1.1 hSFt.2.1.2.1 (hSFt.msg (231, "there are no secrets") (by decide)) (hSFt.ca _ (by decide)) hSFt.de q2_ q3_ q4_ dX12_rebuildableShare_12 dX12_rebuildableShare_15 dX12_rebuildableShare_16 dX12_rebuildableShare_18 dX12_rebuildableShare_21 ⟨by decide, by decide, by decide, by decide, by decide, by decide⟩

set_option maxHeartbeats 4000000 in
set_option maxRecDepth 100000 in
theorem q_consistent (l : Launch) (G : Gx) (hst : l.stackTraces = false) (fs h h2 h3 hh hr hg hq hl : Nat) (iS eA fA : Int32) (ah as_ : Nat) (rr ra : Nat → Nat) (s : ASt) (B : Nat) (hI : InvA B s) (hp ap av he aw al af as3 : Nat) (ar : Nat → Nat) (E : Scr) (hok : Sok E) : Ct l G (SFt G) yX12_isConsistent wsX12_isConsistent ({ frames := 6, cells := 0, slots := 0, locals := 140 }) [.ref fs] ([(fs, .inr (12, [.ref h, .ref h2, .ref h3, .ref hh, .ref hr, .ref hg, .ref hq, .ref hl, .int iS, .int eA, .int fA]))] ++ ((stW G h ah as_ rr ra (sHm s) (sNb s) (sNs s) (sLa s) (sLo s) (sNu s) (sTn s) (sSh s)) ++ (rbW G hr hp ap av he aw al af as3 ar E))) mkI (fun (r : Int32) (u : Scr) => r = 1 ∧ Sok u) (fun u : Scr => ([(fs, .inr (12, [.ref h, .ref h2, .ref h3, .ref hh, .ref hr, .ref hg, .ref hq, .ref hl, .int iS, .int eA, .int fA]))] ++ ((stW G h ah as_ rr ra (sHm s) (sNb s) (sNs s) (sLa s) (sLo s) (sNu s) (sTn s) (sSh s)) ++ (rbW G hr hp ap av he aw al af as3 ar u)))) 0 0 := by
  have hb8 := hI.1
  have hs6 := hI.2.1
  refine Ct.ofI (cc := cX12_isConsistent) (maxL := 3) (by decide) rfl ⟨by simp [Value.category], Nat.le_of_ble_eq_true rfl⟩ ?_
  intro K hl hC hSF hnm hE
  subst hl
  have hgot := SFgoS (SFt.k G) hSF
  have hgo := SFgo.x hgot
  have hSFt := hSF
  replace hSF := hSF.1
  have q0_ : ∀ w ∈ u_ws RX12 TX12 11, w ∈ wsX12_isConsistent := by decide +kernel
  have q1_ : Cond.fieldLink RX12 20 "FeatherShares" "state" "LFeatherShares$State;" ∈ wsX12_isConsistent := by decide +kernel
  have q2_ : Cond.fieldLink RX12 28 "FeatherShares" "rebuilder" "LFeatherShares$Rebuilder;" ∈ wsX12_isConsistent := by decide +kernel
  show V G K 3 0 0 0 [some (.ref fs), none, none] [] ([(fs, .inr (12, [.ref h, .ref h2, .ref h3, .ref hh, .ref hr, .ref hg, .ref hq, .ref hl, .int iS, .int eA, .int fA]))] ++ ((stW G h ah as_ rr ra (sHm s) (sNb s) (sNs s) (sLa s) (sLo s) (sNu s) (sTn s) (sSh s)) ++ (rbW G hr hp ap av he aw al af as3 ar E)))
  refine V.iconst hC 0 dX12_isConsistent_0 rfl ?_
  refine V.istore_n hC dX12_isConsistent_1 [some (.ref fs), some (.int 0), none] (Nat.le_of_ble_eq_true rfl) rfl ?_
  have loop2 : ∀ (n : Nat) (k : Nat) (E1 : Scr), 6 - k < n → (k ≤ 6) → (Sok E1) → V G K 3 0 0 2 [some (.ref fs), some (.int (nI k)), none] [] ([(fs, .inr (12, [.ref h, .ref h2, .ref h3, .ref hh, .ref hr, .ref hg, .ref hq, .ref hl, .int iS, .int eA, .int fA]))] ++ ((stW G h ah as_ rr ra (sHm s) (sNb s) (sNs s) (sLa s) (sLo s) (sNu s) (sTn s) (sSh s)) ++ (rbW G hr hp ap av he aw al af as3 ar E1))) := by
    intro n
    induction n with
    | zero => intro k E1 hlt; exact absurd hlt (Nat.not_lt_zero _)
    | succ n ih2 =>
      intro k E1 hlt2 hk hE1
      refine V.iload_n hC (x := nI k) dX12_isConsistent_2 rfl ?_
      refine V.bipush hC 6 dX12_isConsistent_3 rfl ?_
      refine V.icmpN_ge hC k 6 40 dX12_isConsistent_5 rfl rfl rfl (by omega) (by omega) (fun c_5 => ?_) (fun c_5 => ?_)
      · refine V.iconst hC 1 dX12_isConsistent_40 rfl ?_
        exact hE 41 _ 1 E1 dX12_isConsistent_41 rfl ⟨rfl, hE1⟩
      · refine V.aload_n hC (x := fs) dX12_isConsistent_8 rfl ?_
        refine V.getf hC (T := TX12) q0_ 0 q1_ rfl (0) rfl rfl (by decide) (.ref h) rfl dX12_isConsistent_9 ?_
        refine V.iload_n hC (x := nI k) dX12_isConsistent_12 rfl ?_
        refine V.callVr (n := 1) (As := [.int (nI k)]) (rest := []) hC (c_secretPlaced (kl K) G h ah as_ rr ra (sHm s) (sNb s) (sNs s) (sLa s) (sLo s) (sNu s) (sTn s) (sSh s) hb8 hs6 k (by omega)) SFk0 SFgo0 gX12_isConsistent_X11_secretPlaced rfl ⟨rfl, rfl⟩ (by decide +kernel) ⟨by decide, by decide, by decide, by decide⟩ [1, 2, 3, 4, 5, 6, 7, 8, 9, 10, 11, 12, 13, 14, 15] rfl (by decide) rfl rfl rfl rfl (Nat.le_of_ble_eq_true rfl) dX12_isConsistent_13 (fun r_13 u_13 hp_13 => ?_)
        by_cases hkn : k < sNs s
        · rw [if_pos hkn] at hp_13
          subst hp_13
          have hk6 : k < 6 := by omega
          show V G K 3 0 0 16 [some (.ref fs), some (.int (nI k)), none] [.ref (rr k)] ([(fs, .inr (12, [.ref h, .ref h2, .ref h3, .ref hh, .ref hr, .ref hg, .ref hq, .ref hl, .int iS, .int eA, .int fA]))] ++ ((stW G h ah as_ rr ra (sHm s) (sNb s) (sNs s) (sLa s) (sLo s) (sNu s) (sTn s) (sSh s)) ++ (rbW G hr hp ap av he aw al af as3 ar E1)))
          refine V.astore_n hC dX12_isConsistent_16 [some (.ref fs), some (.int (nI k)), some (.ref (rr k))] (Nat.le_of_ble_eq_true rfl) rfl ?_
          refine V.aload_n hC (x := rr k) dX12_isConsistent_17 rfl ?_
          refine V.ifnull hC dX12_isConsistent_18 ?_
          refine V.aload_n hC (x := fs) dX12_isConsistent_21 rfl ?_
          refine V.getf hC (T := TX12) q0_ 4 q2_ rfl (0) rfl rfl (by decide) (.ref hr) rfl dX12_isConsistent_22 ?_
          refine V.aload_n hC (x := rr k) dX12_isConsistent_25 rfl ?_
          refine V.callV (n := 1) (As := [.ref (rr k)]) (rest := []) hC (c_agreesOn (kl K) G hr hp ap av he aw al af as3 ar E1 (rr k) (ra k) (sSh s k) (sNu s k) (sTn s k) hE1 (hI.2.2.1 k hkn).2.2.1 (hI.2.2.1 k hkn).1 (hI.2.2.1 k hkn).2.1) SFk0 SFgo0 gX12_isConsistent_X8_agreesOn rfl ⟨rfl, rfl⟩ (by decide +kernel) ⟨by decide, by decide, by decide, by decide⟩ [16, 17, 18, 19, 20, 21, 22, 23, 24, 25, 26, 27, 28, 1 + (3 + 2 * k), 1 + (4 + 2 * k)] (by rcases (lt6 hk6) with rfl | rfl | rfl | rfl | rfl | rfl <;> rfl) (by rcases (lt6 hk6) with rfl | rfl | rfl | rfl | rfl | rfl <;> rfl) (fun _ => Eq.refl [hr, hp, ap, av, he, aw, al, af, as3, ar 0, ar 1, ar 2, ar 3, rr k, ra k]) rfl rfl rfl rfl (Nat.le_of_ble_eq_true rfl) dX12_isConsistent_26 (fun r_26 u_26 hp_26 => ?_)
          obtain ⟨e_26, hE_26⟩ := hp_26
          subst e_26
          refine V.eqw (ws' := ([(fs, .inr (12, [.ref h, .ref h2, .ref h3, .ref hh, .ref hr, .ref hg, .ref hq, .ref hl, .int iS, .int eA, .int fA]))] ++ ((stW G h ah as_ rr ra (sHm s) (sNb s) (sNs s) (sLa s) (sLo s) (sNu s) (sTn s) (sSh s)) ++ (rbW G hr hp ap av he aw al af as3 ar u_26)))) (by
              rcases (lt6 hk6) with rfl | rfl | rfl | rfl | rfl | rfl
              · exact rj_by2 [16, 17, 18, 19, 20, 21, 22, 23, 24, 25, 26, 27, 28, 1 + (3 + 2 * 0), 1 + (4 + 2 * 0)] [0, 1, 2, 3, 6, 7, 8, 9, 10, 11, 12, 13, 14, 15] 29 rfl rfl (by decide) (by decide) rfl ⟨⟨_, rfl, rfl⟩, ⟨_, rfl, rfl⟩, ⟨_, rfl, rfl⟩, ⟨_, rfl, rfl⟩, ⟨_, rfl, rfl⟩, ⟨_, rfl, rfl⟩, ⟨_, rfl, rfl⟩, ⟨_, rfl, rfl⟩, ⟨_, rfl, rfl⟩, ⟨_, rfl, rfl⟩, ⟨_, rfl, rfl⟩, ⟨_, rfl, rfl⟩, ⟨_, rfl, rfl⟩, ⟨_, rfl, rfl⟩, trivial⟩
              · exact rj_by2 [16, 17, 18, 19, 20, 21, 22, 23, 24, 25, 26, 27, 28, 1 + (3 + 2 * 1), 1 + (4 + 2 * 1)] [0, 1, 2, 3, 4, 5, 8, 9, 10, 11, 12, 13, 14, 15] 29 rfl rfl (by decide) (by decide) rfl ⟨⟨_, rfl, rfl⟩, ⟨_, rfl, rfl⟩, ⟨_, rfl, rfl⟩, ⟨_, rfl, rfl⟩, ⟨_, rfl, rfl⟩, ⟨_, rfl, rfl⟩, ⟨_, rfl, rfl⟩, ⟨_, rfl, rfl⟩, ⟨_, rfl, rfl⟩, ⟨_, rfl, rfl⟩, ⟨_, rfl, rfl⟩, ⟨_, rfl, rfl⟩, ⟨_, rfl, rfl⟩, ⟨_, rfl, rfl⟩, trivial⟩
              · exact rj_by2 [16, 17, 18, 19, 20, 21, 22, 23, 24, 25, 26, 27, 28, 1 + (3 + 2 * 2), 1 + (4 + 2 * 2)] [0, 1, 2, 3, 4, 5, 6, 7, 10, 11, 12, 13, 14, 15] 29 rfl rfl (by decide) (by decide) rfl ⟨⟨_, rfl, rfl⟩, ⟨_, rfl, rfl⟩, ⟨_, rfl, rfl⟩, ⟨_, rfl, rfl⟩, ⟨_, rfl, rfl⟩, ⟨_, rfl, rfl⟩, ⟨_, rfl, rfl⟩, ⟨_, rfl, rfl⟩, ⟨_, rfl, rfl⟩, ⟨_, rfl, rfl⟩, ⟨_, rfl, rfl⟩, ⟨_, rfl, rfl⟩, ⟨_, rfl, rfl⟩, ⟨_, rfl, rfl⟩, trivial⟩
              · exact rj_by2 [16, 17, 18, 19, 20, 21, 22, 23, 24, 25, 26, 27, 28, 1 + (3 + 2 * 3), 1 + (4 + 2 * 3)] [0, 1, 2, 3, 4, 5, 6, 7, 8, 9, 12, 13, 14, 15] 29 rfl rfl (by decide) (by decide) rfl ⟨⟨_, rfl, rfl⟩, ⟨_, rfl, rfl⟩, ⟨_, rfl, rfl⟩, ⟨_, rfl, rfl⟩, ⟨_, rfl, rfl⟩, ⟨_, rfl, rfl⟩, ⟨_, rfl, rfl⟩, ⟨_, rfl, rfl⟩, ⟨_, rfl, rfl⟩, ⟨_, rfl, rfl⟩, ⟨_, rfl, rfl⟩, ⟨_, rfl, rfl⟩, ⟨_, rfl, rfl⟩, ⟨_, rfl, rfl⟩, trivial⟩
              · exact rj_by2 [16, 17, 18, 19, 20, 21, 22, 23, 24, 25, 26, 27, 28, 1 + (3 + 2 * 4), 1 + (4 + 2 * 4)] [0, 1, 2, 3, 4, 5, 6, 7, 8, 9, 10, 11, 14, 15] 29 rfl rfl (by decide) (by decide) rfl ⟨⟨_, rfl, rfl⟩, ⟨_, rfl, rfl⟩, ⟨_, rfl, rfl⟩, ⟨_, rfl, rfl⟩, ⟨_, rfl, rfl⟩, ⟨_, rfl, rfl⟩, ⟨_, rfl, rfl⟩, ⟨_, rfl, rfl⟩, ⟨_, rfl, rfl⟩, ⟨_, rfl, rfl⟩, ⟨_, rfl, rfl⟩, ⟨_, rfl, rfl⟩, ⟨_, rfl, rfl⟩, ⟨_, rfl, rfl⟩, trivial⟩
              · exact rj_by2 [16, 17, 18, 19, 20, 21, 22, 23, 24, 25, 26, 27, 28, 1 + (3 + 2 * 5), 1 + (4 + 2 * 5)] [0, 1, 2, 3, 4, 5, 6, 7, 8, 9, 10, 11, 12, 13] 29 rfl rfl (by decide) (by decide) rfl ⟨⟨_, rfl, rfl⟩, ⟨_, rfl, rfl⟩, ⟨_, rfl, rfl⟩, ⟨_, rfl, rfl⟩, ⟨_, rfl, rfl⟩, ⟨_, rfl, rfl⟩, ⟨_, rfl, rfl⟩, ⟨_, rfl, rfl⟩, ⟨_, rfl, rfl⟩, ⟨_, rfl, rfl⟩, ⟨_, rfl, rfl⟩, ⟨_, rfl, rfl⟩, ⟨_, rfl, rfl⟩, ⟨_, rfl, rfl⟩, trivial⟩) ?_
          show V G K 3 0 0 29 [some (.ref fs), some (.int (nI k)), some (.ref (rr k))] [.int (nI 1)] ([(fs, .inr (12, [.ref h, .ref h2, .ref h3, .ref hh, .ref hr, .ref hg, .ref hq, .ref hl, .int iS, .int eA, .int fA]))] ++ ((stW G h ah as_ rr ra (sHm s) (sNb s) (sNs s) (sLa s) (sLo s) (sNu s) (sTn s) (sSh s)) ++ (rbW G hr hp ap av he aw al af as3 ar u_26)))
          refine V.ifN_ne hC 1 34 dX12_isConsistent_29 rfl rfl (by omega) (fun c_29 => ?_) (fun c_29 => ?_)
          · refine V.iincN hC k 1 dX12_isConsistent_34 rfl [some (.ref fs), some (.int (nI (k + 1))), some (.ref (rr k))] (Nat.le_of_ble_eq_true rfl) rfl rfl rfl ?_
            refine V.goto hC 2 dX12_isConsistent_37 rfl ?_
            refine V.drop 2 (lv' := [some (.ref fs), some (.int (nI (k + 1))), none]) rfl ?_
            exact ih2 (k + 1) u_26 (by omega) (by omega) hE_26
          · exact absurd c_29 (by decide)
        · rw [if_neg hkn] at hp_13
          subst hp_13
          show V G K 3 0 0 16 [some (.ref fs), some (.int (nI k)), none] [.null] ([(fs, .inr (12, [.ref h, .ref h2, .ref h3, .ref hh, .ref hr, .ref hg, .ref hq, .ref hl, .int iS, .int eA, .int fA]))] ++ ((stW G h ah as_ rr ra (sHm s) (sNb s) (sNs s) (sLa s) (sLo s) (sNu s) (sTn s) (sSh s)) ++ (rbW G hr hp ap av he aw al af as3 ar E1)))
          refine V.astore_nN hC dX12_isConsistent_16 [some (.ref fs), some (.int (nI k)), some (.null)] (Nat.le_of_ble_eq_true rfl) rfl ?_
          refine V.aload_nN hC dX12_isConsistent_17 rfl ?_
          refine V.ifnullN hC 34 dX12_isConsistent_18 rfl ?_
          refine V.iincN hC k 1 dX12_isConsistent_34 rfl [some (.ref fs), some (.int (nI (k + 1))), some (.null)] (Nat.le_of_ble_eq_true rfl) rfl rfl rfl ?_
          refine V.goto hC 2 dX12_isConsistent_37 rfl ?_
          refine V.drop 2 (lv' := [some (.ref fs), some (.int (nI (k + 1))), none]) rfl ?_
          exact ih2 (k + 1) E1 (by omega) (by omega) hE1
  exact loop2 _ 0 E (Nat.lt_succ_self _) (by omega) hok
