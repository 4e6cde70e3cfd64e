/-! FeatherShares: writeSecret and writeNests (printed by gen/s52.py) -/
set_option maxHeartbeats 4000000 in
set_option maxRecDepth 100000 in
theorem c_writeSecret (l : Launch) (G : Gx) (hst : l.stackTraces = false) (fs h h2 h3 hh hr hg hq hl : Nat) (iS eA fA : Int32) (ah as_ : Nat) (rr ra : Nat → Nat) (s : ASt) (B : Nat) (hI : InvA B s) (hB : B < 10000) (lb cap : Nat) (f : Nat → Nat) (n : Nat) (ml : Int32) (hcap : capOK cap) (hn : n ≤ cap) (hfb : ∀ j, f j < 128) (x : Int32) : CtX l G (SFt G) yX12_writeSecret wsX12_writeSecret ({ frames := 7, cells := 37, slots := 2526, locals := 128 }) [.ref fs, .int x] ([(fs, .inr (12, [.ref h, .ref h2, .ref h3, .ref hh, .ref hr, .ref hg, .ref hq, .ref hl, .int iS, .int eA, .int fA]))] ++ ((stW G h ah as_ rr ra (sHm s) (sNb s) (sNs s) (sLa s) (sLo s) (sNu s) (sTn s) (sSh s)) ++ [(hl, .inr (1, [.ref lb, .int 0, .int ml, .int (nI n)])), (lb, .inl (gB G, cap, .inl (fun j => nI (f j))))])) mkI (fun (r : Int32) (u : Nat × Nat × (Nat → Nat) × Nat × Int32) => ∃ k, fd (sNu s) x (sNs s) = some k ∧ r = nI u.2.2.2.1 ∧ isT u.2.2.1 u.2.2.2.1 (wS s k 8) ∧ capOK u.2.1 ∧ u.2.2.2.1 ≤ u.2.1 ∧ (∀ j, u.2.2.1 j < 128) ∧ u.2.2.2.1 ≤ 60) (fun u : Nat × Nat × (Nat → Nat) × Nat × Int32 => ([(fs, .inr (12, [.ref h, .ref h2, .ref h3, .ref hh, .ref hr, .ref hg, .ref hq, .ref hl, .int iS, .int eA, .int fA]))] ++ ((stW G h ah as_ rr ra (sHm s) (sNb s) (sNs s) (sLa s) (sLo s) (sNu s) (sTn s) (sSh s)) ++ [(hl, .inr (1, [.ref (u.1), .int 0, .int (u.2.2.2.2), .int (nI (u.2.2.2.1))])), (u.1, .inl (gB G, u.2.1, .inl (fun j => nI ((u.2.2.1) j))))]))) (fun (E : String) (_ : Unit) => E = "java/util/NoSuchElementException" ∧ fd (sNu s) x (sNs s) = none) (fun _ : Unit => ([(fs, .inr (12, [.ref h, .ref h2, .ref h3, .ref hh, .ref hr, .ref hg, .ref hq, .ref hl, .int iS, .int eA, .int fA]))] ++ ((stW G h ah as_ rr ra (sHm s) (sNb s) (sNs s) (sLa s) (sLo s) (sNu s) (sTn s) (sSh s)) ++ [(hl, .inr (1, [.ref lb, .int 0, .int ml, .int (nI n)])), (lb, .inl (gB G, cap, .inl (fun j => nI (f j))))]))) 37 2526 := by
  have hb8 := hI.1
  have hs6 := hI.2.1
  refine CtX.ofI (cc := cX12_writeSecret) (maxL := 4) (by decide) rfl ⟨by simp [Value.category], Nat.le_of_ble_eq_true rfl⟩ ?_
  intro K hl hC hSF hnm hQ hE
  subst hl
  have hgot := SFgoS (SFt.k G) hSF
  have hgo := SFgo.x hgot
  have hSFt := hSF
  replace hSF := hSF.1
  have q0_ : ∀ w ∈ u_ws RX12 TX12 11, w ∈ wsX12_writeSecret := by decide +kernel
  have q1_ : Cond.fieldLink RX12 58 "FeatherShares" "line" "Ljava/lang/StringBuilder;" ∈ wsX12_writeSecret := by decide +kernel
  show V G K 4 0 0 0 [some (.ref fs), some (.int x), none, none] [] ([(fs, .inr (12, [.ref h, .ref h2, .ref h3, .ref hh, .ref hr, .ref hg, .ref hq, .ref hl, .int iS, .int eA, .int fA]))] ++ ((stW G h ah as_ rr ra (sHm s) (sNb s) (sNs s) (sLa s) (sLo s) (sNu s) (sTn s) (sSh s)) ++ [(hl, .inr (1, [.ref lb, .int 0, .int ml, .int (nI n)])), (lb, .inl (gB G, cap, .inl (fun j => nI (f j))))]))
  refine V.aload_n hC (x := fs) dX12_writeSecret_0 rfl ?_
  refine V.iload_n hC (x := x) dX12_writeSecret_1 rfl ?_
  refine V.callVXr (n := 1) (As := [.int x]) (rest := []) hC (c_existing (kl K) G hst fs h h2 h3 hh hr hg hq hl iS eA fA ah as_ rr ra s B hI x) (SFt.k G) hgot gX12_writeSecret_X12_existing rfl ⟨rfl, rfl⟩ (by decide +kernel) ⟨by decide, by decide, by decide, by decide⟩ [0, 1, 2, 3, 4, 5, 6, 7, 8, 9, 10, 11, 12, 13, 14, 15] rfl (by decide) rfl rfl rfl rfl (Nat.le_of_ble_eq_true rfl) dX12_writeSecret_2 (fun E_ u_ hx_ => VX.out hC hQ () hx_ rfl (Nat.le_of_ble_eq_true rfl) (Nat.le_of_ble_eq_true rfl)) (fun r_2 u_2 hp_2 => ?_)
  obtain ⟨k, hf, er_2⟩ := hp_2
  subst er_2
  have hk := (fd_lt hf hs6).2
  have ik := hI.2.2.1 k (fd_lt hf hs6).1
  show V G K 4 1 6 5 [some (.ref fs), some (.int x), none, none] [.ref (rr k)] ([(fs, .inr (12, [.ref h, .ref h2, .ref h3, .ref hh, .ref hr, .ref hg, .ref hq, .ref hl, .int iS, .int eA, .int fA]))] ++ ((stW G h ah as_ rr ra (sHm s) (sNb s) (sNs s) (sLa s) (sLo s) (sNu s) (sTn s) (sSh s)) ++ [(hl, .inr (1, [.ref lb, .int 0, .int ml, .int (nI n)])), (lb, .inl (gB G, cap, .inl (fun j => nI (f j))))]))
  refine V.astore_n hC dX12_writeSecret_5 [some (.ref fs), some (.int x), some (.ref (rr k)), none] (Nat.le_of_ble_eq_true rfl) rfl ?_
  refine V.aload_n hC (x := fs) dX12_writeSecret_6 rfl ?_
  refine V.getf hC (T := TX12) q0_ 7 q1_ rfl (0) rfl rfl (by decide) (.ref hl) rfl dX12_writeSecret_7 ?_
  refine V.iconst hC 0 dX12_writeSecret_10 rfl ?_
  refine V.callVG (n := 1) (As := [.int 0]) (rest := []) (wr := ([(fs, .inr (12, [.ref h, .ref h2, .ref h3, .ref hh, .ref hr, .ref hg, .ref hq, .ref hl, .int iS, .int eA, .int fA]))] ++ (stW G h ah as_ rr ra (sHm s) (sNb s) (sNs s) (sLa s) (sLo s) (sNu s) (sTn s) (sSh s)))) hC (c_setLength (kl K) G hl lb cap f n ml hcap hn hfb) (SFx.k G) hgo gX12_writeSecret_J4_setLength_d00df rfl ⟨rfl, rfl⟩ (by decide +kernel) ⟨by decide, by decide, by decide, by decide⟩ [16, 17] [0, 1, 2, 3, 4, 5, 6, 7, 8, 9, 10, 11, 12, 13, 14, 15] rfl (by decide) rfl (by decide) (by decide) rfl rfl rfl rfl (Nat.le_of_ble_eq_true rfl) dX12_writeSecret_11 (fun r_11 u_11 hp_11 => ?_)
  obtain ⟨hc_11, hf_11⟩ := hp_11
  have hn_11 : 0 ≤ u_11.2.1 := Nat.zero_le _
  have ht_11 := isT.nil u_11.2.2.1
  show V G K 4 2 76 14 [some (.ref fs), some (.int x), some (.ref (rr k)), none] [] ([(fs, .inr (12, [.ref h, .ref h2, .ref h3, .ref hh, .ref hr, .ref hg, .ref hq, .ref hl, .int iS, .int eA, .int fA]))] ++ ((stW G h ah as_ rr ra (sHm s) (sNb s) (sNs s) (sLa s) (sLo s) (sNu s) (sTn s) (sSh s)) ++ [(hl, .inr (1, [.ref (u_11.1), .int 0, .int (u_11.2.2.2), .int (nI 0)])), (u_11.1, .inl (gB G, u_11.2.1, .inl (fun j => nI ((u_11.2.2.1) j))))]))
  refine V.aload_n hC (x := fs) dX12_writeSecret_14 rfl ?_
  refine V.getf hC (T := TX12) q0_ 7 q1_ rfl (0) rfl rfl (by decide) (.ref hl) rfl dX12_writeSecret_15 ?_
  refine V.aload_n hC (x := rr k) dX12_writeSecret_18 rfl ?_
  refine V.callVr (n := 0) (As := []) (rest := [.ref hl]) hC (c_ownNumber (kl K) G (rr k) (ra k) (sSh s k) (sNu s k) (nI (sTn s k))) SFk0 SFgo0 gX12_writeSecret_X10_ownNumber rfl ⟨rfl, rfl⟩ (by decide +kernel) ⟨by decide, by decide, by decide, by decide⟩ [1 + (3 + 2 * k), 1 + (4 + 2 * k)] (by rcases (lt6 hk) with rfl | rfl | rfl | rfl | rfl | rfl <;> rfl) (by rcases (lt6 hk) with rfl | rfl | rfl | rfl | rfl | rfl <;> rfl) rfl rfl rfl rfl (Nat.le_of_ble_eq_true rfl) dX12_writeSecret_19 (fun r_19 u_19 hp_19 => ?_)
  obtain ⟨hnu1, hnu2⟩ := nu_ok hI hB (fd_lt hf hs6).1
  have hq_19 := hp_19.trans hnu1
  subst hq_19
  show V G K 4 2 76 22 [some (.ref fs), some (.int x), some (.ref (rr k)), none] [.int (nI (nuN s k)), .ref hl] ([(fs, .inr (12, [.ref h, .ref h2, .ref h3, .ref hh, .ref hr, .ref hg, .ref hq, .ref hl, .int iS, .int eA, .int fA]))] ++ ((stW G h ah as_ rr ra (sHm s) (sNb s) (sNs s) (sLa s) (sLo s) (sNu s) (sTn s) (sSh s)) ++ [(hl, .inr (1, [.ref (u_11.1), .int 0, .int (u_11.2.2.2), .int (nI 0)])), (u_11.1, .inl (gB G, u_11.2.1, .inl (fun j => nI ((u_11.2.2.1) j))))]))
  refine V.callVG (n := 1) (As := [.int (nI (nuN s k))]) (rest := []) (wr := ([(fs, .inr (12, [.ref h, .ref h2, .ref h3, .ref hh, .ref hr, .ref hg, .ref hq, .ref hl, .int iS, .int eA, .int fA]))] ++ (stW G h ah as_ rr ra (sHm s) (sNb s) (sNs s) (sLa s) (sLo s) (sNu s) (sTn s) (sSh s)))) hC (c_appendI (kl K) G hl (u_11.1) (u_11.2.1) (u_11.2.2.1) 0 (u_11.2.2.2) hc_11 hn_11 hf_11 (nuN s k) hnu2 (by omega)) (SFt.k G) hgot gX12_writeSecret_J4_append_bf812 rfl ⟨rfl, rfl⟩ (by decide +kernel) ⟨by decide, by decide, by decide, by decide⟩ [16, 17] [0, 1, 2, 3, 4, 5, 6, 7, 8, 9, 10, 11, 12, 13, 14, 15] rfl (by decide) rfl (by decide) (by decide) rfl rfl rfl rfl (Nat.le_of_ble_eq_true rfl) dX12_writeSecret_22 (fun r_22 u_22 hp_22 => ?_)
  obtain ⟨e_22, hc_22, hf_22, hn_22, hk_22, hv_22⟩ := hp_22
  subst e_22
  have ht_22 := isT.i ht_11 hk_22 hv_22
  have hd_22 : dgc (nuN s k) ≤ 4 := dgc_4l hnu2
  show V G K 4 3 146 25 [some (.ref fs), some (.int x), some (.ref (rr k)), none] [.ref hl] ([(fs, .inr (12, [.ref h, .ref h2, .ref h3, .ref hh, .ref hr, .ref hg, .ref hq, .ref hl, .int iS, .int eA, .int fA]))] ++ ((stW G h ah as_ rr ra (sHm s) (sNb s) (sNs s) (sLa s) (sLo s) (sNu s) (sTn s) (sSh s)) ++ [(hl, .inr (1, [.ref (u_22.1), .int 0, .int (u_11.2.2.2), .int (nI (0 + dgc (nuN s k)))])), (u_22.1, .inl (gB G, u_22.2.1, .inl (fun j => nI ((u_22.2.2) j))))]))
  refine V.bipush hC 47 dX12_writeSecret_25 rfl ?_
  refine V.callVG (n := 1) (As := [.int 47]) (rest := []) (wr := ([(fs, .inr (12, [.ref h, .ref h2, .ref h3, .ref hh, .ref hr, .ref hg, .ref hq, .ref hl, .int iS, .int eA, .int fA]))] ++ (stW G h ah as_ rr ra (sHm s) (sNb s) (sNs s) (sLa s) (sLo s) (sNu s) (sTn s) (sSh s)))) hC (c_appendC (kl K) G hl (u_22.1) (u_22.2.1) (u_22.2.2) (0 + dgc (nuN s k)) (u_11.2.2.2) hc_22 hn_22 hf_22 47 (by decide) (by omega)) (SFx.k G) hgo gX12_writeSecret_J4_append_cf468 rfl ⟨rfl, rfl⟩ (by decide +kernel) ⟨by decide, by decide, by decide, by decide⟩ [16, 17] [0, 1, 2, 3, 4, 5, 6, 7, 8, 9, 10, 11, 12, 13, 14, 15] rfl (by decide) rfl (by decide) (by decide) rfl rfl rfl rfl (Nat.le_of_ble_eq_true rfl) dX12_writeSecret_27 (fun r_27 u_27 hp_27 => ?_)
  obtain ⟨e_27, hc_27, hf_27, hn_27, hk_27, hv_27⟩ := hp_27
  subst e_27
  have ht_27 := isT.c ht_22 hk_27 hv_27
  show V G K 4 4 216 30 [some (.ref fs), some (.int x), some (.ref (rr k)), none] [.ref hl] ([(fs, .inr (12, [.ref h, .ref h2, .ref h3, .ref hh, .ref hr, .ref hg, .ref hq, .ref hl, .int iS, .int eA, .int fA]))] ++ ((stW G h ah as_ rr ra (sHm s) (sNb s) (sNs s) (sLa s) (sLo s) (sNu s) (sTn s) (sSh s)) ++ [(hl, .inr (1, [.ref (u_27.1), .int 0, .int (u_11.2.2.2), .int (nI (0 + dgc (nuN s k) + 1))])), (u_27.1, .inl (gB G, u_27.2.1, .inl (fun j => nI ((u_27.2.2) j))))]))
  refine V.aload_n hC (x := rr k) dX12_writeSecret_30 rfl ?_
  refine V.callVr (n := 0) (As := []) (rest := [.ref hl]) hC (c_need (kl K) G (rr k) (ra k) (sSh s k) (sNu s k) (nI (sTn s k))) SFk0 SFgo0 gX12_writeSecret_X10_need rfl ⟨rfl, rfl⟩ (by decide +kernel) ⟨by decide, by decide, by decide, by decide⟩ [1 + (3 + 2 * k), 1 + (4 + 2 * k)] (by rcases (lt6 hk) with rfl | rfl | rfl | rfl | rfl | rfl <;> rfl) (by rcases (lt6 hk) with rfl | rfl | rfl | rfl | rfl | rfl <;> rfl) rfl rfl rfl rfl (Nat.le_of_ble_eq_true rfl) dX12_writeSecret_31 (fun r_31 u_31 hp_31 => ?_)
  subst hp_31
  show V G K 4 4 216 34 [some (.ref fs), some (.int x), some (.ref (rr k)), none] [.int (nI (sTn s k)), .ref hl] ([(fs, .inr (12, [.ref h, .ref h2, .ref h3, .ref hh, .ref hr, .ref hg, .ref hq, .ref hl, .int iS, .int eA, .int fA]))] ++ ((stW G h ah as_ rr ra (sHm s) (sNb s) (sNs s) (sLa s) (sLo s) (sNu s) (sTn s) (sSh s)) ++ [(hl, .inr (1, [.ref (u_27.1), .int 0, .int (u_11.2.2.2), .int (nI (0 + dgc (nuN s k) + 1))])), (u_27.1, .inl (gB G, u_27.2.1, .inl (fun j => nI ((u_27.2.2) j))))]))
  refine V.callVG (n := 1) (As := [.int (nI (sTn s k))]) (rest := []) (wr := ([(fs, .inr (12, [.ref h, .ref h2, .ref h3, .ref hh, .ref hr, .ref hg, .ref hq, .ref hl, .int iS, .int eA, .int fA]))] ++ (stW G h ah as_ rr ra (sHm s) (sNb s) (sNs s) (sLa s) (sLo s) (sNu s) (sTn s) (sSh s)))) hC (c_appendI (kl K) G hl (u_27.1) (u_27.2.1) (u_27.2.2) (0 + dgc (nuN s k) + 1) (u_11.2.2.2) hc_27 hn_27 hf_27 (sTn s k) (by omega) (by omega)) (SFt.k G) hgot gX12_writeSecret_J4_append_bf812 rfl ⟨rfl, rfl⟩ (by decide +kernel) ⟨by decide, by decide, by decide, by decide⟩ [16, 17] [0, 1, 2, 3, 4, 5, 6, 7, 8, 9, 10, 11, 12, 13, 14, 15] rfl (by decide) rfl (by decide) (by decide) rfl rfl rfl rfl (Nat.le_of_ble_eq_true rfl) dX12_writeSecret_34 (fun r_34 u_34 hp_34 => ?_)
  obtain ⟨e_34, hc_34, hf_34, hn_34, hk_34, hv_34⟩ := hp_34
  subst e_34
  have ht_34 := isT.i ht_27 hk_34 hv_34
  have hd_34 : dgc (sTn s k) ≤ 1 := Nat.le_of_eq (dgc_1 (by omega))
  show V G K 4 5 286 37 [some (.ref fs), some (.int x), some (.ref (rr k)), none] [.ref hl] ([(fs, .inr (12, [.ref h, .ref h2, .ref h3, .ref hh, .ref hr, .ref hg, .ref hq, .ref hl, .int iS, .int eA, .int fA]))] ++ ((stW G h ah as_ rr ra (sHm s) (sNb s) (sNs s) (sLa s) (sLo s) (sNu s) (sTn s) (sSh s)) ++ [(hl, .inr (1, [.ref (u_34.1), .int 0, .int (u_11.2.2.2), .int (nI (0 + dgc (nuN s k) + 1 + dgc (sTn s k)))])), (u_34.1, .inl (gB G, u_34.2.1, .inl (fun j => nI ((u_34.2.2) j))))]))
  refine V.pop hC dX12_writeSecret_37 rfl ?_
  refine V.iconst hC 0 dX12_writeSecret_38 rfl ?_
  refine V.istore_n hC dX12_writeSecret_39 [some (.ref fs), some (.int x), some (.ref (rr k)), some (.int 0)] (Nat.le_of_ble_eq_true rfl) rfl ?_
  have loop40 : ∀ (n : Nat) (j : Nat) (b1 : Nat) (c1 : Nat) (f1 : Nat → Nat) (n1 : Nat) (m1 : Int32), 8 - j < n → (j ≤ 8) → (capOK c1) → (n1 ≤ c1) → (∀ i, f1 i < 128) → (isT f1 n1 (wS s k j)) → (n1 ≤ 6 + 5 * j) → V G K 4 (5 + 4 * j) (286 + 280 * j) 40 [some (.ref fs), some (.int x), some (.ref (rr k)), some (.int (nI j))] [] ([(fs, .inr (12, [.ref h, .ref h2, .ref h3, .ref hh, .ref hr, .ref hg, .ref hq, .ref hl, .int iS, .int eA, .int fA]))] ++ ((stW G h ah as_ rr ra (sHm s) (sNb s) (sNs s) (sLa s) (sLo s) (sNu s) (sTn s) (sSh s)) ++ [(hl, .inr (1, [.ref b1, .int 0, .int m1, .int (nI n1)])), (b1, .inl (gB G, c1, .inl (fun j => nI (f1 j))))])) := by
    intro n
    induction n with
    | zero => intro j b1 c1 f1 n1 m1 hlt; exact absurd hlt (Nat.not_lt_zero _)
    | succ n ih40 =>
      intro j b1 c1 f1 n1 m1 hlt40 hj hc_L hn_L hf_L ht_L hq_L
      refine V.iload_n hC (x := nI j) dX12_writeSecret_40 rfl ?_
      refine V.bipush hC 8 dX12_writeSecret_41 rfl ?_
      refine V.icmpN_ge hC j 8 87 dX12_writeSecret_43 rfl rfl rfl (by omega) (by omega) (fun c_43 => ?_) (fun c_43 => ?_)
      · refine V.aload_n hC (x := fs) dX12_writeSecret_87 rfl ?_
        refine V.getf hC (T := TX12) q0_ 7 q1_ rfl (0) rfl rfl (by decide) (.ref hl) rfl dX12_writeSecret_88 ?_
        refine V.callVr (n := 0) (As := []) (rest := []) hC (c_sbLength (kl K) G hl b1 c1 f1 n1 m1 hc_L hn_L hf_L) SFk0 SFgo0 gX12_writeSecret_J4_length_8abf5 rfl ⟨rfl, rfl⟩ (by decide +kernel) ⟨by decide, by decide, by show _ ≤ 37; omega, by show _ ≤ 2526; omega⟩ [16, 17] rfl (by decide) rfl rfl rfl rfl (Nat.le_of_ble_eq_true rfl) dX12_writeSecret_91 (fun r_91 u_91 hp_91 => ?_)
        subst hp_91
        show V G K 4 (5 + 4 * j) (286 + 280 * j) 94 [some (.ref fs), some (.int x), some (.ref (rr k)), some (.int (nI j))] [.int (nI n1)] ([(fs, .inr (12, [.ref h, .ref h2, .ref h3, .ref hh, .ref hr, .ref hg, .ref hq, .ref hl, .int iS, .int eA, .int fA]))] ++ ((stW G h ah as_ rr ra (sHm s) (sNb s) (sNs s) (sLa s) (sLo s) (sNu s) (sTn s) (sSh s)) ++ [(hl, .inr (1, [.ref b1, .int 0, .int m1, .int (nI n1)])), (b1, .inl (gB G, c1, .inl (fun j => nI (f1 j))))]))
        refine V.widen (k := 37) (n := 2526) (by omega) (by omega) ?_
        exact hE 94 _ (nI n1) (b1, c1, f1, n1, m1) dX12_writeSecret_94 rfl ⟨k, hf, rfl, (by rw [show (8 : Nat) = j by omega]; exact ht_L), hc_L, hn_L, hf_L, (by show n1 ≤ 60; omega)⟩
      · refine V.aload_n hC (x := rr k) dX12_writeSecret_46 rfl ?_
        refine V.iload_n hC (x := nI j) dX12_writeSecret_47 rfl ?_
        refine V.callVr (n := 1) (As := [.int (nI j)]) (rest := []) hC (c_isHeldBy (kl K) G (rr k) (ra k) (sSh s k) (sNu s k) (nI (sTn s k)) j (by omega)) SFk0 SFgo0 gX12_writeSecret_X10_isHeldBy rfl ⟨rfl, rfl⟩ (by decide +kernel) ⟨by decide, by decide, by show _ ≤ 37; omega, by show _ ≤ 2526; omega⟩ [1 + (3 + 2 * k), 1 + (4 + 2 * k)] (by rcases (lt6 hk) with rfl | rfl | rfl | rfl | rfl | rfl <;> rfl) (by rcases (lt6 hk) with rfl | rfl | rfl | rfl | rfl | rfl <;> rfl) rfl rfl rfl rfl (Nat.le_of_ble_eq_true rfl) dX12_writeSecret_48 (fun r_48 u_48 hp_48 => ?_)
        subst hp_48
        show V G K 4 (5 + 4 * j) (286 + 280 * j) 51 [some (.ref fs), some (.int x), some (.ref (rr k)), some (.int (nI j))] [.int (if sSh s k j = -1 then 0 else 1)] ([(fs, .inr (12, [.ref h, .ref h2, .ref h3, .ref hh, .ref hr, .ref hg, .ref hq, .ref hl, .int iS, .int eA, .int fA]))] ++ ((stW G h ah as_ rr ra (sHm s) (sNb s) (sNs s) (sLa s) (sLo s) (sNu s) (sTn s) (sSh s)) ++ [(hl, .inr (1, [.ref b1, .int 0, .int m1, .int (nI n1)])), (b1, .inl (gB G, c1, .inl (fun j => nI (f1 j))))]))
        refine V.if_eq hC 81 dX12_writeSecret_51 rfl (fun c_51 => ?_) (fun c_51 => ?_)
        · refine V.iincN hC j 1 dX12_writeSecret_81 rfl [some (.ref fs), some (.int x), some (.ref (rr k)), some (.int (nI (j + 1)))] (Nat.le_of_ble_eq_true rfl) rfl rfl rfl ?_
          refine V.goto hC 40 dX12_writeSecret_84 rfl ?_
          refine V.widen (k := 5 + 4 * (j + 1)) (n := 286 + 280 * (j + 1)) (by omega) (by omega) ?_
          exact ih40 (j + 1) b1 c1 f1 n1 m1 (by omega) (by omega) hc_L hn_L hf_L (isT.app ht_L (wS_no (if01 c_51))) (by omega)
        · refine V.aload_n hC (x := fs) dX12_writeSecret_54 rfl ?_
          refine V.getf hC (T := TX12) q0_ 7 q1_ rfl (0) rfl rfl (by decide) (.ref hl) rfl dX12_writeSecret_55 ?_
          refine V.bipush hC 32 dX12_writeSecret_58 rfl ?_
          refine V.callVG (n := 1) (As := [.int 32]) (rest := []) (wr := ([(fs, .inr (12, [.ref h, .ref h2, .ref h3, .ref hh, .ref hr, .ref hg, .ref hq, .ref hl, .int iS, .int eA, .int fA]))] ++ (stW G h ah as_ rr ra (sHm s) (sNb s) (sNs s) (sLa s) (sLo s) (sNu s) (sTn s) (sSh s)))) hC (c_appendC (kl K) G hl b1 c1 f1 n1 m1 hc_L hn_L hf_L 32 (by decide) (by omega)) (SFx.k G) hgo gX12_writeSecret_J4_append_cf468 rfl ⟨rfl, rfl⟩ (by decide +kernel) ⟨by decide, by decide, by show _ ≤ 37; omega, by show _ ≤ 2526; omega⟩ [16, 17] [0, 1, 2, 3, 4, 5, 6, 7, 8, 9, 10, 11, 12, 13, 14, 15] rfl (by decide) rfl (by decide) (by decide) rfl rfl rfl rfl (Nat.le_of_ble_eq_true rfl) dX12_writeSecret_60 (fun r_60 u_60 hp_60 => ?_)
          obtain ⟨e_60, hc_60, hf_60, hn_60, hk_60, hv_60⟩ := hp_60
          subst e_60
          have ht_60 := isT.c ht_L hk_60 hv_60
          show V G K 4 (5 + 4 * j + 1) (286 + 280 * j + 70) 63 [some (.ref fs), some (.int x), some (.ref (rr k)), some (.int (nI j))] [.ref hl] ([(fs, .inr (12, [.ref h, .ref h2, .ref h3, .ref hh, .ref hr, .ref hg, .ref hq, .ref hl, .int iS, .int eA, .int fA]))] ++ ((stW G h ah as_ rr ra (sHm s) (sNb s) (sNs s) (sLa s) (sLo s) (sNu s) (sTn s) (sSh s)) ++ [(hl, .inr (1, [.ref (u_60.1), .int 0, .int m1, .int (nI (n1 + 1))])), (u_60.1, .inl (gB G, u_60.2.1, .inl (fun j => nI ((u_60.2.2) j))))]))
          refine V.iload_n hC (x := nI j) dX12_writeSecret_63 rfl ?_
          refine V.callVG (n := 1) (As := [.int (nI j)]) (rest := []) (wr := ([(fs, .inr (12, [.ref h, .ref h2, .ref h3, .ref hh, .ref hr, .ref hg, .ref hq, .ref hl, .int iS, .int eA, .int fA]))] ++ (stW G h ah as_ rr ra (sHm s) (sNb s) (sNs s) (sLa s) (sLo s) (sNu s) (sTn s) (sSh s)))) hC (c_appendI (kl K) G hl (u_60.1) (u_60.2.1) (u_60.2.2) (n1 + 1) m1 hc_60 hn_60 hf_60 j (by omega) (by omega)) (SFt.k G) hgot gX12_writeSecret_J4_append_bf812 rfl ⟨rfl, rfl⟩ (by decide +kernel) ⟨by decide, by decide, by show _ ≤ 37; omega, by show _ ≤ 2526; omega⟩ [16, 17] [0, 1, 2, 3, 4, 5, 6, 7, 8, 9, 10, 11, 12, 13, 14, 15] rfl (by decide) rfl (by decide) (by decide) rfl rfl rfl rfl (Nat.le_of_ble_eq_true rfl) dX12_writeSecret_64 (fun r_64 u_64 hp_64 => ?_)
          obtain ⟨e_64, hc_64, hf_64, hn_64, hk_64, hv_64⟩ := hp_64
          subst e_64
          have ht_64 := isT.i ht_60 hk_64 hv_64
          have hd_64 : dgc j ≤ 1 := Nat.le_of_eq (dgc_1 (by omega))
          show V G K 4 (5 + 4 * j + 1 + 1) (286 + 280 * j + 70 + 70) 67 [some (.ref fs), some (.int x), some (.ref (rr k)), some (.int (nI j))] [.ref hl] ([(fs, .inr (12, [.ref h, .ref h2, .ref h3, .ref hh, .ref hr, .ref hg, .ref hq, .ref hl, .int iS, .int eA, .int fA]))] ++ ((stW G h ah as_ rr ra (sHm s) (sNb s) (sNs s) (sLa s) (sLo s) (sNu s) (sTn s) (sSh s)) ++ [(hl, .inr (1, [.ref (u_64.1), .int 0, .int m1, .int (nI (n1 + 1 + dgc j))])), (u_64.1, .inl (gB G, u_64.2.1, .inl (fun j => nI ((u_64.2.2) j))))]))
          refine V.bipush hC 58 dX12_writeSecret_67 rfl ?_
          refine V.callVG (n := 1) (As := [.int 58]) (rest := []) (wr := ([(fs, .inr (12, [.ref h, .ref h2, .ref h3, .ref hh, .ref hr, .ref hg, .ref hq, .ref hl, .int iS, .int eA, .int fA]))] ++ (stW G h ah as_ rr ra (sHm s) (sNb s) (sNs s) (sLa s) (sLo s) (sNu s) (sTn s) (sSh s)))) hC (c_appendC (kl K) G hl (u_64.1) (u_64.2.1) (u_64.2.2) (n1 + 1 + dgc j) m1 hc_64 hn_64 hf_64 58 (by decide) (by omega)) (SFx.k G) hgo gX12_writeSecret_J4_append_cf468 rfl ⟨rfl, rfl⟩ (by decide +kernel) ⟨by decide, by decide, by show _ ≤ 37; omega, by show _ ≤ 2526; omega⟩ [16, 17] [0, 1, 2, 3, 4, 5, 6, 7, 8, 9, 10, 11, 12, 13, 14, 15] rfl (by decide) rfl (by decide) (by decide) rfl rfl rfl rfl (Nat.le_of_ble_eq_true rfl) dX12_writeSecret_69 (fun r_69 u_69 hp_69 => ?_)
          obtain ⟨e_69, hc_69, hf_69, hn_69, hk_69, hv_69⟩ := hp_69
          subst e_69
          have ht_69 := isT.c ht_64 hk_69 hv_69
          show V G K 4 (5 + 4 * j + 1 + 1 + 1) (286 + 280 * j + 70 + 70 + 70) 72 [some (.ref fs), some (.int x), some (.ref (rr k)), some (.int (nI j))] [.ref hl] ([(fs, .inr (12, [.ref h, .ref h2, .ref h3, .ref hh, .ref hr, .ref hg, .ref hq, .ref hl, .int iS, .int eA, .int fA]))] ++ ((stW G h ah as_ rr ra (sHm s) (sNb s) (sNs s) (sLa s) (sLo s) (sNu s) (sTn s) (sSh s)) ++ [(hl, .inr (1, [.ref (u_69.1), .int 0, .int m1, .int (nI (n1 + 1 + dgc j + 1))])), (u_69.1, .inl (gB G, u_69.2.1, .inl (fun j => nI ((u_69.2.2) j))))]))
          refine V.aload_n hC (x := rr k) dX12_writeSecret_72 rfl ?_
          refine V.iload_n hC (x := nI j) dX12_writeSecret_73 rfl ?_
          refine V.callVr (n := 1) (As := [.int (nI j)]) (rest := [.ref hl]) hC (c_shareWith (kl K) G (rr k) (ra k) (sSh s k) (sNu s k) (nI (sTn s k)) j (by omega)) SFk0 SFgo0 gX12_writeSecret_X10_shareWith rfl ⟨rfl, rfl⟩ (by decide +kernel) ⟨by decide, by decide, by show _ ≤ 37; omega, by show _ ≤ 2526; omega⟩ [1 + (3 + 2 * k), 1 + (4 + 2 * k)] (by rcases (lt6 hk) with rfl | rfl | rfl | rfl | rfl | rfl <;> rfl) (by rcases (lt6 hk) with rfl | rfl | rfl | rfl | rfl | rfl <;> rfl) rfl rfl rfl rfl (Nat.le_of_ble_eq_true rfl) dX12_writeSecret_74 (fun r_74 u_74 hp_74 => ?_)
          have hs97 := ik.2.2.1 j (by omega) (if01n c_51)
          have hq_74 := hp_74.trans hs97.1
          subst hq_74
          show V G K 4 (5 + 4 * j + 1 + 1 + 1) (286 + 280 * j + 70 + 70 + 70) 77 [some (.ref fs), some (.int x), some (.ref (rr k)), some (.int (nI j))] [.int (nI (svn (sSh s k) j)), .ref hl] ([(fs, .inr (12, [.ref h, .ref h2, .ref h3, .ref hh, .ref hr, .ref hg, .ref hq, .ref hl, .int iS, .int eA, .int fA]))] ++ ((stW G h ah as_ rr ra (sHm s) (sNb s) (sNs s) (sLa s) (sLo s) (sNu s) (sTn s) (sSh s)) ++ [(hl, .inr (1, [.ref (u_69.1), .int 0, .int m1, .int (nI (n1 + 1 + dgc j + 1))])), (u_69.1, .inl (gB G, u_69.2.1, .inl (fun j => nI ((u_69.2.2) j))))]))
          refine V.callVG (n := 1) (As := [.int (nI (svn (sSh s k) j))]) (rest := []) (wr := ([(fs, .inr (12, [.ref h, .ref h2, .ref h3, .ref hh, .ref hr, .ref hg, .ref hq, .ref hl, .int iS, .int eA, .int fA]))] ++ (stW G h ah as_ rr ra (sHm s) (sNb s) (sNs s) (sLa s) (sLo s) (sNu s) (sTn s) (sSh s)))) hC (c_appendI (kl K) G hl (u_69.1) (u_69.2.1) (u_69.2.2) (n1 + 1 + dgc j + 1) m1 hc_69 hn_69 hf_69 (svn (sSh s k) j) (by omega) (by omega)) (SFt.k G) hgot gX12_writeSecret_J4_append_bf812 rfl ⟨rfl, rfl⟩ (by decide +kernel) ⟨by decide, by decide, by show _ ≤ 37; omega, by show _ ≤ 2526; omega⟩ [16, 17] [0, 1, 2, 3, 4, 5, 6, 7, 8, 9, 10, 11, 12, 13, 14, 15] rfl (by decide) rfl (by decide) (by decide) rfl rfl rfl rfl (Nat.le_of_ble_eq_true rfl) dX12_writeSecret_77 (fun r_77 u_77 hp_77 => ?_)
          obtain ⟨e_77, hc_77, hf_77, hn_77, hk_77, hv_77⟩ := hp_77
          subst e_77
          have ht_77 := isT.i ht_69 hk_77 hv_77
          have hd_77 : dgc (svn (sSh s k) j) ≤ 2 := dgc_2l (by omega)
          show V G K 4 (5 + 4 * j + 1 + 1 + 1 + 1) (286 + 280 * j + 70 + 70 + 70 + 70) 80 [some (.ref fs), some (.int x), some (.ref (rr k)), some (.int (nI j))] [.ref hl] ([(fs, .inr (12, [.ref h, .ref h2, .ref h3, .ref hh, .ref hr, .ref hg, .ref hq, .ref hl, .int iS, .int eA, .int fA]))] ++ ((stW G h ah as_ rr ra (sHm s) (sNb s) (sNs s) (sLa s) (sLo s) (sNu s) (sTn s) (sSh s)) ++ [(hl, .inr (1, [.ref (u_77.1), .int 0, .int m1, .int (nI (n1 + 1 + dgc j + 1 + dgc (svn (sSh s k) j)))])), (u_77.1, .inl (gB G, u_77.2.1, .inl (fun j => nI ((u_77.2.2) j))))]))
          refine V.pop hC dX12_writeSecret_80 rfl ?_
          refine V.iincN hC j 1 dX12_writeSecret_81 rfl [some (.ref fs), some (.int x), some (.ref (rr k)), some (.int (nI (j + 1)))] (Nat.le_of_ble_eq_true rfl) rfl rfl rfl ?_
          refine V.goto hC 40 dX12_writeSecret_84 rfl ?_
          refine V.widen (k := 5 + 4 * (j + 1)) (n := 286 + 280 * (j + 1)) (by omega) (by omega) ?_
          exact ih40 (j + 1) (u_77.1) (u_77.2.1) (u_77.2.2) (n1 + 1 + dgc j + 1 + dgc (svn (sSh s k) j)) m1 (by omega) (by omega) hc_77 hn_77 hf_77 (isT.app ht_77 (wS_yes (if01n c_51))) (by omega)
  refine V.widen (k := 5 + 4 * 0) (n := 286 + 280 * 0) (by omega) (by omega) ?_
  exact loop40 _ 0 (u_34.1) (u_34.2.1) (u_34.2.2) (0 + dgc (nuN s k) + 1 + dgc (sTn s k)) (u_11.2.2.2) (Nat.lt_succ_self _) (by omega) hc_34 hn_34 hf_34 (isT.app ht_34 (wS_0 s k)) (by omega)

set_option maxHeartbeats 4000000 in
set_option maxRecDepth 100000 in
theorem c_writeNests (l : Launch) (G : Gx) (hst : l.stackTraces = false) (fs h h2 h3 hh hr hg hq hl : Nat) (iS eA fA : Int32) (ah as_ : Nat) (rr ra : Nat → Nat) (s : ASt) (B : Nat) (hI : InvA B s) (lb cap : Nat) (f : Nat → Nat) (n : Nat) (ml : Int32) (hcap : capOK cap) (hn : n ≤ cap) (hfb : ∀ j, f j < 128) : Ct l G (SFt G) yX12_writeNests wsX12_writeNests ({ frames := 6, cells := 41, slots := 2870, locals := 128 }) [.ref fs] ([(fs, .inr (12, [.ref h, .ref h2, .ref h3, .ref hh, .ref hr, .ref hg, .ref hq, .ref hl, .int iS, .int eA, .int fA]))] ++ ((stW G h ah as_ rr ra (sHm s) (sNb s) (sNs s) (sLa s) (sLo s) (sNu s) (sTn s) (sSh s)) ++ [(hl, .inr (1, [.ref lb, .int 0, .int ml, .int (nI n)])), (lb, .inl (gB G, cap, .inl (fun j => nI (f j))))])) mkI (fun (r : Int32) (u : Nat × Nat × (Nat → Nat) × Nat × Int32) => r = nI u.2.2.2.1 ∧ isT u.2.2.1 u.2.2.2.1 (wns s 4) ∧ capOK u.2.1 ∧ u.2.2.2.1 ≤ u.2.1 ∧ (∀ j, u.2.2.1 j < 128) ∧ u.2.2.2.1 ≤ 60) (fun u : Nat × Nat × (Nat → Nat) × Nat × Int32 => ([(fs, .inr (12, [.ref h, .ref h2, .ref h3, .ref hh, .ref hr, .ref hg, .ref hq, .ref hl, .int iS, .int eA, .int fA]))] ++ ((stW G h ah as_ rr ra (sHm s) (sNb s) (sNs s) (sLa s) (sLo s) (sNu s) (sTn s) (sSh s)) ++ [(hl, .inr (1, [.ref (u.1), .int 0, .int (u.2.2.2.2), .int (nI (u.2.2.2.1))])), (u.1, .inl (gB G, u.2.1, .inl (fun j => nI ((u.2.2.1) j))))]))) 41 2870 := by
  have hb8 := hI.1
  have hs6 := hI.2.1
  refine Ct.ofI (cc := cX12_writeNests) (maxL := 3) (by decide) rfl ⟨by simp [Value.category], Nat.le_of_ble_eq_true rfl⟩ ?_
  intro K hl hC hSF hnm hE
  subst hl
  have hgot := SFgoS (SFt.k G) hSF
  have hgo := SFgo.x hgot
  have hSFt := hSF
  replace hSF := hSF.1
  have q0_ : ∀ w ∈ u_ws RX12 TX12 11, w ∈ wsX12_writeNests := by decide +kernel
  have q1_ : Cond.fieldLink RX12 58 "FeatherShares" "line" "Ljava/lang/StringBuilder;" ∈ wsX12_writeNests := by decide +kernel
  have q2_ : Cond.fieldLink RX12 20 "FeatherShares" "state" "LFeatherShares$State;" ∈ wsX12_writeNests := by decide +kernel
  show V G K 3 0 0 0 [some (.ref fs), none, none] [] ([(fs, .inr (12, [.ref h, .ref h2, .ref h3, .ref hh, .ref hr, .ref hg, .ref hq, .ref hl, .int iS, .int eA, .int fA]))] ++ ((stW G h ah as_ rr ra (sHm s) (sNb s) (sNs s) (sLa s) (sLo s) (sNu s) (sTn s) (sSh s)) ++ [(hl, .inr (1, [.ref lb, .int 0, .int ml, .int (nI n)])), (lb, .inl (gB G, cap, .inl (fun j => nI (f j))))]))
  refine V.aload_n hC (x := fs) dX12_writeNests_0 rfl ?_
  refine V.getf hC (T := TX12) q0_ 7 q1_ rfl (0) rfl rfl (by decide) (.ref hl) rfl dX12_writeNests_1 ?_
  refine V.iconst hC 0 dX12_writeNests_4 rfl ?_
  refine V.callVG (n := 1) (As := [.int 0]) (rest := []) (wr := ([(fs, .inr (12, [.ref h, .ref h2, .ref h3, .ref hh, .ref hr, .ref hg, .ref hq, .ref hl, .int iS, .int eA, .int fA]))] ++ (stW G h ah as_ rr ra (sHm s) (sNb s) (sNs s) (sLa s) (sLo s) (sNu s) (sTn s) (sSh s)))) hC (c_setLength (kl K) G hl lb cap f n ml hcap hn hfb) (SFx.k G) hgo gX12_writeNests_J4_setLength_d00df rfl ⟨rfl, rfl⟩ (by decide +kernel) ⟨by decide, by decide, by decide, by decide⟩ [16, 17] [0, 1, 2, 3, 4, 5, 6, 7, 8, 9, 10, 11, 12, 13, 14, 15] rfl (by decide) rfl (by decide) (by decide) rfl rfl rfl rfl (Nat.le_of_ble_eq_true rfl) dX12_writeNests_5 (fun r_5 u_5 hp_5 => ?_)
  obtain ⟨hc_5, hf_5⟩ := hp_5
  have hn_5 : 0 ≤ u_5.2.1 := Nat.zero_le _
  have ht_5 := isT.nil u_5.2.2.1
  show V G K 3 1 70 8 [some (.ref fs), none, none] [] ([(fs, .inr (12, [.ref h, .ref h2, .ref h3, .ref hh, .ref hr, .ref hg, .ref hq, .ref hl, .int iS, .int eA, .int fA]))] ++ ((stW G h ah as_ rr ra (sHm s) (sNb s) (sNs s) (sLa s) (sLo s) (sNu s) (sTn s) (sSh s)) ++ [(hl, .inr (1, [.ref (u_5.1), .int 0, .int (u_5.2.2.2), .int (nI 0)])), (u_5.1, .inl (gB G, u_5.2.1, .inl (fun j => nI ((u_5.2.2.1) j))))]))
  refine V.iconst hC 0 dX12_writeNests_8 rfl ?_
  refine V.istore_n hC dX12_writeNests_9 [some (.ref fs), some (.int 0), none] (Nat.le_of_ble_eq_true rfl) rfl ?_
  have loop10 : ∀ (n : Nat) (i : Nat) (b1 : Nat) (c1 : Nat) (f1 : Nat → Nat) (n1 : Nat) (m1 : Int32), 4 - i < n → (i ≤ 4) → (capOK c1) → (n1 ≤ c1) → (∀ z, f1 z < 128) → (isT f1 n1 (wns s i)) → (n1 ≤ 10 * i) → V G K 3 (1 + 10 * i) (70 + 700 * i) 10 [some (.ref fs), some (.int (nI i)), none] [] ([(fs, .inr (12, [.ref h, .ref h2, .ref h3, .ref hh, .ref hr, .ref hg, .ref hq, .ref hl, .int iS, .int eA, .int fA]))] ++ ((stW G h ah as_ rr ra (sHm s) (sNb s) (sNs s) (sLa s) (sLo s) (sNu s) (sTn s) (sSh s)) ++ [(hl, .inr (1, [.ref b1, .int 0, .int m1, .int (nI n1)])), (b1, .inl (gB G, c1, .inl (fun j => nI (f1 j))))])) := by
    intro n
    induction n with
    | zero => intro i b1 c1 f1 n1 m1 hlt; exact absurd hlt (Nat.not_lt_zero _)
    | succ n ih10 =>
      intro i b1 c1 f1 n1 m1 hlt10 hi4 hc_L hn_L hf_L ht_L hq_L
      refine V.iload_n hC (x := nI i) dX12_writeNests_10 rfl ?_
      refine V.iconst hC 4 dX12_writeNests_11 rfl ?_
      refine V.icmpN_ge hC i 4 81 dX12_writeNests_12 rfl rfl rfl (by omega) (by omega) (fun c_12 => ?_) (fun c_12 => ?_)
      · refine V.aload_n hC (x := fs) dX12_writeNests_81 rfl ?_
        refine V.getf hC (T := TX12) q0_ 7 q1_ rfl (0) rfl rfl (by decide) (.ref hl) rfl dX12_writeNests_82 ?_
        refine V.callVr (n := 0) (As := []) (rest := []) hC (c_sbLength (kl K) G hl b1 c1 f1 n1 m1 hc_L hn_L hf_L) SFk0 SFgo0 gX12_writeNests_J4_length_8abf5 rfl ⟨rfl, rfl⟩ (by decide +kernel) ⟨by decide, by decide, by show _ ≤ 41; omega, by show _ ≤ 2870; omega⟩ [16, 17] rfl (by decide) rfl rfl rfl rfl (Nat.le_of_ble_eq_true rfl) dX12_writeNests_85 (fun r_85 u_85 hp_85 => ?_)
        subst hp_85
        show V G K 3 (1 + 10 * i) (70 + 700 * i) 88 [some (.ref fs), some (.int (nI i)), none] [.int (nI n1)] ([(fs, .inr (12, [.ref h, .ref h2, .ref h3, .ref hh, .ref hr, .ref hg, .ref hq, .ref hl, .int iS, .int eA, .int fA]))] ++ ((stW G h ah as_ rr ra (sHm s) (sNb s) (sNs s) (sLa s) (sLo s) (sNu s) (sTn s) (sSh s)) ++ [(hl, .inr (1, [.ref b1, .int 0, .int m1, .int (nI n1)])), (b1, .inl (gB G, c1, .inl (fun j => nI (f1 j))))]))
        refine V.widen (k := 41) (n := 2870) (by omega) (by omega) ?_
        exact hE 88 _ (nI n1) (b1, c1, f1, n1, m1) dX12_writeNests_88 rfl ⟨rfl, (by rw [show (4 : Nat) = i by omega]; exact ht_L), hc_L, hn_L, hf_L, (by show n1 ≤ 60; omega)⟩
      · refine V.aload_n hC (x := fs) dX12_writeNests_15 rfl ?_
        refine V.getf hC (T := TX12) q0_ 7 q1_ rfl (0) rfl rfl (by decide) (.ref hl) rfl dX12_writeNests_16 ?_
        refine V.bipush hC 91 dX12_writeNests_19 rfl ?_
        refine V.callVG (n := 1) (As := [.int 91]) (rest := []) (wr := ([(fs, .inr (12, [.ref h, .ref h2, .ref h3, .ref hh, .ref hr, .ref hg, .ref hq, .ref hl, .int iS, .int eA, .int fA]))] ++ (stW G h ah as_ rr ra (sHm s) (sNb s) (sNs s) (sLa s) (sLo s) (sNu s) (sTn s) (sSh s)))) hC (c_appendC (kl K) G hl b1 c1 f1 n1 m1 hc_L hn_L hf_L 91 (by decide) (by omega)) (SFx.k G) hgo gX12_writeNests_J4_append_cf468 rfl ⟨rfl, rfl⟩ (by decide +kernel) ⟨by decide, by decide, by show _ ≤ 41; omega, by show _ ≤ 2870; omega⟩ [16, 17] [0, 1, 2, 3, 4, 5, 6, 7, 8, 9, 10, 11, 12, 13, 14, 15] rfl (by decide) rfl (by decide) (by decide) rfl rfl rfl rfl (Nat.le_of_ble_eq_true rfl) dX12_writeNests_21 (fun r_21 u_21 hp_21 => ?_)
        obtain ⟨e_21, hc_21, hf_21, hn_21, hk_21, hv_21⟩ := hp_21
        subst e_21
        have ht_21 := isT.c ht_L hk_21 hv_21
        show V G K 3 (1 + 10 * i + 1) (70 + 700 * i + 70) 24 [some (.ref fs), some (.int (nI i)), none] [.ref hl] ([(fs, .inr (12, [.ref h, .ref h2, .ref h3, .ref hh, .ref hr, .ref hg, .ref hq, .ref hl, .int iS, .int eA, .int fA]))] ++ ((stW G h ah as_ rr ra (sHm s) (sNb s) (sNs s) (sLa s) (sLo s) (sNu s) (sTn s) (sSh s)) ++ [(hl, .inr (1, [.ref (u_21.1), .int 0, .int m1, .int (nI (n1 + 1))])), (u_21.1, .inl (gB G, u_21.2.1, .inl (fun j => nI ((u_21.2.2) j))))]))
        refine V.pop hC dX12_writeNests_24 rfl ?_
        refine V.iconst hC 0 dX12_writeNests_25 rfl ?_
        refine V.istore_n hC dX12_writeNests_26 [some (.ref fs), some (.int (nI i)), some (.int 0)] (Nat.le_of_ble_eq_true rfl) rfl ?_
        have loop27 : ∀ (n : Nat) (j : Nat) (b2 : Nat) (c2 : Nat) (f2 : Nat → Nat) (n2 : Nat) (m2 : Int32), 8 - j < n → (j ≤ sNb s) → (capOK c2) → (n2 ≤ c2) → (∀ z, f2 z < 128) → (isT f2 n2 ((wns s i ++ [91]) ++ wbd (sHm s) (nI i) j)) → (n2 ≤ 10 * i + 1 + j) → V G K 3 (2 + 10 * i + j) (140 + 700 * i + 70 * j) 27 [some (.ref fs), some (.int (nI i)), some (.int (nI j))] [] ([(fs, .inr (12, [.ref h, .ref h2, .ref h3, .ref hh, .ref hr, .ref hg, .ref hq, .ref hl, .int iS, .int eA, .int fA]))] ++ ((stW G h ah as_ rr ra (sHm s) (sNb s) (sNs s) (sLa s) (sLo s) (sNu s) (sTn s) (sSh s)) ++ [(hl, .inr (1, [.ref b2, .int 0, .int m2, .int (nI n2)])), (b2, .inl (gB G, c2, .inl (fun j => nI (f2 j))))])) := by
          intro n
          induction n with
          | zero => intro j b2 c2 f2 n2 m2 hlt; exact absurd hlt (Nat.not_lt_zero _)
          | succ n ih27 =>
            intro j b2 c2 f2 n2 m2 hlt27 hj hc_M hn_M hf_M ht_M hq_M
            refine V.iload_n hC (x := nI j) dX12_writeNests_27 rfl ?_
            refine V.aload_n hC (x := fs) dX12_writeNests_28 rfl ?_
            refine V.getf hC (T := TX12) q0_ 0 q2_ rfl (0) rfl rfl (by decide) (.ref h) rfl dX12_writeNests_29 ?_
            refine V.callVr (n := 0) (As := []) (rest := [.int (nI j)]) hC (c_birdTally (kl K) G h ah as_ rr ra (sHm s) (sNb s) (sNs s) (sLa s) (sLo s) (sNu s) (sTn s) (sSh s) hb8 hs6) SFk0 SFgo0 gX12_writeNests_X11_birdTally rfl ⟨rfl, rfl⟩ (by decide +kernel) ⟨by decide, by decide, by show _ ≤ 41; omega, by show _ ≤ 2870; omega⟩ [1, 2, 3, 4, 5, 6, 7, 8, 9, 10, 11, 12, 13, 14, 15] rfl (by decide) rfl rfl rfl rfl (Nat.le_of_ble_eq_true rfl) dX12_writeNests_32 (fun r_32 u_32 hp_32 => ?_)
            subst hp_32
            show V G K 3 (2 + 10 * i + j) (140 + 700 * i + 70 * j) 35 [some (.ref fs), some (.int (nI i)), some (.int (nI j))] [.int (nI (sNb s)), .int (nI j)] ([(fs, .inr (12, [.ref h, .ref h2, .ref h3, .ref hh, .ref hr, .ref hg, .ref hq, .ref hl, .int iS, .int eA, .int fA]))] ++ ((stW G h ah as_ rr ra (sHm s) (sNb s) (sNs s) (sLa s) (sLo s) (sNu s) (sTn s) (sSh s)) ++ [(hl, .inr (1, [.ref b2, .int 0, .int m2, .int (nI n2)])), (b2, .inl (gB G, c2, .inl (fun j => nI (f2 j))))]))
            refine V.icmpN_ge hC j (sNb s) 65 dX12_writeNests_35 rfl rfl rfl (by omega) (by omega) (fun c_35 => ?_) (fun c_35 => ?_)
            · have ejn : j = sNb s := by omega
              have ht_M2 : isT f2 n2 ((wns s i ++ [91]) ++ wbd (sHm s) (nI i) (sNb s)) := by rw [← ejn]; exact ht_M
              refine V.aload_n hC (x := fs) dX12_writeNests_65 rfl ?_
              refine V.getf hC (T := TX12) q0_ 7 q1_ rfl (0) rfl rfl (by decide) (.ref hl) rfl dX12_writeNests_66 ?_
              refine V.bipush hC 93 dX12_writeNests_69 rfl ?_
              refine V.callVG (n := 1) (As := [.int 93]) (rest := []) (wr := ([(fs, .inr (12, [.ref h, .ref h2, .ref h3, .ref hh, .ref hr, .ref hg, .ref hq, .ref hl, .int iS, .int eA, .int fA]))] ++ (stW G h ah as_ rr ra (sHm s) (sNb s) (sNs s) (sLa s) (sLo s) (sNu s) (sTn s) (sSh s)))) hC (c_appendC (kl K) G hl b2 c2 f2 n2 m2 hc_M hn_M hf_M 93 (by decide) (by omega)) (SFx.k G) hgo gX12_writeNests_J4_append_cf468 rfl ⟨rfl, rfl⟩ (by decide +kernel) ⟨by decide, by decide, by show _ ≤ 41; omega, by show _ ≤ 2870; omega⟩ [16, 17] [0, 1, 2, 3, 4, 5, 6, 7, 8, 9, 10, 11, 12, 13, 14, 15] rfl (by decide) rfl (by decide) (by decide) rfl rfl rfl rfl (Nat.le_of_ble_eq_true rfl) dX12_writeNests_71 (fun r_71 u_71 hp_71 => ?_)
              obtain ⟨e_71, hc_71, hf_71, hn_71, hk_71, hv_71⟩ := hp_71
              subst e_71
              have ht_71 := isT.c ht_M hk_71 hv_71
              show V G K 3 (2 + 10 * i + j + 1) (140 + 700 * i + 70 * j + 70) 74 [some (.ref fs), some (.int (nI i)), some (.int (nI j))] [.ref hl] ([(fs, .inr (12, [.ref h, .ref h2, .ref h3, .ref hh, .ref hr, .ref hg, .ref hq, .ref hl, .int iS, .int eA, .int fA]))] ++ ((stW G h ah as_ rr ra (sHm s) (sNb s) (sNs s) (sLa s) (sLo s) (sNu s) (sTn s) (sSh s)) ++ [(hl, .inr (1, [.ref (u_71.1), .int 0, .int m2, .int (nI (n2 + 1))])), (u_71.1, .inl (gB G, u_71.2.1, .inl (fun j => nI ((u_71.2.2) j))))]))
              refine V.pop hC dX12_writeNests_74 rfl ?_
              refine V.iincN hC i 1 dX12_writeNests_75 rfl [some (.ref fs), some (.int (nI (i + 1))), some (.int (nI j))] (Nat.le_of_ble_eq_true rfl) rfl rfl rfl ?_
              refine V.goto hC 10 dX12_writeNests_78 rfl ?_
              refine V.drop 2 (lv' := [some (.ref fs), some (.int (nI (i + 1))), none]) rfl ?_
              refine V.widen (k := 1 + 10 * (i + 1)) (n := 70 + 700 * (i + 1)) (by omega) (by omega) ?_
              exact ih10 (i + 1) (u_71.1) (u_71.2.1) (u_71.2.2) (n2 + 1) m2 (by omega) (by omega) hc_71 hn_71 hf_71 (by rw [ejn] at ht_71; exact ht_71) (by omega)
            · refine V.aload_n hC (x := fs) dX12_writeNests_38 rfl ?_
              refine V.getf hC (T := TX12) q0_ 0 q2_ rfl (0) rfl rfl (by decide) (.ref h) rfl dX12_writeNests_39 ?_
              refine V.iload_n hC (x := nI j) dX12_writeNests_42 rfl ?_
              refine V.callVr (n := 1) (As := [.int (nI j)]) (rest := []) hC (c_homeOf (kl K) G h ah as_ rr ra (sHm s) (sNb s) (sNs s) (sLa s) (sLo s) (sNu s) (sTn s) (sSh s) hb8 hs6 j (by omega)) SFk0 SFgo0 gX12_writeNests_X11_homeOf rfl ⟨rfl, rfl⟩ (by decide +kernel) ⟨by decide, by decide, by show _ ≤ 41; omega, by show _ ≤ 2870; omega⟩ [1, 2, 3, 4, 5, 6, 7, 8, 9, 10, 11, 12, 13, 14, 15] rfl (by decide) rfl rfl rfl rfl (Nat.le_of_ble_eq_true rfl) dX12_writeNests_43 (fun r_43 u_43 hp_43 => ?_)
              subst hp_43
              show V G K 3 (2 + 10 * i + j) (140 + 700 * i + 70 * j) 46 [some (.ref fs), some (.int (nI i)), some (.int (nI j))] [.int (sHm s j)] ([(fs, .inr (12, [.ref h, .ref h2, .ref h3, .ref hh, .ref hr, .ref hg, .ref hq, .ref hl, .int iS, .int eA, .int fA]))] ++ ((stW G h ah as_ rr ra (sHm s) (sNb s) (sNs s) (sLa s) (sLo s) (sNu s) (sTn s) (sSh s)) ++ [(hl, .inr (1, [.ref b2, .int 0, .int m2, .int (nI n2)])), (b2, .inl (gB G, c2, .inl (fun j => nI (f2 j))))]))
              refine V.iload_n hC (x := nI i) dX12_writeNests_46 rfl ?_
              refine V.icmp_ne hC 59 dX12_writeNests_47 rfl (fun c_47 => ?_) (fun c_47 => ?_)
              · refine V.iincN hC j 1 dX12_writeNests_59 rfl [some (.ref fs), some (.int (nI i)), some (.int (nI (j + 1)))] (Nat.le_of_ble_eq_true rfl) rfl rfl rfl ?_
                refine V.goto hC 27 dX12_writeNests_62 rfl ?_
                refine V.widen (k := 2 + 10 * i + (j + 1)) (n := 140 + 700 * i + 70 * (j + 1)) (by omega) (by omega) ?_
                exact ih27 (j + 1) b2 c2 f2 n2 m2 (by omega) (by omega) hc_M hn_M hf_M (isT.app ht_M (wbd_n _ c_47)) (by omega)
              · refine V.aload_n hC (x := fs) dX12_writeNests_50 rfl ?_
                refine V.getf hC (T := TX12) q0_ 7 q1_ rfl (0) rfl rfl (by decide) (.ref hl) rfl dX12_writeNests_51 ?_
                refine V.iload_n hC (x := nI j) dX12_writeNests_54 rfl ?_
                refine V.callVG (n := 1) (As := [.int (nI j)]) (rest := []) (wr := ([(fs, .inr (12, [.ref h, .ref h2, .ref h3, .ref hh, .ref hr, .ref hg, .ref hq, .ref hl, .int iS, .int eA, .int fA]))] ++ (stW G h ah as_ rr ra (sHm s) (sNb s) (sNs s) (sLa s) (sLo s) (sNu s) (sTn s) (sSh s)))) hC (c_appendI (kl K) G hl b2 c2 f2 n2 m2 hc_M hn_M hf_M j (by omega) (by omega)) (SFt.k G) hgot gX12_writeNests_J4_append_bf812 rfl ⟨rfl, rfl⟩ (by decide +kernel) ⟨by decide, by decide, by show _ ≤ 41; omega, by show _ ≤ 2870; omega⟩ [16, 17] [0, 1, 2, 3, 4, 5, 6, 7, 8, 9, 10, 11, 12, 13, 14, 15] rfl (by decide) rfl (by decide) (by decide) rfl rfl rfl rfl (Nat.le_of_ble_eq_true rfl) dX12_writeNests_55 (fun r_55 u_55 hp_55 => ?_)
                obtain ⟨e_55, hc_55, hf_55, hn_55, hk_55, hv_55⟩ := hp_55
                subst e_55
                have ht_55 := isT.i ht_M hk_55 hv_55
                have hd_55 : dgc j ≤ 1 := Nat.le_of_eq (dgc_1 (by omega))
                show V G K 3 (2 + 10 * i + j + 1) (140 + 700 * i + 70 * j + 70) 58 [some (.ref fs), some (.int (nI i)), some (.int (nI j))] [.ref hl] ([(fs, .inr (12, [.ref h, .ref h2, .ref h3, .ref hh, .ref hr, .ref hg, .ref hq, .ref hl, .int iS, .int eA, .int fA]))] ++ ((stW G h ah as_ rr ra (sHm s) (sNb s) (sNs s) (sLa s) (sLo s) (sNu s) (sTn s) (sSh s)) ++ [(hl, .inr (1, [.ref (u_55.1), .int 0, .int m2, .int (nI (n2 + dgc j))])), (u_55.1, .inl (gB G, u_55.2.1, .inl (fun j => nI ((u_55.2.2) j))))]))
                refine V.pop hC dX12_writeNests_58 rfl ?_
                refine V.iincN hC j 1 dX12_writeNests_59 rfl [some (.ref fs), some (.int (nI i)), some (.int (nI (j + 1)))] (Nat.le_of_ble_eq_true rfl) rfl rfl rfl ?_
                refine V.goto hC 27 dX12_writeNests_62 rfl ?_
                refine V.widen (k := 2 + 10 * i + (j + 1)) (n := 140 + 700 * i + 70 * (j + 1)) (by omega) (by omega) ?_
                exact ih27 (j + 1) (u_55.1) (u_55.2.1) (u_55.2.2) (n2 + dgc j) m2 (by omega) (by omega) hc_55 hn_55 hf_55 (isT.app ht_55 (wbd_y _ c_47)) (by omega)
        refine V.widen (k := 2 + 10 * i + 0) (n := 140 + 700 * i + 70 * 0) (by omega) (by omega) ?_
        exact loop27 _ 0 (u_21.1) (u_21.2.1) (u_21.2.2) (n1 + 1) m1 (Nat.lt_succ_self _) (by omega) hc_21 hn_21 hf_21 (isT.app ht_21 (by simp [wbd])) (by omega)
  refine V.widen (k := 1 + 10 * 0) (n := 70 + 700 * 0) (by omega) (by omega) ?_
  exact loop10 _ 0 (u_5.1) (u_5.2.1) (u_5.2.2.1) 0 (u_5.2.2.2) (Nat.lt_succ_self _) (by omega) hc_5 hn_5 hf_5 ht_5 (by omega)
