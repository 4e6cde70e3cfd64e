/-! the document's model: totals, shares, possible values (printed by gen/s65.py) -/
theorem pvc_lt {f : Nat → Int32} {t n w : Nat} (h : n < t) : pvc f t n w = w := if_pos h
theorem pvc_1 {f : Nat → Int32} {t n : Nat} (h : ¬ n < t) (h2 : unf (fh f t 8) (svn f) (fh f n 8) 8 = 0) : pvc f t n 97 = 1 := (if_neg h).trans (if_pos ⟨h2, lagS_lt _ _ _⟩)
theorem pvc_z {f : Nat → Int32} {t n : Nat} (h : ¬ n < t) (h2 : ¬ unf (fh f t 8) (svn f) (fh f n 8) 8 = 0) : pvc f t n 97 = 0 := (if_neg h).trans (if_neg (fun z => h2 z.1))
set_option maxHeartbeats 4000000 in
set_option maxRecDepth 100000 in
theorem m_shareTotal (l : Launch) (G : Gx) (m nw bf sv hy tx li nmb : Nat) (iS rmb eA fA tyd ldd thr siz spt wrg tld : Int32) (σ : Nat → Int32) (s : ASt) (B : Nat) (hR : Rel σ s) (hI : InvA B s) (hB : B < 2 ^ 30) : Ct l G SF0 yX13_shareTotal wsX13_shareTotal ({ frames := 5, cells := 0, slots := 0, locals := 110 }) [.ref m] [(m, .inr (13, [.ref nw, .ref bf, .ref sv, .ref hy, .int iS, .int rmb, .int eA, .int fA, .ref tx, .int tyd, .ref li, .int ldd, .int thr, .int siz, .int spt, .int wrg, .int tld, .ref nmb])), (nw, .inl (gI G, 72, .inl σ))] mkI (fun (r : Int32) (_ : Unit) => r = nI (als (fun z => ldn (sSh s) z (sNs s)) (sNb s))) (fun _ : Unit => [(m, .inr (13, [.ref nw, .ref bf, .ref sv, .ref hy, .int iS, .int rmb, .int eA, .int fA, .ref tx, .int tyd, .ref li, .int ldd, .int 0, .int siz, .int spt, .int wrg, .int tld, .ref nmb])), (nw, .inl (gI G, 72, .inl σ))]) 0 0 := by
  have hb8 := hI.1
  have hs6 := hI.2.1
  refine Ct.ofI (cc := cX13_shareTotal) (maxL := 1) (by decide) rfl ⟨by simp [Value.category], Nat.le_of_ble_eq_true rfl⟩ ?_
  intro K hl hC hSF hnm hE
  subst hl
  have q0_ : ∀ w ∈ u_ws RX13 TX13 18, w ∈ wsX13_shareTotal := by decide +kernel
  have q1_ : Cond.fieldLink RX13 38 "FeatherSharesModel" "thrown" "I" ∈ wsX13_shareTotal := by decide +kernel
  show V G K 1 0 0 0 [some (.ref m)] [] [(m, .inr (13, [.ref nw, .ref bf, .ref sv, .ref hy, .int iS, .int rmb, .int eA, .int fA, .ref tx, .int tyd, .ref li, .int ldd, .int thr, .int siz, .int spt, .int wrg, .int tld, .ref nmb])), (nw, .inl (gI G, 72, .inl σ))]
  refine V.aload_n hC (x := m) dX13_shareTotal_0 rfl ?_
  refine V.iconst hC 0 dX13_shareTotal_1 rfl ?_
  refine V.putf hC (T := TX13) q0_ tyX13 tyX13_ok nmX13 12 q1_ rfl rfl (0) rfl rfl (by decide) (by simp) rfl rfl dX13_shareTotal_2 [(m, .inr (13, [.ref nw, .ref bf, .ref sv, .ref hy, .int iS, .int rmb, .int eA, .int fA, .ref tx, .int tyd, .ref li, .int ldd, .int 0, .int siz, .int spt, .int wrg, .int tld, .ref nmb])), (nw, .inl (gI G, 72, .inl σ))] rfl ?_
  refine V.aload_n hC (x := m) dX13_shareTotal_5 rfl ?_
  refine V.callVr (n := 0) (As := []) (rest := []) hC (m_allShares (kl K) G m nw bf sv hy tx li nmb iS rmb eA fA tyd ldd 0 siz spt wrg tld σ s B hR hI hB) SFk0 SFgo0 gX13_shareTotal_X13_allShares rfl ⟨rfl, rfl⟩ (by decide +kernel) ⟨by decide, by decide, by decide, by decide⟩ [0, 1] rfl (by decide) rfl rfl rfl rfl (Nat.le_of_ble_eq_true rfl) dX13_shareTotal_6 (fun r_6 u_6 hp_6 => ?_)
  subst hp_6
  show V G K 1 0 0 9 [some (.ref m)] [.int (nI (als (fun z => ldn (sSh s) z (sNs s)) (sNb s)))] [(m, .inr (13, [.ref nw, .ref bf, .ref sv, .ref hy, .int iS, .int rmb, .int eA, .int fA, .ref tx, .int tyd, .ref li, .int ldd, .int 0, .int siz, .int spt, .int wrg, .int tld, .ref nmb])), (nw, .inl (gI G, 72, .inl σ))]
  exact hE 9 _ (nI (als (fun z => ldn (sSh s) z (sNs s)) (sNb s))) () dX13_shareTotal_9 rfl rfl

set_option maxHeartbeats 4000000 in
set_option maxRecDepth 100000 in
theorem m_isConsistent (l : Launch) (G : Gx) (m nw bf sv hy tx li nmb : Nat) (iS rmb eA fA tyd ldd thr siz spt wrg tld : Int32) : Ct l G SF0 yX13_isConsistent wsX13_isConsistent ({ frames := 0, cells := 0, slots := 0, locals := 0 }) [.ref m] [(m, .inr (13, [.ref nw, .ref bf, .ref sv, .ref hy, .int iS, .int rmb, .int eA, .int fA, .ref tx, .int tyd, .ref li, .int ldd, .int thr, .int siz, .int spt, .int wrg, .int tld, .ref nmb]))] mkI (fun (r : Int32) (_ : Unit) => r = 1) (fun _ : Unit => [(m, .inr (13, [.ref nw, .ref bf, .ref sv, .ref hy, .int iS, .int rmb, .int eA, .int fA, .ref tx, .int tyd, .ref li, .int ldd, .int 0, .int siz, .int spt, .int wrg, .int tld, .ref nmb]))]) 0 0 := by
  refine Ct.ofI (cc := cX13_isConsistent) (maxL := 1) (by decide) rfl ⟨by simp [Value.category], Nat.le_of_ble_eq_true rfl⟩ ?_
  intro K hl hC hSF hnm hE
  subst hl
  have q0_ : ∀ w ∈ u_ws RX13 TX13 18, w ∈ wsX13_isConsistent := by decide +kernel
  have q1_ : Cond.fieldLink RX13 38 "FeatherSharesModel" "thrown" "I" ∈ wsX13_isConsistent := by decide +kernel
  show V G K 1 0 0 0 [some (.ref m)] [] [(m, .inr (13, [.ref nw, .ref bf, .ref sv, .ref hy, .int iS, .int rmb, .int eA, .int fA, .ref tx, .int tyd, .ref li, .int ldd, .int thr, .int siz, .int spt, .int wrg, .int tld, .ref nmb]))]
  refine V.aload_n hC (x := m) dX13_isConsistent_0 rfl ?_
  refine V.iconst hC 0 dX13_isConsistent_1 rfl ?_
  refine V.putf hC (T := TX13) q0_ tyX13 tyX13_ok nmX13 12 q1_ rfl rfl (0) rfl rfl (by decide) (by simp) rfl rfl dX13_isConsistent_2 [(m, .inr (13, [.ref nw, .ref bf, .ref sv, .ref hy, .int iS, .int rmb, .int eA, .int fA, .ref tx, .int tyd, .ref li, .int ldd, .int 0, .int siz, .int spt, .int wrg, .int tld, .ref nmb]))] rfl ?_
  refine V.iconst hC 1 dX13_isConsistent_5 rfl ?_
  exact hE 6 _ 1 () dX13_isConsistent_6 rfl rfl

set_option maxHeartbeats 4000000 in
set_option maxRecDepth 100000 in
theorem m_share (l : Launch) (G : Gx) (m nw bf sv hy tx li nmb : Nat) (iS rmb eA fA tyd ldd thr siz spt wrg tld : Int32) (σ : Nat → Int32) (s : ASt) (B : Nat) (hR : Rel σ s) (hI : InvA B s) (hB : B < 2 ^ 30) (x y : Int32) : Ct l G SF0 yX13_share wsX13_share ({ frames := 3, cells := 0, slots := 0, locals := 65 }) [.ref m, .int x, .int y] [(m, .inr (13, [.ref nw, .ref bf, .ref sv, .ref hy, .int iS, .int rmb, .int eA, .int fA, .ref tx, .int tyd, .ref li, .int ldd, .int thr, .int siz, .int spt, .int wrg, .int tld, .ref nmb])), (nw, .inl (gI G, 72, .inl σ))] mkI (fun (r : Int32) (_ : Unit) => r = (qShare s x y).2) (fun _ : Unit => [(m, .inr (13, [.ref nw, .ref bf, .ref sv, .ref hy, .int iS, .int rmb, .int eA, .int fA, .ref tx, .int tyd, .ref li, .int ldd, .int (nI (qShare s x y).1), .int siz, .int spt, .int wrg, .int tld, .ref nmb])), (nw, .inl (gI G, 72, .inl σ))]) 0 0 := by
  have hb8 := hI.1
  have hs6 := hI.2.1
  refine Ct.ofI (cc := cX13_share) (maxL := 5) (by decide) rfl ⟨by simp [Value.category], Nat.le_of_ble_eq_true rfl⟩ ?_
  intro K hl hC hSF hnm hE
  subst hl
  show V G K 5 0 0 0 [some (.ref m), some (.int x), some (.int y), none, none] [] [(m, .inr (13, [.ref nw, .ref bf, .ref sv, .ref hy, .int iS, .int rmb, .int eA, .int fA, .ref tx, .int tyd, .ref li, .int ldd, .int thr, .int siz, .int spt, .int wrg, .int tld, .ref nmb])), (nw, .inl (gI G, 72, .inl σ))]
  refine V.aload_n hC (x := m) dX13_share_0 rfl ?_
  refine V.iload_n hC (x := y) dX13_share_1 rfl ?_
  refine V.callVr (n := 1) (As := [.int y]) (rest := []) hC (m_find (kl K) G m nw bf sv hy tx li nmb iS rmb eA fA tyd ldd thr siz spt wrg tld σ s B hR hI hB y) SFk0 SFgo0 gX13_share_X13_find rfl ⟨rfl, rfl⟩ (by decide +kernel) ⟨by decide, by decide, by decide, by decide⟩ [0, 1] rfl (by decide) rfl rfl rfl rfl (Nat.le_of_ble_eq_true rfl) dX13_share_2 (fun r_2 u_2 hp_2 => ?_)
  rcases hf : fd (sNu s) y (sNs s) with _ | k
  · rw [hf] at hp_2
    subst hp_2
    show V G K 5 0 0 5 [some (.ref m), some (.int x), some (.int y), none, none] [.int (-1)] [(m, .inr (13, [.ref nw, .ref bf, .ref sv, .ref hy, .int iS, .int rmb, .int eA, .int fA, .ref tx, .int tyd, .ref li, .int ldd, .int thr, .int siz, .int spt, .int wrg, .int tld, .ref nmb])), (nw, .inl (gI G, 72, .inl σ))]
    refine V.istore_n hC dX13_share_5 [some (.ref m), some (.int x), some (.int y), some (.int (-1)), none] (Nat.le_of_ble_eq_true rfl) rfl ?_
    refine V.aload_n hC (x := m) dX13_share_6 rfl ?_
    refine V.iload_n hC (x := x) dX13_share_7 rfl ?_
    refine V.iload_n hC (x := -1) dX13_share_8 rfl ?_
    refine V.callVr (n := 2) (As := [.int x, .int (-1)]) (rest := []) hC (m_shareOfN (kl K) G m nw bf sv hy tx li nmb iS rmb eA fA tyd ldd thr siz spt wrg tld σ s B hR hI hB x) SFk0 SFgo0 gX13_share_X13_shareOf rfl ⟨rfl, rfl⟩ (by decide +kernel) ⟨by decide, by decide, by decide, by decide⟩ [0, 1] rfl (by decide) rfl rfl rfl rfl (Nat.le_of_ble_eq_true rfl) dX13_share_9 (fun r_9 u_9 hp_9 => ?_)
    subst hp_9
    show V G K 5 0 0 12 [some (.ref m), some (.int x), some (.int y), some (.int (-1)), none] [.int (-1)] [(m, .inr (13, [.ref nw, .ref bf, .ref sv, .ref hy, .int iS, .int rmb, .int eA, .int fA, .ref tx, .int tyd, .ref li, .int ldd, .int thr, .int siz, .int spt, .int wrg, .int tld, .ref nmb])), (nw, .inl (gI G, 72, .inl σ))]
    refine V.istore hC dX13_share_12 [some (.ref m), some (.int x), some (.int y), some (.int (-1)), some (.int (-1))] (Nat.le_of_ble_eq_true rfl) rfl ?_
    refine V.aload_n hC (x := m) dX13_share_14 rfl ?_
    refine V.aload_n hC (x := m) dX13_share_15 rfl ?_
    refine V.iload_n hC (x := x) dX13_share_16 rfl ?_
    refine V.callVr (n := 1) (As := [.int x]) (rest := [.ref m]) hC (m_isBird (kl K) G m nw bf sv hy tx li nmb iS rmb eA fA tyd ldd thr siz spt wrg tld σ s B hR hI hB x) SFk0 SFgo0 gX13_share_X13_isBird rfl ⟨rfl, rfl⟩ (by decide +kernel) ⟨by decide, by decide, by decide, by decide⟩ [0, 1] rfl (by decide) rfl rfl rfl rfl (Nat.le_of_ble_eq_true rfl) dX13_share_17 (fun r_17 u_17 hp_17 => ?_)
    subst hp_17
    show V G K 5 0 0 20 [some (.ref m), some (.int x), some (.int y), some (.int (-1)), some (.int (-1))] [.int (if ¬ x < 0 ∧ x < nI (sNb s) then 1 else 0), .ref m] [(m, .inr (13, [.ref nw, .ref bf, .ref sv, .ref hy, .int iS, .int rmb, .int eA, .int fA, .ref tx, .int tyd, .ref li, .int ldd, .int thr, .int siz, .int spt, .int wrg, .int tld, .ref nmb])), (nw, .inl (gI G, 72, .inl σ))]
    refine V.iload_n hC (x := -1) dX13_share_20 rfl ?_
    refine V.iconst hC (-1) dX13_share_21 rfl ?_
    refine V.icmp_eq hC 29 dX13_share_22 rfl (fun c_22 => ?_) (fun c_22 => ?_)
    · refine V.iconst hC 0 dX13_share_29 rfl ?_
      refine V.iload hC (x := -1) dX13_share_30 rfl ?_
      refine V.iconst hC (-1) dX13_share_32 rfl ?_
      refine V.icmp_eq hC 40 dX13_share_33 rfl (fun c_33 => ?_) (fun c_33 => ?_)
      · refine V.iconst hC 0 dX13_share_40 rfl ?_
        refine V.iconst hC 1 dX13_share_41 rfl ?_
        refine V.callV (n := 4) (As := [.int (if ¬ x < 0 ∧ x < nI (sNb s) then 1 else 0), .int 0, .int 0, .int 1]) (rest := []) hC (m_allows (kl K) G m nw bf sv hy tx li nmb iS rmb eA fA tyd ldd thr siz spt wrg tld (if ¬ x < 0 ∧ x < nI (sNb s) then 1 else 0) 0 0 1) SFk0 SFgo0 gX13_share_X13_allows rfl ⟨rfl, rfl⟩ (by decide +kernel) ⟨by decide, by decide, by decide, by decide⟩ [0] rfl (by decide) (fun _ => rfl) rfl rfl rfl rfl (Nat.le_of_ble_eq_true rfl) dX13_share_42 (fun r_42 u_42 hp_42 => ?_)
        subst hp_42
        show V G K 5 0 0 45 [some (.ref m), some (.int x), some (.int y), some (.int (-1)), some (.int (-1))] [.int (if alw (if ¬ x < 0 ∧ x < nI (sNb s) then 1 else 0) 0 0 1 = 0 then 1 else 0)] [(m, .inr (13, [.ref nw, .ref bf, .ref sv, .ref hy, .int iS, .int rmb, .int eA, .int fA, .ref tx, .int tyd, .ref li, .int ldd, .int (nI (alw (if ¬ x < 0 ∧ x < nI (sNb s) then 1 else 0) 0 0 1)), .int siz, .int spt, .int wrg, .int tld, .ref nmb])), (nw, .inl (gI G, 72, .inl σ))]
        by_cases hg0_42 : ¬ x < 0 ∧ x < nI (sNb s)
        · have ha_42 : alw (if ¬ x < 0 ∧ x < nI (sNb s) then 1 else 0) 0 0 1 = 2 := by rw [if_pos hg0_42]; rfl
          refine V.topeq (nI 0) (by rw [ha_42]; rfl) ?_
          refine V.eqw (ws' := [(m, .inr (13, [.ref nw, .ref bf, .ref sv, .ref hy, .int iS, .int rmb, .int eA, .int fA, .ref tx, .int tyd, .ref li, .int ldd, .int (nI 2), .int siz, .int spt, .int wrg, .int tld, .ref nmb])), (nw, .inl (gI G, 72, .inl σ))]) (by rw [ha_42]) ?_
          refine V.ifN_eq hC 0 53 dX13_share_45 rfl rfl (by omega) (fun c_45 => ?_) (fun c_45 => ?_)
          · refine V.iconst hC 0 dX13_share_53 rfl ?_
            have hq : qShare s x y = (2, 0) := (qB_c hg0_42).trans (qS_n hf)
            refine V.eqw (ws' := [(m, .inr (13, [.ref nw, .ref bf, .ref sv, .ref hy, .int iS, .int rmb, .int eA, .int fA, .ref tx, .int tyd, .ref li, .int ldd, .int (nI (qShare s x y).1), .int siz, .int spt, .int wrg, .int tld, .ref nmb])), (nw, .inl (gI G, 72, .inl σ))]) (by rw [hq]) ?_
            exact hE 54 _ 0 () dX13_share_54 rfl (by rw [hq])
          · exact absurd c_45 (by decide)
        · have ha_42 : alw (if ¬ x < 0 ∧ x < nI (sNb s) then 1 else 0) 0 0 1 = 1 := by rw [if_neg hg0_42]; rfl
          refine V.topeq (nI 0) (by rw [ha_42]; rfl) ?_
          refine V.eqw (ws' := [(m, .inr (13, [.ref nw, .ref bf, .ref sv, .ref hy, .int iS, .int rmb, .int eA, .int fA, .ref tx, .int tyd, .ref li, .int ldd, .int (nI 1), .int siz, .int spt, .int wrg, .int tld, .ref nmb])), (nw, .inl (gI G, 72, .inl σ))]) (by rw [ha_42]) ?_
          refine V.ifN_eq hC 0 53 dX13_share_45 rfl rfl (by omega) (fun c_45 => ?_) (fun c_45 => ?_)
          · refine V.iconst hC 0 dX13_share_53 rfl ?_
            have hq : qShare s x y = (1, 0) := qB_n hg0_42
            refine V.eqw (ws' := [(m, .inr (13, [.ref nw, .ref bf, .ref sv, .ref hy, .int iS, .int rmb, .int eA, .int fA, .ref tx, .int tyd, .ref li, .int ldd, .int (nI (qShare s x y).1), .int siz, .int spt, .int wrg, .int tld, .ref nmb])), (nw, .inl (gI G, 72, .inl σ))]) (by rw [hq]) ?_
            exact hE 54 _ 0 () dX13_share_54 rfl (by rw [hq])
          · exact absurd c_45 (by decide)
      · exact absurd rfl c_33
    · exact absurd rfl c_22
  · rw [hf] at hp_2
    subst hp_2
    have hkn := (fd_lt hf hs6).1
    have hk6 := (fd_lt hf hs6).2
    have ik := hI.2.2.1 k hkn
    show V G K 5 0 0 5 [some (.ref m), some (.int x), some (.int y), none, none] [.int (nI k)] [(m, .inr (13, [.ref nw, .ref bf, .ref sv, .ref hy, .int iS, .int rmb, .int eA, .int fA, .ref tx, .int tyd, .ref li, .int ldd, .int thr, .int siz, .int spt, .int wrg, .int tld, .ref nmb])), (nw, .inl (gI G, 72, .inl σ))]
    refine V.istore_n hC dX13_share_5 [some (.ref m), some (.int x), some (.int y), some (.int (nI k)), none] (Nat.le_of_ble_eq_true rfl) rfl ?_
    refine V.aload_n hC (x := m) dX13_share_6 rfl ?_
    refine V.iload_n hC (x := x) dX13_share_7 rfl ?_
    refine V.iload_n hC (x := nI k) dX13_share_8 rfl ?_
    refine V.callVr (n := 2) (As := [.int x, .int (nI k)]) (rest := []) hC (m_shareOf (kl K) G m nw bf sv hy tx li nmb iS rmb eA fA tyd ldd thr siz spt wrg tld σ s B hR hI hB x k hkn) SFk0 SFgo0 gX13_share_X13_shareOf rfl ⟨rfl, rfl⟩ (by decide +kernel) ⟨by decide, by decide, by decide, by decide⟩ [0, 1] rfl (by decide) rfl rfl rfl rfl (Nat.le_of_ble_eq_true rfl) dX13_share_9 (fun r_9 u_9 hp_9 => ?_)
    subst hp_9
    show V G K 5 0 0 12 [some (.ref m), some (.int x), some (.int y), some (.int (nI k)), none] [.int (if ¬ x < 0 ∧ x < nI (sNb s) then sSh s k x.toNatClampNeg else -1)] [(m, .inr (13, [.ref nw, .ref bf, .ref sv, .ref hy, .int iS, .int rmb, .int eA, .int fA, .ref tx, .int tyd, .ref li, .int ldd, .int thr, .int siz, .int spt, .int wrg, .int tld, .ref nmb])), (nw, .inl (gI G, 72, .inl σ))]
    refine V.istore hC dX13_share_12 [some (.ref m), some (.int x), some (.int y), some (.int (nI k)), some (.int (if ¬ x < 0 ∧ x < nI (sNb s) then sSh s k x.toNatClampNeg else -1))] (Nat.le_of_ble_eq_true rfl) rfl ?_
    refine V.aload_n hC (x := m) dX13_share_14 rfl ?_
    refine V.aload_n hC (x := m) dX13_share_15 rfl ?_
    refine V.iload_n hC (x := x) dX13_share_16 rfl ?_
    refine V.callVr (n := 1) (As := [.int x]) (rest := [.ref m]) hC (m_isBird (kl K) G m nw bf sv hy tx li nmb iS rmb eA fA tyd ldd thr siz spt wrg tld σ s B hR hI hB x) SFk0 SFgo0 gX13_share_X13_isBird rfl ⟨rfl, rfl⟩ (by decide +kernel) ⟨by decide, by decide, by decide, by decide⟩ [0, 1] rfl (by decide) rfl rfl rfl rfl (Nat.le_of_ble_eq_true rfl) dX13_share_17 (fun r_17 u_17 hp_17 => ?_)
    subst hp_17
    show V G K 5 0 0 20 [some (.ref m), some (.int x), some (.int y), some (.int (nI k)), some (.int (if ¬ x < 0 ∧ x < nI (sNb s) then sSh s k x.toNatClampNeg else -1))] [.int (if ¬ x < 0 ∧ x < nI (sNb s) then 1 else 0), .ref m] [(m, .inr (13, [.ref nw, .ref bf, .ref sv, .ref hy, .int iS, .int rmb, .int eA, .int fA, .ref tx, .int tyd, .ref li, .int ldd, .int thr, .int siz, .int spt, .int wrg, .int tld, .ref nmb])), (nw, .inl (gI G, 72, .inl σ))]
    refine V.iload_n hC (x := nI k) dX13_share_20 rfl ?_
    refine V.iconst hC (-1) dX13_share_21 rfl ?_
    refine V.icmp_eq hC 29 dX13_share_22 rfl (fun c_22 => ?_) (fun c_22 => ?_)
    · exact absurd c_22 (nI_m1 (by omega))
    · refine V.iconst hC 1 dX13_share_25 rfl ?_
      refine V.goto hC 30 dX13_share_26 rfl ?_
      refine V.iload hC (x := if ¬ x < 0 ∧ x < nI (sNb s) then sSh s k x.toNatClampNeg else -1) dX13_share_30 rfl ?_
      refine V.iconst hC (-1) dX13_share_32 rfl ?_
      refine V.icmp_eq hC 40 dX13_share_33 rfl (fun c_33 => ?_) (fun c_33 => ?_)
      · refine V.iconst hC 0 dX13_share_40 rfl ?_
        refine V.iconst hC 1 dX13_share_41 rfl ?_
        refine V.callV (n := 4) (As := [.int (if ¬ x < 0 ∧ x < nI (sNb s) then 1 else 0), .int 1, .int 0, .int 1]) (rest := []) hC (m_allows (kl K) G m nw bf sv hy tx li nmb iS rmb eA fA tyd ldd thr siz spt wrg tld (if ¬ x < 0 ∧ x < nI (sNb s) then 1 else 0) 1 0 1) SFk0 SFgo0 gX13_share_X13_allows rfl ⟨rfl, rfl⟩ (by decide +kernel) ⟨by decide, by decide, by decide, by decide⟩ [0] rfl (by decide) (fun _ => rfl) rfl rfl rfl rfl (Nat.le_of_ble_eq_true rfl) dX13_share_42 (fun r_42 u_42 hp_42 => ?_)
        subst hp_42
        show V G K 5 0 0 45 [some (.ref m), some (.int x), some (.int y), some (.int (nI k)), some (.int (if ¬ x < 0 ∧ x < nI (sNb s) then sSh s k x.toNatClampNeg else -1))] [.int (if alw (if ¬ x < 0 ∧ x < nI (sNb s) then 1 else 0) 1 0 1 = 0 then 1 else 0)] [(m, .inr (13, [.ref nw, .ref bf, .ref sv, .ref hy, .int iS, .int rmb, .int eA, .int fA, .ref tx, .int tyd, .ref li, .int ldd, .int (nI (alw (if ¬ x < 0 ∧ x < nI (sNb s) then 1 else 0) 1 0 1)), .int siz, .int spt, .int wrg, .int tld, .ref nmb])), (nw, .inl (gI G, 72, .inl σ))]
        by_cases hg0_42 : ¬ x < 0 ∧ x < nI (sNb s)
        · have ha_42 : alw (if ¬ x < 0 ∧ x < nI (sNb s) then 1 else 0) 1 0 1 = 3 := by rw [if_pos hg0_42]; rfl
          refine V.topeq (nI 0) (by rw [ha_42]; rfl) ?_
          refine V.eqw (ws' := [(m, .inr (13, [.ref nw, .ref bf, .ref sv, .ref hy, .int iS, .int rmb, .int eA, .int fA, .ref tx, .int tyd, .ref li, .int ldd, .int (nI 3), .int siz, .int spt, .int wrg, .int tld, .ref nmb])), (nw, .inl (gI G, 72, .inl σ))]) (by rw [ha_42]) ?_
          refine V.ifN_eq hC 0 53 dX13_share_45 rfl rfl (by omega) (fun c_45 => ?_) (fun c_45 => ?_)
          · refine V.iconst hC 0 dX13_share_53 rfl ?_
            have hq : qShare s x y = (3, 0) := (qB_c hg0_42).trans ((qS_y hf).trans (qI_n (fun z => z (by rw [if_pos hg0_42] at c_33; exact c_33))))
            refine V.eqw (ws' := [(m, .inr (13, [.ref nw, .ref bf, .ref sv, .ref hy, .int iS, .int rmb, .int eA, .int fA, .ref tx, .int tyd, .ref li, .int ldd, .int (nI (qShare s x y).1), .int siz, .int spt, .int wrg, .int tld, .ref nmb])), (nw, .inl (gI G, 72, .inl σ))]) (by rw [hq]) ?_
            exact hE 54 _ 0 () dX13_share_54 rfl (by rw [hq])
          · exact absurd c_45 (by decide)
        · have ha_42 : alw (if ¬ x < 0 ∧ x < nI (sNb s) then 1 else 0) 1 0 1 = 1 := by rw [if_neg hg0_42]; rfl
          refine V.topeq (nI 0) (by rw [ha_42]; rfl) ?_
          refine V.eqw (ws' := [(m, .inr (13, [.ref nw, .ref bf, .ref sv, .ref hy, .int iS, .int rmb, .int eA, .int fA, .ref tx, .int tyd, .ref li, .int ldd, .int (nI 1), .int siz, .int spt, .int wrg, .int tld, .ref nmb])), (nw, .inl (gI G, 72, .inl σ))]) (by rw [ha_42]) ?_
          refine V.ifN_eq hC 0 53 dX13_share_45 rfl rfl (by omega) (fun c_45 => ?_) (fun c_45 => ?_)
          · refine V.iconst hC 0 dX13_share_53 rfl ?_
            have hq : qShare s x y = (1, 0) := qB_n hg0_42
            refine V.eqw (ws' := [(m, .inr (13, [.ref nw, .ref bf, .ref sv, .ref hy, .int iS, .int rmb, .int eA, .int fA, .ref tx, .int tyd, .ref li, .int ldd, .int (nI (qShare s x y).1), .int siz, .int spt, .int wrg, .int tld, .ref nmb])), (nw, .inl (gI G, 72, .inl σ))]) (by rw [hq]) ?_
            exact hE 54 _ 0 () dX13_share_54 rfl (by rw [hq])
          · exact absurd c_45 (by decide)
      · refine V.iconst hC 1 dX13_share_36 rfl ?_
        refine V.goto hC 41 dX13_share_37 rfl ?_
        refine V.iconst hC 1 dX13_share_41 rfl ?_
        refine V.callV (n := 4) (As := [.int (if ¬ x < 0 ∧ x < nI (sNb s) then 1 else 0), .int 1, .int 1, .int 1]) (rest := []) hC (m_allows (kl K) G m nw bf sv hy tx li nmb iS rmb eA fA tyd ldd thr siz spt wrg tld (if ¬ x < 0 ∧ x < nI (sNb s) then 1 else 0) 1 1 1) SFk0 SFgo0 gX13_share_X13_allows rfl ⟨rfl, rfl⟩ (by decide +kernel) ⟨by decide, by decide, by decide, by decide⟩ [0] rfl (by decide) (fun _ => rfl) rfl rfl rfl rfl (Nat.le_of_ble_eq_true rfl) dX13_share_42 (fun r_42 u_42 hp_42 => ?_)
        subst hp_42
        show V G K 5 0 0 45 [some (.ref m), some (.int x), some (.int y), some (.int (nI k)), some (.int (if ¬ x < 0 ∧ x < nI (sNb s) then sSh s k x.toNatClampNeg else -1))] [.int (if alw (if ¬ x < 0 ∧ x < nI (sNb s) then 1 else 0) 1 1 1 = 0 then 1 else 0)] [(m, .inr (13, [.ref nw, .ref bf, .ref sv, .ref hy, .int iS, .int rmb, .int eA, .int fA, .ref tx, .int tyd, .ref li, .int ldd, .int (nI (alw (if ¬ x < 0 ∧ x < nI (sNb s) then 1 else 0) 1 1 1)), .int siz, .int spt, .int wrg, .int tld, .ref nmb])), (nw, .inl (gI G, 72, .inl σ))]
        by_cases hg0_42 : ¬ x < 0 ∧ x < nI (sNb s)
        · have ha_42 : alw (if ¬ x < 0 ∧ x < nI (sNb s) then 1 else 0) 1 1 1 = 0 := by rw [if_pos hg0_42]; rfl
          refine V.topeq (nI 1) (by rw [ha_42]; rfl) ?_
          refine V.eqw (ws' := [(m, .inr (13, [.ref nw, .ref bf, .ref sv, .ref hy, .int iS, .int rmb, .int eA, .int fA, .ref tx, .int tyd, .ref li, .int ldd, .int (nI 0), .int siz, .int spt, .int wrg, .int tld, .ref nmb])), (nw, .inl (gI G, 72, .inl σ))]) (by rw [ha_42]) ?_
          refine V.ifN_eq hC 1 53 dX13_share_45 rfl rfl (by omega) (fun c_45 => ?_) (fun c_45 => ?_)
          · exact absurd c_45 (by decide)
          · refine V.iload hC (x := if ¬ x < 0 ∧ x < nI (sNb s) then sSh s k x.toNatClampNeg else -1) dX13_share_48 rfl ?_
            refine V.goto hC 54 dX13_share_50 rfl ?_
            have hq : qShare s x y = (0, if ¬ x < 0 ∧ x < nI (sNb s) then sSh s k x.toNatClampNeg else -1) := (qB_c hg0_42).trans ((qS_y hf).trans ((qI_y (by rw [if_pos hg0_42] at c_33; exact c_33)).trans (by rw [if_pos hg0_42])))
            refine V.eqw (ws' := [(m, .inr (13, [.ref nw, .ref bf, .ref sv, .ref hy, .int iS, .int rmb, .int eA, .int fA, .ref tx, .int tyd, .ref li, .int ldd, .int (nI (qShare s x y).1), .int siz, .int spt, .int wrg, .int tld, .ref nmb])), (nw, .inl (gI G, 72, .inl σ))]) (by rw [hq]) ?_
            exact hE 54 _ (if ¬ x < 0 ∧ x < nI (sNb s) then sSh s k x.toNatClampNeg else -1) () dX13_share_54 rfl (by rw [hq])
        · have ha_42 : alw (if ¬ x < 0 ∧ x < nI (sNb s) then 1 else 0) 1 1 1 = 1 := by rw [if_neg hg0_42]; rfl
          refine V.topeq (nI 0) (by rw [ha_42]; rfl) ?_
          refine V.eqw (ws' := [(m, .inr (13, [.ref nw, .ref bf, .ref sv, .ref hy, .int iS, .int rmb, .int eA, .int fA, .ref tx, .int tyd, .ref li, .int ldd, .int (nI 1), .int siz, .int spt, .int wrg, .int tld, .ref nmb])), (nw, .inl (gI G, 72, .inl σ))]) (by rw [ha_42]) ?_
          refine V.ifN_eq hC 0 53 dX13_share_45 rfl rfl (by omega) (fun c_45 => ?_) (fun c_45 => ?_)
          · refine V.iconst hC 0 dX13_share_53 rfl ?_
            have hq : qShare s x y = (1, 0) := qB_n hg0_42
            refine V.eqw (ws' := [(m, .inr (13, [.ref nw, .ref bf, .ref sv, .ref hy, .int iS, .int rmb, .int eA, .int fA, .ref tx, .int tyd, .ref li, .int ldd, .int (nI (qShare s x y).1), .int siz, .int spt, .int wrg, .int tld, .ref nmb])), (nw, .inl (gI G, 72, .inl σ))]) (by rw [hq]) ?_
            exact hE 54 _ 0 () dX13_share_54 rfl (by rw [hq])
          · exact absurd c_45 (by decide)

set_option maxHeartbeats 4000000 in
set_option maxRecDepth 100000 in
theorem m_canN (l : Launch) (G : Gx) (m nw bf sv hy tx li nmb : Nat) (iS rmb eA fA tyd ldd thr siz spt wrg tld : Int32) (σ : Nat → Int32) (s : ASt) (B : Nat) (hR : Rel σ s) (hI : InvA B s) (hB : B < 2 ^ 30) (x y : Int32) (hf : fd (sNu s) y (sNs s) = none) : Ct l G SF0 yX13_canNestRebuild wsX13_canNestRebuild ({ frames := 3, cells := 0, slots := 0, locals := 65 }) [.ref m, .int x, .int y] [(m, .inr (13, [.ref nw, .ref bf, .ref sv, .ref hy, .int iS, .int rmb, .int eA, .int fA, .ref tx, .int tyd, .ref li, .int ldd, .int thr, .int siz, .int spt, .int wrg, .int tld, .ref nmb])), (nw, .inl (gI G, 72, .inl σ))] mkI (fun (r : Int32) (_ : Unit) => r = (qCan s x y).2) (fun _ : Unit => [(m, .inr (13, [.ref nw, .ref bf, .ref sv, .ref hy, .int iS, .int rmb, .int eA, .int fA, .ref tx, .int tyd, .ref li, .int ldd, .int (nI (qCan s x y).1), .int siz, .int spt, .int wrg, .int tld, .ref nmb])), (nw, .inl (gI G, 72, .inl σ))]) 0 0 := by
  have hb8 := hI.1
  have hs6 := hI.2.1
  refine Ct.ofI (cc := cX13_canNestRebuild) (maxL := 6) (by decide) rfl ⟨by simp [Value.category], Nat.le_of_ble_eq_true rfl⟩ ?_
  intro K hl hC hSF hnm hE
  subst hl
  have q0_ : ∀ w ∈ u_ws RX13 TX13 18, w ∈ wsX13_canNestRebuild := by decide +kernel
  have q1_ : Cond.fieldLink RX13 9 "FeatherSharesModel" "now" "[I" ∈ wsX13_canNestRebuild := by decide +kernel
  show V G K 6 0 0 0 [some (.ref m), some (.int x), some (.int y), none, none, none] [] [(m, .inr (13, [.ref nw, .ref bf, .ref sv, .ref hy, .int iS, .int rmb, .int eA, .int fA, .ref tx, .int tyd, .ref li, .int ldd, .int thr, .int siz, .int spt, .int wrg, .int tld, .ref nmb])), (nw, .inl (gI G, 72, .inl σ))]
  refine V.aload_n hC (x := m) dX13_canNestRebuild_0 rfl ?_
  refine V.iload_n hC (x := y) dX13_canNestRebuild_1 rfl ?_
  refine V.callVr (n := 1) (As := [.int y]) (rest := []) hC (m_find (kl K) G m nw bf sv hy tx li nmb iS rmb eA fA tyd ldd thr siz spt wrg tld σ s B hR hI hB y) SFk0 SFgo0 gX13_canNestRebuild_X13_find rfl ⟨rfl, rfl⟩ (by decide +kernel) ⟨by decide, by decide, by decide, by decide⟩ [0, 1] rfl (by decide) rfl rfl rfl rfl (Nat.le_of_ble_eq_true rfl) dX13_canNestRebuild_2 (fun r_2 u_2 hp_2 => ?_)
  rw [hf] at hp_2
  subst hp_2
  show V G K 6 0 0 5 [some (.ref m), some (.int x), some (.int y), none, none, none] [.int (-1)] [(m, .inr (13, [.ref nw, .ref bf, .ref sv, .ref hy, .int iS, .int rmb, .int eA, .int fA, .ref tx, .int tyd, .ref li, .int ldd, .int thr, .int siz, .int spt, .int wrg, .int tld, .ref nmb])), (nw, .inl (gI G, 72, .inl σ))]
  refine V.istore_n hC dX13_canNestRebuild_5 [some (.ref m), some (.int x), some (.int y), some (.int (-1)), none, none] (Nat.le_of_ble_eq_true rfl) rfl ?_
  refine V.iconst hC 0 dX13_canNestRebuild_6 rfl ?_
  refine V.istore hC dX13_canNestRebuild_7 [some (.ref m), some (.int x), some (.int y), some (.int (-1)), some (.int 0), none] (Nat.le_of_ble_eq_true rfl) rfl ?_
  refine V.iconst hC 0 dX13_canNestRebuild_9 rfl ?_
  refine V.istore hC dX13_canNestRebuild_10 [some (.ref m), some (.int x), some (.int y), some (.int (-1)), some (.int 0), some (.int 0)] (Nat.le_of_ble_eq_true rfl) rfl ?_
  have loop12 : ∀ (n : Nat) (b : Nat), 8 - b < n → (b ≤ sNb s) → V G K 6 0 0 12 [some (.ref m), some (.int x), some (.int y), some (.int (-1)), some (.int (nI 0)), some (.int (nI b))] [] [(m, .inr (13, [.ref nw, .ref bf, .ref sv, .ref hy, .int iS, .int rmb, .int eA, .int fA, .ref tx, .int tyd, .ref li, .int ldd, .int thr, .int siz, .int spt, .int wrg, .int tld, .ref nmb])), (nw, .inl (gI G, 72, .inl σ))] := by
    intro n
    induction n with
    | zero => intro b hlt; exact absurd hlt (Nat.not_lt_zero _)
    | succ n ih12 =>
      intro b hlt12 hb
      refine V.iload hC (x := nI b) dX13_canNestRebuild_12 rfl ?_
      refine V.aload_n hC (x := m) dX13_canNestRebuild_14 rfl ?_
      refine V.getf hC (T := TX13) q0_ 0 q1_ rfl (0) rfl rfl (by decide) (.ref nw) rfl dX13_canNestRebuild_15 ?_
      refine V.iconst hC 0 dX13_canNestRebuild_18 rfl ?_
      refine V.iald hC dX13_canNestRebuild_19 (1) rfl 0 rfl (by omega) (by decide) ?_
      refine V.topeq (nI (sNb s)) hR.1 ?_
      refine V.icmpN_ge hC b (sNb s) 63 dX13_canNestRebuild_20 rfl rfl rfl (by omega) (by omega) (fun c_20 => ?_) (fun c_20 => ?_)
      · have hbn : b = sNb s := by omega
        refine V.aload_n hC (x := m) dX13_canNestRebuild_63 rfl ?_
        refine V.iload_n hC (x := x) dX13_canNestRebuild_64 rfl ?_
        refine V.callSr (n := 1) (As := [.int x]) (rest := [.ref m]) hC (m_isNest (kl K) G x) SFk0 SFgo0 gX13_canNestRebuild_X13_isNest rfl ⟨rfl, rfl⟩ (by decide +kernel) ⟨by decide, by decide, by decide, by decide⟩ [] rfl (by decide) rfl rfl (Nat.le_of_ble_eq_true rfl) dX13_canNestRebuild_65 (fun r_65 u_65 hp_65 => ?_)
        subst hp_65
        show V G K 6 0 0 68 [some (.ref m), some (.int x), some (.int y), some (.int (-1)), some (.int (nI 0)), some (.int (nI b))] [.int (if ¬ x < 0 ∧ x < 4 then 1 else 0), .ref m] [(m, .inr (13, [.ref nw, .ref bf, .ref sv, .ref hy, .int iS, .int rmb, .int eA, .int fA, .ref tx, .int tyd, .ref li, .int ldd, .int thr, .int siz, .int spt, .int wrg, .int tld, .ref nmb])), (nw, .inl (gI G, 72, .inl σ))]
        refine V.iload_n hC (x := -1) dX13_canNestRebuild_68 rfl ?_
        refine V.iconst hC (-1) dX13_canNestRebuild_69 rfl ?_
        refine V.icmp_eq hC 77 dX13_canNestRebuild_70 rfl (fun c_70 => ?_) (fun c_70 => ?_)
        · refine V.iconst hC 0 dX13_canNestRebuild_77 rfl ?_
          refine V.iconst hC 1 dX13_canNestRebuild_78 rfl ?_
          refine V.iconst hC 1 dX13_canNestRebuild_79 rfl ?_
          refine V.callV (n := 4) (As := [.int (if ¬ x < 0 ∧ x < 4 then 1 else 0), .int 0, .int 1, .int 1]) (rest := []) hC (m_allows (kl K) G m nw bf sv hy tx li nmb iS rmb eA fA tyd ldd thr siz spt wrg tld (if ¬ x < 0 ∧ x < 4 then 1 else 0) 0 1 1) SFk0 SFgo0 gX13_canNestRebuild_X13_allows rfl ⟨rfl, rfl⟩ (by decide +kernel) ⟨by decide, by decide, by decide, by decide⟩ [0] rfl (by decide) (fun _ => rfl) rfl rfl rfl rfl (Nat.le_of_ble_eq_true rfl) dX13_canNestRebuild_80 (fun r_80 u_80 hp_80 => ?_)
          subst hp_80
          show V G K 6 0 0 83 [some (.ref m), some (.int x), some (.int y), some (.int (-1)), some (.int (nI 0)), some (.int (nI b))] [.int (if alw (if ¬ x < 0 ∧ x < 4 then 1 else 0) 0 1 1 = 0 then 1 else 0)] [(m, .inr (13, [.ref nw, .ref bf, .ref sv, .ref hy, .int iS, .int rmb, .int eA, .int fA, .ref tx, .int tyd, .ref li, .int ldd, .int (nI (alw (if ¬ x < 0 ∧ x < 4 then 1 else 0) 0 1 1)), .int siz, .int spt, .int wrg, .int tld, .ref nmb])), (nw, .inl (gI G, 72, .inl σ))]
          by_cases hg0_80 : ¬ x < 0 ∧ x < 4
          · have ha_80 : alw (if ¬ x < 0 ∧ x < 4 then 1 else 0) 0 1 1 = 2 := by rw [if_pos hg0_80]; rfl
            refine V.topeq (nI 0) (by rw [ha_80]; rfl) ?_
            refine V.eqw (ws' := [(m, .inr (13, [.ref nw, .ref bf, .ref sv, .ref hy, .int iS, .int rmb, .int eA, .int fA, .ref tx, .int tyd, .ref li, .int ldd, .int (nI 2), .int siz, .int spt, .int wrg, .int tld, .ref nmb])), (nw, .inl (gI G, 72, .inl σ))]) (by rw [ha_80]) ?_
            refine V.ifN_eq hC 0 101 dX13_canNestRebuild_83 rfl rfl (by omega) (fun c_83 => ?_) (fun c_83 => ?_)
            · refine V.iconst hC 0 dX13_canNestRebuild_101 rfl ?_
              have hq : qCan s x y = (2, 0) := (qN_y hg0_80).trans (qS_n hf)
              refine V.eqw (ws' := [(m, .inr (13, [.ref nw, .ref bf, .ref sv, .ref hy, .int iS, .int rmb, .int eA, .int fA, .ref tx, .int tyd, .ref li, .int ldd, .int (nI (qCan s x y).1), .int siz, .int spt, .int wrg, .int tld, .ref nmb])), (nw, .inl (gI G, 72, .inl σ))]) (by rw [hq]) ?_
              exact hE 102 _ 0 () dX13_canNestRebuild_102 rfl (by rw [hq])
            · exact absurd c_83 (by decide)
          · have ha_80 : alw (if ¬ x < 0 ∧ x < 4 then 1 else 0) 0 1 1 = 1 := by rw [if_neg hg0_80]; rfl
            refine V.topeq (nI 0) (by rw [ha_80]; rfl) ?_
            refine V.eqw (ws' := [(m, .inr (13, [.ref nw, .ref bf, .ref sv, .ref hy, .int iS, .int rmb, .int eA, .int fA, .ref tx, .int tyd, .ref li, .int ldd, .int (nI 1), .int siz, .int spt, .int wrg, .int tld, .ref nmb])), (nw, .inl (gI G, 72, .inl σ))]) (by rw [ha_80]) ?_
            refine V.ifN_eq hC 0 101 dX13_canNestRebuild_83 rfl rfl (by omega) (fun c_83 => ?_) (fun c_83 => ?_)
            · refine V.iconst hC 0 dX13_canNestRebuild_101 rfl ?_
              have hq : qCan s x y = (1, 0) := qN_n hg0_80
              refine V.eqw (ws' := [(m, .inr (13, [.ref nw, .ref bf, .ref sv, .ref hy, .int iS, .int rmb, .int eA, .int fA, .ref tx, .int tyd, .ref li, .int ldd, .int (nI (qCan s x y).1), .int siz, .int spt, .int wrg, .int tld, .ref nmb])), (nw, .inl (gI G, 72, .inl σ))]) (by rw [hq]) ?_
              exact hE 102 _ 0 () dX13_canNestRebuild_102 rfl (by rw [hq])
            · exact absurd c_83 (by decide)
        · exact absurd rfl c_70
      · refine V.iload hC (x := nI 0) dX13_canNestRebuild_23 rfl ?_
        refine V.aload_n hC (x := m) dX13_canNestRebuild_25 rfl ?_
        refine V.getf hC (T := TX13) q0_ 0 q1_ rfl (0) rfl rfl (by decide) (.ref nw) rfl dX13_canNestRebuild_26 ?_
        refine V.iconst hC 4 dX13_canNestRebuild_29 rfl ?_
        refine V.iload hC (x := nI b) dX13_canNestRebuild_30 rfl ?_
        refine V.iaddN hC 4 b dX13_canNestRebuild_32 rfl rfl ?_
        refine V.iald hC dX13_canNestRebuild_33 (1) rfl (4 + b) rfl (by omega) (by decide) ?_
        refine V.topeq (sHm s b) (hR.2.2.2.2.1 b c_20) ?_
        refine V.iload_n hC (x := x) dX13_canNestRebuild_34 rfl ?_
        refine V.icmp_ne hC 53 dX13_canNestRebuild_35 rfl (fun c_35 => ?_) (fun c_35 => ?_)
        · refine V.iconst hC 0 dX13_canNestRebuild_53 rfl ?_
          refine V.iaddN hC 0 0 dX13_canNestRebuild_54 rfl rfl ?_
          refine V.topeq (nI 0) rfl ?_
          refine V.istore hC dX13_canNestRebuild_55 [some (.ref m), some (.int x), some (.int y), some (.int (-1)), some (.int (nI 0)), some (.int (nI b))] (Nat.le_of_ble_eq_true rfl) rfl ?_
          refine V.iincN hC b 1 dX13_canNestRebuild_57 rfl [some (.ref m), some (.int x), some (.int y), some (.int (-1)), some (.int (nI 0)), some (.int (nI (b + 1)))] (Nat.le_of_ble_eq_true rfl) rfl rfl rfl ?_
          refine V.goto hC 12 dX13_canNestRebuild_60 rfl ?_
          exact ih12 (b + 1) (by omega) (by omega)
        · refine V.aload_n hC (x := m) dX13_canNestRebuild_38 rfl ?_
          refine V.iload hC (x := nI b) dX13_canNestRebuild_39 rfl ?_
          refine V.iload_n hC (x := -1) dX13_canNestRebuild_41 rfl ?_
          refine V.callVr (n := 2) (As := [.int (nI b), .int (-1)]) (rest := [.int (nI 0)]) hC (m_shareOfN (kl K) G m nw bf sv hy tx li nmb iS rmb eA fA tyd ldd thr siz spt wrg tld σ s B hR hI hB (nI b)) SFk0 SFgo0 gX13_canNestRebuild_X13_shareOf rfl ⟨rfl, rfl⟩ (by decide +kernel) ⟨by decide, by decide, by decide, by decide⟩ [0, 1] rfl (by decide) rfl rfl rfl rfl (Nat.le_of_ble_eq_true rfl) dX13_canNestRebuild_42 (fun r_42 u_42 hp_42 => ?_)
          subst hp_42
          show V G K 6 0 0 45 [some (.ref m), some (.int x), some (.int y), some (.int (-1)), some (.int (nI 0)), some (.int (nI b))] [.int (-1), .int (nI 0)] [(m, .inr (13, [.ref nw, .ref bf, .ref sv, .ref hy, .int iS, .int rmb, .int eA, .int fA, .ref tx, .int tyd, .ref li, .int ldd, .int thr, .int siz, .int spt, .int wrg, .int tld, .ref nmb])), (nw, .inl (gI G, 72, .inl σ))]
          refine V.iconst hC (-1) dX13_canNestRebuild_45 rfl ?_
          refine V.icmp_eq hC 53 dX13_canNestRebuild_46 rfl (fun c_46 => ?_) (fun c_46 => ?_)
          · refine V.iconst hC 0 dX13_canNestRebuild_53 rfl ?_
            refine V.iaddN hC 0 0 dX13_canNestRebuild_54 rfl rfl ?_
            refine V.topeq (nI 0) rfl ?_
            refine V.istore hC dX13_canNestRebuild_55 [some (.ref m), some (.int x), some (.int y), some (.int (-1)), some (.int (nI 0)), some (.int (nI b))] (Nat.le_of_ble_eq_true rfl) rfl ?_
            refine V.iincN hC b 1 dX13_canNestRebuild_57 rfl [some (.ref m), some (.int x), some (.int y), some (.int (-1)), some (.int (nI 0)), some (.int (nI (b + 1)))] (Nat.le_of_ble_eq_true rfl) rfl rfl rfl ?_
            refine V.goto hC 12 dX13_canNestRebuild_60 rfl ?_
            exact ih12 (b + 1) (by omega) (by omega)
          · exact absurd rfl c_46
  exact loop12 _ 0 (Nat.lt_succ_self _) (by omega)

set_option maxHeartbeats 4000000 in
set_option maxRecDepth 100000 in
theorem m_canK (l : Launch) (G : Gx) (m nw bf sv hy tx li nmb : Nat) (iS rmb eA fA tyd ldd thr siz spt wrg tld : Int32) (σ : Nat → Int32) (s : ASt) (B : Nat) (hR : Rel σ s) (hI : InvA B s) (hB : B < 2 ^ 30) (x y : Int32) (k : Nat) (hf : fd (sNu s) y (sNs s) = some k) : Ct l G SF0 yX13_canNestRebuild wsX13_canNestRebuild ({ frames := 3, cells := 0, slots := 0, locals := 65 }) [.ref m, .int x, .int y] [(m, .inr (13, [.ref nw, .ref bf, .ref sv, .ref hy, .int iS, .int rmb, .int eA, .int fA, .ref tx, .int tyd, .ref li, .int ldd, .int thr, .int siz, .int spt, .int wrg, .int tld, .ref nmb])), (nw, .inl (gI G, 72, .inl σ))] mkI (fun (r : Int32) (_ : Unit) => r = (qCan s x y).2) (fun _ : Unit => [(m, .inr (13, [.ref nw, .ref bf, .ref sv, .ref hy, .int iS, .int rmb, .int eA, .int fA, .ref tx, .int tyd, .ref li, .int ldd, .int (nI (qCan s x y).1), .int siz, .int spt, .int wrg, .int tld, .ref nmb])), (nw, .inl (gI G, 72, .inl σ))]) 0 0 := by
  have hb8 := hI.1
  have hs6 := hI.2.1
  have hkn := (fd_lt hf hs6).1
  have hk6 := (fd_lt hf hs6).2
  have ik := hI.2.2.1 k hkn
  refine Ct.ofI (cc := cX13_canNestRebuild) (maxL := 6) (by decide) rfl ⟨by simp [Value.category], Nat.le_of_ble_eq_true rfl⟩ ?_
  intro K hl hC hSF hnm hE
  subst hl
  have q0_ : ∀ w ∈ u_ws RX13 TX13 18, w ∈ wsX13_canNestRebuild := by decide +kernel
  have q1_ : Cond.fieldLink RX13 9 "FeatherSharesModel" "now" "[I" ∈ wsX13_canNestRebuild := by decide +kernel
  show V G K 6 0 0 0 [some (.ref m), some (.int x), some (.int y), none, none, none] [] [(m, .inr (13, [.ref nw, .ref bf, .ref sv, .ref hy, .int iS, .int rmb, .int eA, .int fA, .ref tx, .int tyd, .ref li, .int ldd, .int thr, .int siz, .int spt, .int wrg, .int tld, .ref nmb])), (nw, .inl (gI G, 72, .inl σ))]
  refine V.aload_n hC (x := m) dX13_canNestRebuild_0 rfl ?_
  refine V.iload_n hC (x := y) dX13_canNestRebuild_1 rfl ?_
  refine V.callVr (n := 1) (As := [.int y]) (rest := []) hC (m_find (kl K) G m nw bf sv hy tx li nmb iS rmb eA fA tyd ldd thr siz spt wrg tld σ s B hR hI hB y) SFk0 SFgo0 gX13_canNestRebuild_X13_find rfl ⟨rfl, rfl⟩ (by decide +kernel) ⟨by decide, by decide, by decide, by decide⟩ [0, 1] rfl (by decide) rfl rfl rfl rfl (Nat.le_of_ble_eq_true rfl) dX13_canNestRebuild_2 (fun r_2 u_2 hp_2 => ?_)
  rw [hf] at hp_2
  subst hp_2
  show V G K 6 0 0 5 [some (.ref m), some (.int x), some (.int y), none, none, none] [.int (nI k)] [(m, .inr (13, [.ref nw, .ref bf, .ref sv, .ref hy, .int iS, .int rmb, .int eA, .int fA, .ref tx, .int tyd, .ref li, .int ldd, .int thr, .int siz, .int spt, .int wrg, .int tld, .ref nmb])), (nw, .inl (gI G, 72, .inl σ))]
  refine V.istore_n hC dX13_canNestRebuild_5 [some (.ref m), some (.int x), some (.int y), some (.int (nI k)), none, none] (Nat.le_of_ble_eq_true rfl) rfl ?_
  refine V.iconst hC 0 dX13_canNestRebuild_6 rfl ?_
  refine V.istore hC dX13_canNestRebuild_7 [some (.ref m), some (.int x), some (.int y), some (.int (nI k)), some (.int 0), none] (Nat.le_of_ble_eq_true rfl) rfl ?_
  refine V.iconst hC 0 dX13_canNestRebuild_9 rfl ?_
  refine V.istore hC dX13_canNestRebuild_10 [some (.ref m), some (.int x), some (.int y), some (.int (nI k)), some (.int 0), some (.int 0)] (Nat.le_of_ble_eq_true rfl) rfl ?_
  have loop12 : ∀ (n : Nat) (b : Nat), 8 - b < n → (b ≤ sNb s) → V G K 6 0 0 12 [some (.ref m), some (.int x), some (.int y), some (.int (nI k)), some (.int (nI (hin (sHm s) (sSh s k) x b))), some (.int (nI b))] [] [(m, .inr (13, [.ref nw, .ref bf, .ref sv, .ref hy, .int iS, .int rmb, .int eA, .int fA, .ref tx, .int tyd, .ref li, .int ldd, .int thr, .int siz, .int spt, .int wrg, .int tld, .ref nmb])), (nw, .inl (gI G, 72, .inl σ))] := by
    intro n
    induction n with
    | zero => intro b hlt; exact absurd hlt (Nat.not_lt_zero _)
    | succ n ih12 =>
      intro b hlt12 hb
      have hbl := hin_le (sHm s) (sSh s k) x b
      refine V.iload hC (x := nI b) dX13_canNestRebuild_12 rfl ?_
      refine V.aload_n hC (x := m) dX13_canNestRebuild_14 rfl ?_
      refine V.getf hC (T := TX13) q0_ 0 q1_ rfl (0) rfl rfl (by decide) (.ref nw) rfl dX13_canNestRebuild_15 ?_
      refine V.iconst hC 0 dX13_canNestRebuild_18 rfl ?_
      refine V.iald hC dX13_canNestRebuild_19 (1) rfl 0 rfl (by omega) (by decide) ?_
      refine V.topeq (nI (sNb s)) hR.1 ?_
      refine V.icmpN_ge hC b (sNb s) 63 dX13_canNestRebuild_20 rfl rfl rfl (by omega) (by omega) (fun c_20 => ?_) (fun c_20 => ?_)
      · have hbn : b = sNb s := by omega
        refine V.aload_n hC (x := m) dX13_canNestRebuild_63 rfl ?_
        refine V.iload_n hC (x := x) dX13_canNestRebuild_64 rfl ?_
        refine V.callSr (n := 1) (As := [.int x]) (rest := [.ref m]) hC (m_isNest (kl K) G x) SFk0 SFgo0 gX13_canNestRebuild_X13_isNest rfl ⟨rfl, rfl⟩ (by decide +kernel) ⟨by decide, by decide, by decide, by decide⟩ [] rfl (by decide) rfl rfl (Nat.le_of_ble_eq_true rfl) dX13_canNestRebuild_65 (fun r_65 u_65 hp_65 => ?_)
        subst hp_65
        show V G K 6 0 0 68 [some (.ref m), some (.int x), some (.int y), some (.int (nI k)), some (.int (nI (hin (sHm s) (sSh s k) x b))), some (.int (nI b))] [.int (if ¬ x < 0 ∧ x < 4 then 1 else 0), .ref m] [(m, .inr (13, [.ref nw, .ref bf, .ref sv, .ref hy, .int iS, .int rmb, .int eA, .int fA, .ref tx, .int tyd, .ref li, .int ldd, .int thr, .int siz, .int spt, .int wrg, .int tld, .ref nmb])), (nw, .inl (gI G, 72, .inl σ))]
        refine V.iload_n hC (x := nI k) dX13_canNestRebuild_68 rfl ?_
        refine V.iconst hC (-1) dX13_canNestRebuild_69 rfl ?_
        refine V.icmp_eq hC 77 dX13_canNestRebuild_70 rfl (fun c_70 => ?_) (fun c_70 => ?_)
        · exact absurd c_70 (nI_m1 (by omega))
        · refine V.iconst hC 1 dX13_canNestRebuild_73 rfl ?_
          refine V.goto hC 78 dX13_canNestRebuild_74 rfl ?_
          refine V.iconst hC 1 dX13_canNestRebuild_78 rfl ?_
          refine V.iconst hC 1 dX13_canNestRebuild_79 rfl ?_
          refine V.callV (n := 4) (As := [.int (if ¬ x < 0 ∧ x < 4 then 1 else 0), .int 1, .int 1, .int 1]) (rest := []) hC (m_allows (kl K) G m nw bf sv hy tx li nmb iS rmb eA fA tyd ldd thr siz spt wrg tld (if ¬ x < 0 ∧ x < 4 then 1 else 0) 1 1 1) SFk0 SFgo0 gX13_canNestRebuild_X13_allows rfl ⟨rfl, rfl⟩ (by decide +kernel) ⟨by decide, by decide, by decide, by decide⟩ [0] rfl (by decide) (fun _ => rfl) rfl rfl rfl rfl (Nat.le_of_ble_eq_true rfl) dX13_canNestRebuild_80 (fun r_80 u_80 hp_80 => ?_)
          subst hp_80
          show V G K 6 0 0 83 [some (.ref m), some (.int x), some (.int y), some (.int (nI k)), some (.int (nI (hin (sHm s) (sSh s k) x b))), some (.int (nI b))] [.int (if alw (if ¬ x < 0 ∧ x < 4 then 1 else 0) 1 1 1 = 0 then 1 else 0)] [(m, .inr (13, [.ref nw, .ref bf, .ref sv, .ref hy, .int iS, .int rmb, .int eA, .int fA, .ref tx, .int tyd, .ref li, .int ldd, .int (nI (alw (if ¬ x < 0 ∧ x < 4 then 1 else 0) 1 1 1)), .int siz, .int spt, .int wrg, .int tld, .ref nmb])), (nw, .inl (gI G, 72, .inl σ))]
          by_cases hg0_80 : ¬ x < 0 ∧ x < 4
          · have ha_80 : alw (if ¬ x < 0 ∧ x < 4 then 1 else 0) 1 1 1 = 0 := by rw [if_pos hg0_80]; rfl
            refine V.topeq (nI 1) (by rw [ha_80]; rfl) ?_
            refine V.eqw (ws' := [(m, .inr (13, [.ref nw, .ref bf, .ref sv, .ref hy, .int iS, .int rmb, .int eA, .int fA, .ref tx, .int tyd, .ref li, .int ldd, .int (nI 0), .int siz, .int spt, .int wrg, .int tld, .ref nmb])), (nw, .inl (gI G, 72, .inl σ))]) (by rw [ha_80]) ?_
            refine V.ifN_eq hC 1 101 dX13_canNestRebuild_83 rfl rfl (by omega) (fun c_83 => ?_) (fun c_83 => ?_)
            · exact absurd c_83 (by decide)
            · refine V.iload hC (x := nI (hin (sHm s) (sSh s k) x b)) dX13_canNestRebuild_86 rfl ?_
              refine V.aload_n hC (x := m) dX13_canNestRebuild_88 rfl ?_
              refine V.iload_n hC (x := nI k) dX13_canNestRebuild_89 rfl ?_
              refine V.iconst hC 1 dX13_canNestRebuild_90 rfl ?_
              refine V.callVr (n := 2) (As := [.int (nI k), .int 1]) (rest := [.int (nI (hin (sHm s) (sSh s k) x b))]) hC (m_of (kl K) G m nw bf sv hy tx li nmb iS rmb eA fA tyd ldd (nI 0) siz spt wrg tld σ k hk6 1 (by decide)) SFk0 SFgo0 gX13_canNestRebuild_X13_of rfl ⟨rfl, rfl⟩ (by decide +kernel) ⟨by decide, by decide, by decide, by decide⟩ [0, 1] rfl (by decide) rfl rfl rfl rfl (Nat.le_of_ble_eq_true rfl) dX13_canNestRebuild_91 (fun r_91 u_91 hp_91 => ?_)
              have hq_91 := hp_91.trans (show σ (12 + 10 * k + 1) = nI (sTn s k) by rw [show 12 + 10 * k + 1 = 13 + 10 * k by omega]; exact (hR.2.2.2.2.2 k hkn).2.1)
              subst hq_91
              show V G K 6 0 0 94 [some (.ref m), some (.int x), some (.int y), some (.int (nI k)), some (.int (nI (hin (sHm s) (sSh s k) x b))), some (.int (nI b))] [.int (nI (sTn s k)), .int (nI (hin (sHm s) (sSh s k) x b))] [(m, .inr (13, [.ref nw, .ref bf, .ref sv, .ref hy, .int iS, .int rmb, .int eA, .int fA, .ref tx, .int tyd, .ref li, .int ldd, .int (nI 0), .int siz, .int spt, .int wrg, .int tld, .ref nmb])), (nw, .inl (gI G, 72, .inl σ))]
              refine V.icmpN_lt hC (hin (sHm s) (sSh s k) x b) (sTn s k) 101 dX13_canNestRebuild_94 rfl rfl rfl (by omega) (by omega) (fun c_94 => ?_) (fun c_94 => ?_)
              · refine V.iconst hC 0 dX13_canNestRebuild_101 rfl ?_
                have hq : qCan s x y = (0, 0) := (qN_y hg0_80).trans ((qS_y hf).trans (congrArg (Prod.mk 0) (if_neg (by rw [← hbn]; omega))))
                refine V.eqw (ws' := [(m, .inr (13, [.ref nw, .ref bf, .ref sv, .ref hy, .int iS, .int rmb, .int eA, .int fA, .ref tx, .int tyd, .ref li, .int ldd, .int (nI (qCan s x y).1), .int siz, .int spt, .int wrg, .int tld, .ref nmb])), (nw, .inl (gI G, 72, .inl σ))]) (by rw [hq]) ?_
                exact hE 102 _ 0 () dX13_canNestRebuild_102 rfl (by rw [hq])
              · refine V.iconst hC 1 dX13_canNestRebuild_97 rfl ?_
                refine V.goto hC 102 dX13_canNestRebuild_98 rfl ?_
                have hq : qCan s x y = (0, 1) := (qN_y hg0_80).trans ((qS_y hf).trans (congrArg (Prod.mk 0) (if_pos (by rw [← hbn]; omega))))
                refine V.eqw (ws' := [(m, .inr (13, [.ref nw, .ref bf, .ref sv, .ref hy, .int iS, .int rmb, .int eA, .int fA, .ref tx, .int tyd, .ref li, .int ldd, .int (nI (qCan s x y).1), .int siz, .int spt, .int wrg, .int tld, .ref nmb])), (nw, .inl (gI G, 72, .inl σ))]) (by rw [hq]) ?_
                exact hE 102 _ 1 () dX13_canNestRebuild_102 rfl (by rw [hq])
          · have ha_80 : alw (if ¬ x < 0 ∧ x < 4 then 1 else 0) 1 1 1 = 1 := by rw [if_neg hg0_80]; rfl
            refine V.topeq (nI 0) (by rw [ha_80]; rfl) ?_
            refine V.eqw (ws' := [(m, .inr (13, [.ref nw, .ref bf, .ref sv, .ref hy, .int iS, .int rmb, .int eA, .int fA, .ref tx, .int tyd, .ref li, .int ldd, .int (nI 1), .int siz, .int spt, .int wrg, .int tld, .ref nmb])), (nw, .inl (gI G, 72, .inl σ))]) (by rw [ha_80]) ?_
            refine V.ifN_eq hC 0 101 dX13_canNestRebuild_83 rfl rfl (by omega) (fun c_83 => ?_) (fun c_83 => ?_)
            · refine V.iconst hC 0 dX13_canNestRebuild_101 rfl ?_
              have hq : qCan s x y = (1, 0) := qN_n hg0_80
              refine V.eqw (ws' := [(m, .inr (13, [.ref nw, .ref bf, .ref sv, .ref hy, .int iS, .int rmb, .int eA, .int fA, .ref tx, .int tyd, .ref li, .int ldd, .int (nI (qCan s x y).1), .int siz, .int spt, .int wrg, .int tld, .ref nmb])), (nw, .inl (gI G, 72, .inl σ))]) (by rw [hq]) ?_
              exact hE 102 _ 0 () dX13_canNestRebuild_102 rfl (by rw [hq])
            · exact absurd c_83 (by decide)
      · refine V.iload hC (x := nI (hin (sHm s) (sSh s k) x b)) dX13_canNestRebuild_23 rfl ?_
        refine V.aload_n hC (x := m) dX13_canNestRebuild_25 rfl ?_
        refine V.getf hC (T := TX13) q0_ 0 q1_ rfl (0) rfl rfl (by decide) (.ref nw) rfl dX13_canNestRebuild_26 ?_
        refine V.iconst hC 4 dX13_canNestRebuild_29 rfl ?_
        refine V.iload hC (x := nI b) dX13_canNestRebuild_30 rfl ?_
        refine V.iaddN hC 4 b dX13_canNestRebuild_32 rfl rfl ?_
        refine V.iald hC dX13_canNestRebuild_33 (1) rfl (4 + b) rfl (by omega) (by decide) ?_
        refine V.topeq (sHm s b) (hR.2.2.2.2.1 b c_20) ?_
        refine V.iload_n hC (x := x) dX13_canNestRebuild_34 rfl ?_
        refine V.icmp_ne hC 53 dX13_canNestRebuild_35 rfl (fun c_35 => ?_) (fun c_35 => ?_)
        · refine V.iconst hC 0 dX13_canNestRebuild_53 rfl ?_
          refine V.iaddN hC (hin (sHm s) (sSh s k) x b) 0 dX13_canNestRebuild_54 rfl rfl ?_
          refine V.topeq (nI (hin (sHm s) (sSh s k) x (b + 1))) (congrArg nI (hin_n (fun z => c_35 z.1))) ?_
          refine V.istore hC dX13_canNestRebuild_55 [some (.ref m), some (.int x), some (.int y), some (.int (nI k)), some (.int (nI (hin (sHm s) (sSh s k) x (b + 1)))), some (.int (nI b))] (Nat.le_of_ble_eq_true rfl) rfl ?_
          refine V.iincN hC b 1 dX13_canNestRebuild_57 rfl [some (.ref m), some (.int x), some (.int y), some (.int (nI k)), some (.int (nI (hin (sHm s) (sSh s k) x (b + 1)))), some (.int (nI (b + 1)))] (Nat.le_of_ble_eq_true rfl) rfl rfl rfl ?_
          refine V.goto hC 12 dX13_canNestRebuild_60 rfl ?_
          exact ih12 (b + 1) (by omega) (by omega)
        · refine V.aload_n hC (x := m) dX13_canNestRebuild_38 rfl ?_
          refine V.iload hC (x := nI b) dX13_canNestRebuild_39 rfl ?_
          refine V.iload_n hC (x := nI k) dX13_canNestRebuild_41 rfl ?_
          refine V.callVr (n := 2) (As := [.int (nI b), .int (nI k)]) (rest := [.int (nI (hin (sHm s) (sSh s k) x b))]) hC (m_shareOf (kl K) G m nw bf sv hy tx li nmb iS rmb eA fA tyd ldd thr siz spt wrg tld σ s B hR hI hB (nI b) k hkn) SFk0 SFgo0 gX13_canNestRebuild_X13_shareOf rfl ⟨rfl, rfl⟩ (by decide +kernel) ⟨by decide, by decide, by decide, by decide⟩ [0, 1] rfl (by decide) rfl rfl rfl rfl (Nat.le_of_ble_eq_true rfl) dX13_canNestRebuild_42 (fun r_42 u_42 hp_42 => ?_)
          have hq_42 := hp_42.trans (shK c_20 hb8)
          subst hq_42
          show V G K 6 0 0 45 [some (.ref m), some (.int x), some (.int y), some (.int (nI k)), some (.int (nI (hin (sHm s) (sSh s k) x b))), some (.int (nI b))] [.int (sSh s k b), .int (nI (hin (sHm s) (sSh s k) x b))] [(m, .inr (13, [.ref nw, .ref bf, .ref sv, .ref hy, .int iS, .int rmb, .int eA, .int fA, .ref tx, .int tyd, .ref li, .int ldd, .int thr, .int siz, .int spt, .int wrg, .int tld, .ref nmb])), (nw, .inl (gI G, 72, .inl σ))]
          refine V.iconst hC (-1) dX13_canNestRebuild_45 rfl ?_
          refine V.icmp_eq hC 53 dX13_canNestRebuild_46 rfl (fun c_46 => ?_) (fun c_46 => ?_)
          · refine V.iconst hC 0 dX13_canNestRebuild_53 rfl ?_
            refine V.iaddN hC (hin (sHm s) (sSh s k) x b) 0 dX13_canNestRebuild_54 rfl rfl ?_
            refine V.topeq (nI (hin (sHm s) (sSh s k) x (b + 1))) (congrArg nI (hin_n (fun z => z.2 c_46))) ?_
            refine V.istore hC dX13_canNestRebuild_55 [some (.ref m), some (.int x), some (.int y), some (.int (nI k)), some (.int (nI (hin (sHm s) (sSh s k) x (b + 1)))), some (.int (nI b))] (Nat.le_of_ble_eq_true rfl) rfl ?_
            refine V.iincN hC b 1 dX13_canNestRebuild_57 rfl [some (.ref m), some (.int x), some (.int y), some (.int (nI k)), some (.int (nI (hin (sHm s) (sSh s k) x (b + 1)))), some (.int (nI (b + 1)))] (Nat.le_of_ble_eq_true rfl) rfl rfl rfl ?_
            refine V.goto hC 12 dX13_canNestRebuild_60 rfl ?_
            exact ih12 (b + 1) (by omega) (by omega)
          · refine V.iconst hC 1 dX13_canNestRebuild_49 rfl ?_
            refine V.goto hC 54 dX13_canNestRebuild_50 rfl ?_
            refine V.iaddN hC (hin (sHm s) (sSh s k) x b) 1 dX13_canNestRebuild_54 rfl rfl ?_
            refine V.topeq (nI (hin (sHm s) (sSh s k) x (b + 1))) (congrArg nI (hin_y c_35 c_46)) ?_
            refine V.istore hC dX13_canNestRebuild_55 [some (.ref m), some (.int x), some (.int y), some (.int (nI k)), some (.int (nI (hin (sHm s) (sSh s k) x (b + 1)))), some (.int (nI b))] (Nat.le_of_ble_eq_true rfl) rfl ?_
            refine V.iincN hC b 1 dX13_canNestRebuild_57 rfl [some (.ref m), some (.int x), some (.int y), some (.int (nI k)), some (.int (nI (hin (sHm s) (sSh s k) x (b + 1)))), some (.int (nI (b + 1)))] (Nat.le_of_ble_eq_true rfl) rfl rfl rfl ?_
            refine V.goto hC 12 dX13_canNestRebuild_60 rfl ?_
            exact ih12 (b + 1) (by omega) (by omega)
  exact loop12 _ 0 (Nat.lt_succ_self _) (by omega)

theorem m_can (l : Launch) (G : Gx) (m nw bf sv hy tx li nmb : Nat) (iS rmb eA fA tyd ldd thr siz spt wrg tld : Int32) (σ : Nat → Int32) (s : ASt) (B : Nat) (hR : Rel σ s) (hI : InvA B s) (hB : B < 2 ^ 30) (x y : Int32) : Ct l G SF0 yX13_canNestRebuild wsX13_canNestRebuild ({ frames := 3, cells := 0, slots := 0, locals := 65 }) [.ref m, .int x, .int y] [(m, .inr (13, [.ref nw, .ref bf, .ref sv, .ref hy, .int iS, .int rmb, .int eA, .int fA, .ref tx, .int tyd, .ref li, .int ldd, .int thr, .int siz, .int spt, .int wrg, .int tld, .ref nmb])), (nw, .inl (gI G, 72, .inl σ))] mkI (fun (r : Int32) (_ : Unit) => r = (qCan s x y).2) (fun _ : Unit => [(m, .inr (13, [.ref nw, .ref bf, .ref sv, .ref hy, .int iS, .int rmb, .int eA, .int fA, .ref tx, .int tyd, .ref li, .int ldd, .int (nI (qCan s x y).1), .int siz, .int spt, .int wrg, .int tld, .ref nmb])), (nw, .inl (gI G, 72, .inl σ))]) 0 0 := by
  cases hf : fd (sNu s) y (sNs s) with
  | none => exact Ct.room (m_canN l G m nw bf sv hy tx li nmb iS rmb eA fA tyd ldd thr siz spt wrg tld σ s B hR hI hB x y hf) (by decide) (by decide) (by decide) (by decide)
  | some k => exact m_canK l G m nw bf sv hy tx li nmb iS rmb eA fA tyd ldd thr siz spt wrg tld σ s B hR hI hB x y k hf
set_option maxHeartbeats 4000000 in
set_option maxRecDepth 100000 in
theorem m_possible (l : Launch) (G : Gx) (m nw bf sv hy tx li nmb : Nat) (iS rmb eA fA tyd ldd thr siz spt wrg tld : Int32) (σ : Nat → Int32) (s : ASt) (B : Nat) (hR : Rel σ s) (hI : InvA B s) (hB : B < 2 ^ 30) (x y : Int32) : Ct l G SF0 yX13_possible wsX13_possible ({ frames := 5, cells := 0, slots := 0, locals := 109 }) [.ref m, .int x, .int y] [(m, .inr (13, [.ref nw, .ref bf, .ref sv, .ref hy, .int iS, .int rmb, .int eA, .int fA, .ref tx, .int tyd, .ref li, .int ldd, .int thr, .int siz, .int spt, .int wrg, .int tld, .ref nmb])), (nw, .inl (gI G, 72, .inl σ))] mkI (fun (r : Int32) (_ : Unit) => r = (qPoss s x y).2) (fun _ : Unit => [(m, .inr (13, [.ref nw, .ref bf, .ref sv, .ref hy, .int iS, .int rmb, .int eA, .int fA, .ref tx, .int tyd, .ref li, .int ldd, .int (nI (qPoss s x y).1), .int siz, .int spt, .int wrg, .int tld, .ref nmb])), (nw, .inl (gI G, 72, .inl σ))]) 0 0 := by
  have hb8 := hI.1
  have hs6 := hI.2.1
  refine Ct.ofI (cc := cX13_possible) (maxL := 5) (by decide) rfl ⟨by simp [Value.category], Nat.le_of_ble_eq_true rfl⟩ ?_
  intro K hl hC hSF hnm hE
  subst hl
  show V G K 5 0 0 0 [some (.ref m), some (.int x), some (.int y), none, none] [] [(m, .inr (13, [.ref nw, .ref bf, .ref sv, .ref hy, .int iS, .int rmb, .int eA, .int fA, .ref tx, .int tyd, .ref li, .int ldd, .int thr, .int siz, .int spt, .int wrg, .int tld, .ref nmb])), (nw, .inl (gI G, 72, .inl σ))]
  refine V.aload_n hC (x := m) dX13_possible_0 rfl ?_
  refine V.iload_n hC (x := x) dX13_possible_1 rfl ?_
  refine V.callVr (n := 1) (As := [.int x]) (rest := []) hC (m_find (kl K) G m nw bf sv hy tx li nmb iS rmb eA fA tyd ldd thr siz spt wrg tld σ s B hR hI hB x) SFk0 SFgo0 gX13_possible_X13_find rfl ⟨rfl, rfl⟩ (by decide +kernel) ⟨by decide, by decide, by decide, by decide⟩ [0, 1] rfl (by decide) rfl rfl rfl rfl (Nat.le_of_ble_eq_true rfl) dX13_possible_2 (fun r_2 u_2 hp_2 => ?_)
  rcases hf : fd (sNu s) x (sNs s) with _ | k
  · rw [hf] at hp_2
    subst hp_2
    show V G K 5 0 0 5 [some (.ref m), some (.int x), some (.int y), none, none] [.int (-1)] [(m, .inr (13, [.ref nw, .ref bf, .ref sv, .ref hy, .int iS, .int rmb, .int eA, .int fA, .ref tx, .int tyd, .ref li, .int ldd, .int thr, .int siz, .int spt, .int wrg, .int tld, .ref nmb])), (nw, .inl (gI G, 72, .inl σ))]
    refine V.istore_n hC dX13_possible_5 [some (.ref m), some (.int x), some (.int y), some (.int (-1)), none] (Nat.le_of_ble_eq_true rfl) rfl ?_
    refine V.iload_n hC (x := -1) dX13_possible_6 rfl ?_
    refine V.iconst hC (-1) dX13_possible_7 rfl ?_
    refine V.icmp_ne hC 15 dX13_possible_8 rfl (fun c_8 => ?_) (fun c_8 => ?_)
    · exact absurd rfl c_8
    · refine V.iconst hC 0 dX13_possible_11 rfl ?_
      refine V.goto hC 20 dX13_possible_12 rfl ?_
      refine V.istore hC dX13_possible_20 [some (.ref m), some (.int x), some (.int y), some (.int (-1)), some (.int 0)] (Nat.le_of_ble_eq_true rfl) rfl ?_
      refine V.aload_n hC (x := m) dX13_possible_22 rfl ?_
      refine V.iload_n hC (x := -1) dX13_possible_23 rfl ?_
      refine V.iconst hC (-1) dX13_possible_24 rfl ?_
      refine V.icmp_eq hC 32 dX13_possible_25 rfl (fun c_25 => ?_) (fun c_25 => ?_)
      · refine V.iconst hC 0 dX13_possible_32 rfl ?_
        refine V.iload_n hC (x := y) dX13_possible_33 rfl ?_
        refine V.iconst hC 0 dX13_possible_34 rfl ?_
        refine V.iload hC (x := 0) dX13_possible_35 rfl ?_
        refine V.callSr (n := 1) (As := [.int 0]) (rest := [.int 0, .int y, .int 0, .ref m]) hC (c_bitCount (kl K) G 0 (by decide)) SFk0 SFgo0 gX13_possible_J6_bitCount_0f7a4 rfl ⟨rfl, rfl⟩ (by decide +kernel) ⟨by decide, by decide, by decide, by decide⟩ [] rfl (by decide) rfl rfl (Nat.le_of_ble_eq_true rfl) dX13_possible_37 (fun r_37 u_37 hp_37 => ?_)
        subst hp_37
        show V G K 5 0 0 40 [some (.ref m), some (.int x), some (.int y), some (.int (-1)), some (.int 0)] [.int (nI (pop8 0)), .int 0, .int y, .int 0, .ref m] [(m, .inr (13, [.ref nw, .ref bf, .ref sv, .ref hy, .int iS, .int rmb, .int eA, .int fA, .ref tx, .int tyd, .ref li, .int ldd, .int thr, .int siz, .int spt, .int wrg, .int tld, .ref nmb])), (nw, .inl (gI G, 72, .inl σ))]
        refine V.callSr (n := 3) (As := [.int y, .int 0, .int (nI (pop8 0))]) (rest := [.int 0, .ref m]) hC (m_isIn (kl K) G y 0 (nI (pop8 0))) SFk0 SFgo0 gX13_possible_X13_isIn rfl ⟨rfl, rfl⟩ (by decide +kernel) ⟨by decide, by decide, by decide, by decide⟩ [] rfl (by decide) rfl rfl (Nat.le_of_ble_eq_true rfl) dX13_possible_40 (fun r_40 u_40 hp_40 => ?_)
        subst hp_40
        show V G K 5 0 0 43 [some (.ref m), some (.int x), some (.int y), some (.int (-1)), some (.int 0)] [.int (if ¬ y < 0 ∧ ¬ nI (pop8 0) < y then 1 else 0), .int 0, .ref m] [(m, .inr (13, [.ref nw, .ref bf, .ref sv, .ref hy, .int iS, .int rmb, .int eA, .int fA, .ref tx, .int tyd, .ref li, .int ldd, .int thr, .int siz, .int spt, .int wrg, .int tld, .ref nmb])), (nw, .inl (gI G, 72, .inl σ))]
        refine V.iconst hC 1 dX13_possible_43 rfl ?_
        refine V.iconst hC 1 dX13_possible_44 rfl ?_
        refine V.callV (n := 4) (As := [.int 0, .int (if ¬ y < 0 ∧ ¬ nI (pop8 0) < y then 1 else 0), .int 1, .int 1]) (rest := []) hC (m_allows (kl K) G m nw bf sv hy tx li nmb iS rmb eA fA tyd ldd thr siz spt wrg tld 0 (if ¬ y < 0 ∧ ¬ nI (pop8 0) < y then 1 else 0) 1 1) SFk0 SFgo0 gX13_possible_X13_allows rfl ⟨rfl, rfl⟩ (by decide +kernel) ⟨by decide, by decide, by decide, by decide⟩ [0] rfl (by decide) (fun _ => rfl) rfl rfl rfl rfl (Nat.le_of_ble_eq_true rfl) dX13_possible_45 (fun r_45 u_45 hp_45 => ?_)
        subst hp_45
        show V G K 5 0 0 48 [some (.ref m), some (.int x), some (.int y), some (.int (-1)), some (.int 0)] [.int (if alw 0 (if ¬ y < 0 ∧ ¬ nI (pop8 0) < y then 1 else 0) 1 1 = 0 then 1 else 0)] [(m, .inr (13, [.ref nw, .ref bf, .ref sv, .ref hy, .int iS, .int rmb, .int eA, .int fA, .ref tx, .int tyd, .ref li, .int ldd, .int (nI (alw 0 (if ¬ y < 0 ∧ ¬ nI (pop8 0) < y then 1 else 0) 1 1)), .int siz, .int spt, .int wrg, .int tld, .ref nmb])), (nw, .inl (gI G, 72, .inl σ))]
        have ha_45 : alw 0 (if ¬ y < 0 ∧ ¬ nI (pop8 0) < y then 1 else 0) 1 1 = 1 := by rfl
        refine V.topeq (nI 0) (by rw [ha_45]; rfl) ?_
        refine V.eqw (ws' := [(m, .inr (13, [.ref nw, .ref bf, .ref sv, .ref hy, .int iS, .int rmb, .int eA, .int fA, .ref tx, .int tyd, .ref li, .int ldd, .int (nI 1), .int siz, .int spt, .int wrg, .int tld, .ref nmb])), (nw, .inl (gI G, 72, .inl σ))]) (by rw [ha_45]) ?_
        refine V.ifN_ne hC 0 53 dX13_possible_48 rfl rfl (by omega) (fun c_48 => ?_) (fun c_48 => ?_)
        · exact absurd c_48 (by decide)
        · refine V.iconst hC 0 dX13_possible_51 rfl ?_
          have hq : qPoss s x y = (1, 0) := qS_n hf
          refine V.eqw (ws' := [(m, .inr (13, [.ref nw, .ref bf, .ref sv, .ref hy, .int iS, .int rmb, .int eA, .int fA, .ref tx, .int tyd, .ref li, .int ldd, .int (nI (qPoss s x y).1), .int siz, .int spt, .int wrg, .int tld, .ref nmb])), (nw, .inl (gI G, 72, .inl σ))]) (by rw [hq]) ?_
          exact hE 52 _ 0 () dX13_possible_52 rfl (by rw [hq])
      · exact absurd rfl c_25
  · rw [hf] at hp_2
    subst hp_2
    have hkn := (fd_lt hf hs6).1
    have hk6 := (fd_lt hf hs6).2
    have ik := hI.2.2.1 k hkn
    show V G K 5 0 0 5 [some (.ref m), some (.int x), some (.int y), none, none] [.int (nI k)] [(m, .inr (13, [.ref nw, .ref bf, .ref sv, .ref hy, .int iS, .int rmb, .int eA, .int fA, .ref tx, .int tyd, .ref li, .int ldd, .int thr, .int siz, .int spt, .int wrg, .int tld, .ref nmb])), (nw, .inl (gI G, 72, .inl σ))]
    refine V.istore_n hC dX13_possible_5 [some (.ref m), some (.int x), some (.int y), some (.int (nI k)), none] (Nat.le_of_ble_eq_true rfl) rfl ?_
    refine V.iload_n hC (x := nI k) dX13_possible_6 rfl ?_
    refine V.iconst hC (-1) dX13_possible_7 rfl ?_
    refine V.icmp_ne hC 15 dX13_possible_8 rfl (fun c_8 => ?_) (fun c_8 => ?_)
    · refine V.aload_n hC (x := m) dX13_possible_15 rfl ?_
      refine V.iload_n hC (x := nI k) dX13_possible_16 rfl ?_
      refine V.callVr (n := 1) (As := [.int (nI k)]) (rest := []) hC (m_holdersOf (kl K) G m nw bf sv hy tx li nmb iS rmb eA fA tyd ldd thr siz spt wrg tld σ s B hR hI hB k hkn) SFk0 SFgo0 gX13_possible_X13_holdersOf rfl ⟨rfl, rfl⟩ (by decide +kernel) ⟨by decide, by decide, by decide, by decide⟩ [0, 1] rfl (by decide) rfl rfl rfl rfl (Nat.le_of_ble_eq_true rfl) dX13_possible_17 (fun r_17 u_17 hp_17 => ?_)
      subst hp_17
      show V G K 5 0 0 20 [some (.ref m), some (.int x), some (.int y), some (.int (nI k)), none] [.int (nI (fh (sSh s k) 8 8))] [(m, .inr (13, [.ref nw, .ref bf, .ref sv, .ref hy, .int iS, .int rmb, .int eA, .int fA, .ref tx, .int tyd, .ref li, .int ldd, .int thr, .int siz, .int spt, .int wrg, .int tld, .ref nmb])), (nw, .inl (gI G, 72, .inl σ))]
      refine V.istore hC dX13_possible_20 [some (.ref m), some (.int x), some (.int y), some (.int (nI k)), some (.int (nI (fh (sSh s k) 8 8)))] (Nat.le_of_ble_eq_true rfl) rfl ?_
      refine V.aload_n hC (x := m) dX13_possible_22 rfl ?_
      refine V.iload_n hC (x := nI k) dX13_possible_23 rfl ?_
      refine V.iconst hC (-1) dX13_possible_24 rfl ?_
      refine V.icmp_eq hC 32 dX13_possible_25 rfl (fun c_25 => ?_) (fun c_25 => ?_)
      · exact absurd c_25 (nI_m1 (by omega))
      · refine V.iconst hC 1 dX13_possible_28 rfl ?_
        refine V.goto hC 33 dX13_possible_29 rfl ?_
        refine V.iload_n hC (x := y) dX13_possible_33 rfl ?_
        refine V.iconst hC 0 dX13_possible_34 rfl ?_
        refine V.iload hC (x := nI (fh (sSh s k) 8 8)) dX13_possible_35 rfl ?_
        refine V.callSr (n := 1) (As := [.int (nI (fh (sSh s k) 8 8))]) (rest := [.int 0, .int y, .int 1, .ref m]) hC (c_bitCount (kl K) G (fh (sSh s k) 8 8) (fh_256 _ _ _ (by decide))) SFk0 SFgo0 gX13_possible_J6_bitCount_0f7a4 rfl ⟨rfl, rfl⟩ (by decide +kernel) ⟨by decide, by decide, by decide, by decide⟩ [] rfl (by decide) rfl rfl (Nat.le_of_ble_eq_true rfl) dX13_possible_37 (fun r_37 u_37 hp_37 => ?_)
        rw [pop_fh8] at hp_37
        subst hp_37
        have hcl := hc_le (sSh s k) 8
        show V G K 5 0 0 40 [some (.ref m), some (.int x), some (.int y), some (.int (nI k)), some (.int (nI (fh (sSh s k) 8 8)))] [.int (nI (hc (sSh s k) 8)), .int 0, .int y, .int 1, .ref m] [(m, .inr (13, [.ref nw, .ref bf, .ref sv, .ref hy, .int iS, .int rmb, .int eA, .int fA, .ref tx, .int tyd, .ref li, .int ldd, .int thr, .int siz, .int spt, .int wrg, .int tld, .ref nmb])), (nw, .inl (gI G, 72, .inl σ))]
        refine V.callSr (n := 3) (As := [.int y, .int 0, .int (nI (hc (sSh s k) 8))]) (rest := [.int 1, .ref m]) hC (m_isIn (kl K) G y 0 (nI (hc (sSh s k) 8))) SFk0 SFgo0 gX13_possible_X13_isIn rfl ⟨rfl, rfl⟩ (by decide +kernel) ⟨by decide, by decide, by decide, by decide⟩ [] rfl (by decide) rfl rfl (Nat.le_of_ble_eq_true rfl) dX13_possible_40 (fun r_40 u_40 hp_40 => ?_)
        subst hp_40
        show V G K 5 0 0 43 [some (.ref m), some (.int x), some (.int y), some (.int (nI k)), some (.int (nI (fh (sSh s k) 8 8)))] [.int (if ¬ y < 0 ∧ ¬ nI (hc (sSh s k) 8) < y then 1 else 0), .int 1, .ref m] [(m, .inr (13, [.ref nw, .ref bf, .ref sv, .ref hy, .int iS, .int rmb, .int eA, .int fA, .ref tx, .int tyd, .ref li, .int ldd, .int thr, .int siz, .int spt, .int wrg, .int tld, .ref nmb])), (nw, .inl (gI G, 72, .inl σ))]
        refine V.iconst hC 1 dX13_possible_43 rfl ?_
        refine V.iconst hC 1 dX13_possible_44 rfl ?_
        refine V.callV (n := 4) (As := [.int 1, .int (if ¬ y < 0 ∧ ¬ nI (hc (sSh s k) 8) < y then 1 else 0), .int 1, .int 1]) (rest := []) hC (m_allows (kl K) G m nw bf sv hy tx li nmb iS rmb eA fA tyd ldd thr siz spt wrg tld 1 (if ¬ y < 0 ∧ ¬ nI (hc (sSh s k) 8) < y then 1 else 0) 1 1) SFk0 SFgo0 gX13_possible_X13_allows rfl ⟨rfl, rfl⟩ (by decide +kernel) ⟨by decide, by decide, by decide, by decide⟩ [0] rfl (by decide) (fun _ => rfl) rfl rfl rfl rfl (Nat.le_of_ble_eq_true rfl) dX13_possible_45 (fun r_45 u_45 hp_45 => ?_)
        subst hp_45
        show V G K 5 0 0 48 [some (.ref m), some (.int x), some (.int y), some (.int (nI k)), some (.int (nI (fh (sSh s k) 8 8)))] [.int (if alw 1 (if ¬ y < 0 ∧ ¬ nI (hc (sSh s k) 8) < y then 1 else 0) 1 1 = 0 then 1 else 0)] [(m, .inr (13, [.ref nw, .ref bf, .ref sv, .ref hy, .int iS, .int rmb, .int eA, .int fA, .ref tx, .int tyd, .ref li, .int ldd, .int (nI (alw 1 (if ¬ y < 0 ∧ ¬ nI (hc (sSh s k) 8) < y then 1 else 0) 1 1)), .int siz, .int spt, .int wrg, .int tld, .ref nmb])), (nw, .inl (gI G, 72, .inl σ))]
        by_cases hg1_45 : ¬ y < 0 ∧ ¬ nI (hc (sSh s k) 8) < y
        · have ha_45 : alw 1 (if ¬ y < 0 ∧ ¬ nI (hc (sSh s k) 8) < y then 1 else 0) 1 1 = 0 := by rw [if_pos hg1_45]; rfl
          refine V.topeq (nI 1) (by rw [ha_45]; rfl) ?_
          refine V.eqw (ws' := [(m, .inr (13, [.ref nw, .ref bf, .ref sv, .ref hy, .int iS, .int rmb, .int eA, .int fA, .ref tx, .int tyd, .ref li, .int ldd, .int (nI 0), .int siz, .int spt, .int wrg, .int tld, .ref nmb])), (nw, .inl (gI G, 72, .inl σ))]) (by rw [ha_45]) ?_
          refine V.ifN_ne hC 1 53 dX13_possible_48 rfl rfl (by omega) (fun c_48 => ?_) (fun c_48 => ?_)
          · obtain ⟨n, hn, hyn⟩ := i32_natLe (n := hc (sSh s k) 8) (by omega) ⟨hg1_45.1, Int32.not_lt.mp hg1_45.2⟩
            have hyc : y.toNatClampNeg = n := by rw [hyn, nI_clamp (by omega)]
            refine V.iload_n hC (x := y) dX13_possible_53 rfl ?_
            refine V.topeq (nI n) hyn ?_
            refine V.aload_n hC (x := m) dX13_possible_54 rfl ?_
            refine V.iload_n hC (x := nI k) dX13_possible_55 rfl ?_
            refine V.iconst hC 1 dX13_possible_56 rfl ?_
            refine V.callVr (n := 2) (As := [.int (nI k), .int 1]) (rest := [.int (nI n)]) hC (m_of (kl K) G m nw bf sv hy tx li nmb iS rmb eA fA tyd ldd (nI 0) siz spt wrg tld σ k hk6 1 (by decide)) SFk0 SFgo0 gX13_possible_X13_of rfl ⟨rfl, rfl⟩ (by decide +kernel) ⟨by decide, by decide, by decide, by decide⟩ [0, 1] rfl (by decide) rfl rfl rfl rfl (Nat.le_of_ble_eq_true rfl) dX13_possible_57 (fun r_57 u_57 hp_57 => ?_)
            have hq_57 := hp_57.trans (show σ (12 + 10 * k + 1) = nI (sTn s k) by rw [show 12 + 10 * k + 1 = 13 + 10 * k by omega]; exact (hR.2.2.2.2.2 k hkn).2.1)
            subst hq_57
            show V G K 5 0 0 60 [some (.ref m), some (.int x), some (.int y), some (.int (nI k)), some (.int (nI (fh (sSh s k) 8 8)))] [.int (nI (sTn s k)), .int (nI n)] [(m, .inr (13, [.ref nw, .ref bf, .ref sv, .ref hy, .int iS, .int rmb, .int eA, .int fA, .ref tx, .int tyd, .ref li, .int ldd, .int (nI 0), .int siz, .int spt, .int wrg, .int tld, .ref nmb])), (nw, .inl (gI G, 72, .inl σ))]
            refine V.icmpN_ge hC n (sTn s k) 66 dX13_possible_60 rfl rfl rfl (by omega) (by omega) (fun c_60 => ?_) (fun c_60 => ?_)
            · refine V.aload_n hC (x := m) dX13_possible_66 rfl ?_
              refine V.iload_n hC (x := nI k) dX13_possible_67 rfl ?_
              refine V.iload hC (x := nI (fh (sSh s k) 8 8)) dX13_possible_68 rfl ?_
              refine V.iload_n hC (x := y) dX13_possible_70 rfl ?_
              refine V.topeq (nI n) hyn ?_
              refine V.callSr (n := 2) (As := [.int (nI (fh (sSh s k) 8 8)), .int (nI n)]) (rest := [.int (nI k), .ref m]) hC (m_firstOf (kl K) G (sSh s k) n (by omega)) SFk0 SFgo0 gX13_possible_X13_firstOf rfl ⟨rfl, rfl⟩ (by decide +kernel) ⟨by decide, by decide, by decide, by decide⟩ [] rfl (by decide) rfl rfl (Nat.le_of_ble_eq_true rfl) dX13_possible_71 (fun r_71 u_71 hp_71 => ?_)
              subst hp_71
              show V G K 5 0 0 74 [some (.ref m), some (.int x), some (.int y), some (.int (nI k)), some (.int (nI (fh (sSh s k) 8 8)))] [.int (nI (fh (sSh s k) n 8)), .int (nI k), .ref m] [(m, .inr (13, [.ref nw, .ref bf, .ref sv, .ref hy, .int iS, .int rmb, .int eA, .int fA, .ref tx, .int tyd, .ref li, .int ldd, .int (nI 0), .int siz, .int spt, .int wrg, .int tld, .ref nmb])), (nw, .inl (gI G, 72, .inl σ))]
              refine V.aload_n hC (x := m) dX13_possible_74 rfl ?_
              refine V.iload_n hC (x := nI k) dX13_possible_75 rfl ?_
              refine V.callVr (n := 1) (As := [.int (nI k)]) (rest := [.int (nI (fh (sSh s k) n 8)), .int (nI k), .ref m]) hC (m_leading (kl K) G m nw bf sv hy tx li nmb iS rmb eA fA tyd ldd (nI 0) siz spt wrg tld σ s B hR hI hB k hkn) SFk0 SFgo0 gX13_possible_X13_leading rfl ⟨rfl, rfl⟩ (by decide +kernel) ⟨by decide, by decide, by decide, by decide⟩ [0, 1] rfl (by decide) rfl rfl rfl rfl (Nat.le_of_ble_eq_true rfl) dX13_possible_76 (fun r_76 u_76 hp_76 => ?_)
              subst hp_76
              show V G K 5 0 0 79 [some (.ref m), some (.int x), some (.int y), some (.int (nI k)), some (.int (nI (fh (sSh s k) 8 8)))] [.int (nI (fh (sSh s k) (sTn s k) 8)), .int (nI (fh (sSh s k) n 8)), .int (nI k), .ref m] [(m, .inr (13, [.ref nw, .ref bf, .ref sv, .ref hy, .int iS, .int rmb, .int eA, .int fA, .ref tx, .int tyd, .ref li, .int ldd, .int (nI 0), .int siz, .int spt, .int wrg, .int tld, .ref nmb])), (nw, .inl (gI G, 72, .inl σ))]
              refine V.callVr (n := 3) (As := [.int (nI k), .int (nI (fh (sSh s k) n 8)), .int (nI (fh (sSh s k) (sTn s k) 8))]) (rest := []) hC (m_unfit (kl K) G m nw bf sv hy tx li nmb iS rmb eA fA tyd ldd (nI 0) siz spt wrg tld σ s B hR hI hB k hkn (fh (sSh s k) n 8) (fh (sSh s k) (sTn s k) 8) (fh_256 _ _ _ (by decide)) (HB.fh ik.2.2.1 _) (fh_256 _ _ _ (by decide)) (HB.fh ik.2.2.1 _)) SFk0 SFgo0 gX13_possible_X13_unfit rfl ⟨rfl, rfl⟩ (by decide +kernel) ⟨by decide, by decide, by decide, by decide⟩ [0, 1] rfl (by decide) rfl rfl rfl rfl (Nat.le_of_ble_eq_true rfl) dX13_possible_79 (fun r_79 u_79 hp_79 => ?_)
              subst hp_79
              show V G K 5 0 0 82 [some (.ref m), some (.int x), some (.int y), some (.int (nI k)), some (.int (nI (fh (sSh s k) 8 8)))] [.int (nI (unf (fh (sSh s k) (sTn s k) 8) (svn (sSh s k)) (fh (sSh s k) n 8) 8))] [(m, .inr (13, [.ref nw, .ref bf, .ref sv, .ref hy, .int iS, .int rmb, .int eA, .int fA, .ref tx, .int tyd, .ref li, .int ldd, .int (nI 0), .int siz, .int spt, .int wrg, .int tld, .ref nmb])), (nw, .inl (gI G, 72, .inl σ))]
              have hul := unf_le (fh (sSh s k) (sTn s k) 8) (svn (sSh s k)) (fh (sSh s k) n 8) 8
              refine V.ifN_ne hC (unf (fh (sSh s k) (sTn s k) 8) (svn (sSh s k)) (fh (sSh s k) n 8) 8) 89 dX13_possible_82 rfl rfl (by omega) (fun c_82 => ?_) (fun c_82 => ?_)
              · refine V.iconst hC 0 dX13_possible_89 rfl ?_
                have hq : qPoss s x y = (0, 0) := (qS_y hf).trans ((qI_y ⟨hg1_45.1, Int32.not_lt.mp hg1_45.2⟩).trans (by rw [hyc, (pvc_z (by omega) c_82 : pvc (sSh s k) (sTn s k) n 97 = 0)]; rfl))
                refine V.eqw (ws' := [(m, .inr (13, [.ref nw, .ref bf, .ref sv, .ref hy, .int iS, .int rmb, .int eA, .int fA, .ref tx, .int tyd, .ref li, .int ldd, .int (nI (qPoss s x y).1), .int siz, .int spt, .int wrg, .int tld, .ref nmb])), (nw, .inl (gI G, 72, .inl σ))]) (by rw [hq]) ?_
                exact hE 90 _ 0 () dX13_possible_90 rfl (by rw [hq])
              · refine V.iconst hC 1 dX13_possible_85 rfl ?_
                refine V.goto hC 90 dX13_possible_86 rfl ?_
                have hq : qPoss s x y = (0, 1) := (qS_y hf).trans ((qI_y ⟨hg1_45.1, Int32.not_lt.mp hg1_45.2⟩).trans (by rw [hyc, (pvc_1 (by omega) c_82 : pvc (sSh s k) (sTn s k) n 97 = 1)]; rfl))
                refine V.eqw (ws' := [(m, .inr (13, [.ref nw, .ref bf, .ref sv, .ref hy, .int iS, .int rmb, .int eA, .int fA, .ref tx, .int tyd, .ref li, .int ldd, .int (nI (qPoss s x y).1), .int siz, .int spt, .int wrg, .int tld, .ref nmb])), (nw, .inl (gI G, 72, .inl σ))]) (by rw [hq]) ?_
                exact hE 90 _ 1 () dX13_possible_90 rfl (by rw [hq])
            · refine V.bipush hC 97 dX13_possible_63 rfl ?_
              have hq : qPoss s x y = (0, 97) := (qS_y hf).trans ((qI_y ⟨hg1_45.1, Int32.not_lt.mp hg1_45.2⟩).trans (by rw [hyc, (pvc_lt (by omega) : pvc (sSh s k) (sTn s k) n 97 = 97)]; rfl))
              refine V.eqw (ws' := [(m, .inr (13, [.ref nw, .ref bf, .ref sv, .ref hy, .int iS, .int rmb, .int eA, .int fA, .ref tx, .int tyd, .ref li, .int ldd, .int (nI (qPoss s x y).1), .int siz, .int spt, .int wrg, .int tld, .ref nmb])), (nw, .inl (gI G, 72, .inl σ))]) (by rw [hq]) ?_
              exact hE 65 _ 97 () dX13_possible_65 rfl (by rw [hq])
          · exact absurd c_48 (by decide)
        · have ha_45 : alw 1 (if ¬ y < 0 ∧ ¬ nI (hc (sSh s k) 8) < y then 1 else 0) 1 1 = 2 := by rw [if_neg hg1_45]; rfl
          refine V.topeq (nI 0) (by rw [ha_45]; rfl) ?_
          refine V.eqw (ws' := [(m, .inr (13, [.ref nw, .ref bf, .ref sv, .ref hy, .int iS, .int rmb, .int eA, .int fA, .ref tx, .int tyd, .ref li, .int ldd, .int (nI 2), .int siz, .int spt, .int wrg, .int tld, .ref nmb])), (nw, .inl (gI G, 72, .inl σ))]) (by rw [ha_45]) ?_
          refine V.ifN_ne hC 0 53 dX13_possible_48 rfl rfl (by omega) (fun c_48 => ?_) (fun c_48 => ?_)
          · exact absurd c_48 (by decide)
          · refine V.iconst hC 0 dX13_possible_51 rfl ?_
            have hq : qPoss s x y = (2, 0) := (qS_y hf).trans (qI_n (fun z => hg1_45 ⟨z.1, Int32.not_lt.mpr z.2⟩))
            refine V.eqw (ws' := [(m, .inr (13, [.ref nw, .ref bf, .ref sv, .ref hy, .int iS, .int rmb, .int eA, .int fA, .ref tx, .int tyd, .ref li, .int ldd, .int (nI (qPoss s x y).1), .int siz, .int spt, .int wrg, .int tld, .ref nmb])), (nw, .inl (gI G, 72, .inl σ))]) (by rw [hq]) ?_
            exact hE 52 _ 0 () dX13_possible_52 rfl (by rw [hq])
    · exact absurd c_8 (nI_m1 (by omega))

set_option maxHeartbeats 4000000 in
set_option maxRecDepth 100000 in
theorem m_rebuild (l : Launch) (G : Gx) (m nw bf sv hy tx li nmb : Nat) (iS rmb eA fA tyd ldd thr siz spt wrg tld : Int32) (σ : Nat → Int32) (s : ASt) (B : Nat) (hR : Rel σ s) (hI : InvA B s) (hB : B < 2 ^ 30) (x : Int32) : Ct l G SF0 yX13_rebuild wsX13_rebuild ({ frames := 6, cells := 0, slots := 0, locals := 131 }) [.ref m, .int x] [(m, .inr (13, [.ref nw, .ref bf, .ref sv, .ref hy, .int iS, .int rmb, .int eA, .int fA, .ref tx, .int tyd, .ref li, .int ldd, .int thr, .int siz, .int spt, .int wrg, .int tld, .ref nmb])), (nw, .inl (gI G, 72, .inl σ))] mkI (fun (r : Int32) (_ : Unit) => r = (qReb s x).2) (fun _ : Unit => [(m, .inr (13, [.ref nw, .ref bf, .ref sv, .ref hy, .int iS, .int rmb, .int eA, .int fA, .ref tx, .int tyd, .ref li, .int ldd, .int (nI (qReb s x).1), .int siz, .int spt, .int wrg, .int tld, .ref nmb])), (nw, .inl (gI G, 72, .inl σ))]) 0 0 := by
  have hb8 := hI.1
  have hs6 := hI.2.1
  refine Ct.ofI (cc := cX13_rebuild) (maxL := 2) (by decide) rfl ⟨by simp [Value.category], Nat.le_of_ble_eq_true rfl⟩ ?_
  intro K hl hC hSF hnm hE
  subst hl
  show V G K 2 0 0 0 [some (.ref m), some (.int x)] [] [(m, .inr (13, [.ref nw, .ref bf, .ref sv, .ref hy, .int iS, .int rmb, .int eA, .int fA, .ref tx, .int tyd, .ref li, .int ldd, .int thr, .int siz, .int spt, .int wrg, .int tld, .ref nmb])), (nw, .inl (gI G, 72, .inl σ))]
  refine V.aload_n hC (x := m) dX13_rebuild_0 rfl ?_
  refine V.iload_n hC (x := x) dX13_rebuild_1 rfl ?_
  refine V.callV (n := 1) (As := [.int x]) (rest := []) hC (m_rebuilt (kl K) G m nw bf sv hy tx li nmb iS rmb eA fA tyd ldd thr siz spt wrg tld σ s B hR hI hB x) SFk0 SFgo0 gX13_rebuild_X13_rebuilt rfl ⟨rfl, rfl⟩ (by decide +kernel) ⟨by decide, by decide, by decide, by decide⟩ [0, 1] rfl (by decide) (fun _ => rfl) rfl rfl rfl rfl (Nat.le_of_ble_eq_true rfl) dX13_rebuild_2 (fun r_2 u_2 hp_2 => ?_)
  subst hp_2
  show V G K 2 0 0 5 [some (.ref m), some (.int x)] [.int ((qReb s x).2)] [(m, .inr (13, [.ref nw, .ref bf, .ref sv, .ref hy, .int iS, .int rmb, .int eA, .int fA, .ref tx, .int tyd, .ref li, .int ldd, .int (nI (qReb s x).1), .int siz, .int spt, .int wrg, .int tld, .ref nmb])), (nw, .inl (gI G, 72, .inl σ))]
  exact hE 5 _ ((qReb s x).2) () dX13_rebuild_5 rfl rfl

set_option maxHeartbeats 4000000 in
set_option maxRecDepth 100000 in
theorem m_rebuildE (l : Launch) (G : Gx) (m nw bf sv hy tx li nmb : Nat) (iS rmb eA fA tyd ldd thr siz spt wrg tld : Int32) (σ : Nat → Int32) (s : ASt) (B : Nat) (hR : Rel σ s) (hI : InvA B s) (hB : B < 2 ^ 30) (x : Int32) : Ct l G SF0 yX13_rebuildByElimination wsX13_rebuildByElimination ({ frames := 6, cells := 0, slots := 0, locals := 131 }) [.ref m, .int x] [(m, .inr (13, [.ref nw, .ref bf, .ref sv, .ref hy, .int iS, .int rmb, .int eA, .int fA, .ref tx, .int tyd, .ref li, .int ldd, .int thr, .int siz, .int spt, .int wrg, .int tld, .ref nmb])), (nw, .inl (gI G, 72, .inl σ))] mkI (fun (r : Int32) (_ : Unit) => r = (qReb s x).2) (fun _ : Unit => [(m, .inr (13, [.ref nw, .ref bf, .ref sv, .ref hy, .int iS, .int rmb, .int eA, .int fA, .ref tx, .int tyd, .ref li, .int ldd, .int (nI (qReb s x).1), .int siz, .int spt, .int wrg, .int tld, .ref nmb])), (nw, .inl (gI G, 72, .inl σ))]) 0 0 := by
  have hb8 := hI.1
  have hs6 := hI.2.1
  refine Ct.ofI (cc := cX13_rebuildByElimination) (maxL := 2) (by decide) rfl ⟨by simp [Value.category], Nat.le_of_ble_eq_true rfl⟩ ?_
  intro K hl hC hSF hnm hE
  subst hl
  show V G K 2 0 0 0 [some (.ref m), some (.int x)] [] [(m, .inr (13, [.ref nw, .ref bf, .ref sv, .ref hy, .int iS, .int rmb, .int eA, .int fA, .ref tx, .int tyd, .ref li, .int ldd, .int thr, .int siz, .int spt, .int wrg, .int tld, .ref nmb])), (nw, .inl (gI G, 72, .inl σ))]
  refine V.aload_n hC (x := m) dX13_rebuildByElimination_0 rfl ?_
  refine V.iload_n hC (x := x) dX13_rebuildByElimination_1 rfl ?_
  refine V.callV (n := 1) (As := [.int x]) (rest := []) hC (m_rebuilt (kl K) G m nw bf sv hy tx li nmb iS rmb eA fA tyd ldd thr siz spt wrg tld σ s B hR hI hB x) SFk0 SFgo0 gX13_rebuildByElimination_X13_rebuilt rfl ⟨rfl, rfl⟩ (by decide +kernel) ⟨by decide, by decide, by decide, by decide⟩ [0, 1] rfl (by decide) (fun _ => rfl) rfl rfl rfl rfl (Nat.le_of_ble_eq_true rfl) dX13_rebuildByElimination_2 (fun r_2 u_2 hp_2 => ?_)
  subst hp_2
  show V G K 2 0 0 5 [some (.ref m), some (.int x)] [.int ((qReb s x).2)] [(m, .inr (13, [.ref nw, .ref bf, .ref sv, .ref hy, .int iS, .int rmb, .int eA, .int fA, .ref tx, .int tyd, .ref li, .int ldd, .int (nI (qReb s x).1), .int siz, .int spt, .int wrg, .int tld, .ref nmb])), (nw, .inl (gI G, 72, .inl σ))]
  exact hE 5 _ ((qReb s x).2) () dX13_rebuildByElimination_5 rfl rfl

set_option maxHeartbeats 4000000 in
set_option maxRecDepth 100000 in
theorem m_possibleV (l : Launch) (G : Gx) (m nw bf sv hy tx li nmb : Nat) (iS rmb eA fA tyd ldd thr siz spt wrg tld : Int32) (σ : Nat → Int32) (s : ASt) (B : Nat) (hR : Rel σ s) (hI : InvA B s) (hB : B < 2 ^ 30) (x y : Int32) : Ct l G SF0 yX13_possibleValues wsX13_possibleValues ({ frames := 6, cells := 0, slots := 0, locals := 133 }) [.ref m, .int x, .int y] [(m, .inr (13, [.ref nw, .ref bf, .ref sv, .ref hy, .int iS, .int rmb, .int eA, .int fA, .ref tx, .int tyd, .ref li, .int ldd, .int thr, .int siz, .int spt, .int wrg, .int tld, .ref nmb])), (nw, .inl (gI G, 72, .inl σ))] mkI (fun (r : Int32) (_ : Unit) => r = (qPoss s x y).2) (fun _ : Unit => [(m, .inr (13, [.ref nw, .ref bf, .ref sv, .ref hy, .int iS, .int rmb, .int eA, .int fA, .ref tx, .int tyd, .ref li, .int ldd, .int (nI (qPoss s x y).1), .int siz, .int spt, .int wrg, .int tld, .ref nmb])), (nw, .inl (gI G, 72, .inl σ))]) 0 0 := by
  have hb8 := hI.1
  have hs6 := hI.2.1
  refine Ct.ofI (cc := cX13_possibleValues) (maxL := 3) (by decide) rfl ⟨by simp [Value.category], Nat.le_of_ble_eq_true rfl⟩ ?_
  intro K hl hC hSF hnm hE
  subst hl
  show V G K 3 0 0 0 [some (.ref m), some (.int x), some (.int y)] [] [(m, .inr (13, [.ref nw, .ref bf, .ref sv, .ref hy, .int iS, .int rmb, .int eA, .int fA, .ref tx, .int tyd, .ref li, .int ldd, .int thr, .int siz, .int spt, .int wrg, .int tld, .ref nmb])), (nw, .inl (gI G, 72, .inl σ))]
  refine V.aload_n hC (x := m) dX13_possibleValues_0 rfl ?_
  refine V.iload_n hC (x := x) dX13_possibleValues_1 rfl ?_
  refine V.iload_n hC (x := y) dX13_possibleValues_2 rfl ?_
  refine V.callV (n := 2) (As := [.int x, .int y]) (rest := []) hC (m_possible (kl K) G m nw bf sv hy tx li nmb iS rmb eA fA tyd ldd thr siz spt wrg tld σ s B hR hI hB x y) SFk0 SFgo0 gX13_possibleValues_X13_possible rfl ⟨rfl, rfl⟩ (by decide +kernel) ⟨by decide, by decide, by decide, by decide⟩ [0, 1] rfl (by decide) (fun _ => rfl) rfl rfl rfl rfl (Nat.le_of_ble_eq_true rfl) dX13_possibleValues_3 (fun r_3 u_3 hp_3 => ?_)
  subst hp_3
  show V G K 3 0 0 6 [some (.ref m), some (.int x), some (.int y)] [.int ((qPoss s x y).2)] [(m, .inr (13, [.ref nw, .ref bf, .ref sv, .ref hy, .int iS, .int rmb, .int eA, .int fA, .ref tx, .int tyd, .ref li, .int ldd, .int (nI (qPoss s x y).1), .int siz, .int spt, .int wrg, .int tld, .ref nmb])), (nw, .inl (gI G, 72, .inl σ))]
  exact hE 6 _ ((qPoss s x y).2) () dX13_possibleValues_6 rfl rfl

set_option maxHeartbeats 4000000 in
set_option maxRecDepth 100000 in
theorem m_possibleT (l : Launch) (G : Gx) (m nw bf sv hy tx li nmb : Nat) (iS rmb eA fA tyd ldd thr siz spt wrg tld : Int32) (σ : Nat → Int32) (s : ASt) (B : Nat) (hR : Rel σ s) (hI : InvA B s) (hB : B < 2 ^ 30) (x y : Int32) : Ct l G SF0 yX13_possibleValuesByTrying wsX13_possibleValuesByTrying ({ frames := 6, cells := 0, slots := 0, locals := 133 }) [.ref m, .int x, .int y] [(m, .inr (13, [.ref nw, .ref bf, .ref sv, .ref hy, .int iS, .int rmb, .int eA, .int fA, .ref tx, .int tyd, .ref li, .int ldd, .int thr, .int siz, .int spt, .int wrg, .int tld, .ref nmb])), (nw, .inl (gI G, 72, .inl σ))] mkI (fun (r : Int32) (_ : Unit) => r = (qPoss s x y).2) (fun _ : Unit => [(m, .inr (13, [.ref nw, .ref bf, .ref sv, .ref hy, .int iS, .int rmb, .int eA, .int fA, .ref tx, .int tyd, .ref li, .int ldd, .int (nI (qPoss s x y).1), .int siz, .int spt, .int wrg, .int tld, .ref nmb])), (nw, .inl (gI G, 72, .inl σ))]) 0 0 := by
  have hb8 := hI.1
  have hs6 := hI.2.1
  refine Ct.ofI (cc := cX13_possibleValuesByTrying) (maxL := 3) (by decide) rfl ⟨by simp [Value.category], Nat.le_of_ble_eq_true rfl⟩ ?_
  intro K hl hC hSF hnm hE
  subst hl
  show V G K 3 0 0 0 [some (.ref m), some (.int x), some (.int y)] [] [(m, .inr (13, [.ref nw, .ref bf, .ref sv, .ref hy, .int iS, .int rmb, .int eA, .int fA, .ref tx, .int tyd, .ref li, .int ldd, .int thr, .int siz, .int spt, .int wrg, .int tld, .ref nmb])), (nw, .inl (gI G, 72, .inl σ))]
  refine V.aload_n hC (x := m) dX13_possibleValuesByTrying_0 rfl ?_
  refine V.iload_n hC (x := x) dX13_possibleValuesByTrying_1 rfl ?_
  refine V.iload_n hC (x := y) dX13_possibleValuesByTrying_2 rfl ?_
  refine V.callV (n := 2) (As := [.int x, .int y]) (rest := []) hC (m_possible (kl K) G m nw bf sv hy tx li nmb iS rmb eA fA tyd ldd thr siz spt wrg tld σ s B hR hI hB x y) SFk0 SFgo0 gX13_possibleValuesByTrying_X13_possible rfl ⟨rfl, rfl⟩ (by decide +kernel) ⟨by decide, by decide, by decide, by decide⟩ [0, 1] rfl (by decide) (fun _ => rfl) rfl rfl rfl rfl (Nat.le_of_ble_eq_true rfl) dX13_possibleValuesByTrying_3 (fun r_3 u_3 hp_3 => ?_)
  subst hp_3
  show V G K 3 0 0 6 [some (.ref m), some (.int x), some (.int y)] [.int ((qPoss s x y).2)] [(m, .inr (13, [.ref nw, .ref bf, .ref sv, .ref hy, .int iS, .int rmb, .int eA, .int fA, .ref tx, .int tyd, .ref li, .int ldd, .int (nI (qPoss s x y).1), .int siz, .int spt, .int wrg, .int tld, .ref nmb])), (nw, .inl (gI G, 72, .inl σ))]
  exact hE 6 _ ((qPoss s x y).2) () dX13_possibleValuesByTrying_6 rfl rfl
