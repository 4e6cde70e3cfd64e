/-! the document's model: loses (printed by gen/s73.py) -/
theorem rel_lo {σ : Nat → Int32} {s : ASt} (hR : Rel σ s) (hl : ∃ m, sLo s = lN m) : Rel (upd σ 3 (σ 3 + 1)) (sHm s, sNb s, sNs s, sLa s, sLo s + 1, sNu s, sTn s, sSh s) := by
  obtain ⟨r0, r1, r2, r3, r4, r5⟩ := hR
  obtain ⟨m, hm⟩ := hl
  refine ⟨(pk_un (by decide)).trans r0, (pk_un (by decide)).trans r1, (pk_un (by decide)).trans r2, pk_us.trans ?_, fun c hc => (pk_un (by omega)).trans (r4 c hc), fun j hj => ⟨(pk_un (by omega)).trans (r5 j hj).1, (pk_un (by omega)).trans (r5 j hj).2.1, fun c hc => (pk_un (by omega)).trans ((r5 j hj).2.2 c hc)⟩⟩
  show σ 3 + 1 = (sLo s + 1).toInt32
  rw [r3, hm, lN_1, lN_i, lN_i, nI_1]
set_option maxHeartbeats 4000000 in
set_option maxRecDepth 100000 in
theorem m_loses (l : Launch) (G : Gx) (m nw bf sv hy tx li nmb : Nat) (iS rmb eA fA tyd ldd thr siz spt wrg tld : Int32) (σ : Nat → Int32) (s : ASt) (B : Nat) (hR : Rel σ s) (hI : InvA B s) (hB : B < 2 ^ 30) (hB1 : B + 1 < 2 ^ 30) (x y : Int32) : Ct l G SF0 yX13_loses wsX13_loses ({ frames := 4, cells := 0, slots := 0, locals := 88 }) [.ref m, .int x, .int y] [(m, .inr (13, [.ref nw, .ref bf, .ref sv, .ref hy, .int iS, .int rmb, .int eA, .int fA, .ref tx, .int tyd, .ref li, .int ldd, .int thr, .int siz, .int spt, .int wrg, .int tld, .ref nmb])), (nw, .inl (gI G, 72, .inl σ))] mkI (fun (r : Int32) (u : Nat → Int32) => (pwX 3 s x y 0 = 0 ∧ Rel u (cX 3 s x y 0) ∧ r = rX 3 s x y 0) ∨ (¬ pwX 3 s x y 0 = 0 ∧ u = σ ∧ r = 0)) (fun u : Nat → Int32 => [(m, .inr (13, [.ref nw, .ref bf, .ref sv, .ref hy, .int iS, .int rmb, .int eA, .int fA, .ref tx, .int tyd, .ref li, .int ldd, .int (nI (cd 3 (pwX 3 s x y 0))), .int siz, .int spt, .int wrg, .int tld, .ref nmb])), (nw, .inl (gI G, 72, .inl u))]) 0 0 := by
  have hb8 := hI.1
  have hs6 := hI.2.1
  refine Ct.ofI (cc := cX13_loses) (maxL := 4) (by decide) rfl ⟨by simp [Value.category], Nat.le_of_ble_eq_true rfl⟩ ?_
  intro K hl hC hSF hnm hE
  subst hl
  have q0_ : ∀ w ∈ u_ws RX13 TX13 18, w ∈ wsX13_loses := by decide +kernel
  have q1_ : Cond.fieldLink RX13 9 "FeatherSharesModel" "now" "[I" ∈ wsX13_loses := by decide +kernel
  show V G K 4 0 0 0 [some (.ref m), some (.int x), some (.int y), none] [] [(m, .inr (13, [.ref nw, .ref bf, .ref sv, .ref hy, .int iS, .int rmb, .int eA, .int fA, .ref tx, .int tyd, .ref li, .int ldd, .int thr, .int siz, .int spt, .int wrg, .int tld, .ref nmb])), (nw, .inl (gI G, 72, .inl σ))]
  refine V.aload_n hC (x := m) dX13_loses_0 rfl ?_
  refine V.iload_n hC (x := y) dX13_loses_1 rfl ?_
  refine V.callVr (n := 1) (As := [.int y]) (rest := []) hC (m_find (kl K) G m nw bf sv hy tx li nmb iS rmb eA fA tyd ldd thr siz spt wrg tld σ s B hR hI hB y) SFk0 SFgo0 gX13_loses_X13_find rfl ⟨rfl, rfl⟩ (by decide +kernel) ⟨by decide, by decide, by decide, by decide⟩ [0, 1] rfl (by decide) rfl rfl rfl rfl (Nat.le_of_ble_eq_true rfl) dX13_loses_2 (fun r_2 u_2 hp_2 => ?_)
  rcases hf : fd (sNu s) y (sNs s) with _ | k
  · rw [hf] at hp_2
    subst hp_2
    show V G K 4 0 0 5 [some (.ref m), some (.int x), some (.int y), none] [.int (-1)] [(m, .inr (13, [.ref nw, .ref bf, .ref sv, .ref hy, .int iS, .int rmb, .int eA, .int fA, .ref tx, .int tyd, .ref li, .int ldd, .int thr, .int siz, .int spt, .int wrg, .int tld, .ref nmb])), (nw, .inl (gI G, 72, .inl σ))]
    refine V.istore_n hC dX13_loses_5 [some (.ref m), some (.int x), some (.int y), some (.int (-1))] (Nat.le_of_ble_eq_true rfl) rfl ?_
    refine V.aload_n hC (x := m) dX13_loses_6 rfl ?_
    refine V.aload_n hC (x := m) dX13_loses_7 rfl ?_
    refine V.iload_n hC (x := x) dX13_loses_8 rfl ?_
    refine V.callVr (n := 1) (As := [.int x]) (rest := [.ref m]) hC (m_isBird (kl K) G m nw bf sv hy tx li nmb iS rmb eA fA tyd ldd thr siz spt wrg tld σ s B hR hI hB x) SFk0 SFgo0 gX13_loses_X13_isBird rfl ⟨rfl, rfl⟩ (by decide +kernel) ⟨by decide, by decide, by decide, by decide⟩ [0, 1] rfl (by decide) rfl rfl rfl rfl (Nat.le_of_ble_eq_true rfl) dX13_loses_9 (fun r_9 u_9 hp_9 => ?_)
    subst hp_9
    show V G K 4 0 0 12 [some (.ref m), some (.int x), some (.int y), some (.int (-1))] [.int (if ¬ x < 0 ∧ x < nI (sNb s) then 1 else 0), .ref m] [(m, .inr (13, [.ref nw, .ref bf, .ref sv, .ref hy, .int iS, .int rmb, .int eA, .int fA, .ref tx, .int tyd, .ref li, .int ldd, .int thr, .int siz, .int spt, .int wrg, .int tld, .ref nmb])), (nw, .inl (gI G, 72, .inl σ))]
    refine V.iload_n hC (x := -1) dX13_loses_12 rfl ?_
    refine V.iconst hC (-1) dX13_loses_13 rfl ?_
    refine V.icmp_eq hC 21 dX13_loses_14 rfl (fun c_14 => ?_) (fun c_14 => ?_)
    · refine V.iconst hC 0 dX13_loses_21 rfl ?_
      refine V.aload_n hC (x := m) dX13_loses_22 rfl ?_
      refine V.iload_n hC (x := x) dX13_loses_23 rfl ?_
      refine V.iload_n hC (x := -1) dX13_loses_24 rfl ?_
      refine V.callVr (n := 2) (As := [.int x, .int (-1)]) (rest := [.int 0, .int (if ¬ x < 0 ∧ x < nI (sNb s) then 1 else 0), .ref m]) hC (m_shareOfN (kl K) G m nw bf sv hy tx li nmb iS rmb eA fA tyd ldd thr siz spt wrg tld σ s B hR hI hB x) SFk0 SFgo0 gX13_loses_X13_shareOf rfl ⟨rfl, rfl⟩ (by decide +kernel) ⟨by decide, by decide, by decide, by decide⟩ [0, 1] rfl (by decide) rfl rfl rfl rfl (Nat.le_of_ble_eq_true rfl) dX13_loses_25 (fun r_25 u_25 hp_25 => ?_)
      subst hp_25
      show V G K 4 0 0 28 [some (.ref m), some (.int x), some (.int y), some (.int (-1))] [.int (-1), .int 0, .int (if ¬ x < 0 ∧ x < nI (sNb s) then 1 else 0), .ref m] [(m, .inr (13, [.ref nw, .ref bf, .ref sv, .ref hy, .int iS, .int rmb, .int eA, .int fA, .ref tx, .int tyd, .ref li, .int ldd, .int thr, .int siz, .int spt, .int wrg, .int tld, .ref nmb])), (nw, .inl (gI G, 72, .inl σ))]
      refine V.iconst hC (-1) dX13_loses_28 rfl ?_
      refine V.icmp_eq hC 36 dX13_loses_29 rfl (fun c_29 => ?_) (fun c_29 => ?_)
      · refine V.iconst hC 0 dX13_loses_36 rfl ?_
        refine V.iconst hC 1 dX13_loses_37 rfl ?_
        refine V.callV (n := 4) (As := [.int (if ¬ x < 0 ∧ x < nI (sNb s) then 1 else 0), .int 0, .int 0, .int 1]) (rest := []) hC (m_allows (kl K) G m nw bf sv hy tx li nmb iS rmb eA fA tyd ldd thr siz spt wrg tld (if ¬ x < 0 ∧ x < nI (sNb s) then 1 else 0) 0 0 1) SFk0 SFgo0 gX13_loses_X13_allows rfl ⟨rfl, rfl⟩ (by decide +kernel) ⟨by decide, by decide, by decide, by decide⟩ [0] rfl (by decide) (fun _ => rfl) rfl rfl rfl rfl (Nat.le_of_ble_eq_true rfl) dX13_loses_38 (fun r_38 u_38 hp_38 => ?_)
        subst hp_38
        show V G K 4 0 0 41 [some (.ref m), some (.int x), some (.int y), some (.int (-1))] [.int (if alw (if ¬ x < 0 ∧ x < nI (sNb s) then 1 else 0) 0 0 1 = 0 then 1 else 0)] [(m, .inr (13, [.ref nw, .ref bf, .ref sv, .ref hy, .int iS, .int rmb, .int eA, .int fA, .ref tx, .int tyd, .ref li, .int ldd, .int (nI (alw (if ¬ x < 0 ∧ x < nI (sNb s) then 1 else 0) 0 0 1)), .int siz, .int spt, .int wrg, .int tld, .ref nmb])), (nw, .inl (gI G, 72, .inl σ))]
        by_cases hg0_38 : ¬ x < 0 ∧ x < nI (sNb s)
        · have ha_38 : alw (if ¬ x < 0 ∧ x < nI (sNb s) then 1 else 0) 0 0 1 = 2 := by rw [if_pos hg0_38]; rfl
          refine V.topeq (nI 0) (by rw [ha_38]; rfl) ?_
          refine V.eqw (ws' := [(m, .inr (13, [.ref nw, .ref bf, .ref sv, .ref hy, .int iS, .int rmb, .int eA, .int fA, .ref tx, .int tyd, .ref li, .int ldd, .int (nI 2), .int siz, .int spt, .int wrg, .int tld, .ref nmb])), (nw, .inl (gI G, 72, .inl σ))]) (by rw [ha_38]) ?_
          refine V.ifN_ne hC 0 46 dX13_loses_41 rfl rfl (by omega) (fun c_41 => ?_) (fun c_41 => ?_)
          · exact absurd c_41 (by decide)
          · refine V.iconst hC 0 dX13_loses_44 rfl ?_
            have hpw : pwX 3 s x y 0 = 3 := pwX_ns (Or.inl rfl) hg0_38 hf
            refine V.eqw (ws' := [(m, .inr (13, [.ref nw, .ref bf, .ref sv, .ref hy, .int iS, .int rmb, .int eA, .int fA, .ref tx, .int tyd, .ref li, .int ldd, .int (nI (cd 3 (pwX 3 s x y 0))), .int siz, .int spt, .int wrg, .int tld, .ref nmb])), (nw, .inl (gI G, 72, .inl σ))]) (by rw [hpw]; rfl) ?_
            exact hE 45 _ 0 σ dX13_loses_45 rfl (Or.inr ⟨by rw [hpw]; decide, rfl, rfl⟩)
        · have ha_38 : alw (if ¬ x < 0 ∧ x < nI (sNb s) then 1 else 0) 0 0 1 = 1 := by rw [if_neg hg0_38]; rfl
          refine V.topeq (nI 0) (by rw [ha_38]; rfl) ?_
          refine V.eqw (ws' := [(m, .inr (13, [.ref nw, .ref bf, .ref sv, .ref hy, .int iS, .int rmb, .int eA, .int fA, .ref tx, .int tyd, .ref li, .int ldd, .int (nI 1), .int siz, .int spt, .int wrg, .int tld, .ref nmb])), (nw, .inl (gI G, 72, .inl σ))]) (by rw [ha_38]) ?_
          refine V.ifN_ne hC 0 46 dX13_loses_41 rfl rfl (by omega) (fun c_41 => ?_) (fun c_41 => ?_)
          · exact absurd c_41 (by decide)
          · refine V.iconst hC 0 dX13_loses_44 rfl ?_
            have hpw : pwX 3 s x y 0 = 2 := pwX_nb (Or.inl rfl) hg0_38
            refine V.eqw (ws' := [(m, .inr (13, [.ref nw, .ref bf, .ref sv, .ref hy, .int iS, .int rmb, .int eA, .int fA, .ref tx, .int tyd, .ref li, .int ldd, .int (nI (cd 3 (pwX 3 s x y 0))), .int siz, .int spt, .int wrg, .int tld, .ref nmb])), (nw, .inl (gI G, 72, .inl σ))]) (by rw [hpw]; rfl) ?_
            exact hE 45 _ 0 σ dX13_loses_45 rfl (Or.inr ⟨by rw [hpw]; decide, rfl, rfl⟩)
      · exact absurd rfl c_29
    · exact absurd rfl c_14
  · rw [hf] at hp_2
    subst hp_2
    have hkn := (fd_lt hf hs6).1
    have hk6 := (fd_lt hf hs6).2
    have ik := hI.2.2.1 k hkn
    show V G K 4 0 0 5 [some (.ref m), some (.int x), some (.int y), none] [.int (nI k)] [(m, .inr (13, [.ref nw, .ref bf, .ref sv, .ref hy, .int iS, .int rmb, .int eA, .int fA, .ref tx, .int tyd, .ref li, .int ldd, .int thr, .int siz, .int spt, .int wrg, .int tld, .ref nmb])), (nw, .inl (gI G, 72, .inl σ))]
    refine V.istore_n hC dX13_loses_5 [some (.ref m), some (.int x), some (.int y), some (.int (nI k))] (Nat.le_of_ble_eq_true rfl) rfl ?_
    refine V.aload_n hC (x := m) dX13_loses_6 rfl ?_
    refine V.aload_n hC (x := m) dX13_loses_7 rfl ?_
    refine V.iload_n hC (x := x) dX13_loses_8 rfl ?_
    refine V.callVr (n := 1) (As := [.int x]) (rest := [.ref m]) hC (m_isBird (kl K) G m nw bf sv hy tx li nmb iS rmb eA fA tyd ldd thr siz spt wrg tld σ s B hR hI hB x) SFk0 SFgo0 gX13_loses_X13_isBird rfl ⟨rfl, rfl⟩ (by decide +kernel) ⟨by decide, by decide, by decide, by decide⟩ [0, 1] rfl (by decide) rfl rfl rfl rfl (Nat.le_of_ble_eq_true rfl) dX13_loses_9 (fun r_9 u_9 hp_9 => ?_)
    subst hp_9
    show V G K 4 0 0 12 [some (.ref m), some (.int x), some (.int y), some (.int (nI k))] [.int (if ¬ x < 0 ∧ x < nI (sNb s) then 1 else 0), .ref m] [(m, .inr (13, [.ref nw, .ref bf, .ref sv, .ref hy, .int iS, .int rmb, .int eA, .int fA, .ref tx, .int tyd, .ref li, .int ldd, .int thr, .int siz, .int spt, .int wrg, .int tld, .ref nmb])), (nw, .inl (gI G, 72, .inl σ))]
    refine V.iload_n hC (x := nI k) dX13_loses_12 rfl ?_
    refine V.iconst hC (-1) dX13_loses_13 rfl ?_
    refine V.icmp_eq hC 21 dX13_loses_14 rfl (fun c_14 => ?_) (fun c_14 => ?_)
    · exact absurd c_14 (nI_m1 (by omega))
    · refine V.iconst hC 1 dX13_loses_17 rfl ?_
      refine V.goto hC 22 dX13_loses_18 rfl ?_
      refine V.aload_n hC (x := m) dX13_loses_22 rfl ?_
      refine V.iload_n hC (x := x) dX13_loses_23 rfl ?_
      refine V.iload_n hC (x := nI k) dX13_loses_24 rfl ?_
      refine V.callVr (n := 2) (As := [.int x, .int (nI k)]) (rest := [.int 1, .int (if ¬ x < 0 ∧ x < nI (sNb s) then 1 else 0), .ref m]) hC (m_shareOf (kl K) G m nw bf sv hy tx li nmb iS rmb eA fA tyd ldd thr siz spt wrg tld σ s B hR hI hB x k hkn) SFk0 SFgo0 gX13_loses_X13_shareOf rfl ⟨rfl, rfl⟩ (by decide +kernel) ⟨by decide, by decide, by decide, by decide⟩ [0, 1] rfl (by decide) rfl rfl rfl rfl (Nat.le_of_ble_eq_true rfl) dX13_loses_25 (fun r_25 u_25 hp_25 => ?_)
      subst hp_25
      show V G K 4 0 0 28 [some (.ref m), some (.int x), some (.int y), some (.int (nI k))] [.int (if ¬ x < 0 ∧ x < nI (sNb s) then sSh s k x.toNatClampNeg else -1), .int 1, .int (if ¬ x < 0 ∧ x < nI (sNb s) then 1 else 0), .ref m] [(m, .inr (13, [.ref nw, .ref bf, .ref sv, .ref hy, .int iS, .int rmb, .int eA, .int fA, .ref tx, .int tyd, .ref li, .int ldd, .int thr, .int siz, .int spt, .int wrg, .int tld, .ref nmb])), (nw, .inl (gI G, 72, .inl σ))]
      refine V.iconst hC (-1) dX13_loses_28 rfl ?_
      refine V.icmp_eq hC 36 dX13_loses_29 rfl (fun c_29 => ?_) (fun c_29 => ?_)
      · refine V.iconst hC 0 dX13_loses_36 rfl ?_
        refine V.iconst hC 1 dX13_loses_37 rfl ?_
        refine V.callV (n := 4) (As := [.int (if ¬ x < 0 ∧ x < nI (sNb s) then 1 else 0), .int 1, .int 0, .int 1]) (rest := []) hC (m_allows (kl K) G m nw bf sv hy tx li nmb iS rmb eA fA tyd ldd thr siz spt wrg tld (if ¬ x < 0 ∧ x < nI (sNb s) then 1 else 0) 1 0 1) SFk0 SFgo0 gX13_loses_X13_allows rfl ⟨rfl, rfl⟩ (by decide +kernel) ⟨by decide, by decide, by decide, by decide⟩ [0] rfl (by decide) (fun _ => rfl) rfl rfl rfl rfl (Nat.le_of_ble_eq_true rfl) dX13_loses_38 (fun r_38 u_38 hp_38 => ?_)
        subst hp_38
        show V G K 4 0 0 41 [some (.ref m), some (.int x), some (.int y), some (.int (nI k))] [.int (if alw (if ¬ x < 0 ∧ x < nI (sNb s) then 1 else 0) 1 0 1 = 0 then 1 else 0)] [(m, .inr (13, [.ref nw, .ref bf, .ref sv, .ref hy, .int iS, .int rmb, .int eA, .int fA, .ref tx, .int tyd, .ref li, .int ldd, .int (nI (alw (if ¬ x < 0 ∧ x < nI (sNb s) then 1 else 0) 1 0 1)), .int siz, .int spt, .int wrg, .int tld, .ref nmb])), (nw, .inl (gI G, 72, .inl σ))]
        by_cases hg0_38 : ¬ x < 0 ∧ x < nI (sNb s)
        · have ha_38 : alw (if ¬ x < 0 ∧ x < nI (sNb s) then 1 else 0) 1 0 1 = 3 := by rw [if_pos hg0_38]; rfl
          refine V.topeq (nI 0) (by rw [ha_38]; rfl) ?_
          refine V.eqw (ws' := [(m, .inr (13, [.ref nw, .ref bf, .ref sv, .ref hy, .int iS, .int rmb, .int eA, .int fA, .ref tx, .int tyd, .ref li, .int ldd, .int (nI 3), .int siz, .int spt, .int wrg, .int tld, .ref nmb])), (nw, .inl (gI G, 72, .inl σ))]) (by rw [ha_38]) ?_
          refine V.ifN_ne hC 0 46 dX13_loses_41 rfl rfl (by omega) (fun c_41 => ?_) (fun c_41 => ?_)
          · exact absurd c_41 (by decide)
          · refine V.iconst hC 0 dX13_loses_44 rfl ?_
            have hpw : pwX 3 s x y 0 = 4 := (pwX_k (Or.inl rfl) hg0_38 hf).trans (by rw [pwK, if_neg (fun q => absurd q.1 (by decide)), if_pos (Or.inr ⟨by decide, (by rw [if_pos hg0_38] at c_29; exact c_29)⟩)])
            refine V.eqw (ws' := [(m, .inr (13, [.ref nw, .ref bf, .ref sv, .ref hy, .int iS, .int rmb, .int eA, .int fA, .ref tx, .int tyd, .ref li, .int ldd, .int (nI (cd 3 (pwX 3 s x y 0))), .int siz, .int spt, .int wrg, .int tld, .ref nmb])), (nw, .inl (gI G, 72, .inl σ))]) (by rw [hpw]; rfl) ?_
            exact hE 45 _ 0 σ dX13_loses_45 rfl (Or.inr ⟨by rw [hpw]; decide, rfl, rfl⟩)
        · have ha_38 : alw (if ¬ x < 0 ∧ x < nI (sNb s) then 1 else 0) 1 0 1 = 1 := by rw [if_neg hg0_38]; rfl
          refine V.topeq (nI 0) (by rw [ha_38]; rfl) ?_
          refine V.eqw (ws' := [(m, .inr (13, [.ref nw, .ref bf, .ref sv, .ref hy, .int iS, .int rmb, .int eA, .int fA, .ref tx, .int tyd, .ref li, .int ldd, .int (nI 1), .int siz, .int spt, .int wrg, .int tld, .ref nmb])), (nw, .inl (gI G, 72, .inl σ))]) (by rw [ha_38]) ?_
          refine V.ifN_ne hC 0 46 dX13_loses_41 rfl rfl (by omega) (fun c_41 => ?_) (fun c_41 => ?_)
          · exact absurd c_41 (by decide)
          · refine V.iconst hC 0 dX13_loses_44 rfl ?_
            have hpw : pwX 3 s x y 0 = 2 := pwX_nb (Or.inl rfl) hg0_38
            refine V.eqw (ws' := [(m, .inr (13, [.ref nw, .ref bf, .ref sv, .ref hy, .int iS, .int rmb, .int eA, .int fA, .ref tx, .int tyd, .ref li, .int ldd, .int (nI (cd 3 (pwX 3 s x y 0))), .int siz, .int spt, .int wrg, .int tld, .ref nmb])), (nw, .inl (gI G, 72, .inl σ))]) (by rw [hpw]; rfl) ?_
            exact hE 45 _ 0 σ dX13_loses_45 rfl (Or.inr ⟨by rw [hpw]; decide, rfl, rfl⟩)
      · refine V.iconst hC 1 dX13_loses_32 rfl ?_
        refine V.goto hC 37 dX13_loses_33 rfl ?_
        refine V.iconst hC 1 dX13_loses_37 rfl ?_
        refine V.callV (n := 4) (As := [.int (if ¬ x < 0 ∧ x < nI (sNb s) then 1 else 0), .int 1, .int 1, .int 1]) (rest := []) hC (m_allows (kl K) G m nw bf sv hy tx li nmb iS rmb eA fA tyd ldd thr siz spt wrg tld (if ¬ x < 0 ∧ x < nI (sNb s) then 1 else 0) 1 1 1) SFk0 SFgo0 gX13_loses_X13_allows rfl ⟨rfl, rfl⟩ (by decide +kernel) ⟨by decide, by decide, by decide, by decide⟩ [0] rfl (by decide) (fun _ => rfl) rfl rfl rfl rfl (Nat.le_of_ble_eq_true rfl) dX13_loses_38 (fun r_38 u_38 hp_38 => ?_)
        subst hp_38
        show V G K 4 0 0 41 [some (.ref m), some (.int x), some (.int y), some (.int (nI k))] [.int (if alw (if ¬ x < 0 ∧ x < nI (sNb s) then 1 else 0) 1 1 1 = 0 then 1 else 0)] [(m, .inr (13, [.ref nw, .ref bf, .ref sv, .ref hy, .int iS, .int rmb, .int eA, .int fA, .ref tx, .int tyd, .ref li, .int ldd, .int (nI (alw (if ¬ x < 0 ∧ x < nI (sNb s) then 1 else 0) 1 1 1)), .int siz, .int spt, .int wrg, .int tld, .ref nmb])), (nw, .inl (gI G, 72, .inl σ))]
        by_cases hg0_38 : ¬ x < 0 ∧ x < nI (sNb s)
        · have ha_38 : alw (if ¬ x < 0 ∧ x < nI (sNb s) then 1 else 0) 1 1 1 = 0 := by rw [if_pos hg0_38]; rfl
          refine V.topeq (nI 1) (by rw [ha_38]; rfl) ?_
          refine V.eqw (ws' := [(m, .inr (13, [.ref nw, .ref bf, .ref sv, .ref hy, .int iS, .int rmb, .int eA, .int fA, .ref tx, .int tyd, .ref li, .int ldd, .int (nI 0), .int siz, .int spt, .int wrg, .int tld, .ref nmb])), (nw, .inl (gI G, 72, .inl σ))]) (by rw [ha_38]) ?_
          refine V.ifN_ne hC 1 46 dX13_loses_41 rfl rfl (by omega) (fun c_41 => ?_) (fun c_41 => ?_)
          · obtain ⟨b, hb, hxb⟩ := i32_nat (by omega) hg0_38
            have hcb : x.toNatClampNeg = b := by rw [hxb, nI_clamp (by omega)]
            refine V.aload_n hC (x := m) dX13_loses_46 rfl ?_
            refine V.getf hC (T := TX13) q0_ 0 q1_ rfl (0) rfl rfl (by decide) (.ref nw) rfl dX13_loses_47 ?_
            refine V.bipush hC 12 dX13_loses_50 rfl ?_
            refine V.bipush hC 10 dX13_loses_52 rfl ?_
            refine V.iload_n hC (x := nI k) dX13_loses_54 rfl ?_
            refine V.imulN hC 10 k dX13_loses_55 rfl rfl ?_
            refine V.iaddN hC 12 (10 * k) dX13_loses_56 rfl rfl ?_
            refine V.iconst hC 2 dX13_loses_57 rfl ?_
            refine V.iaddN hC (12 + (10 * k)) 2 dX13_loses_58 rfl rfl ?_
            refine V.iload_n hC (x := x) dX13_loses_59 rfl ?_
            refine V.topeq (nI b) hxb ?_
            refine V.iaddN hC ((12 + (10 * k)) + 2) b dX13_loses_60 rfl rfl ?_
            refine V.iconst hC (-1) dX13_loses_61 rfl ?_
            refine V.iast hC dX13_loses_62 (1) rfl (((12 + (10 * k)) + 2) + b) rfl (by omega) (by decide) [(m, .inr (13, [.ref nw, .ref bf, .ref sv, .ref hy, .int iS, .int rmb, .int eA, .int fA, .ref tx, .int tyd, .ref li, .int ldd, .int (nI 0), .int siz, .int spt, .int wrg, .int tld, .ref nmb])), (nw, .inl (gI G, 72, .inl (upd σ (((12 + (10 * k)) + 2) + b) (-1))))] rfl ?_
            refine V.aload_n hC (x := m) dX13_loses_63 rfl ?_
            refine V.getf hC (T := TX13) q0_ 0 q1_ rfl (0) rfl rfl (by decide) (.ref nw) rfl dX13_loses_64 ?_
            refine V.iconst hC 3 dX13_loses_67 rfl ?_
            refine V.dup2 hC dX13_loses_68 rfl rfl ?_
            refine V.iald hC dX13_loses_69 (1) rfl 3 rfl (by omega) (by decide) ?_
            refine V.iconst hC 1 dX13_loses_70 rfl ?_
            refine V.iadd hC dX13_loses_71 ?_
            refine V.iast hC dX13_loses_72 (1) rfl 3 rfl (by omega) (by decide) [(m, .inr (13, [.ref nw, .ref bf, .ref sv, .ref hy, .int iS, .int rmb, .int eA, .int fA, .ref tx, .int tyd, .ref li, .int ldd, .int (nI 0), .int siz, .int spt, .int wrg, .int tld, .ref nmb])), (nw, .inl (gI G, 72, .inl (upd (upd σ (((12 + (10 * k)) + 2) + b) (-1)) 3 (((upd σ (((12 + (10 * k)) + 2) + b) (-1)) 3) + 1))))] rfl ?_
            have hpw : pwX 3 s x y 0 = 0 := (pwX_k (Or.inl rfl) hg0_38 hf).trans (by rw [pwK, if_neg (fun q => absurd q.1 (by decide)), if_neg (fun q => Or.elim q (fun w => absurd w.1 (by decide)) (fun w => absurd w.2 (by rw [if_pos hg0_38] at c_29; exact c_29))), if_neg (fun q => absurd q.1 (by decide))])
            have hRel : Rel (upd (upd σ (12 + 10 * k + 2 + b) (-1)) 3 ((upd σ (12 + 10 * k + 2 + b) (-1)) 3 + 1)) (cX 3 s x y 0) := (by simp only [cX, hf, hcb]; exact rel_lo (rel_sh hR hb8 (by omega) hkn (-1)) (Exists.elim hI.2.2.2.2.2 (fun m2 h => ⟨m2, h.2⟩)))
            have hIv := InvA.step hI (by decide) hpw
            have hkc : k < sNs (cX 3 s x y 0) := by simp only [cX, hf]; exact hkn
            have hse : sSh (cX 3 s x y 0) k = upd (sSh s k) b (-1) := by simp only [cX, hf, hcb]; exact va_up_self _ _ _
            have hcl := hc_le (sSh (cX 3 s x y 0) k) 8
            refine V.aload_n hC (x := m) dX13_loses_73 rfl ?_
            refine V.iload_n hC (x := nI k) dX13_loses_74 rfl ?_
            refine V.callVr (n := 1) (As := [.int (nI k)]) (rest := []) hC (m_holdersOf (kl K) G m nw bf sv hy tx li nmb iS rmb eA fA tyd ldd (nI 0) siz spt wrg tld (upd (upd σ (12 + 10 * k + 2 + b) (-1)) 3 ((upd σ (12 + 10 * k + 2 + b) (-1)) 3 + 1)) (cX 3 s x y 0) (B + 1) hRel hIv hB1 k hkc) SFk0 SFgo0 gX13_loses_X13_holdersOf rfl ⟨rfl, rfl⟩ (by decide +kernel) ⟨by decide, by decide, by decide, by decide⟩ [0, 1] rfl (by decide) rfl rfl rfl rfl (Nat.le_of_ble_eq_true rfl) dX13_loses_75 (fun r_75 u_75 hp_75 => ?_)
            subst hp_75
            show V G K 4 0 0 78 [some (.ref m), some (.int x), some (.int y), some (.int (nI k))] [.int (nI (fh (sSh (cX 3 s x y 0) k) 8 8))] [(m, .inr (13, [.ref nw, .ref bf, .ref sv, .ref hy, .int iS, .int rmb, .int eA, .int fA, .ref tx, .int tyd, .ref li, .int ldd, .int (nI 0), .int siz, .int spt, .int wrg, .int tld, .ref nmb])), (nw, .inl (gI G, 72, .inl (upd (upd σ (((12 + (10 * k)) + 2) + b) (-1)) 3 (((upd σ (((12 + (10 * k)) + 2) + b) (-1)) 3) + 1))))]
            refine V.callSr (n := 1) (As := [.int (nI (fh (sSh (cX 3 s x y 0) k) 8 8))]) (rest := []) hC (c_bitCount (kl K) G (fh (sSh (cX 3 s x y 0) k) 8 8) (fh_256 _ _ _ (by decide))) SFk0 SFgo0 gX13_loses_J6_bitCount_0f7a4 rfl ⟨rfl, rfl⟩ (by decide +kernel) ⟨by decide, by decide, by decide, by decide⟩ [] rfl (by decide) rfl rfl (Nat.le_of_ble_eq_true rfl) dX13_loses_78 (fun r_78 u_78 hp_78 => ?_)
            rw [pop_fh8] at hp_78
            subst hp_78
            show V G K 4 0 0 81 [some (.ref m), some (.int x), some (.int y), some (.int (nI k))] [.int (nI (hc (sSh (cX 3 s x y 0) k) 8))] [(m, .inr (13, [.ref nw, .ref bf, .ref sv, .ref hy, .int iS, .int rmb, .int eA, .int fA, .ref tx, .int tyd, .ref li, .int ldd, .int (nI 0), .int siz, .int spt, .int wrg, .int tld, .ref nmb])), (nw, .inl (gI G, 72, .inl (upd (upd σ (((12 + (10 * k)) + 2) + b) (-1)) 3 (((upd σ (((12 + (10 * k)) + 2) + b) (-1)) 3) + 1))))]
            have hpw : pwX 3 s x y 0 = 0 := (pwX_k (Or.inl rfl) hg0_38 hf).trans (by rw [pwK, if_neg (fun q => absurd q.1 (by decide)), if_neg (fun q => Or.elim q (fun w => absurd w.1 (by decide)) (fun w => absurd w.2 (by rw [if_pos hg0_38] at c_29; exact c_29))), if_neg (fun q => absurd q.1 (by decide))])
            refine V.eqw (ws' := [(m, .inr (13, [.ref nw, .ref bf, .ref sv, .ref hy, .int iS, .int rmb, .int eA, .int fA, .ref tx, .int tyd, .ref li, .int ldd, .int (nI (cd 3 (pwX 3 s x y 0))), .int siz, .int spt, .int wrg, .int tld, .ref nmb])), (nw, .inl (gI G, 72, .inl (upd (upd σ (((12 + (10 * k)) + 2) + b) (-1)) 3 (((upd σ (((12 + (10 * k)) + 2) + b) (-1)) 3) + 1))))]) (by rw [hpw]; rfl) ?_
            exact hE 81 _ (nI (hc (sSh (cX 3 s x y 0) k) 8)) (upd (upd σ (12 + 10 * k + 2 + b) (-1)) 3 ((upd σ (12 + 10 * k + 2 + b) (-1)) 3 + 1)) dX13_loses_81 rfl (Or.inl ⟨hpw, hRel, (by rw [hse]; simp only [rX, hf, hcb])⟩)
          · exact absurd c_41 (by decide)
        · have ha_38 : alw (if ¬ x < 0 ∧ x < nI (sNb s) then 1 else 0) 1 1 1 = 1 := by rw [if_neg hg0_38]; rfl
          refine V.topeq (nI 0) (by rw [ha_38]; rfl) ?_
          refine V.eqw (ws' := [(m, .inr (13, [.ref nw, .ref bf, .ref sv, .ref hy, .int iS, .int rmb, .int eA, .int fA, .ref tx, .int tyd, .ref li, .int ldd, .int (nI 1), .int siz, .int spt, .int wrg, .int tld, .ref nmb])), (nw, .inl (gI G, 72, .inl σ))]) (by rw [ha_38]) ?_
          refine V.ifN_ne hC 0 46 dX13_loses_41 rfl rfl (by omega) (fun c_41 => ?_) (fun c_41 => ?_)
          · exact absurd c_41 (by decide)
          · refine V.iconst hC 0 dX13_loses_44 rfl ?_
            have hpw : pwX 3 s x y 0 = 2 := pwX_nb (Or.inl rfl) hg0_38
            refine V.eqw (ws' := [(m, .inr (13, [.ref nw, .ref bf, .ref sv, .ref hy, .int iS, .int rmb, .int eA, .int fA, .ref tx, .int tyd, .ref li, .int ldd, .int (nI (cd 3 (pwX 3 s x y 0))), .int siz, .int spt, .int wrg, .int tld, .ref nmb])), (nw, .inl (gI G, 72, .inl σ))]) (by rw [hpw]; rfl) ?_
            exact hE 45 _ 0 σ dX13_loses_45 rfl (Or.inr ⟨by rw [hpw]; decide, rfl, rfl⟩)
