/-! the document's model: changes of a share (printed by gen/s72.py) -/
/-- one share said anew -/
theorem rel_sh {σ : Nat → Int32} {s : ASt} (hR : Rel σ s) (h8 : sNb s ≤ 8) {b k : Nat} (hb : b < 8) (hk : k < sNs s) (v : Int32) : Rel (upd σ (12 + 10 * k + 2 + b) v) (sHm s, sNb s, sNs s, sLa s, sLo s, sNu s, sTn s, va_up (sSh s) k (upd (sSh s k) b v)) := by
  obtain ⟨r0, r1, r2, r3, r4, r5⟩ := hR
  refine ⟨(pk_un (by omega)).trans r0, (pk_un (by omega)).trans r1, (pk_un (by omega)).trans r2, (pk_un (by omega)).trans r3, fun c hc => (pk_un (by have hc' : c < sNb s := hc; omega)).trans (r4 c hc), fun j hj => ⟨(pk_un (by omega)).trans (r5 j hj).1, (pk_un (by omega)).trans (r5 j hj).2.1, fun c hc => ?_⟩⟩
  show _ = va_up (sSh s) k (upd (sSh s k) b v) j c
  by_cases e : j = k
  · subst e
    rw [va_up_self]
    by_cases e2 : c = b
    · subst e2
      rw [show 14 + 10 * j + c = 12 + 10 * j + 2 + c by omega]
      exact pk_us.trans pk_us.symm
    · exact (pk_un (by omega)).trans (((r5 j hj).2.2 c hc).trans (pk_un e2).symm)
  · rw [va_up_ne _ _ e]
    exact (pk_un (by omega)).trans ((r5 j hj).2.2 c hc)
theorem spz (z : Int32) : (¬ z < 1 ∧ ¬ 96 < z) ↔ ¬ (z = 0 ∨ ¬ isR z) := by
  rw [show isR z ↔ ¬ z < 0 ∧ z < 97 from Iff.rfl, ← Int32.toInt_inj, Int32.lt_iff_toInt_lt, Int32.lt_iff_toInt_lt, Int32.lt_iff_toInt_lt, Int32.lt_iff_toInt_lt, show (96 : Int32).toInt = 96 by decide, show (97 : Int32).toInt = 97 by decide, show (1 : Int32).toInt = 1 by decide, show (0 : Int32).toInt = 0 by decide]
  omega
theorem pwX_k {i : Nat} {s : ASt} {x y z : Int32} (hi : i = 3 ∨ i = 4 ∨ i = 5) {k : Nat} (hx : ¬ x < 0 ∧ x < nI (sNb s)) (hf : fd (sNu s) y (sNs s) = some k) : pwX i s x y z = pwK i (sSh s k) (sTn s k) x.toNatClampNeg z := by
  rw [pwX_share hi, if_pos hx, hf]
theorem pwX_nb {i : Nat} {s : ASt} {x y z : Int32} (hi : i = 3 ∨ i = 4 ∨ i = 5) (hx : ¬ (¬ x < 0 ∧ x < nI (sNb s))) : pwX i s x y z = 2 := by rw [pwX_share hi, if_neg hx]
theorem pwX_ns {i : Nat} {s : ASt} {x y z : Int32} (hi : i = 3 ∨ i = 4 ∨ i = 5) (hx : ¬ x < 0 ∧ x < nI (sNb s)) (hf : fd (sNu s) y (sNs s) = none) : pwX i s x y z = 3 := by rw [pwX_share hi, if_pos hx, hf]
set_option maxHeartbeats 4000000 in
set_option maxRecDepth 100000 in
theorem m_issues (l : Launch) (G : Gx) (m nw bf sv hy tx li nmb : Nat) (iS rmb eA fA tyd ldd thr siz spt wrg tld : Int32) (σ : Nat → Int32) (s : ASt) (B : Nat) (hR : Rel σ s) (hI : InvA B s) (hB : B < 2 ^ 30) (x y : Int32) : Ct l G SF0 yX13_issues wsX13_issues ({ frames := 5, cells := 0, slots := 0, locals := 109 }) [.ref m, .int x, .int y] [(m, .inr (13, [.ref nw, .ref bf, .ref sv, .ref hy, .int iS, .int rmb, .int eA, .int fA, .ref tx, .int tyd, .ref li, .int ldd, .int thr, .int siz, .int spt, .int wrg, .int tld, .ref nmb])), (nw, .inl (gI G, 72, .inl σ))] mkI (fun (r : Int32) (u : Nat → Int32) => (pwX 5 s x y 0 = 0 ∧ Rel u (cX 5 s x y 0) ∧ r = rX 5 s x y 0) ∨ (¬ pwX 5 s x y 0 = 0 ∧ u = σ ∧ r = 0)) (fun u : Nat → Int32 => [(m, .inr (13, [.ref nw, .ref bf, .ref sv, .ref hy, .int iS, .int rmb, .int eA, .int fA, .ref tx, .int tyd, .ref li, .int ldd, .int (nI (cd 5 (pwX 5 s x y 0))), .int siz, .int spt, .int wrg, .int tld, .ref nmb])), (nw, .inl (gI G, 72, .inl u))]) 0 0 := by
  have hb8 := hI.1
  have hs6 := hI.2.1
  refine Ct.ofI (cc := cX13_issues) (maxL := 5) (by decide) rfl ⟨by simp [Value.category], Nat.le_of_ble_eq_true rfl⟩ ?_
  intro K hl hC hSF hnm hE
  subst hl
  have q0_ : ∀ w ∈ u_ws RX13 TX13 18, w ∈ wsX13_issues := by decide +kernel
  have q1_ : Cond.fieldLink RX13 9 "FeatherSharesModel" "now" "[I" ∈ wsX13_issues := by decide +kernel
  show V G K 5 0 0 0 [some (.ref m), some (.int x), some (.int y), none, none] [] [(m, .inr (13, [.ref nw, .ref bf, .ref sv, .ref hy, .int iS, .int rmb, .int eA, .int fA, .ref tx, .int tyd, .ref li, .int ldd, .int thr, .int siz, .int spt, .int wrg, .int tld, .ref nmb])), (nw, .inl (gI G, 72, .inl σ))]
  refine V.aload_n hC (x := m) dX13_issues_0 rfl ?_
  refine V.iload_n hC (x := y) dX13_issues_1 rfl ?_
  refine V.callVr (n := 1) (As := [.int y]) (rest := []) hC (m_find (kl K) G m nw bf sv hy tx li nmb iS rmb eA fA tyd ldd thr siz spt wrg tld σ s B hR hI hB y) SFk0 SFgo0 gX13_issues_X13_find rfl ⟨rfl, rfl⟩ (by decide +kernel) ⟨by decide, by decide, by decide, by decide⟩ [0, 1] rfl (by decide) rfl rfl rfl rfl (Nat.le_of_ble_eq_true rfl) dX13_issues_2 (fun r_2 u_2 hp_2 => ?_)
  rcases hf : fd (sNu s) y (sNs s) with _ | k
  · rw [hf] at hp_2
    subst hp_2
    show V G K 5 0 0 5 [some (.ref m), some (.int x), some (.int y), none, none] [.int (-1)] [(m, .inr (13, [.ref nw, .ref bf, .ref sv, .ref hy, .int iS, .int rmb, .int eA, .int fA, .ref tx, .int tyd, .ref li, .int ldd, .int thr, .int siz, .int spt, .int wrg, .int tld, .ref nmb])), (nw, .inl (gI G, 72, .inl σ))]
    refine V.istore_n hC dX13_issues_5 [some (.ref m), some (.int x), some (.int y), some (.int (-1)), none] (Nat.le_of_ble_eq_true rfl) rfl ?_
    refine V.aload_n hC (x := m) dX13_issues_6 rfl ?_
    refine V.aload_n hC (x := m) dX13_issues_7 rfl ?_
    refine V.iload_n hC (x := x) dX13_issues_8 rfl ?_
    refine V.callVr (n := 1) (As := [.int x]) (rest := [.ref m]) hC (m_isBird (kl K) G m nw bf sv hy tx li nmb iS rmb eA fA tyd ldd thr siz spt wrg tld σ s B hR hI hB x) SFk0 SFgo0 gX13_issues_X13_isBird rfl ⟨rfl, rfl⟩ (by decide +kernel) ⟨by decide, by decide, by decide, by decide⟩ [0, 1] rfl (by decide) rfl rfl rfl rfl (Nat.le_of_ble_eq_true rfl) dX13_issues_9 (fun r_9 u_9 hp_9 => ?_)
    subst hp_9
    show V G K 5 0 0 12 [some (.ref m), some (.int x), some (.int y), some (.int (-1)), none] [.int (if ¬ x < 0 ∧ x < nI (sNb s) then 1 else 0), .ref m] [(m, .inr (13, [.ref nw, .ref bf, .ref sv, .ref hy, .int iS, .int rmb, .int eA, .int fA, .ref tx, .int tyd, .ref li, .int ldd, .int thr, .int siz, .int spt, .int wrg, .int tld, .ref nmb])), (nw, .inl (gI G, 72, .inl σ))]
    refine V.iload_n hC (x := -1) dX13_issues_12 rfl ?_
    refine V.iconst hC (-1) dX13_issues_13 rfl ?_
    refine V.icmp_eq hC 21 dX13_issues_14 rfl (fun c_14 => ?_) (fun c_14 => ?_)
    · refine V.iconst hC 0 dX13_issues_21 rfl ?_
      refine V.aload_n hC (x := m) dX13_issues_22 rfl ?_
      refine V.iload_n hC (x := x) dX13_issues_23 rfl ?_
      refine V.iload_n hC (x := -1) dX13_issues_24 rfl ?_
      refine V.callVr (n := 2) (As := [.int x, .int (-1)]) (rest := [.int 0, .int (if ¬ x < 0 ∧ x < nI (sNb s) then 1 else 0), .ref m]) hC (m_shareOfN (kl K) G m nw bf sv hy tx li nmb iS rmb eA fA tyd ldd thr siz spt wrg tld σ s B hR hI hB x) SFk0 SFgo0 gX13_issues_X13_shareOf rfl ⟨rfl, rfl⟩ (by decide +kernel) ⟨by decide, by decide, by decide, by decide⟩ [0, 1] rfl (by decide) rfl rfl rfl rfl (Nat.le_of_ble_eq_true rfl) dX13_issues_25 (fun r_25 u_25 hp_25 => ?_)
      subst hp_25
      show V G K 5 0 0 28 [some (.ref m), some (.int x), some (.int y), some (.int (-1)), none] [.int (-1), .int 0, .int (if ¬ x < 0 ∧ x < nI (sNb s) then 1 else 0), .ref m] [(m, .inr (13, [.ref nw, .ref bf, .ref sv, .ref hy, .int iS, .int rmb, .int eA, .int fA, .ref tx, .int tyd, .ref li, .int ldd, .int thr, .int siz, .int spt, .int wrg, .int tld, .ref nmb])), (nw, .inl (gI G, 72, .inl σ))]
      refine V.iconst hC (-1) dX13_issues_28 rfl ?_
      refine V.icmp_ne hC 36 dX13_issues_29 rfl (fun c_29 => ?_) (fun c_29 => ?_)
      · exact absurd rfl c_29
      · refine V.iconst hC 1 dX13_issues_32 rfl ?_
        refine V.goto hC 37 dX13_issues_33 rfl ?_
        refine V.aload_n hC (x := m) dX13_issues_37 rfl ?_
        refine V.iload_n hC (x := -1) dX13_issues_38 rfl ?_
        refine V.callVr (n := 1) (As := [.int (-1)]) (rest := [.int 1, .int 0, .int (if ¬ x < 0 ∧ x < nI (sNb s) then 1 else 0), .ref m]) hC (m_isEnoughN (kl K) G m nw bf sv hy tx li nmb iS rmb eA fA tyd ldd thr siz spt wrg tld σ s B hR hI hB) SFk0 SFgo0 gX13_issues_X13_isEnough rfl ⟨rfl, rfl⟩ (by decide +kernel) ⟨by decide, by decide, by decide, by decide⟩ [0, 1] rfl (by decide) rfl rfl rfl rfl (Nat.le_of_ble_eq_true rfl) dX13_issues_39 (fun r_39 u_39 hp_39 => ?_)
        subst hp_39
        show V G K 5 0 0 42 [some (.ref m), some (.int x), some (.int y), some (.int (-1)), none] [.int (nI 0), .int 1, .int 0, .int (if ¬ x < 0 ∧ x < nI (sNb s) then 1 else 0), .ref m] [(m, .inr (13, [.ref nw, .ref bf, .ref sv, .ref hy, .int iS, .int rmb, .int eA, .int fA, .ref tx, .int tyd, .ref li, .int ldd, .int thr, .int siz, .int spt, .int wrg, .int tld, .ref nmb])), (nw, .inl (gI G, 72, .inl σ))]
        refine V.callV (n := 4) (As := [.int (if ¬ x < 0 ∧ x < nI (sNb s) then 1 else 0), .int 0, .int 1, .int (nI 0)]) (rest := []) hC (m_allows (kl K) G m nw bf sv hy tx li nmb iS rmb eA fA tyd ldd thr siz spt wrg tld (if ¬ x < 0 ∧ x < nI (sNb s) then 1 else 0) 0 1 (nI 0)) SFk0 SFgo0 gX13_issues_X13_allows rfl ⟨rfl, rfl⟩ (by decide +kernel) ⟨by decide, by decide, by decide, by decide⟩ [0] rfl (by decide) (fun _ => rfl) rfl rfl rfl rfl (Nat.le_of_ble_eq_true rfl) dX13_issues_42 (fun r_42 u_42 hp_42 => ?_)
        subst hp_42
        show V G K 5 0 0 45 [some (.ref m), some (.int x), some (.int y), some (.int (-1)), none] [.int (if alw (if ¬ x < 0 ∧ x < nI (sNb s) then 1 else 0) 0 1 (nI 0) = 0 then 1 else 0)] [(m, .inr (13, [.ref nw, .ref bf, .ref sv, .ref hy, .int iS, .int rmb, .int eA, .int fA, .ref tx, .int tyd, .ref li, .int ldd, .int (nI (alw (if ¬ x < 0 ∧ x < nI (sNb s) then 1 else 0) 0 1 (nI 0))), .int siz, .int spt, .int wrg, .int tld, .ref nmb])), (nw, .inl (gI G, 72, .inl σ))]
        by_cases hg0_42 : ¬ x < 0 ∧ x < nI (sNb s)
        · have ha_42 : alw (if ¬ x < 0 ∧ x < nI (sNb s) then 1 else 0) 0 1 (nI 0) = 2 := by rw [if_pos hg0_42]; rfl
          refine V.topeq (nI 0) (by rw [ha_42]; rfl) ?_
          refine V.eqw (ws' := [(m, .inr (13, [.ref nw, .ref bf, .ref sv, .ref hy, .int iS, .int rmb, .int eA, .int fA, .ref tx, .int tyd, .ref li, .int ldd, .int (nI 2), .int siz, .int spt, .int wrg, .int tld, .ref nmb])), (nw, .inl (gI G, 72, .inl σ))]) (by rw [ha_42]) ?_
          refine V.ifN_ne hC 0 50 dX13_issues_45 rfl rfl (by omega) (fun c_45 => ?_) (fun c_45 => ?_)
          · exact absurd c_45 (by decide)
          · refine V.iconst hC 0 dX13_issues_48 rfl ?_
            have hpw : pwX 5 s x y 0 = 3 := pwX_ns (Or.inr (Or.inr rfl)) hg0_42 hf
            refine V.eqw (ws' := [(m, .inr (13, [.ref nw, .ref bf, .ref sv, .ref hy, .int iS, .int rmb, .int eA, .int fA, .ref tx, .int tyd, .ref li, .int ldd, .int (nI (cd 5 (pwX 5 s x y 0))), .int siz, .int spt, .int wrg, .int tld, .ref nmb])), (nw, .inl (gI G, 72, .inl σ))]) (by rw [hpw]; rfl) ?_
            exact hE 49 _ 0 σ dX13_issues_49 rfl (Or.inr ⟨by rw [hpw]; decide, rfl, rfl⟩)
        · have ha_42 : alw (if ¬ x < 0 ∧ x < nI (sNb s) then 1 else 0) 0 1 (nI 0) = 1 := by rw [if_neg hg0_42]; rfl
          refine V.topeq (nI 0) (by rw [ha_42]; rfl) ?_
          refine V.eqw (ws' := [(m, .inr (13, [.ref nw, .ref bf, .ref sv, .ref hy, .int iS, .int rmb, .int eA, .int fA, .ref tx, .int tyd, .ref li, .int ldd, .int (nI 1), .int siz, .int spt, .int wrg, .int tld, .ref nmb])), (nw, .inl (gI G, 72, .inl σ))]) (by rw [ha_42]) ?_
          refine V.ifN_ne hC 0 50 dX13_issues_45 rfl rfl (by omega) (fun c_45 => ?_) (fun c_45 => ?_)
          · exact absurd c_45 (by decide)
          · refine V.iconst hC 0 dX13_issues_48 rfl ?_
            have hpw : pwX 5 s x y 0 = 2 := pwX_nb (Or.inr (Or.inr rfl)) hg0_42
            refine V.eqw (ws' := [(m, .inr (13, [.ref nw, .ref bf, .ref sv, .ref hy, .int iS, .int rmb, .int eA, .int fA, .ref tx, .int tyd, .ref li, .int ldd, .int (nI (cd 5 (pwX 5 s x y 0))), .int siz, .int spt, .int wrg, .int tld, .ref nmb])), (nw, .inl (gI G, 72, .inl σ))]) (by rw [hpw]; rfl) ?_
            exact hE 49 _ 0 σ dX13_issues_49 rfl (Or.inr ⟨by rw [hpw]; decide, rfl, rfl⟩)
    · exact absurd rfl c_14
  · rw [hf] at hp_2
    subst hp_2
    have hkn := (fd_lt hf hs6).1
    have hk6 := (fd_lt hf hs6).2
    have ik := hI.2.2.1 k hkn
    show V G K 5 0 0 5 [some (.ref m), some (.int x), some (.int y), none, none] [.int (nI k)] [(m, .inr (13, [.ref nw, .ref bf, .ref sv, .ref hy, .int iS, .int rmb, .int eA, .int fA, .ref tx, .int tyd, .ref li, .int ldd, .int thr, .int siz, .int spt, .int wrg, .int tld, .ref nmb])), (nw, .inl (gI G, 72, .inl σ))]
    refine V.istore_n hC dX13_issues_5 [some (.ref m), some (.int x), some (.int y), some (.int (nI k)), none] (Nat.le_of_ble_eq_true rfl) rfl ?_
    refine V.aload_n hC (x := m) dX13_issues_6 rfl ?_
    refine V.aload_n hC (x := m) dX13_issues_7 rfl ?_
    refine V.iload_n hC (x := x) dX13_issues_8 rfl ?_
    refine V.callVr (n := 1) (As := [.int x]) (rest := [.ref m]) hC (m_isBird (kl K) G m nw bf sv hy tx li nmb iS rmb eA fA tyd ldd thr siz spt wrg tld σ s B hR hI hB x) SFk0 SFgo0 gX13_issues_X13_isBird rfl ⟨rfl, rfl⟩ (by decide +kernel) ⟨by decide, by decide, by decide, by decide⟩ [0, 1] rfl (by decide) rfl rfl rfl rfl (Nat.le_of_ble_eq_true rfl) dX13_issues_9 (fun r_9 u_9 hp_9 => ?_)
    subst hp_9
    show V G K 5 0 0 12 [some (.ref m), some (.int x), some (.int y), some (.int (nI k)), none] [.int (if ¬ x < 0 ∧ x < nI (sNb s) then 1 else 0), .ref m] [(m, .inr (13, [.ref nw, .ref bf, .ref sv, .ref hy, .int iS, .int rmb, .int eA, .int fA, .ref tx, .int tyd, .ref li, .int ldd, .int thr, .int siz, .int spt, .int wrg, .int tld, .ref nmb])), (nw, .inl (gI G, 72, .inl σ))]
    refine V.iload_n hC (x := nI k) dX13_issues_12 rfl ?_
    refine V.iconst hC (-1) dX13_issues_13 rfl ?_
    refine V.icmp_eq hC 21 dX13_issues_14 rfl (fun c_14 => ?_) (fun c_14 => ?_)
    · exact absurd c_14 (nI_m1 (by omega))
    · refine V.iconst hC 1 dX13_issues_17 rfl ?_
      refine V.goto hC 22 dX13_issues_18 rfl ?_
      refine V.aload_n hC (x := m) dX13_issues_22 rfl ?_
      refine V.iload_n hC (x := x) dX13_issues_23 rfl ?_
      refine V.iload_n hC (x := nI k) dX13_issues_24 rfl ?_
      refine V.callVr (n := 2) (As := [.int x, .int (nI k)]) (rest := [.int 1, .int (if ¬ x < 0 ∧ x < nI (sNb s) then 1 else 0), .ref m]) hC (m_shareOf (kl K) G m nw bf sv hy tx li nmb iS rmb eA fA tyd ldd thr siz spt wrg tld σ s B hR hI hB x k hkn) SFk0 SFgo0 gX13_issues_X13_shareOf rfl ⟨rfl, rfl⟩ (by decide +kernel) ⟨by decide, by decide, by decide, by decide⟩ [0, 1] rfl (by decide) rfl rfl rfl rfl (Nat.le_of_ble_eq_true rfl) dX13_issues_25 (fun r_25 u_25 hp_25 => ?_)
      subst hp_25
      show V G K 5 0 0 28 [some (.ref m), some (.int x), some (.int y), some (.int (nI k)), none] [.int (if ¬ x < 0 ∧ x < nI (sNb s) then sSh s k x.toNatClampNeg else -1), .int 1, .int (if ¬ x < 0 ∧ x < nI (sNb s) then 1 else 0), .ref m] [(m, .inr (13, [.ref nw, .ref bf, .ref sv, .ref hy, .int iS, .int rmb, .int eA, .int fA, .ref tx, .int tyd, .ref li, .int ldd, .int thr, .int siz, .int spt, .int wrg, .int tld, .ref nmb])), (nw, .inl (gI G, 72, .inl σ))]
      refine V.iconst hC (-1) dX13_issues_28 rfl ?_
      refine V.icmp_ne hC 36 dX13_issues_29 rfl (fun c_29 => ?_) (fun c_29 => ?_)
      · refine V.iconst hC 0 dX13_issues_36 rfl ?_
        refine V.aload_n hC (x := m) dX13_issues_37 rfl ?_
        refine V.iload_n hC (x := nI k) dX13_issues_38 rfl ?_
        refine V.callVr (n := 1) (As := [.int (nI k)]) (rest := [.int 0, .int 1, .int (if ¬ x < 0 ∧ x < nI (sNb s) then 1 else 0), .ref m]) hC (m_isEnough (kl K) G m nw bf sv hy tx li nmb iS rmb eA fA tyd ldd thr siz spt wrg tld σ s B hR hI hB k hkn) SFk0 SFgo0 gX13_issues_X13_isEnough rfl ⟨rfl, rfl⟩ (by decide +kernel) ⟨by decide, by decide, by decide, by decide⟩ [0, 1] rfl (by decide) rfl rfl rfl rfl (Nat.le_of_ble_eq_true rfl) dX13_issues_39 (fun r_39 u_39 hp_39 => ?_)
        subst hp_39
        show V G K 5 0 0 42 [some (.ref m), some (.int x), some (.int y), some (.int (nI k)), none] [.int (if sTn s k ≤ hc (sSh s k) 8 then 1 else 0), .int 0, .int 1, .int (if ¬ x < 0 ∧ x < nI (sNb s) then 1 else 0), .ref m] [(m, .inr (13, [.ref nw, .ref bf, .ref sv, .ref hy, .int iS, .int rmb, .int eA, .int fA, .ref tx, .int tyd, .ref li, .int ldd, .int thr, .int siz, .int spt, .int wrg, .int tld, .ref nmb])), (nw, .inl (gI G, 72, .inl σ))]
        refine V.callV (n := 4) (As := [.int (if ¬ x < 0 ∧ x < nI (sNb s) then 1 else 0), .int 1, .int 0, .int (if sTn s k ≤ hc (sSh s k) 8 then 1 else 0)]) (rest := []) hC (m_allows (kl K) G m nw bf sv hy tx li nmb iS rmb eA fA tyd ldd thr siz spt wrg tld (if ¬ x < 0 ∧ x < nI (sNb s) then 1 else 0) 1 0 (if sTn s k ≤ hc (sSh s k) 8 then 1 else 0)) SFk0 SFgo0 gX13_issues_X13_allows rfl ⟨rfl, rfl⟩ (by decide +kernel) ⟨by decide, by decide, by decide, by decide⟩ [0] rfl (by decide) (fun _ => rfl) rfl rfl rfl rfl (Nat.le_of_ble_eq_true rfl) dX13_issues_42 (fun r_42 u_42 hp_42 => ?_)
        subst hp_42
        show V G K 5 0 0 45 [some (.ref m), some (.int x), some (.int y), some (.int (nI k)), none] [.int (if alw (if ¬ x < 0 ∧ x < nI (sNb s) then 1 else 0) 1 0 (if sTn s k ≤ hc (sSh s k) 8 then 1 else 0) = 0 then 1 else 0)] [(m, .inr (13, [.ref nw, .ref bf, .ref sv, .ref hy, .int iS, .int rmb, .int eA, .int fA, .ref tx, .int tyd, .ref li, .int ldd, .int (nI (alw (if ¬ x < 0 ∧ x < nI (sNb s) then 1 else 0) 1 0 (if sTn s k ≤ hc (sSh s k) 8 then 1 else 0))), .int siz, .int spt, .int wrg, .int tld, .ref nmb])), (nw, .inl (gI G, 72, .inl σ))]
        by_cases hg0_42 : ¬ x < 0 ∧ x < nI (sNb s)
        · have ha_42 : alw (if ¬ x < 0 ∧ x < nI (sNb s) then 1 else 0) 1 0 (if sTn s k ≤ hc (sSh s k) 8 then 1 else 0) = 3 := by rw [if_pos hg0_42]; rfl
          refine V.topeq (nI 0) (by rw [ha_42]; rfl) ?_
          refine V.eqw (ws' := [(m, .inr (13, [.ref nw, .ref bf, .ref sv, .ref hy, .int iS, .int rmb, .int eA, .int fA, .ref tx, .int tyd, .ref li, .int ldd, .int (nI 3), .int siz, .int spt, .int wrg, .int tld, .ref nmb])), (nw, .inl (gI G, 72, .inl σ))]) (by rw [ha_42]) ?_
          refine V.ifN_ne hC 0 50 dX13_issues_45 rfl rfl (by omega) (fun c_45 => ?_) (fun c_45 => ?_)
          · exact absurd c_45 (by decide)
          · refine V.iconst hC 0 dX13_issues_48 rfl ?_
            have hpw : pwX 5 s x y 0 = 4 := (pwX_k (Or.inr (Or.inr rfl)) hg0_42 hf).trans (by rw [pwK, if_neg (by decide), if_pos (Or.inl ⟨rfl, (by rw [if_pos hg0_42] at c_29; exact c_29)⟩)])
            refine V.eqw (ws' := [(m, .inr (13, [.ref nw, .ref bf, .ref sv, .ref hy, .int iS, .int rmb, .int eA, .int fA, .ref tx, .int tyd, .ref li, .int ldd, .int (nI (cd 5 (pwX 5 s x y 0))), .int siz, .int spt, .int wrg, .int tld, .ref nmb])), (nw, .inl (gI G, 72, .inl σ))]) (by rw [hpw]; rfl) ?_
            exact hE 49 _ 0 σ dX13_issues_49 rfl (Or.inr ⟨by rw [hpw]; decide, rfl, rfl⟩)
        · have ha_42 : alw (if ¬ x < 0 ∧ x < nI (sNb s) then 1 else 0) 1 0 (if sTn s k ≤ hc (sSh s k) 8 then 1 else 0) = 1 := by rw [if_neg hg0_42]; rfl
          refine V.topeq (nI 0) (by rw [ha_42]; rfl) ?_
          refine V.eqw (ws' := [(m, .inr (13, [.ref nw, .ref bf, .ref sv, .ref hy, .int iS, .int rmb, .int eA, .int fA, .ref tx, .int tyd, .ref li, .int ldd, .int (nI 1), .int siz, .int spt, .int wrg, .int tld, .ref nmb])), (nw, .inl (gI G, 72, .inl σ))]) (by rw [ha_42]) ?_
          refine V.ifN_ne hC 0 50 dX13_issues_45 rfl rfl (by omega) (fun c_45 => ?_) (fun c_45 => ?_)
          · exact absurd c_45 (by decide)
          · refine V.iconst hC 0 dX13_issues_48 rfl ?_
            have hpw : pwX 5 s x y 0 = 2 := pwX_nb (Or.inr (Or.inr rfl)) hg0_42
            refine V.eqw (ws' := [(m, .inr (13, [.ref nw, .ref bf, .ref sv, .ref hy, .int iS, .int rmb, .int eA, .int fA, .ref tx, .int tyd, .ref li, .int ldd, .int (nI (cd 5 (pwX 5 s x y 0))), .int siz, .int spt, .int wrg, .int tld, .ref nmb])), (nw, .inl (gI G, 72, .inl σ))]) (by rw [hpw]; rfl) ?_
            exact hE 49 _ 0 σ dX13_issues_49 rfl (Or.inr ⟨by rw [hpw]; decide, rfl, rfl⟩)
      · refine V.iconst hC 1 dX13_issues_32 rfl ?_
        refine V.goto hC 37 dX13_issues_33 rfl ?_
        refine V.aload_n hC (x := m) dX13_issues_37 rfl ?_
        refine V.iload_n hC (x := nI k) dX13_issues_38 rfl ?_
        refine V.callVr (n := 1) (As := [.int (nI k)]) (rest := [.int 1, .int 1, .int (if ¬ x < 0 ∧ x < nI (sNb s) then 1 else 0), .ref m]) hC (m_isEnough (kl K) G m nw bf sv hy tx li nmb iS rmb eA fA tyd ldd thr siz spt wrg tld σ s B hR hI hB k hkn) SFk0 SFgo0 gX13_issues_X13_isEnough rfl ⟨rfl, rfl⟩ (by decide +kernel) ⟨by decide, by decide, by decide, by decide⟩ [0, 1] rfl (by decide) rfl rfl rfl rfl (Nat.le_of_ble_eq_true rfl) dX13_issues_39 (fun r_39 u_39 hp_39 => ?_)
        subst hp_39
        show V G K 5 0 0 42 [some (.ref m), some (.int x), some (.int y), some (.int (nI k)), none] [.int (if sTn s k ≤ hc (sSh s k) 8 then 1 else 0), .int 1, .int 1, .int (if ¬ x < 0 ∧ x < nI (sNb s) then 1 else 0), .ref m] [(m, .inr (13, [.ref nw, .ref bf, .ref sv, .ref hy, .int iS, .int rmb, .int eA, .int fA, .ref tx, .int tyd, .ref li, .int ldd, .int thr, .int siz, .int spt, .int wrg, .int tld, .ref nmb])), (nw, .inl (gI G, 72, .inl σ))]
        refine V.callV (n := 4) (As := [.int (if ¬ x < 0 ∧ x < nI (sNb s) then 1 else 0), .int 1, .int 1, .int (if sTn s k ≤ hc (sSh s k) 8 then 1 else 0)]) (rest := []) hC (m_allows (kl K) G m nw bf sv hy tx li nmb iS rmb eA fA tyd ldd thr siz spt wrg tld (if ¬ x < 0 ∧ x < nI (sNb s) then 1 else 0) 1 1 (if sTn s k ≤ hc (sSh s k) 8 then 1 else 0)) SFk0 SFgo0 gX13_issues_X13_allows rfl ⟨rfl, rfl⟩ (by decide +kernel) ⟨by decide, by decide, by decide, by decide⟩ [0] rfl (by decide) (fun _ => rfl) rfl rfl rfl rfl (Nat.le_of_ble_eq_true rfl) dX13_issues_42 (fun r_42 u_42 hp_42 => ?_)
        subst hp_42
        show V G K 5 0 0 45 [some (.ref m), some (.int x), some (.int y), some (.int (nI k)), none] [.int (if alw (if ¬ x < 0 ∧ x < nI (sNb s) then 1 else 0) 1 1 (if sTn s k ≤ hc (sSh s k) 8 then 1 else 0) = 0 then 1 else 0)] [(m, .inr (13, [.ref nw, .ref bf, .ref sv, .ref hy, .int iS, .int rmb, .int eA, .int fA, .ref tx, .int tyd, .ref li, .int ldd, .int (nI (alw (if ¬ x < 0 ∧ x < nI (sNb s) then 1 else 0) 1 1 (if sTn s k ≤ hc (sSh s k) 8 then 1 else 0))), .int siz, .int spt, .int wrg, .int tld, .ref nmb])), (nw, .inl (gI G, 72, .inl σ))]
        by_cases hg0_42 : ¬ x < 0 ∧ x < nI (sNb s)
        · by_cases hg3_42 : sTn s k ≤ hc (sSh s k) 8
          · have ha_42 : alw (if ¬ x < 0 ∧ x < nI (sNb s) then 1 else 0) 1 1 (if sTn s k ≤ hc (sSh s k) 8 then 1 else 0) = 0 := by rw [if_pos hg0_42, if_pos hg3_42]; rfl
            refine V.topeq (nI 1) (by rw [ha_42]; rfl) ?_
            refine V.eqw (ws' := [(m, .inr (13, [.ref nw, .ref bf, .ref sv, .ref hy, .int iS, .int rmb, .int eA, .int fA, .ref tx, .int tyd, .ref li, .int ldd, .int (nI 0), .int siz, .int spt, .int wrg, .int tld, .ref nmb])), (nw, .inl (gI G, 72, .inl σ))]) (by rw [ha_42]) ?_
            refine V.ifN_ne hC 1 50 dX13_issues_45 rfl rfl (by omega) (fun c_45 => ?_) (fun c_45 => ?_)
            · obtain ⟨b, hb, hxb⟩ := i32_nat (by omega) hg0_42
              have hcb : x.toNatClampNeg = b := by rw [hxb, nI_clamp (by omega)]
              refine V.aload_n hC (x := m) dX13_issues_50 rfl ?_
              refine V.iload_n hC (x := nI k) dX13_issues_51 rfl ?_
              refine V.aload_n hC (x := m) dX13_issues_52 rfl ?_
              refine V.iload_n hC (x := nI k) dX13_issues_53 rfl ?_
              refine V.callVr (n := 1) (As := [.int (nI k)]) (rest := [.int (nI k), .ref m]) hC (m_leading (kl K) G m nw bf sv hy tx li nmb iS rmb eA fA tyd ldd (nI 0) siz spt wrg tld σ s B hR hI hB k hkn) SFk0 SFgo0 gX13_issues_X13_leading rfl ⟨rfl, rfl⟩ (by decide +kernel) ⟨by decide, by decide, by decide, by decide⟩ [0, 1] rfl (by decide) rfl rfl rfl rfl (Nat.le_of_ble_eq_true rfl) dX13_issues_54 (fun r_54 u_54 hp_54 => ?_)
              subst hp_54
              show V G K 5 0 0 57 [some (.ref m), some (.int x), some (.int y), some (.int (nI k)), none] [.int (nI (fh (sSh s k) (sTn s k) 8)), .int (nI k), .ref m] [(m, .inr (13, [.ref nw, .ref bf, .ref sv, .ref hy, .int iS, .int rmb, .int eA, .int fA, .ref tx, .int tyd, .ref li, .int ldd, .int (nI 0), .int siz, .int spt, .int wrg, .int tld, .ref nmb])), (nw, .inl (gI G, 72, .inl σ))]
              refine V.iload_n hC (x := x) dX13_issues_57 rfl ?_
              refine V.topeq (nI b) hxb ?_
              refine V.iconst hC 1 dX13_issues_58 rfl ?_
              refine V.iaddN hC b 1 dX13_issues_59 rfl rfl ?_
              refine V.callVr (n := 3) (As := [.int (nI k), .int (nI (fh (sSh s k) (sTn s k) 8)), .int (nI (b + 1))]) (rest := []) hC (m_valueAt (kl K) G m nw bf sv hy tx li nmb iS rmb eA fA tyd ldd (nI 0) siz spt wrg tld σ s B hR hI hB k hkn (fh (sSh s k) (sTn s k) 8) (fh_256 _ _ _ (by decide)) (HB.fh ik.2.2.1 _) (b + 1) (by omega)) SFk0 SFgo0 gX13_issues_X13_valueAt rfl ⟨rfl, rfl⟩ (by decide +kernel) ⟨by decide, by decide, by decide, by decide⟩ [0, 1] rfl (by decide) rfl rfl rfl rfl (Nat.le_of_ble_eq_true rfl) dX13_issues_60 (fun r_60 u_60 hp_60 => ?_)
              subst hp_60
              show V G K 5 0 0 63 [some (.ref m), some (.int x), some (.int y), some (.int (nI k)), none] [.int (nI (lagS (fh (sSh s k) (sTn s k) 8) (svn (sSh s k)) (b + 1)))] [(m, .inr (13, [.ref nw, .ref bf, .ref sv, .ref hy, .int iS, .int rmb, .int eA, .int fA, .ref tx, .int tyd, .ref li, .int ldd, .int (nI 0), .int siz, .int spt, .int wrg, .int tld, .ref nmb])), (nw, .inl (gI G, 72, .inl σ))]
              refine V.istore hC dX13_issues_63 [some (.ref m), some (.int x), some (.int y), some (.int (nI k)), some (.int (nI (lagS (fh (sSh s k) (sTn s k) 8) (svn (sSh s k)) (b + 1))))] (Nat.le_of_ble_eq_true rfl) rfl ?_
              refine V.aload_n hC (x := m) dX13_issues_65 rfl ?_
              refine V.getf hC (T := TX13) q0_ 0 q1_ rfl (0) rfl rfl (by decide) (.ref nw) rfl dX13_issues_66 ?_
              refine V.bipush hC 12 dX13_issues_69 rfl ?_
              refine V.bipush hC 10 dX13_issues_71 rfl ?_
              refine V.iload_n hC (x := nI k) dX13_issues_73 rfl ?_
              refine V.imulN hC 10 k dX13_issues_74 rfl rfl ?_
              refine V.iaddN hC 12 (10 * k) dX13_issues_75 rfl rfl ?_
              refine V.iconst hC 2 dX13_issues_76 rfl ?_
              refine V.iaddN hC (12 + (10 * k)) 2 dX13_issues_77 rfl rfl ?_
              refine V.iload_n hC (x := x) dX13_issues_78 rfl ?_
              refine V.topeq (nI b) hxb ?_
              refine V.iaddN hC ((12 + (10 * k)) + 2) b dX13_issues_79 rfl rfl ?_
              refine V.iload hC (x := nI (lagS (fh (sSh s k) (sTn s k) 8) (svn (sSh s k)) (b + 1))) dX13_issues_80 rfl ?_
              refine V.iast hC dX13_issues_82 (1) rfl (((12 + (10 * k)) + 2) + b) rfl (by omega) (by decide) [(m, .inr (13, [.ref nw, .ref bf, .ref sv, .ref hy, .int iS, .int rmb, .int eA, .int fA, .ref tx, .int tyd, .ref li, .int ldd, .int (nI 0), .int siz, .int spt, .int wrg, .int tld, .ref nmb])), (nw, .inl (gI G, 72, .inl (upd σ (((12 + (10 * k)) + 2) + b) (nI (lagS (fh (sSh s k) (sTn s k) 8) (svn (sSh s k)) (b + 1))))))] rfl ?_
              refine V.iload hC (x := nI (lagS (fh (sSh s k) (sTn s k) 8) (svn (sSh s k)) (b + 1))) dX13_issues_83 rfl ?_
              have hpw : pwX 5 s x y 0 = 0 := (pwX_k (Or.inr (Or.inr rfl)) hg0_42 hf).trans (by rw [pwK, if_neg (by decide), if_neg (fun z => Or.elim z (fun q => q.2 (by rw [if_pos hg0_42] at c_29; exact c_29)) (fun q => q.1 rfl)), if_neg (fun z => z.2 hg3_42)])
              refine V.eqw (ws' := [(m, .inr (13, [.ref nw, .ref bf, .ref sv, .ref hy, .int iS, .int rmb, .int eA, .int fA, .ref tx, .int tyd, .ref li, .int ldd, .int (nI (cd 5 (pwX 5 s x y 0))), .int siz, .int spt, .int wrg, .int tld, .ref nmb])), (nw, .inl (gI G, 72, .inl (upd σ (((12 + (10 * k)) + 2) + b) (nI (lagS (fh (sSh s k) (sTn s k) 8) (svn (sSh s k)) (b + 1))))))]) (by rw [hpw]; rfl) ?_
              exact hE 85 _ (nI (lagS (fh (sSh s k) (sTn s k) 8) (svn (sSh s k)) (b + 1))) (upd σ (12 + 10 * k + 2 + b) (nI (lagS (fh (sSh s k) (sTn s k) 8) (svn (sSh s k)) (b + 1)))) dX13_issues_85 rfl (Or.inl ⟨hpw, (by simp only [cX, hf, hcb]; exact rel_sh hR hb8 (by omega) hkn _), (by simp only [rX, hf, hcb])⟩)
            · exact absurd c_45 (by decide)
          · have ha_42 : alw (if ¬ x < 0 ∧ x < nI (sNb s) then 1 else 0) 1 1 (if sTn s k ≤ hc (sSh s k) 8 then 1 else 0) = 4 := by rw [if_pos hg0_42, if_neg hg3_42]; rfl
            refine V.topeq (nI 0) (by rw [ha_42]; rfl) ?_
            refine V.eqw (ws' := [(m, .inr (13, [.ref nw, .ref bf, .ref sv, .ref hy, .int iS, .int rmb, .int eA, .int fA, .ref tx, .int tyd, .ref li, .int ldd, .int (nI 4), .int siz, .int spt, .int wrg, .int tld, .ref nmb])), (nw, .inl (gI G, 72, .inl σ))]) (by rw [ha_42]) ?_
            refine V.ifN_ne hC 0 50 dX13_issues_45 rfl rfl (by omega) (fun c_45 => ?_) (fun c_45 => ?_)
            · exact absurd c_45 (by decide)
            · refine V.iconst hC 0 dX13_issues_48 rfl ?_
              have hpw : pwX 5 s x y 0 = 5 := (pwX_k (Or.inr (Or.inr rfl)) hg0_42 hf).trans (by rw [pwK, if_neg (by decide), if_neg (fun z => Or.elim z (fun q => q.2 (by rw [if_pos hg0_42] at c_29; exact c_29)) (fun q => q.1 rfl)), if_pos ⟨rfl, hg3_42⟩])
              refine V.eqw (ws' := [(m, .inr (13, [.ref nw, .ref bf, .ref sv, .ref hy, .int iS, .int rmb, .int eA, .int fA, .ref tx, .int tyd, .ref li, .int ldd, .int (nI (cd 5 (pwX 5 s x y 0))), .int siz, .int spt, .int wrg, .int tld, .ref nmb])), (nw, .inl (gI G, 72, .inl σ))]) (by rw [hpw]; rfl) ?_
              exact hE 49 _ 0 σ dX13_issues_49 rfl (Or.inr ⟨by rw [hpw]; decide, rfl, rfl⟩)
        · have ha_42 : alw (if ¬ x < 0 ∧ x < nI (sNb s) then 1 else 0) 1 1 (if sTn s k ≤ hc (sSh s k) 8 then 1 else 0) = 1 := by rw [if_neg hg0_42]; rfl
          refine V.topeq (nI 0) (by rw [ha_42]; rfl) ?_
          refine V.eqw (ws' := [(m, .inr (13, [.ref nw, .ref bf, .ref sv, .ref hy, .int iS, .int rmb, .int eA, .int fA, .ref tx, .int tyd, .ref li, .int ldd, .int (nI 1), .int siz, .int spt, .int wrg, .int tld, .ref nmb])), (nw, .inl (gI G, 72, .inl σ))]) (by rw [ha_42]) ?_
          refine V.ifN_ne hC 0 50 dX13_issues_45 rfl rfl (by omega) (fun c_45 => ?_) (fun c_45 => ?_)
          · exact absurd c_45 (by decide)
          · refine V.iconst hC 0 dX13_issues_48 rfl ?_
            have hpw : pwX 5 s x y 0 = 2 := pwX_nb (Or.inr (Or.inr rfl)) hg0_42
            refine V.eqw (ws' := [(m, .inr (13, [.ref nw, .ref bf, .ref sv, .ref hy, .int iS, .int rmb, .int eA, .int fA, .ref tx, .int tyd, .ref li, .int ldd, .int (nI (cd 5 (pwX 5 s x y 0))), .int siz, .int spt, .int wrg, .int tld, .ref nmb])), (nw, .inl (gI G, 72, .inl σ))]) (by rw [hpw]; rfl) ?_
            exact hE 49 _ 0 σ dX13_issues_49 rfl (Or.inr ⟨by rw [hpw]; decide, rfl, rfl⟩)

set_option maxHeartbeats 4000000 in
set_option maxRecDepth 100000 in
theorem m_spoils (l : Launch) (G : Gx) (m nw bf sv hy tx li nmb : Nat) (iS rmb eA fA tyd ldd thr siz spt wrg tld : Int32) (σ : Nat → Int32) (s : ASt) (B : Nat) (hR : Rel σ s) (hI : InvA B s) (hB : B < 2 ^ 30) (x y z : Int32) : Ct l G SF0 yX13_spoils wsX13_spoils ({ frames := 3, cells := 0, slots := 0, locals := 65 }) [.ref m, .int x, .int y, .int z] [(m, .inr (13, [.ref nw, .ref bf, .ref sv, .ref hy, .int iS, .int rmb, .int eA, .int fA, .ref tx, .int tyd, .ref li, .int ldd, .int thr, .int siz, .int spt, .int wrg, .int tld, .ref nmb])), (nw, .inl (gI G, 72, .inl σ))] mkI (fun (r : Int32) (u : Nat → Int32) => (pwX 4 s x y z = 0 ∧ Rel u (cX 4 s x y z) ∧ r = rX 4 s x y z) ∨ (¬ pwX 4 s x y z = 0 ∧ u = σ ∧ r = 0)) (fun u : Nat → Int32 => [(m, .inr (13, [.ref nw, .ref bf, .ref sv, .ref hy, .int iS, .int rmb, .int eA, .int fA, .ref tx, .int tyd, .ref li, .int ldd, .int (nI (cd 4 (pwX 4 s x y z))), .int siz, .int spt, .int wrg, .int tld, .ref nmb])), (nw, .inl (gI G, 72, .inl u))]) 0 0 := by
  have hb8 := hI.1
  have hs6 := hI.2.1
  refine Ct.ofI (cc := cX13_spoils) (maxL := 7) (by decide) rfl ⟨by simp [Value.category], Nat.le_of_ble_eq_true rfl⟩ ?_
  intro K hl hC hSF hnm hE
  subst hl
  have q0_ : ∀ w ∈ u_ws RX13 TX13 18, w ∈ wsX13_spoils := by decide +kernel
  have q1_ : Cond.fieldLink RX13 9 "FeatherSharesModel" "now" "[I" ∈ wsX13_spoils := by decide +kernel
  show V G K 7 0 0 0 [some (.ref m), some (.int x), some (.int y), some (.int z), none, none, none] [] [(m, .inr (13, [.ref nw, .ref bf, .ref sv, .ref hy, .int iS, .int rmb, .int eA, .int fA, .ref tx, .int tyd, .ref li, .int ldd, .int thr, .int siz, .int spt, .int wrg, .int tld, .ref nmb])), (nw, .inl (gI G, 72, .inl σ))]
  refine V.aload_n hC (x := m) dX13_spoils_0 rfl ?_
  refine V.iload_n hC (x := y) dX13_spoils_1 rfl ?_
  refine V.callVr (n := 1) (As := [.int y]) (rest := []) hC (m_find (kl K) G m nw bf sv hy tx li nmb iS rmb eA fA tyd ldd thr siz spt wrg tld σ s B hR hI hB y) SFk0 SFgo0 gX13_spoils_X13_find rfl ⟨rfl, rfl⟩ (by decide +kernel) ⟨by decide, by decide, by decide, by decide⟩ [0, 1] rfl (by decide) rfl rfl rfl rfl (Nat.le_of_ble_eq_true rfl) dX13_spoils_2 (fun r_2 u_2 hp_2 => ?_)
  rcases hf : fd (sNu s) y (sNs s) with _ | k
  · rw [hf] at hp_2
    subst hp_2
    show V G K 7 0 0 5 [some (.ref m), some (.int x), some (.int y), some (.int z), none, none, none] [.int (-1)] [(m, .inr (13, [.ref nw, .ref bf, .ref sv, .ref hy, .int iS, .int rmb, .int eA, .int fA, .ref tx, .int tyd, .ref li, .int ldd, .int thr, .int siz, .int spt, .int wrg, .int tld, .ref nmb])), (nw, .inl (gI G, 72, .inl σ))]
    refine V.istore hC dX13_spoils_5 [some (.ref m), some (.int x), some (.int y), some (.int z), some (.int (-1)), none, none] (Nat.le_of_ble_eq_true rfl) rfl ?_
    refine V.aload_n hC (x := m) dX13_spoils_7 rfl ?_
    refine V.iload_n hC (x := x) dX13_spoils_8 rfl ?_
    refine V.iload hC (x := -1) dX13_spoils_9 rfl ?_
    refine V.callVr (n := 2) (As := [.int x, .int (-1)]) (rest := []) hC (m_shareOfN (kl K) G m nw bf sv hy tx li nmb iS rmb eA fA tyd ldd thr siz spt wrg tld σ s B hR hI hB x) SFk0 SFgo0 gX13_spoils_X13_shareOf rfl ⟨rfl, rfl⟩ (by decide +kernel) ⟨by decide, by decide, by decide, by decide⟩ [0, 1] rfl (by decide) rfl rfl rfl rfl (Nat.le_of_ble_eq_true rfl) dX13_spoils_11 (fun r_11 u_11 hp_11 => ?_)
    subst hp_11
    show V G K 7 0 0 14 [some (.ref m), some (.int x), some (.int y), some (.int z), some (.int (-1)), none, none] [.int (-1)] [(m, .inr (13, [.ref nw, .ref bf, .ref sv, .ref hy, .int iS, .int rmb, .int eA, .int fA, .ref tx, .int tyd, .ref li, .int ldd, .int thr, .int siz, .int spt, .int wrg, .int tld, .ref nmb])), (nw, .inl (gI G, 72, .inl σ))]
    refine V.istore hC dX13_spoils_14 [some (.ref m), some (.int x), some (.int y), some (.int z), some (.int (-1)), some (.int (-1)), none] (Nat.le_of_ble_eq_true rfl) rfl ?_
    refine V.aload_n hC (x := m) dX13_spoils_16 rfl ?_
    refine V.aload_n hC (x := m) dX13_spoils_17 rfl ?_
    refine V.iload_n hC (x := x) dX13_spoils_18 rfl ?_
    refine V.callVr (n := 1) (As := [.int x]) (rest := [.ref m]) hC (m_isBird (kl K) G m nw bf sv hy tx li nmb iS rmb eA fA tyd ldd thr siz spt wrg tld σ s B hR hI hB x) SFk0 SFgo0 gX13_spoils_X13_isBird rfl ⟨rfl, rfl⟩ (by decide +kernel) ⟨by decide, by decide, by decide, by decide⟩ [0, 1] rfl (by decide) rfl rfl rfl rfl (Nat.le_of_ble_eq_true rfl) dX13_spoils_19 (fun r_19 u_19 hp_19 => ?_)
    subst hp_19
    show V G K 7 0 0 22 [some (.ref m), some (.int x), some (.int y), some (.int z), some (.int (-1)), some (.int (-1)), none] [.int (if ¬ x < 0 ∧ x < nI (sNb s) then 1 else 0), .ref m] [(m, .inr (13, [.ref nw, .ref bf, .ref sv, .ref hy, .int iS, .int rmb, .int eA, .int fA, .ref tx, .int tyd, .ref li, .int ldd, .int thr, .int siz, .int spt, .int wrg, .int tld, .ref nmb])), (nw, .inl (gI G, 72, .inl σ))]
    refine V.iload hC (x := -1) dX13_spoils_22 rfl ?_
    refine V.iconst hC (-1) dX13_spoils_24 rfl ?_
    refine V.icmp_eq hC 32 dX13_spoils_25 rfl (fun c_25 => ?_) (fun c_25 => ?_)
    · refine V.iconst hC 0 dX13_spoils_32 rfl ?_
      refine V.iload_n hC (x := z) dX13_spoils_33 rfl ?_
      refine V.iconst hC 1 dX13_spoils_34 rfl ?_
      refine V.bipush hC 96 dX13_spoils_35 rfl ?_
      refine V.callSr (n := 3) (As := [.int z, .int 1, .int 96]) (rest := [.int 0, .int (if ¬ x < 0 ∧ x < nI (sNb s) then 1 else 0), .ref m]) hC (m_isIn (kl K) G z 1 96) SFk0 SFgo0 gX13_spoils_X13_isIn rfl ⟨rfl, rfl⟩ (by decide +kernel) ⟨by decide, by decide, by decide, by decide⟩ [] rfl (by decide) rfl rfl (Nat.le_of_ble_eq_true rfl) dX13_spoils_37 (fun r_37 u_37 hp_37 => ?_)
      subst hp_37
      show V G K 7 0 0 40 [some (.ref m), some (.int x), some (.int y), some (.int z), some (.int (-1)), some (.int (-1)), none] [.int (if ¬ z < 1 ∧ ¬ 96 < z then 1 else 0), .int 0, .int (if ¬ x < 0 ∧ x < nI (sNb s) then 1 else 0), .ref m] [(m, .inr (13, [.ref nw, .ref bf, .ref sv, .ref hy, .int iS, .int rmb, .int eA, .int fA, .ref tx, .int tyd, .ref li, .int ldd, .int thr, .int siz, .int spt, .int wrg, .int tld, .ref nmb])), (nw, .inl (gI G, 72, .inl σ))]
      refine V.iload hC (x := -1) dX13_spoils_40 rfl ?_
      refine V.iconst hC (-1) dX13_spoils_42 rfl ?_
      refine V.icmp_eq hC 50 dX13_spoils_43 rfl (fun c_43 => ?_) (fun c_43 => ?_)
      · refine V.iconst hC 0 dX13_spoils_50 rfl ?_
        refine V.callV (n := 4) (As := [.int (if ¬ x < 0 ∧ x < nI (sNb s) then 1 else 0), .int 0, .int (if ¬ z < 1 ∧ ¬ 96 < z then 1 else 0), .int 0]) (rest := []) hC (m_allows (kl K) G m nw bf sv hy tx li nmb iS rmb eA fA tyd ldd thr siz spt wrg tld (if ¬ x < 0 ∧ x < nI (sNb s) then 1 else 0) 0 (if ¬ z < 1 ∧ ¬ 96 < z then 1 else 0) 0) SFk0 SFgo0 gX13_spoils_X13_allows rfl ⟨rfl, rfl⟩ (by decide +kernel) ⟨by decide, by decide, by decide, by decide⟩ [0] rfl (by decide) (fun _ => rfl) rfl rfl rfl rfl (Nat.le_of_ble_eq_true rfl) dX13_spoils_51 (fun r_51 u_51 hp_51 => ?_)
        subst hp_51
        show V G K 7 0 0 54 [some (.ref m), some (.int x), some (.int y), some (.int z), some (.int (-1)), some (.int (-1)), none] [.int (if alw (if ¬ x < 0 ∧ x < nI (sNb s) then 1 else 0) 0 (if ¬ z < 1 ∧ ¬ 96 < z then 1 else 0) 0 = 0 then 1 else 0)] [(m, .inr (13, [.ref nw, .ref bf, .ref sv, .ref hy, .int iS, .int rmb, .int eA, .int fA, .ref tx, .int tyd, .ref li, .int ldd, .int (nI (alw (if ¬ x < 0 ∧ x < nI (sNb s) then 1 else 0) 0 (if ¬ z < 1 ∧ ¬ 96 < z then 1 else 0) 0)), .int siz, .int spt, .int wrg, .int tld, .ref nmb])), (nw, .inl (gI G, 72, .inl σ))]
        by_cases hg0_51 : ¬ x < 0 ∧ x < nI (sNb s)
        · have ha_51 : alw (if ¬ x < 0 ∧ x < nI (sNb s) then 1 else 0) 0 (if ¬ z < 1 ∧ ¬ 96 < z then 1 else 0) 0 = 2 := by rw [if_pos hg0_51]; rfl
          refine V.topeq (nI 0) (by rw [ha_51]; rfl) ?_
          refine V.eqw (ws' := [(m, .inr (13, [.ref nw, .ref bf, .ref sv, .ref hy, .int iS, .int rmb, .int eA, .int fA, .ref tx, .int tyd, .ref li, .int ldd, .int (nI 2), .int siz, .int spt, .int wrg, .int tld, .ref nmb])), (nw, .inl (gI G, 72, .inl σ))]) (by rw [ha_51]) ?_
          refine V.ifN_ne hC 0 59 dX13_spoils_54 rfl rfl (by omega) (fun c_54 => ?_) (fun c_54 => ?_)
          · exact absurd c_54 (by decide)
          · refine V.iconst hC 0 dX13_spoils_57 rfl ?_
            have hpw : pwX 4 s x y z = 3 := pwX_ns (Or.inr (Or.inl rfl)) hg0_51 hf
            refine V.eqw (ws' := [(m, .inr (13, [.ref nw, .ref bf, .ref sv, .ref hy, .int iS, .int rmb, .int eA, .int fA, .ref tx, .int tyd, .ref li, .int ldd, .int (nI (cd 4 (pwX 4 s x y z))), .int siz, .int spt, .int wrg, .int tld, .ref nmb])), (nw, .inl (gI G, 72, .inl σ))]) (by rw [hpw]; rfl) ?_
            exact hE 58 _ 0 σ dX13_spoils_58 rfl (Or.inr ⟨by rw [hpw]; decide, rfl, rfl⟩)
        · have ha_51 : alw (if ¬ x < 0 ∧ x < nI (sNb s) then 1 else 0) 0 (if ¬ z < 1 ∧ ¬ 96 < z then 1 else 0) 0 = 1 := by rw [if_neg hg0_51]; rfl
          refine V.topeq (nI 0) (by rw [ha_51]; rfl) ?_
          refine V.eqw (ws' := [(m, .inr (13, [.ref nw, .ref bf, .ref sv, .ref hy, .int iS, .int rmb, .int eA, .int fA, .ref tx, .int tyd, .ref li, .int ldd, .int (nI 1), .int siz, .int spt, .int wrg, .int tld, .ref nmb])), (nw, .inl (gI G, 72, .inl σ))]) (by rw [ha_51]) ?_
          refine V.ifN_ne hC 0 59 dX13_spoils_54 rfl rfl (by omega) (fun c_54 => ?_) (fun c_54 => ?_)
          · exact absurd c_54 (by decide)
          · refine V.iconst hC 0 dX13_spoils_57 rfl ?_
            have hpw : pwX 4 s x y z = 2 := pwX_nb (Or.inr (Or.inl rfl)) hg0_51
            refine V.eqw (ws' := [(m, .inr (13, [.ref nw, .ref bf, .ref sv, .ref hy, .int iS, .int rmb, .int eA, .int fA, .ref tx, .int tyd, .ref li, .int ldd, .int (nI (cd 4 (pwX 4 s x y z))), .int siz, .int spt, .int wrg, .int tld, .ref nmb])), (nw, .inl (gI G, 72, .inl σ))]) (by rw [hpw]; rfl) ?_
            exact hE 58 _ 0 σ dX13_spoils_58 rfl (Or.inr ⟨by rw [hpw]; decide, rfl, rfl⟩)
      · exact absurd rfl c_43
    · exact absurd rfl c_25
  · rw [hf] at hp_2
    subst hp_2
    have hkn := (fd_lt hf hs6).1
    have hk6 := (fd_lt hf hs6).2
    have ik := hI.2.2.1 k hkn
    show V G K 7 0 0 5 [some (.ref m), some (.int x), some (.int y), some (.int z), none, none, none] [.int (nI k)] [(m, .inr (13, [.ref nw, .ref bf, .ref sv, .ref hy, .int iS, .int rmb, .int eA, .int fA, .ref tx, .int tyd, .ref li, .int ldd, .int thr, .int siz, .int spt, .int wrg, .int tld, .ref nmb])), (nw, .inl (gI G, 72, .inl σ))]
    refine V.istore hC dX13_spoils_5 [some (.ref m), some (.int x), some (.int y), some (.int z), some (.int (nI k)), none, none] (Nat.le_of_ble_eq_true rfl) rfl ?_
    refine V.aload_n hC (x := m) dX13_spoils_7 rfl ?_
    refine V.iload_n hC (x := x) dX13_spoils_8 rfl ?_
    refine V.iload hC (x := nI k) dX13_spoils_9 rfl ?_
    refine V.callVr (n := 2) (As := [.int x, .int (nI k)]) (rest := []) hC (m_shareOf (kl K) G m nw bf sv hy tx li nmb iS rmb eA fA tyd ldd thr siz spt wrg tld σ s B hR hI hB x k hkn) SFk0 SFgo0 gX13_spoils_X13_shareOf rfl ⟨rfl, rfl⟩ (by decide +kernel) ⟨by decide, by decide, by decide, by decide⟩ [0, 1] rfl (by decide) rfl rfl rfl rfl (Nat.le_of_ble_eq_true rfl) dX13_spoils_11 (fun r_11 u_11 hp_11 => ?_)
    subst hp_11
    show V G K 7 0 0 14 [some (.ref m), some (.int x), some (.int y), some (.int z), some (.int (nI k)), none, none] [.int (if ¬ x < 0 ∧ x < nI (sNb s) then sSh s k x.toNatClampNeg else -1)] [(m, .inr (13, [.ref nw, .ref bf, .ref sv, .ref hy, .int iS, .int rmb, .int eA, .int fA, .ref tx, .int tyd, .ref li, .int ldd, .int thr, .int siz, .int spt, .int wrg, .int tld, .ref nmb])), (nw, .inl (gI G, 72, .inl σ))]
    refine V.istore hC dX13_spoils_14 [some (.ref m), some (.int x), some (.int y), some (.int z), some (.int (nI k)), some (.int (if ¬ x < 0 ∧ x < nI (sNb s) then sSh s k x.toNatClampNeg else -1)), none] (Nat.le_of_ble_eq_true rfl) rfl ?_
    refine V.aload_n hC (x := m) dX13_spoils_16 rfl ?_
    refine V.aload_n hC (x := m) dX13_spoils_17 rfl ?_
    refine V.iload_n hC (x := x) dX13_spoils_18 rfl ?_
    refine V.callVr (n := 1) (As := [.int x]) (rest := [.ref m]) hC (m_isBird (kl K) G m nw bf sv hy tx li nmb iS rmb eA fA tyd ldd thr siz spt wrg tld σ s B hR hI hB x) SFk0 SFgo0 gX13_spoils_X13_isBird rfl ⟨rfl, rfl⟩ (by decide +kernel) ⟨by decide, by decide, by decide, by decide⟩ [0, 1] rfl (by decide) rfl rfl rfl rfl (Nat.le_of_ble_eq_true rfl) dX13_spoils_19 (fun r_19 u_19 hp_19 => ?_)
    subst hp_19
    show V G K 7 0 0 22 [some (.ref m), some (.int x), some (.int y), some (.int z), some (.int (nI k)), some (.int (if ¬ x < 0 ∧ x < nI (sNb s) then sSh s k x.toNatClampNeg else -1)), none] [.int (if ¬ x < 0 ∧ x < nI (sNb s) then 1 else 0), .ref m] [(m, .inr (13, [.ref nw, .ref bf, .ref sv, .ref hy, .int iS, .int rmb, .int eA, .int fA, .ref tx, .int tyd, .ref li, .int ldd, .int thr, .int siz, .int spt, .int wrg, .int tld, .ref nmb])), (nw, .inl (gI G, 72, .inl σ))]
    refine V.iload hC (x := nI k) dX13_spoils_22 rfl ?_
    refine V.iconst hC (-1) dX13_spoils_24 rfl ?_
    refine V.icmp_eq hC 32 dX13_spoils_25 rfl (fun c_25 => ?_) (fun c_25 => ?_)
    · exact absurd c_25 (nI_m1 (by omega))
    · refine V.iconst hC 1 dX13_spoils_28 rfl ?_
      refine V.goto hC 33 dX13_spoils_29 rfl ?_
      refine V.iload_n hC (x := z) dX13_spoils_33 rfl ?_
      refine V.iconst hC 1 dX13_spoils_34 rfl ?_
      refine V.bipush hC 96 dX13_spoils_35 rfl ?_
      refine V.callSr (n := 3) (As := [.int z, .int 1, .int 96]) (rest := [.int 1, .int (if ¬ x < 0 ∧ x < nI (sNb s) then 1 else 0), .ref m]) hC (m_isIn (kl K) G z 1 96) SFk0 SFgo0 gX13_spoils_X13_isIn rfl ⟨rfl, rfl⟩ (by decide +kernel) ⟨by decide, by decide, by decide, by decide⟩ [] rfl (by decide) rfl rfl (Nat.le_of_ble_eq_true rfl) dX13_spoils_37 (fun r_37 u_37 hp_37 => ?_)
      subst hp_37
      show V G K 7 0 0 40 [some (.ref m), some (.int x), some (.int y), some (.int z), some (.int (nI k)), some (.int (if ¬ x < 0 ∧ x < nI (sNb s) then sSh s k x.toNatClampNeg else -1)), none] [.int (if ¬ z < 1 ∧ ¬ 96 < z then 1 else 0), .int 1, .int (if ¬ x < 0 ∧ x < nI (sNb s) then 1 else 0), .ref m] [(m, .inr (13, [.ref nw, .ref bf, .ref sv, .ref hy, .int iS, .int rmb, .int eA, .int fA, .ref tx, .int tyd, .ref li, .int ldd, .int thr, .int siz, .int spt, .int wrg, .int tld, .ref nmb])), (nw, .inl (gI G, 72, .inl σ))]
      refine V.iload hC (x := if ¬ x < 0 ∧ x < nI (sNb s) then sSh s k x.toNatClampNeg else -1) dX13_spoils_40 rfl ?_
      refine V.iconst hC (-1) dX13_spoils_42 rfl ?_
      refine V.icmp_eq hC 50 dX13_spoils_43 rfl (fun c_43 => ?_) (fun c_43 => ?_)
      · refine V.iconst hC 0 dX13_spoils_50 rfl ?_
        refine V.callV (n := 4) (As := [.int (if ¬ x < 0 ∧ x < nI (sNb s) then 1 else 0), .int 1, .int (if ¬ z < 1 ∧ ¬ 96 < z then 1 else 0), .int 0]) (rest := []) hC (m_allows (kl K) G m nw bf sv hy tx li nmb iS rmb eA fA tyd ldd thr siz spt wrg tld (if ¬ x < 0 ∧ x < nI (sNb s) then 1 else 0) 1 (if ¬ z < 1 ∧ ¬ 96 < z then 1 else 0) 0) SFk0 SFgo0 gX13_spoils_X13_allows rfl ⟨rfl, rfl⟩ (by decide +kernel) ⟨by decide, by decide, by decide, by decide⟩ [0] rfl (by decide) (fun _ => rfl) rfl rfl rfl rfl (Nat.le_of_ble_eq_true rfl) dX13_spoils_51 (fun r_51 u_51 hp_51 => ?_)
        subst hp_51
        show V G K 7 0 0 54 [some (.ref m), some (.int x), some (.int y), some (.int z), some (.int (nI k)), some (.int (if ¬ x < 0 ∧ x < nI (sNb s) then sSh s k x.toNatClampNeg else -1)), none] [.int (if alw (if ¬ x < 0 ∧ x < nI (sNb s) then 1 else 0) 1 (if ¬ z < 1 ∧ ¬ 96 < z then 1 else 0) 0 = 0 then 1 else 0)] [(m, .inr (13, [.ref nw, .ref bf, .ref sv, .ref hy, .int iS, .int rmb, .int eA, .int fA, .ref tx, .int tyd, .ref li, .int ldd, .int (nI (alw (if ¬ x < 0 ∧ x < nI (sNb s) then 1 else 0) 1 (if ¬ z < 1 ∧ ¬ 96 < z then 1 else 0) 0)), .int siz, .int spt, .int wrg, .int tld, .ref nmb])), (nw, .inl (gI G, 72, .inl σ))]
        by_cases hg0_51 : ¬ x < 0 ∧ x < nI (sNb s)
        · by_cases hg2_51 : ¬ z < 1 ∧ ¬ 96 < z
          · have ha_51 : alw (if ¬ x < 0 ∧ x < nI (sNb s) then 1 else 0) 1 (if ¬ z < 1 ∧ ¬ 96 < z then 1 else 0) 0 = 4 := by rw [if_pos hg0_51, if_pos hg2_51]; rfl
            refine V.topeq (nI 0) (by rw [ha_51]; rfl) ?_
            refine V.eqw (ws' := [(m, .inr (13, [.ref nw, .ref bf, .ref sv, .ref hy, .int iS, .int rmb, .int eA, .int fA, .ref tx, .int tyd, .ref li, .int ldd, .int (nI 4), .int siz, .int spt, .int wrg, .int tld, .ref nmb])), (nw, .inl (gI G, 72, .inl σ))]) (by rw [ha_51]) ?_
            refine V.ifN_ne hC 0 59 dX13_spoils_54 rfl rfl (by omega) (fun c_54 => ?_) (fun c_54 => ?_)
            · exact absurd c_54 (by decide)
            · refine V.iconst hC 0 dX13_spoils_57 rfl ?_
              have hpw : pwX 4 s x y z = 4 := (pwX_k (Or.inr (Or.inl rfl)) hg0_51 hf).trans (by rw [pwK, if_neg (fun q => (spz z).mp hg2_51 q.2), if_pos (Or.inr ⟨by decide, (by rw [if_pos hg0_51] at c_43; exact c_43)⟩)])
              refine V.eqw (ws' := [(m, .inr (13, [.ref nw, .ref bf, .ref sv, .ref hy, .int iS, .int rmb, .int eA, .int fA, .ref tx, .int tyd, .ref li, .int ldd, .int (nI (cd 4 (pwX 4 s x y z))), .int siz, .int spt, .int wrg, .int tld, .ref nmb])), (nw, .inl (gI G, 72, .inl σ))]) (by rw [hpw]; rfl) ?_
              exact hE 58 _ 0 σ dX13_spoils_58 rfl (Or.inr ⟨by rw [hpw]; decide, rfl, rfl⟩)
          · have ha_51 : alw (if ¬ x < 0 ∧ x < nI (sNb s) then 1 else 0) 1 (if ¬ z < 1 ∧ ¬ 96 < z then 1 else 0) 0 = 3 := by rw [if_pos hg0_51, if_neg hg2_51]; rfl
            refine V.topeq (nI 0) (by rw [ha_51]; rfl) ?_
            refine V.eqw (ws' := [(m, .inr (13, [.ref nw, .ref bf, .ref sv, .ref hy, .int iS, .int rmb, .int eA, .int fA, .ref tx, .int tyd, .ref li, .int ldd, .int (nI 3), .int siz, .int spt, .int wrg, .int tld, .ref nmb])), (nw, .inl (gI G, 72, .inl σ))]) (by rw [ha_51]) ?_
            refine V.ifN_ne hC 0 59 dX13_spoils_54 rfl rfl (by omega) (fun c_54 => ?_) (fun c_54 => ?_)
            · exact absurd c_54 (by decide)
            · refine V.iconst hC 0 dX13_spoils_57 rfl ?_
              have hpw : pwX 4 s x y z = 1 := (pwX_k (Or.inr (Or.inl rfl)) hg0_51 hf).trans (by rw [pwK, if_pos ⟨rfl, Decidable.not_not.mp (fun q => hg2_51 ((spz z).mpr q))⟩])
              refine V.eqw (ws' := [(m, .inr (13, [.ref nw, .ref bf, .ref sv, .ref hy, .int iS, .int rmb, .int eA, .int fA, .ref tx, .int tyd, .ref li, .int ldd, .int (nI (cd 4 (pwX 4 s x y z))), .int siz, .int spt, .int wrg, .int tld, .ref nmb])), (nw, .inl (gI G, 72, .inl σ))]) (by rw [hpw]; rfl) ?_
              exact hE 58 _ 0 σ dX13_spoils_58 rfl (Or.inr ⟨by rw [hpw]; decide, rfl, rfl⟩)
        · have ha_51 : alw (if ¬ x < 0 ∧ x < nI (sNb s) then 1 else 0) 1 (if ¬ z < 1 ∧ ¬ 96 < z then 1 else 0) 0 = 1 := by rw [if_neg hg0_51]; rfl
          refine V.topeq (nI 0) (by rw [ha_51]; rfl) ?_
          refine V.eqw (ws' := [(m, .inr (13, [.ref nw, .ref bf, .ref sv, .ref hy, .int iS, .int rmb, .int eA, .int fA, .ref tx, .int tyd, .ref li, .int ldd, .int (nI 1), .int siz, .int spt, .int wrg, .int tld, .ref nmb])), (nw, .inl (gI G, 72, .inl σ))]) (by rw [ha_51]) ?_
          refine V.ifN_ne hC 0 59 dX13_spoils_54 rfl rfl (by omega) (fun c_54 => ?_) (fun c_54 => ?_)
          · exact absurd c_54 (by decide)
          · refine V.iconst hC 0 dX13_spoils_57 rfl ?_
            have hpw : pwX 4 s x y z = 2 := pwX_nb (Or.inr (Or.inl rfl)) hg0_51
            refine V.eqw (ws' := [(m, .inr (13, [.ref nw, .ref bf, .ref sv, .ref hy, .int iS, .int rmb, .int eA, .int fA, .ref tx, .int tyd, .ref li, .int ldd, .int (nI (cd 4 (pwX 4 s x y z))), .int siz, .int spt, .int wrg, .int tld, .ref nmb])), (nw, .inl (gI G, 72, .inl σ))]) (by rw [hpw]; rfl) ?_
            exact hE 58 _ 0 σ dX13_spoils_58 rfl (Or.inr ⟨by rw [hpw]; decide, rfl, rfl⟩)
      · refine V.iconst hC 1 dX13_spoils_46 rfl ?_
        refine V.goto hC 51 dX13_spoils_47 rfl ?_
        refine V.callV (n := 4) (As := [.int (if ¬ x < 0 ∧ x < nI (sNb s) then 1 else 0), .int 1, .int (if ¬ z < 1 ∧ ¬ 96 < z then 1 else 0), .int 1]) (rest := []) hC (m_allows (kl K) G m nw bf sv hy tx li nmb iS rmb eA fA tyd ldd thr siz spt wrg tld (if ¬ x < 0 ∧ x < nI (sNb s) then 1 else 0) 1 (if ¬ z < 1 ∧ ¬ 96 < z then 1 else 0) 1) SFk0 SFgo0 gX13_spoils_X13_allows rfl ⟨rfl, rfl⟩ (by decide +kernel) ⟨by decide, by decide, by decide, by decide⟩ [0] rfl (by decide) (fun _ => rfl) rfl rfl rfl rfl (Nat.le_of_ble_eq_true rfl) dX13_spoils_51 (fun r_51 u_51 hp_51 => ?_)
        subst hp_51
        show V G K 7 0 0 54 [some (.ref m), some (.int x), some (.int y), some (.int z), some (.int (nI k)), some (.int (if ¬ x < 0 ∧ x < nI (sNb s) then sSh s k x.toNatClampNeg else -1)), none] [.int (if alw (if ¬ x < 0 ∧ x < nI (sNb s) then 1 else 0) 1 (if ¬ z < 1 ∧ ¬ 96 < z then 1 else 0) 1 = 0 then 1 else 0)] [(m, .inr (13, [.ref nw, .ref bf, .ref sv, .ref hy, .int iS, .int rmb, .int eA, .int fA, .ref tx, .int tyd, .ref li, .int ldd, .int (nI (alw (if ¬ x < 0 ∧ x < nI (sNb s) then 1 else 0) 1 (if ¬ z < 1 ∧ ¬ 96 < z then 1 else 0) 1)), .int siz, .int spt, .int wrg, .int tld, .ref nmb])), (nw, .inl (gI G, 72, .inl σ))]
        by_cases hg0_51 : ¬ x < 0 ∧ x < nI (sNb s)
        · by_cases hg2_51 : ¬ z < 1 ∧ ¬ 96 < z
          · have ha_51 : alw (if ¬ x < 0 ∧ x < nI (sNb s) then 1 else 0) 1 (if ¬ z < 1 ∧ ¬ 96 < z then 1 else 0) 1 = 0 := by rw [if_pos hg0_51, if_pos hg2_51]; rfl
            refine V.topeq (nI 1) (by rw [ha_51]; rfl) ?_
            refine V.eqw (ws' := [(m, .inr (13, [.ref nw, .ref bf, .ref sv, .ref hy, .int iS, .int rmb, .int eA, .int fA, .ref tx, .int tyd, .ref li, .int ldd, .int (nI 0), .int siz, .int spt, .int wrg, .int tld, .ref nmb])), (nw, .inl (gI G, 72, .inl σ))]) (by rw [ha_51]) ?_
            refine V.ifN_ne hC 1 59 dX13_spoils_54 rfl rfl (by omega) (fun c_54 => ?_) (fun c_54 => ?_)
            · obtain ⟨b, hb, hxb⟩ := i32_nat (by omega) hg0_51
              have hcb : x.toNatClampNeg = b := by rw [hxb, nI_clamp (by omega)]
              refine V.iload hC (x := if ¬ x < 0 ∧ x < nI (sNb s) then sSh s k x.toNatClampNeg else -1) dX13_spoils_59 rfl ?_
              refine V.topeq (sSh s k b) (by rw [if_pos hg0_51, hcb]) ?_
              refine V.iload_n hC (x := z) dX13_spoils_61 rfl ?_
              refine V.iadd hC dX13_spoils_62 ?_
              refine V.bipush hC 97 dX13_spoils_63 rfl ?_
              refine V.irem hC dX13_spoils_65 (by decide) ?_
              refine V.istore hC dX13_spoils_66 [some (.ref m), some (.int x), some (.int y), some (.int z), some (.int (nI k)), some (.int (if ¬ x < 0 ∧ x < nI (sNb s) then sSh s k x.toNatClampNeg else -1)), some (.int (((sSh s k b) + z) - ((sSh s k b) + z) / 97 * 97))] (Nat.le_of_ble_eq_true rfl) rfl ?_
              refine V.aload_n hC (x := m) dX13_spoils_68 rfl ?_
              refine V.getf hC (T := TX13) q0_ 0 q1_ rfl (0) rfl rfl (by decide) (.ref nw) rfl dX13_spoils_69 ?_
              refine V.bipush hC 12 dX13_spoils_72 rfl ?_
              refine V.bipush hC 10 dX13_spoils_74 rfl ?_
              refine V.iload hC (x := nI k) dX13_spoils_76 rfl ?_
              refine V.imulN hC 10 k dX13_spoils_78 rfl rfl ?_
              refine V.iaddN hC 12 (10 * k) dX13_spoils_79 rfl rfl ?_
              refine V.iconst hC 2 dX13_spoils_80 rfl ?_
              refine V.iaddN hC (12 + (10 * k)) 2 dX13_spoils_81 rfl rfl ?_
              refine V.iload_n hC (x := x) dX13_spoils_82 rfl ?_
              refine V.topeq (nI b) hxb ?_
              refine V.iaddN hC ((12 + (10 * k)) + 2) b dX13_spoils_83 rfl rfl ?_
              refine V.iload hC (x := ((sSh s k b) + z) - ((sSh s k b) + z) / 97 * 97) dX13_spoils_84 rfl ?_
              refine V.iast hC dX13_spoils_86 (1) rfl (((12 + (10 * k)) + 2) + b) rfl (by omega) (by decide) [(m, .inr (13, [.ref nw, .ref bf, .ref sv, .ref hy, .int iS, .int rmb, .int eA, .int fA, .ref tx, .int tyd, .ref li, .int ldd, .int (nI 0), .int siz, .int spt, .int wrg, .int tld, .ref nmb])), (nw, .inl (gI G, 72, .inl (upd σ (((12 + (10 * k)) + 2) + b) (((sSh s k b) + z) - ((sSh s k b) + z) / 97 * 97))))] rfl ?_
              refine V.iload hC (x := ((sSh s k b) + z) - ((sSh s k b) + z) / 97 * 97) dX13_spoils_87 rfl ?_
              have hpw : pwX 4 s x y z = 0 := (pwX_k (Or.inr (Or.inl rfl)) hg0_51 hf).trans (by rw [pwK, if_neg (fun q => (spz z).mp hg2_51 q.2), if_neg (fun q => Or.elim q (fun w => absurd w.1 (by decide)) (fun w => absurd w.2 (by rw [if_pos hg0_51] at c_43; exact c_43))), if_neg (fun q => absurd q.1 (by decide))])
              refine V.eqw (ws' := [(m, .inr (13, [.ref nw, .ref bf, .ref sv, .ref hy, .int iS, .int rmb, .int eA, .int fA, .ref tx, .int tyd, .ref li, .int ldd, .int (nI (cd 4 (pwX 4 s x y z))), .int siz, .int spt, .int wrg, .int tld, .ref nmb])), (nw, .inl (gI G, 72, .inl (upd σ (((12 + (10 * k)) + 2) + b) (((sSh s k b) + z) - ((sSh s k b) + z) / 97 * 97))))]) (by rw [hpw]; rfl) ?_
              exact hE 89 _ (((sSh s k b) + z) - ((sSh s k b) + z) / 97 * 97) (upd σ (12 + 10 * k + 2 + b) ((sSh s k b + z) - (sSh s k b + z) / 97 * 97)) dX13_spoils_89 rfl (Or.inl ⟨hpw, (by simp only [cX, hf, hcb]; exact rel_sh hR hb8 (by omega) hkn _), (by simp only [rX, hf, hcb])⟩)
            · exact absurd c_54 (by decide)
          · have ha_51 : alw (if ¬ x < 0 ∧ x < nI (sNb s) then 1 else 0) 1 (if ¬ z < 1 ∧ ¬ 96 < z then 1 else 0) 1 = 3 := by rw [if_pos hg0_51, if_neg hg2_51]; rfl
            refine V.topeq (nI 0) (by rw [ha_51]; rfl) ?_
            refine V.eqw (ws' := [(m, .inr (13, [.ref nw, .ref bf, .ref sv, .ref hy, .int iS, .int rmb, .int eA, .int fA, .ref tx, .int tyd, .ref li, .int ldd, .int (nI 3), .int siz, .int spt, .int wrg, .int tld, .ref nmb])), (nw, .inl (gI G, 72, .inl σ))]) (by rw [ha_51]) ?_
            refine V.ifN_ne hC 0 59 dX13_spoils_54 rfl rfl (by omega) (fun c_54 => ?_) (fun c_54 => ?_)
            · exact absurd c_54 (by decide)
            · refine V.iconst hC 0 dX13_spoils_57 rfl ?_
              have hpw : pwX 4 s x y z = 1 := (pwX_k (Or.inr (Or.inl rfl)) hg0_51 hf).trans (by rw [pwK, if_pos ⟨rfl, Decidable.not_not.mp (fun q => hg2_51 ((spz z).mpr q))⟩])
              refine V.eqw (ws' := [(m, .inr (13, [.ref nw, .ref bf, .ref sv, .ref hy, .int iS, .int rmb, .int eA, .int fA, .ref tx, .int tyd, .ref li, .int ldd, .int (nI (cd 4 (pwX 4 s x y z))), .int siz, .int spt, .int wrg, .int tld, .ref nmb])), (nw, .inl (gI G, 72, .inl σ))]) (by rw [hpw]; rfl) ?_
              exact hE 58 _ 0 σ dX13_spoils_58 rfl (Or.inr ⟨by rw [hpw]; decide, rfl, rfl⟩)
        · have ha_51 : alw (if ¬ x < 0 ∧ x < nI (sNb s) then 1 else 0) 1 (if ¬ z < 1 ∧ ¬ 96 < z then 1 else 0) 1 = 1 := by rw [if_neg hg0_51]; rfl
          refine V.topeq (nI 0) (by rw [ha_51]; rfl) ?_
          refine V.eqw (ws' := [(m, .inr (13, [.ref nw, .ref bf, .ref sv, .ref hy, .int iS, .int rmb, .int eA, .int fA, .ref tx, .int tyd, .ref li, .int ldd, .int (nI 1), .int siz, .int spt, .int wrg, .int tld, .ref nmb])), (nw, .inl (gI G, 72, .inl σ))]) (by rw [ha_51]) ?_
          refine V.ifN_ne hC 0 59 dX13_spoils_54 rfl rfl (by omega) (fun c_54 => ?_) (fun c_54 => ?_)
          · exact absurd c_54 (by decide)
          · refine V.iconst hC 0 dX13_spoils_57 rfl ?_
            have hpw : pwX 4 s x y z = 2 := pwX_nb (Or.inr (Or.inl rfl)) hg0_51
            refine V.eqw (ws' := [(m, .inr (13, [.ref nw, .ref bf, .ref sv, .ref hy, .int iS, .int rmb, .int eA, .int fA, .ref tx, .int tyd, .ref li, .int ldd, .int (nI (cd 4 (pwX 4 s x y z))), .int siz, .int spt, .int wrg, .int tld, .ref nmb])), (nw, .inl (gI G, 72, .inl σ))]) (by rw [hpw]; rfl) ?_
            exact hE 58 _ 0 σ dX13_spoils_58 rfl (Or.inr ⟨by rw [hpw]; decide, rfl, rfl⟩)
