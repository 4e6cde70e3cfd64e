/-! the document's model: least unfit shares, the share of rebuildable secrets (printed by gen/s67.py) -/
theorem unf_an {c h : Nat} {v : Nat → Nat} (hc : c < 256) (ht : popb c 8 ≤ 4) (hv : ∀ b, b < 8 → c / 2 ^ b % 2 = 1 → v b < 97) : ∀ n, n ≤ 8 → unf c v (h &&& (255 ^^^ c)) n = unf c v h n
  | 0, _ => rfl
  | n + 1, hn => by
    rw [unf_s, unf_s, unf_an hc ht hv n (by omega)]
    have hb := andn_bit n (by omega) c h
    by_cases q : c / 2 ^ n % 2 = 1
    · rw [if_neg (fun z => (hb.mp z.1).2 q), if_neg (fun z => z.2 ((lagS_at hc ht (by omega) q).trans (Nat.mod_eq_of_lt (hv n (by omega) q))))]
    · by_cases w : h / 2 ^ n % 2 = 1 ∧ ¬ lagS c v (n + 1) = v n
      · rw [if_pos w, if_pos ⟨hb.mpr ⟨w.1, q⟩, w.2⟩]
      · rw [if_neg w, if_neg (fun z => w ⟨(hb.mp z.1).1, z.2⟩)]
theorem lstu_1 {h t : Nat} {v : Nat → Nat} (ht : 1 ≤ t) : lstu h t v 1 = 8 := by
  have e : pop8 0 = 0 := rfl
  rw [lstu, if_neg (fun z => by have : pop8 0 = t := z.2; omega), lstu]
theorem rbt_y {sh : Nat → Nat → Int32} {tn : Nat → Nat} {n : Nat} (h : tn n ≤ hc (sh n) 8) : rbt sh tn n + 1 = rbt sh tn (n + 1) := by rw [rbt, if_pos h]
theorem rbt_n {sh : Nat → Nat → Int32} {tn : Nat → Nat} {n : Nat} (h : ¬ tn n ≤ hc (sh n) 8) : rbt sh tn n = rbt sh tn (n + 1) := by rw [rbt, if_neg h]; rfl
set_option maxHeartbeats 4000000 in
set_option maxRecDepth 100000 in
theorem m_leastUnfit (l : Launch) (G : Gx) (m nw bf sv hy tx li nmb : Nat) (iS rmb eA fA tyd ldd thr siz spt wrg tld : Int32) (σ : Nat → Int32) (s : ASt) (B : Nat) (hR : Rel σ s) (hI : InvA B s) (hB : B < 2 ^ 30) (x : Int32) : Ct l G SF0 yX13_leastUnfitShares wsX13_leastUnfitShares ({ frames := 5, cells := 0, slots := 0, locals := 109 }) [.ref m, .int x] [(m, .inr (13, [.ref nw, .ref bf, .ref sv, .ref hy, .int iS, .int rmb, .int eA, .int fA, .ref tx, .int tyd, .ref li, .int ldd, .int thr, .int siz, .int spt, .int wrg, .int tld, .ref nmb])), (nw, .inl (gI G, 72, .inl σ))] mkI (fun (r : Int32) (_ : Unit) => r = (qLeast s x).2) (fun _ : Unit => [(m, .inr (13, [.ref nw, .ref bf, .ref sv, .ref hy, .int iS, .int rmb, .int eA, .int fA, .ref tx, .int tyd, .ref li, .int ldd, .int (nI (qLeast s x).1), .int siz, .int spt, .int wrg, .int tld, .ref nmb])), (nw, .inl (gI G, 72, .inl σ))]) 0 0 := by
  have hb8 := hI.1
  have hs6 := hI.2.1
  refine Ct.ofI (cc := cX13_leastUnfitShares) (maxL := 7) (by decide) rfl ⟨by simp [Value.category], Nat.le_of_ble_eq_true rfl⟩ ?_
  intro K hl hC hSF hnm hE
  subst hl
  have q0_ : Cond.methodLink RX13 166 Lib.Math.min.name ∈ wsX13_leastUnfitShares := by decide +kernel
  have q1_ : Cond.static Lib.Math.min.name ∈ wsX13_leastUnfitShares := by decide +kernel
  have q2_ : Cond.initialized "java/lang/Math" ∈ wsX13_leastUnfitShares := by decide +kernel
  have q3_ : Cond.code Lib.Math.min.name Lib.Math.min.code 2 (some .int) ∈ wsX13_leastUnfitShares := by decide +kernel
  show V G K 7 0 0 0 [some (.ref m), some (.int x), none, none, none, none, none] [] [(m, .inr (13, [.ref nw, .ref bf, .ref sv, .ref hy, .int iS, .int rmb, .int eA, .int fA, .ref tx, .int tyd, .ref li, .int ldd, .int thr, .int siz, .int spt, .int wrg, .int tld, .ref nmb])), (nw, .inl (gI G, 72, .inl σ))]
  refine V.aload_n hC (x := m) dX13_leastUnfitShares_0 rfl ?_
  refine V.iload_n hC (x := x) dX13_leastUnfitShares_1 rfl ?_
  refine V.callVr (n := 1) (As := [.int x]) (rest := []) hC (m_find (kl K) G m nw bf sv hy tx li nmb iS rmb eA fA tyd ldd thr siz spt wrg tld σ s B hR hI hB x) SFk0 SFgo0 gX13_leastUnfitShares_X13_find rfl ⟨rfl, rfl⟩ (by decide +kernel) ⟨by decide, by decide, by decide, by decide⟩ [0, 1] rfl (by decide) rfl rfl rfl rfl (Nat.le_of_ble_eq_true rfl) dX13_leastUnfitShares_2 (fun r_2 u_2 hp_2 => ?_)
  rcases hf : fd (sNu s) x (sNs s) with _ | k
  · rw [hf] at hp_2
    subst hp_2
    show V G K 7 0 0 5 [some (.ref m), some (.int x), none, none, none, none, none] [.int (-1)] [(m, .inr (13, [.ref nw, .ref bf, .ref sv, .ref hy, .int iS, .int rmb, .int eA, .int fA, .ref tx, .int tyd, .ref li, .int ldd, .int thr, .int siz, .int spt, .int wrg, .int tld, .ref nmb])), (nw, .inl (gI G, 72, .inl σ))]
    refine V.istore_n hC dX13_leastUnfitShares_5 [some (.ref m), some (.int x), some (.int (-1)), none, none, none, none] (Nat.le_of_ble_eq_true rfl) rfl ?_
    refine V.aload_n hC (x := m) dX13_leastUnfitShares_6 rfl ?_
    refine V.iload_n hC (x := -1) dX13_leastUnfitShares_7 rfl ?_
    refine V.iconst hC (-1) dX13_leastUnfitShares_8 rfl ?_
    refine V.icmp_eq hC 16 dX13_leastUnfitShares_9 rfl (fun c_9 => ?_) (fun c_9 => ?_)
    · refine V.iconst hC 0 dX13_leastUnfitShares_16 rfl ?_
      refine V.aload_n hC (x := m) dX13_leastUnfitShares_17 rfl ?_
      refine V.iload_n hC (x := -1) dX13_leastUnfitShares_18 rfl ?_
      refine V.callVr (n := 1) (As := [.int (-1)]) (rest := [.int 0, .ref m]) hC (m_isEnoughN (kl K) G m nw bf sv hy tx li nmb iS rmb eA fA tyd ldd thr siz spt wrg tld σ s B hR hI hB) SFk0 SFgo0 gX13_leastUnfitShares_X13_isEnough rfl ⟨rfl, rfl⟩ (by decide +kernel) ⟨by decide, by decide, by decide, by decide⟩ [0, 1] rfl (by decide) rfl rfl rfl rfl (Nat.le_of_ble_eq_true rfl) dX13_leastUnfitShares_19 (fun r_19 u_19 hp_19 => ?_)
      subst hp_19
      show V G K 7 0 0 22 [some (.ref m), some (.int x), some (.int (-1)), none, none, none, none] [.int (nI 0), .int 0, .ref m] [(m, .inr (13, [.ref nw, .ref bf, .ref sv, .ref hy, .int iS, .int rmb, .int eA, .int fA, .ref tx, .int tyd, .ref li, .int ldd, .int thr, .int siz, .int spt, .int wrg, .int tld, .ref nmb])), (nw, .inl (gI G, 72, .inl σ))]
      refine V.iconst hC 1 dX13_leastUnfitShares_22 rfl ?_
      refine V.iconst hC 1 dX13_leastUnfitShares_23 rfl ?_
      refine V.callV (n := 4) (As := [.int 0, .int (nI 0), .int 1, .int 1]) (rest := []) hC (m_allows (kl K) G m nw bf sv hy tx li nmb iS rmb eA fA tyd ldd thr siz spt wrg tld 0 (nI 0) 1 1) SFk0 SFgo0 gX13_leastUnfitShares_X13_allows rfl ⟨rfl, rfl⟩ (by decide +kernel) ⟨by decide, by decide, by decide, by decide⟩ [0] rfl (by decide) (fun _ => rfl) rfl rfl rfl rfl (Nat.le_of_ble_eq_true rfl) dX13_leastUnfitShares_24 (fun r_24 u_24 hp_24 => ?_)
      subst hp_24
      show V G K 7 0 0 27 [some (.ref m), some (.int x), some (.int (-1)), none, none, none, none] [.int (if alw 0 (nI 0) 1 1 = 0 then 1 else 0)] [(m, .inr (13, [.ref nw, .ref bf, .ref sv, .ref hy, .int iS, .int rmb, .int eA, .int fA, .ref tx, .int tyd, .ref li, .int ldd, .int (nI (alw 0 (nI 0) 1 1)), .int siz, .int spt, .int wrg, .int tld, .ref nmb])), (nw, .inl (gI G, 72, .inl σ))]
      have ha_24 : alw 0 (nI 0) 1 1 = 1 := by rfl
      refine V.topeq (nI 0) (by rw [ha_24]; rfl) ?_
      refine V.eqw (ws' := [(m, .inr (13, [.ref nw, .ref bf, .ref sv, .ref hy, .int iS, .int rmb, .int eA, .int fA, .ref tx, .int tyd, .ref li, .int ldd, .int (nI 1), .int siz, .int spt, .int wrg, .int tld, .ref nmb])), (nw, .inl (gI G, 72, .inl σ))]) (by rw [ha_24]) ?_
      refine V.ifN_ne hC 0 32 dX13_leastUnfitShares_27 rfl rfl (by omega) (fun c_27 => ?_) (fun c_27 => ?_)
      · exact absurd c_27 (by decide)
      · refine V.iconst hC 0 dX13_leastUnfitShares_30 rfl ?_
        have hq : qLeast s x = (1, 0) := qS_n hf
        refine V.eqw (ws' := [(m, .inr (13, [.ref nw, .ref bf, .ref sv, .ref hy, .int iS, .int rmb, .int eA, .int fA, .ref tx, .int tyd, .ref li, .int ldd, .int (nI (qLeast s x).1), .int siz, .int spt, .int wrg, .int tld, .ref nmb])), (nw, .inl (gI G, 72, .inl σ))]) (by rw [hq]) ?_
        exact hE 31 _ 0 () dX13_leastUnfitShares_31 rfl (by rw [hq])
    · exact absurd rfl c_9
  · rw [hf] at hp_2
    subst hp_2
    have hkn := (fd_lt hf hs6).1
    have hk6 := (fd_lt hf hs6).2
    have ik := hI.2.2.1 k hkn
    show V G K 7 0 0 5 [some (.ref m), some (.int x), none, none, none, none, none] [.int (nI k)] [(m, .inr (13, [.ref nw, .ref bf, .ref sv, .ref hy, .int iS, .int rmb, .int eA, .int fA, .ref tx, .int tyd, .ref li, .int ldd, .int thr, .int siz, .int spt, .int wrg, .int tld, .ref nmb])), (nw, .inl (gI G, 72, .inl σ))]
    refine V.istore_n hC dX13_leastUnfitShares_5 [some (.ref m), some (.int x), some (.int (nI k)), none, none, none, none] (Nat.le_of_ble_eq_true rfl) rfl ?_
    refine V.aload_n hC (x := m) dX13_leastUnfitShares_6 rfl ?_
    refine V.iload_n hC (x := nI k) dX13_leastUnfitShares_7 rfl ?_
    refine V.iconst hC (-1) dX13_leastUnfitShares_8 rfl ?_
    refine V.icmp_eq hC 16 dX13_leastUnfitShares_9 rfl (fun c_9 => ?_) (fun c_9 => ?_)
    · exact absurd c_9 (nI_m1 (by omega))
    · refine V.iconst hC 1 dX13_leastUnfitShares_12 rfl ?_
      refine V.goto hC 17 dX13_leastUnfitShares_13 rfl ?_
      refine V.aload_n hC (x := m) dX13_leastUnfitShares_17 rfl ?_
      refine V.iload_n hC (x := nI k) dX13_leastUnfitShares_18 rfl ?_
      refine V.callVr (n := 1) (As := [.int (nI k)]) (rest := [.int 1, .ref m]) hC (m_isEnough (kl K) G m nw bf sv hy tx li nmb iS rmb eA fA tyd ldd thr siz spt wrg tld σ s B hR hI hB k hkn) SFk0 SFgo0 gX13_leastUnfitShares_X13_isEnough rfl ⟨rfl, rfl⟩ (by decide +kernel) ⟨by decide, by decide, by decide, by decide⟩ [0, 1] rfl (by decide) rfl rfl rfl rfl (Nat.le_of_ble_eq_true rfl) dX13_leastUnfitShares_19 (fun r_19 u_19 hp_19 => ?_)
      subst hp_19
      show V G K 7 0 0 22 [some (.ref m), some (.int x), some (.int (nI k)), none, none, none, none] [.int (if sTn s k ≤ hc (sSh s k) 8 then 1 else 0), .int 1, .ref m] [(m, .inr (13, [.ref nw, .ref bf, .ref sv, .ref hy, .int iS, .int rmb, .int eA, .int fA, .ref tx, .int tyd, .ref li, .int ldd, .int thr, .int siz, .int spt, .int wrg, .int tld, .ref nmb])), (nw, .inl (gI G, 72, .inl σ))]
      refine V.iconst hC 1 dX13_leastUnfitShares_22 rfl ?_
      refine V.iconst hC 1 dX13_leastUnfitShares_23 rfl ?_
      refine V.callV (n := 4) (As := [.int 1, .int (if sTn s k ≤ hc (sSh s k) 8 then 1 else 0), .int 1, .int 1]) (rest := []) hC (m_allows (kl K) G m nw bf sv hy tx li nmb iS rmb eA fA tyd ldd thr siz spt wrg tld 1 (if sTn s k ≤ hc (sSh s k) 8 then 1 else 0) 1 1) SFk0 SFgo0 gX13_leastUnfitShares_X13_allows rfl ⟨rfl, rfl⟩ (by decide +kernel) ⟨by decide, by decide, by decide, by decide⟩ [0] rfl (by decide) (fun _ => rfl) rfl rfl rfl rfl (Nat.le_of_ble_eq_true rfl) dX13_leastUnfitShares_24 (fun r_24 u_24 hp_24 => ?_)
      subst hp_24
      show V G K 7 0 0 27 [some (.ref m), some (.int x), some (.int (nI k)), none, none, none, none] [.int (if alw 1 (if sTn s k ≤ hc (sSh s k) 8 then 1 else 0) 1 1 = 0 then 1 else 0)] [(m, .inr (13, [.ref nw, .ref bf, .ref sv, .ref hy, .int iS, .int rmb, .int eA, .int fA, .ref tx, .int tyd, .ref li, .int ldd, .int (nI (alw 1 (if sTn s k ≤ hc (sSh s k) 8 then 1 else 0) 1 1)), .int siz, .int spt, .int wrg, .int tld, .ref nmb])), (nw, .inl (gI G, 72, .inl σ))]
      by_cases hg1_24 : sTn s k ≤ hc (sSh s k) 8
      · have ha_24 : alw 1 (if sTn s k ≤ hc (sSh s k) 8 then 1 else 0) 1 1 = 0 := by rw [if_pos hg1_24]; rfl
        refine V.topeq (nI 1) (by rw [ha_24]; rfl) ?_
        refine V.eqw (ws' := [(m, .inr (13, [.ref nw, .ref bf, .ref sv, .ref hy, .int iS, .int rmb, .int eA, .int fA, .ref tx, .int tyd, .ref li, .int ldd, .int (nI 0), .int siz, .int spt, .int wrg, .int tld, .ref nmb])), (nw, .inl (gI G, 72, .inl σ))]) (by rw [ha_24]) ?_
        refine V.ifN_ne hC 1 32 dX13_leastUnfitShares_27 rfl rfl (by omega) (fun c_27 => ?_) (fun c_27 => ?_)
        · refine V.aload_n hC (x := m) dX13_leastUnfitShares_32 rfl ?_
          refine V.iload_n hC (x := nI k) dX13_leastUnfitShares_33 rfl ?_
          refine V.callVr (n := 1) (As := [.int (nI k)]) (rest := []) hC (m_holdersOf (kl K) G m nw bf sv hy tx li nmb iS rmb eA fA tyd ldd (nI 0) siz spt wrg tld σ s B hR hI hB k hkn) SFk0 SFgo0 gX13_leastUnfitShares_X13_holdersOf rfl ⟨rfl, rfl⟩ (by decide +kernel) ⟨by decide, by decide, by decide, by decide⟩ [0, 1] rfl (by decide) rfl rfl rfl rfl (Nat.le_of_ble_eq_true rfl) dX13_leastUnfitShares_34 (fun r_34 u_34 hp_34 => ?_)
          subst hp_34
          show V G K 7 0 0 37 [some (.ref m), some (.int x), some (.int (nI k)), none, none, none, none] [.int (nI (fh (sSh s k) 8 8))] [(m, .inr (13, [.ref nw, .ref bf, .ref sv, .ref hy, .int iS, .int rmb, .int eA, .int fA, .ref tx, .int tyd, .ref li, .int ldd, .int (nI 0), .int siz, .int spt, .int wrg, .int tld, .ref nmb])), (nw, .inl (gI G, 72, .inl σ))]
          refine V.istore_n hC dX13_leastUnfitShares_37 [some (.ref m), some (.int x), some (.int (nI k)), some (.int (nI (fh (sSh s k) 8 8))), none, none, none] (Nat.le_of_ble_eq_true rfl) rfl ?_
          refine V.bipush hC 8 dX13_leastUnfitShares_38 rfl ?_
          refine V.istore hC dX13_leastUnfitShares_40 [some (.ref m), some (.int x), some (.int (nI k)), some (.int (nI (fh (sSh s k) 8 8))), some (.int 8), none, none] (Nat.le_of_ble_eq_true rfl) rfl ?_
          refine V.iconst hC 1 dX13_leastUnfitShares_42 rfl ?_
          refine V.lset 4 (x := .int 8) (y := .int (nI (lstu (fh (sSh s k) 8 8) (sTn s k) (svn (sSh s k)) 1))) (congrArg Value.int (congrArg nI (lstu_1 (h := fh (sSh s k) 8 8) (v := svn (sSh s k)) ik.1).symm)) rfl (lv' := [some (.ref m), some (.int x), some (.int (nI k)), some (.int (nI (fh (sSh s k) 8 8))), some (.int (nI (lstu (fh (sSh s k) 8 8) (sTn s k) (svn (sSh s k)) 1))), none, none]) rfl ?_
          refine V.istore hC dX13_leastUnfitShares_43 [some (.ref m), some (.int x), some (.int (nI k)), some (.int (nI (fh (sSh s k) 8 8))), some (.int (nI (lstu (fh (sSh s k) 8 8) (sTn s k) (svn (sSh s k)) 1))), some (.int 1), none] (Nat.le_of_ble_eq_true rfl) rfl ?_
          have loop45 : ∀ (n : Nat) (c : Nat), 257 - c < n → (1 ≤ c) → (c ≤ 256) → V G K 7 0 0 45 [some (.ref m), some (.int x), some (.int (nI k)), some (.int (nI (fh (sSh s k) 8 8))), some (.int (nI (lstu (fh (sSh s k) 8 8) (sTn s k) (svn (sSh s k)) c))), some (.int (nI c)), none] [] [(m, .inr (13, [.ref nw, .ref bf, .ref sv, .ref hy, .int iS, .int rmb, .int eA, .int fA, .ref tx, .int tyd, .ref li, .int ldd, .int (nI 0), .int siz, .int spt, .int wrg, .int tld, .ref nmb])), (nw, .inl (gI G, 72, .inl σ))] := by
            intro n
            induction n with
            | zero => intro c hlt; exact absurd hlt (Nat.not_lt_zero _)
            | succ n ih45 =>
              intro c hlt45 hc1 hcc
              have hlu := lstu_le (fh (sSh s k) 8 8) (sTn s k) (svn (sSh s k)) c
              refine V.iload hC (x := nI c) dX13_leastUnfitShares_45 rfl ?_
              refine V.sipush hC 256 dX13_leastUnfitShares_47 rfl ?_
              refine V.icmpN_ge hC c 256 114 dX13_leastUnfitShares_50 rfl rfl rfl (by omega) (by omega) (fun c_50 => ?_) (fun c_50 => ?_)
              · refine V.lset 4 (x := .int (nI (lstu (fh (sSh s k) 8 8) (sTn s k) (svn (sSh s k)) c))) (y := .int (nI (lstu (fh (sSh s k) 8 8) (sTn s k) (svn (sSh s k)) 256))) (congrArg Value.int (by rw [show c = 256 by omega])) rfl (lv' := [some (.ref m), some (.int x), some (.int (nI k)), some (.int (nI (fh (sSh s k) 8 8))), some (.int (nI (lstu (fh (sSh s k) 8 8) (sTn s k) (svn (sSh s k)) 256))), some (.int (nI c)), none]) rfl ?_
                refine V.iload hC (x := nI (lstu (fh (sSh s k) 8 8) (sTn s k) (svn (sSh s k)) 256)) dX13_leastUnfitShares_114 rfl ?_
                have hq : qLeast s x = (0, nI (lstu (fh (sSh s k) 8 8) (sTn s k) (svn (sSh s k)) 256)) := (qS_y hf).trans (qI_y hg1_24)
                refine V.eqw (ws' := [(m, .inr (13, [.ref nw, .ref bf, .ref sv, .ref hy, .int iS, .int rmb, .int eA, .int fA, .ref tx, .int tyd, .ref li, .int ldd, .int (nI (qLeast s x).1), .int siz, .int spt, .int wrg, .int tld, .ref nmb])), (nw, .inl (gI G, 72, .inl σ))]) (by rw [hq]) ?_
                exact hE 116 _ (nI (lstu (fh (sSh s k) 8 8) (sTn s k) (svn (sSh s k)) 256)) () dX13_leastUnfitShares_116 rfl (by rw [hq])
              · refine V.iload hC (x := nI c) dX13_leastUnfitShares_53 rfl ?_
                refine V.iload_n hC (x := nI (fh (sSh s k) 8 8)) dX13_leastUnfitShares_55 rfl ?_
                refine V.iconst hC (-1) dX13_leastUnfitShares_56 rfl ?_
                refine V.ixor hC dX13_leastUnfitShares_57 ?_
                refine V.iand hC dX13_leastUnfitShares_58 ?_
                refine V.topeq (nI (c &&& (255 ^^^ fh (sSh s k) 8 8))) (andn8 (fh (sSh s k) 8 8) c (by omega)) ?_
                refine V.ifN_ne hC (c &&& (255 ^^^ fh (sSh s k) 8 8)) 80 dX13_leastUnfitShares_59 rfl rfl (Nat.lt_trans (andn_lt (by omega)) (by decide)) (fun c_59 => ?_) (fun c_59 => ?_)
                · refine V.iconst hC 0 dX13_leastUnfitShares_80 rfl ?_
                  refine V.istore hC dX13_leastUnfitShares_81 [some (.ref m), some (.int x), some (.int (nI k)), some (.int (nI (fh (sSh s k) 8 8))), some (.int (nI (lstu (fh (sSh s k) 8 8) (sTn s k) (svn (sSh s k)) c))), some (.int (nI c)), some (.int 0)] (Nat.le_of_ble_eq_true rfl) rfl ?_
                  refine V.iload hC (x := 0) dX13_leastUnfitShares_83 rfl ?_
                  refine V.ifN_eq hC 0 104 dX13_leastUnfitShares_85 rfl rfl (by omega) (fun c_85 => ?_) (fun c_85 => ?_)
                  · refine V.iload hC (x := nI (lstu (fh (sSh s k) 8 8) (sTn s k) (svn (sSh s k)) c)) dX13_leastUnfitShares_104 rfl ?_
                    refine V.istore hC dX13_leastUnfitShares_106 [some (.ref m), some (.int x), some (.int (nI k)), some (.int (nI (fh (sSh s k) 8 8))), some (.int (nI (lstu (fh (sSh s k) 8 8) (sTn s k) (svn (sSh s k)) c))), some (.int (nI c)), some (.int 0)] (Nat.le_of_ble_eq_true rfl) rfl ?_
                    refine V.lset 4 (x := .int (nI (lstu (fh (sSh s k) 8 8) (sTn s k) (svn (sSh s k)) c))) (y := .int (nI (lstu (fh (sSh s k) 8 8) (sTn s k) (svn (sSh s k)) (c + 1)))) (congrArg Value.int (congrArg nI (by rw [lstu, if_neg (fun z => c_59 z.1)]))) rfl (lv' := [some (.ref m), some (.int x), some (.int (nI k)), some (.int (nI (fh (sSh s k) 8 8))), some (.int (nI (lstu (fh (sSh s k) 8 8) (sTn s k) (svn (sSh s k)) (c + 1)))), some (.int (nI c)), some (.int 0)]) rfl ?_
                    refine V.iincN hC c 1 dX13_leastUnfitShares_108 rfl [some (.ref m), some (.int x), some (.int (nI k)), some (.int (nI (fh (sSh s k) 8 8))), some (.int (nI (lstu (fh (sSh s k) 8 8) (sTn s k) (svn (sSh s k)) (c + 1)))), some (.int (nI (c + 1))), some (.int 0)] (Nat.le_of_ble_eq_true rfl) rfl rfl rfl ?_
                    refine V.goto hC 45 dX13_leastUnfitShares_111 rfl ?_
                    refine V.drop 6 (lv' := [some (.ref m), some (.int x), some (.int (nI k)), some (.int (nI (fh (sSh s k) 8 8))), some (.int (nI (lstu (fh (sSh s k) 8 8) (sTn s k) (svn (sSh s k)) (c + 1)))), some (.int (nI (c + 1))), none]) rfl ?_
                    exact ih45 (c + 1) (by omega) (by omega) (by omega)
                  · exact absurd c_85 (by decide)
                · refine V.iload hC (x := nI c) dX13_leastUnfitShares_62 rfl ?_
                  refine V.callSr (n := 1) (As := [.int (nI c)]) (rest := []) hC (c_bitCount (kl K) G c (by omega)) SFk0 SFgo0 gX13_leastUnfitShares_J6_bitCount_0f7a4 rfl ⟨rfl, rfl⟩ (by decide +kernel) ⟨by decide, by decide, by decide, by decide⟩ [] rfl (by decide) rfl rfl (Nat.le_of_ble_eq_true rfl) dX13_leastUnfitShares_64 (fun r_64 u_64 hp_64 => ?_)
                  subst hp_64
                  show V G K 7 0 0 67 [some (.ref m), some (.int x), some (.int (nI k)), some (.int (nI (fh (sSh s k) 8 8))), some (.int (nI (lstu (fh (sSh s k) 8 8) (sTn s k) (svn (sSh s k)) c))), some (.int (nI c)), none] [.int (nI (pop8 c))] [(m, .inr (13, [.ref nw, .ref bf, .ref sv, .ref hy, .int iS, .int rmb, .int eA, .int fA, .ref tx, .int tyd, .ref li, .int ldd, .int (nI 0), .int siz, .int spt, .int wrg, .int tld, .ref nmb])), (nw, .inl (gI G, 72, .inl σ))]
                  refine V.aload_n hC (x := m) dX13_leastUnfitShares_67 rfl ?_
                  refine V.iload_n hC (x := nI k) dX13_leastUnfitShares_68 rfl ?_
                  refine V.iconst hC 1 dX13_leastUnfitShares_69 rfl ?_
                  refine V.callVr (n := 2) (As := [.int (nI k), .int 1]) (rest := [.int (nI (pop8 c))]) hC (m_of (kl K) G m nw bf sv hy tx li nmb iS rmb eA fA tyd ldd (nI 0) siz spt wrg tld σ k hk6 1 (by decide)) SFk0 SFgo0 gX13_leastUnfitShares_X13_of rfl ⟨rfl, rfl⟩ (by decide +kernel) ⟨by decide, by decide, by decide, by decide⟩ [0, 1] rfl (by decide) rfl rfl rfl rfl (Nat.le_of_ble_eq_true rfl) dX13_leastUnfitShares_70 (fun r_70 u_70 hp_70 => ?_)
                  have hq_70 := hp_70.trans (show σ (12 + 10 * k + 1) = nI (sTn s k) by rw [show 12 + 10 * k + 1 = 13 + 10 * k by omega]; exact (hR.2.2.2.2.2 k hkn).2.1)
                  subst hq_70
                  show V G K 7 0 0 73 [some (.ref m), some (.int x), some (.int (nI k)), some (.int (nI (fh (sSh s k) 8 8))), some (.int (nI (lstu (fh (sSh s k) 8 8) (sTn s k) (svn (sSh s k)) c))), some (.int (nI c)), none] [.int (nI (sTn s k)), .int (nI (pop8 c))] [(m, .inr (13, [.ref nw, .ref bf, .ref sv, .ref hy, .int iS, .int rmb, .int eA, .int fA, .ref tx, .int tyd, .ref li, .int ldd, .int (nI 0), .int siz, .int spt, .int wrg, .int tld, .ref nmb])), (nw, .inl (gI G, 72, .inl σ))]
                  refine V.icmpN_ne hC (pop8 c) (sTn s k) 80 dX13_leastUnfitShares_73 rfl rfl rfl (by unfold pop8; omega) (by omega) (fun c_73 => ?_) (fun c_73 => ?_)
                  · refine V.iconst hC 0 dX13_leastUnfitShares_80 rfl ?_
                    refine V.istore hC dX13_leastUnfitShares_81 [some (.ref m), some (.int x), some (.int (nI k)), some (.int (nI (fh (sSh s k) 8 8))), some (.int (nI (lstu (fh (sSh s k) 8 8) (sTn s k) (svn (sSh s k)) c))), some (.int (nI c)), some (.int 0)] (Nat.le_of_ble_eq_true rfl) rfl ?_
                    refine V.iload hC (x := 0) dX13_leastUnfitShares_83 rfl ?_
                    refine V.ifN_eq hC 0 104 dX13_leastUnfitShares_85 rfl rfl (by omega) (fun c_85 => ?_) (fun c_85 => ?_)
                    · refine V.iload hC (x := nI (lstu (fh (sSh s k) 8 8) (sTn s k) (svn (sSh s k)) c)) dX13_leastUnfitShares_104 rfl ?_
                      refine V.istore hC dX13_leastUnfitShares_106 [some (.ref m), some (.int x), some (.int (nI k)), some (.int (nI (fh (sSh s k) 8 8))), some (.int (nI (lstu (fh (sSh s k) 8 8) (sTn s k) (svn (sSh s k)) c))), some (.int (nI c)), some (.int 0)] (Nat.le_of_ble_eq_true rfl) rfl ?_
                      refine V.lset 4 (x := .int (nI (lstu (fh (sSh s k) 8 8) (sTn s k) (svn (sSh s k)) c))) (y := .int (nI (lstu (fh (sSh s k) 8 8) (sTn s k) (svn (sSh s k)) (c + 1)))) (congrArg Value.int (congrArg nI (by rw [lstu, if_neg (fun z => c_73 z.2)]))) rfl (lv' := [some (.ref m), some (.int x), some (.int (nI k)), some (.int (nI (fh (sSh s k) 8 8))), some (.int (nI (lstu (fh (sSh s k) 8 8) (sTn s k) (svn (sSh s k)) (c + 1)))), some (.int (nI c)), some (.int 0)]) rfl ?_
                      refine V.iincN hC c 1 dX13_leastUnfitShares_108 rfl [some (.ref m), some (.int x), some (.int (nI k)), some (.int (nI (fh (sSh s k) 8 8))), some (.int (nI (lstu (fh (sSh s k) 8 8) (sTn s k) (svn (sSh s k)) (c + 1)))), some (.int (nI (c + 1))), some (.int 0)] (Nat.le_of_ble_eq_true rfl) rfl rfl rfl ?_
                      refine V.goto hC 45 dX13_leastUnfitShares_111 rfl ?_
                      refine V.drop 6 (lv' := [some (.ref m), some (.int x), some (.int (nI k)), some (.int (nI (fh (sSh s k) 8 8))), some (.int (nI (lstu (fh (sSh s k) 8 8) (sTn s k) (svn (sSh s k)) (c + 1)))), some (.int (nI (c + 1))), none]) rfl ?_
                      exact ih45 (c + 1) (by omega) (by omega) (by omega)
                    · exact absurd c_85 (by decide)
                  · refine V.iconst hC 1 dX13_leastUnfitShares_76 rfl ?_
                    refine V.goto hC 81 dX13_leastUnfitShares_77 rfl ?_
                    refine V.istore hC dX13_leastUnfitShares_81 [some (.ref m), some (.int x), some (.int (nI k)), some (.int (nI (fh (sSh s k) 8 8))), some (.int (nI (lstu (fh (sSh s k) 8 8) (sTn s k) (svn (sSh s k)) c))), some (.int (nI c)), some (.int 1)] (Nat.le_of_ble_eq_true rfl) rfl ?_
                    refine V.iload hC (x := 1) dX13_leastUnfitShares_83 rfl ?_
                    refine V.ifN_eq hC 1 104 dX13_leastUnfitShares_85 rfl rfl (by omega) (fun c_85 => ?_) (fun c_85 => ?_)
                    · exact absurd c_85 (by decide)
                    · refine V.iload hC (x := nI (lstu (fh (sSh s k) 8 8) (sTn s k) (svn (sSh s k)) c)) dX13_leastUnfitShares_88 rfl ?_
                      refine V.aload_n hC (x := m) dX13_leastUnfitShares_90 rfl ?_
                      refine V.iload_n hC (x := nI k) dX13_leastUnfitShares_91 rfl ?_
                      refine V.iload_n hC (x := nI (fh (sSh s k) 8 8)) dX13_leastUnfitShares_92 rfl ?_
                      refine V.iload hC (x := nI c) dX13_leastUnfitShares_93 rfl ?_
                      refine V.callVr (n := 3) (As := [.int (nI k), .int (nI (fh (sSh s k) 8 8)), .int (nI c)]) (rest := [.int (nI (lstu (fh (sSh s k) 8 8) (sTn s k) (svn (sSh s k)) c))]) hC (m_unfit (kl K) G m nw bf sv hy tx li nmb iS rmb eA fA tyd ldd (nI 0) siz spt wrg tld σ s B hR hI hB k hkn (fh (sSh s k) 8 8) c (fh_256 _ _ _ (by decide)) (HB.fh ik.2.2.1 _) (by omega) ((HB.fh ik.2.2.1 8).sub (an_z c_59))) SFk0 SFgo0 gX13_leastUnfitShares_X13_unfit rfl ⟨rfl, rfl⟩ (by decide +kernel) ⟨by decide, by decide, by decide, by decide⟩ [0, 1] rfl (by decide) rfl rfl rfl rfl (Nat.le_of_ble_eq_true rfl) dX13_leastUnfitShares_95 (fun r_95 u_95 hp_95 => ?_)
                      subst hp_95
                      show V G K 7 0 0 98 [some (.ref m), some (.int x), some (.int (nI k)), some (.int (nI (fh (sSh s k) 8 8))), some (.int (nI (lstu (fh (sSh s k) 8 8) (sTn s k) (svn (sSh s k)) c))), some (.int (nI c)), some (.int 1)] [.int (nI (unf c (svn (sSh s k)) (fh (sSh s k) 8 8) 8)), .int (nI (lstu (fh (sSh s k) 8 8) (sTn s k) (svn (sSh s k)) c))] [(m, .inr (13, [.ref nw, .ref bf, .ref sv, .ref hy, .int iS, .int rmb, .int eA, .int fA, .ref tx, .int tyd, .ref li, .int ldd, .int (nI 0), .int siz, .int spt, .int wrg, .int tld, .ref nmb])), (nw, .inl (gI G, 72, .inl σ))]
                      have hul := unf_le c (svn (sSh s k)) (fh (sSh s k) 8 8) 8
                      have hpc : popb c 8 ≤ 4 := by rw [popb8]; omega
                      have hun := unf_an (h := fh (sSh s k) 8 8) (c := c) (v := svn (sSh s k)) (by omega) hpc (fun b hb hq => (((HB.fh ik.2.2.1 8).sub (an_z c_59)) b hb hq).2) 8 (Nat.le_refl 8)
                      refine V.mmin hC q0_ q1_ q2_ q3_ ⟨Nat.le_of_ble_eq_true rfl, Nat.le_of_ble_eq_true rfl, Nat.le_of_ble_eq_true rfl, Nat.le_of_ble_eq_true rfl⟩ dX13_leastUnfitShares_98 ?_
                      refine V.topeq (nI (lstu (fh (sSh s k) 8 8) (sTn s k) (svn (sSh s k)) (c + 1))) ((nI_min (by omega) (by omega)).trans (congrArg nI (by rw [lstu, if_pos ⟨c_59, c_73⟩, hun]))) ?_
                      refine V.goto hC 106 dX13_leastUnfitShares_101 rfl ?_
                      refine V.istore hC dX13_leastUnfitShares_106 [some (.ref m), some (.int x), some (.int (nI k)), some (.int (nI (fh (sSh s k) 8 8))), some (.int (nI (lstu (fh (sSh s k) 8 8) (sTn s k) (svn (sSh s k)) (c + 1)))), some (.int (nI c)), some (.int 1)] (Nat.le_of_ble_eq_true rfl) rfl ?_
                      refine V.iincN hC c 1 dX13_leastUnfitShares_108 rfl [some (.ref m), some (.int x), some (.int (nI k)), some (.int (nI (fh (sSh s k) 8 8))), some (.int (nI (lstu (fh (sSh s k) 8 8) (sTn s k) (svn (sSh s k)) (c + 1)))), some (.int (nI (c + 1))), some (.int 1)] (Nat.le_of_ble_eq_true rfl) rfl rfl rfl ?_
                      refine V.goto hC 45 dX13_leastUnfitShares_111 rfl ?_
                      refine V.drop 6 (lv' := [some (.ref m), some (.int x), some (.int (nI k)), some (.int (nI (fh (sSh s k) 8 8))), some (.int (nI (lstu (fh (sSh s k) 8 8) (sTn s k) (svn (sSh s k)) (c + 1)))), some (.int (nI (c + 1))), none]) rfl ?_
                      exact ih45 (c + 1) (by omega) (by omega) (by omega)
          exact loop45 _ 1 (Nat.lt_succ_self _) (by omega) (by omega)
        · exact absurd c_27 (by decide)
      · have ha_24 : alw 1 (if sTn s k ≤ hc (sSh s k) 8 then 1 else 0) 1 1 = 2 := by rw [if_neg hg1_24]; rfl
        refine V.topeq (nI 0) (by rw [ha_24]; rfl) ?_
        refine V.eqw (ws' := [(m, .inr (13, [.ref nw, .ref bf, .ref sv, .ref hy, .int iS, .int rmb, .int eA, .int fA, .ref tx, .int tyd, .ref li, .int ldd, .int (nI 2), .int siz, .int spt, .int wrg, .int tld, .ref nmb])), (nw, .inl (gI G, 72, .inl σ))]) (by rw [ha_24]) ?_
        refine V.ifN_ne hC 0 32 dX13_leastUnfitShares_27 rfl rfl (by omega) (fun c_27 => ?_) (fun c_27 => ?_)
        · exact absurd c_27 (by decide)
        · refine V.iconst hC 0 dX13_leastUnfitShares_30 rfl ?_
          have hq : qLeast s x = (2, 0) := (qS_y hf).trans (qI_n hg1_24)
          refine V.eqw (ws' := [(m, .inr (13, [.ref nw, .ref bf, .ref sv, .ref hy, .int iS, .int rmb, .int eA, .int fA, .ref tx, .int tyd, .ref li, .int ldd, .int (nI (qLeast s x).1), .int siz, .int spt, .int wrg, .int tld, .ref nmb])), (nw, .inl (gI G, 72, .inl σ))]) (by rw [hq]) ?_
          exact hE 31 _ 0 () dX13_leastUnfitShares_31 rfl (by rw [hq])

set_option maxHeartbeats 4000000 in
set_option maxRecDepth 100000 in
theorem m_rbShare (l : Launch) (G : Gx) (m nw bf sv hy tx li nmb : Nat) (iS rmb eA fA tyd ldd thr siz spt wrg tld : Int32) (σ : Nat → Int32) (s : ASt) (B : Nat) (hR : Rel σ s) (hI : InvA B s) (hB : B < 2 ^ 30) : Ct l G SF0 yX13_rebuildableShare wsX13_rebuildableShare ({ frames := 5, cells := 0, slots := 0, locals := 109 }) [.ref m] [(m, .inr (13, [.ref nw, .ref bf, .ref sv, .ref hy, .int iS, .int rmb, .int eA, .int fA, .ref tx, .int tyd, .ref li, .int ldd, .int thr, .int siz, .int spt, .int wrg, .int tld, .ref nmb])), (nw, .inl (gI G, 72, .inl σ))] mkF (fun (r : UInt32) (_ : Unit) => 1 ≤ sNs s → r = rbsh s) (fun _ : Unit => [(m, .inr (13, [.ref nw, .ref bf, .ref sv, .ref hy, .int iS, .int rmb, .int eA, .int fA, .ref tx, .int tyd, .ref li, .int ldd, .int (nI (if 1 ≤ sNs s then 0 else 1)), .int siz, .int spt, .int wrg, .int tld, .ref nmb])), (nw, .inl (gI G, 72, .inl σ))]) 0 0 := by
  have hb8 := hI.1
  have hs6 := hI.2.1
  refine Ct.ofF (cc := cX13_rebuildableShare) (maxL := 3) (by decide) rfl ⟨by simp [Value.category], Nat.le_of_ble_eq_true rfl⟩ ?_
  intro K hl hC hSF hnm hE
  subst hl
  have q0_ : ∀ w ∈ u_ws RX13 TX13 18, w ∈ wsX13_rebuildableShare := by decide +kernel
  have q1_ : Cond.fieldLink RX13 9 "FeatherSharesModel" "now" "[I" ∈ wsX13_rebuildableShare := by decide +kernel
  show V G K 3 0 0 0 [some (.ref m), none, none] [] [(m, .inr (13, [.ref nw, .ref bf, .ref sv, .ref hy, .int iS, .int rmb, .int eA, .int fA, .ref tx, .int tyd, .ref li, .int ldd, .int thr, .int siz, .int spt, .int wrg, .int tld, .ref nmb])), (nw, .inl (gI G, 72, .inl σ))]
  refine V.iconst hC 0 dX13_rebuildableShare_0 rfl ?_
  refine V.istore_n hC dX13_rebuildableShare_1 [some (.ref m), some (.int 0), none] (Nat.le_of_ble_eq_true rfl) rfl ?_
  refine V.iconst hC 0 dX13_rebuildableShare_2 rfl ?_
  refine V.istore_n hC dX13_rebuildableShare_3 [some (.ref m), some (.int 0), some (.int 0)] (Nat.le_of_ble_eq_true rfl) rfl ?_
  have loop4 : ∀ (n : Nat) (k : Nat), 6 - k < n → (k ≤ sNs s) → V G K 3 0 0 4 [some (.ref m), some (.int (nI (rbt (sSh s) (sTn s) k))), some (.int (nI k))] [] [(m, .inr (13, [.ref nw, .ref bf, .ref sv, .ref hy, .int iS, .int rmb, .int eA, .int fA, .ref tx, .int tyd, .ref li, .int ldd, .int thr, .int siz, .int spt, .int wrg, .int tld, .ref nmb])), (nw, .inl (gI G, 72, .inl σ))] := by
    intro n
    induction n with
    | zero => intro k hlt; exact absurd hlt (Nat.not_lt_zero _)
    | succ n ih4 =>
      intro k hlt4 hk
      have hrb := rbt_le (sSh s) (sTn s) k
      refine V.iload_n hC (x := nI k) dX13_rebuildableShare_4 rfl ?_
      refine V.aload_n hC (x := m) dX13_rebuildableShare_5 rfl ?_
      refine V.getf hC (T := TX13) q0_ 0 q1_ rfl (0) rfl rfl (by decide) (.ref nw) rfl dX13_rebuildableShare_6 ?_
      refine V.iconst hC 1 dX13_rebuildableShare_9 rfl ?_
      refine V.iald hC dX13_rebuildableShare_10 (1) rfl 1 rfl (by omega) (by decide) ?_
      refine V.topeq (nI (sNs s)) hR.2.1 ?_
      refine V.icmpN_ge hC k (sNs s) 36 dX13_rebuildableShare_11 rfl rfl rfl (by omega) (by omega) (fun c_11 => ?_) (fun c_11 => ?_)
      · refine V.lset 1 (x := .int (nI (rbt (sSh s) (sTn s) k))) (y := .int (nI (rbt (sSh s) (sTn s) (sNs s)))) (congrArg Value.int (by rw [show k = sNs s by omega])) rfl (lv' := [some (.ref m), some (.int (nI (rbt (sSh s) (sTn s) (sNs s)))), some (.int (nI k))]) rfl ?_
        refine V.aload_n hC (x := m) dX13_rebuildableShare_36 rfl ?_
        refine V.aload_n hC (x := m) dX13_rebuildableShare_37 rfl ?_
        refine V.getf hC (T := TX13) q0_ 0 q1_ rfl (0) rfl rfl (by decide) (.ref nw) rfl dX13_rebuildableShare_38 ?_
        refine V.iconst hC 1 dX13_rebuildableShare_41 rfl ?_
        refine V.iald hC dX13_rebuildableShare_42 (1) rfl 1 rfl (by omega) (by decide) ?_
        refine V.topeq (nI (sNs s)) hR.2.1 ?_
        refine V.ifN_le hC (sNs s) 50 dX13_rebuildableShare_43 rfl rfl (by omega) (fun c_43 => ?_) (fun c_43 => ?_)
        · refine V.iconst hC 0 dX13_rebuildableShare_50 rfl ?_
          refine V.callV (n := 1) (As := [.int 0]) (rest := []) hC (m_goes (kl K) G m nw bf sv hy tx li nmb iS rmb eA fA tyd ldd thr siz spt wrg tld 0) SFk0 SFgo0 gX13_rebuildableShare_X13_goes rfl ⟨rfl, rfl⟩ (by decide +kernel) ⟨by decide, by decide, by decide, by decide⟩ [0] rfl (by decide) (fun _ => rfl) rfl rfl rfl rfl (Nat.le_of_ble_eq_true rfl) dX13_rebuildableShare_51 (fun r_51 u_51 hp_51 => ?_)
          subst hp_51
          show V G K 3 0 0 54 [some (.ref m), some (.int (nI (rbt (sSh s) (sTn s) (sNs s)))), some (.int (nI k))] [.int (if alw 0 1 1 1 = 0 then 1 else 0)] [(m, .inr (13, [.ref nw, .ref bf, .ref sv, .ref hy, .int iS, .int rmb, .int eA, .int fA, .ref tx, .int tyd, .ref li, .int ldd, .int (nI (alw 0 1 1 1)), .int siz, .int spt, .int wrg, .int tld, .ref nmb])), (nw, .inl (gI G, 72, .inl σ))]
          have ha_51 : alw 0 1 1 1 = 1 := by rfl
          refine V.topeq (nI 0) (by rw [ha_51]; rfl) ?_
          refine V.eqw (ws' := [(m, .inr (13, [.ref nw, .ref bf, .ref sv, .ref hy, .int iS, .int rmb, .int eA, .int fA, .ref tx, .int tyd, .ref li, .int ldd, .int (nI 1), .int siz, .int spt, .int wrg, .int tld, .ref nmb])), (nw, .inl (gI G, 72, .inl σ))]) (by rw [ha_51]) ?_
          refine V.ifN_eq hC 0 70 dX13_rebuildableShare_54 rfl rfl (by omega) (fun c_54 => ?_) (fun c_54 => ?_)
          · refine V.fconst0 hC dX13_rebuildableShare_70 ?_
            have hcd : (if 1 ≤ sNs s then 0 else 1) = 1 := if_neg (by omega)
            refine V.eqw (ws' := [(m, .inr (13, [.ref nw, .ref bf, .ref sv, .ref hy, .int iS, .int rmb, .int eA, .int fA, .ref tx, .int tyd, .ref li, .int ldd, .int (nI (if 1 ≤ sNs s then 0 else 1)), .int siz, .int spt, .int wrg, .int tld, .ref nmb])), (nw, .inl (gI G, 72, .inl σ))]) (by rw [hcd]) ?_
            exact hE 71 _ (FP.fconst0) () dX13_rebuildableShare_71 (fun z => absurd z (by omega))
          · exact absurd c_54 (by decide)
        · refine V.iconst hC 1 dX13_rebuildableShare_46 rfl ?_
          refine V.goto hC 51 dX13_rebuildableShare_47 rfl ?_
          refine V.callV (n := 1) (As := [.int 1]) (rest := []) hC (m_goes (kl K) G m nw bf sv hy tx li nmb iS rmb eA fA tyd ldd thr siz spt wrg tld 1) SFk0 SFgo0 gX13_rebuildableShare_X13_goes rfl ⟨rfl, rfl⟩ (by decide +kernel) ⟨by decide, by decide, by decide, by decide⟩ [0] rfl (by decide) (fun _ => rfl) rfl rfl rfl rfl (Nat.le_of_ble_eq_true rfl) dX13_rebuildableShare_51 (fun r_51 u_51 hp_51 => ?_)
          subst hp_51
          show V G K 3 0 0 54 [some (.ref m), some (.int (nI (rbt (sSh s) (sTn s) (sNs s)))), some (.int (nI k))] [.int (if alw 1 1 1 1 = 0 then 1 else 0)] [(m, .inr (13, [.ref nw, .ref bf, .ref sv, .ref hy, .int iS, .int rmb, .int eA, .int fA, .ref tx, .int tyd, .ref li, .int ldd, .int (nI (alw 1 1 1 1)), .int siz, .int spt, .int wrg, .int tld, .ref nmb])), (nw, .inl (gI G, 72, .inl σ))]
          have ha_51 : alw 1 1 1 1 = 0 := by rfl
          refine V.topeq (nI 1) (by rw [ha_51]; rfl) ?_
          refine V.eqw (ws' := [(m, .inr (13, [.ref nw, .ref bf, .ref sv, .ref hy, .int iS, .int rmb, .int eA, .int fA, .ref tx, .int tyd, .ref li, .int ldd, .int (nI 0), .int siz, .int spt, .int wrg, .int tld, .ref nmb])), (nw, .inl (gI G, 72, .inl σ))]) (by rw [ha_51]) ?_
          refine V.ifN_eq hC 1 70 dX13_rebuildableShare_54 rfl rfl (by omega) (fun c_54 => ?_) (fun c_54 => ?_)
          · exact absurd c_54 (by decide)
          · refine V.iload_n hC (x := nI (rbt (sSh s) (sTn s) (sNs s))) dX13_rebuildableShare_57 rfl ?_
            refine V.i2f hC dX13_rebuildableShare_58 ?_
            refine V.aload_n hC (x := m) dX13_rebuildableShare_59 rfl ?_
            refine V.getf hC (T := TX13) q0_ 0 q1_ rfl (0) rfl rfl (by decide) (.ref nw) rfl dX13_rebuildableShare_60 ?_
            refine V.iconst hC 1 dX13_rebuildableShare_63 rfl ?_
            refine V.iald hC dX13_rebuildableShare_64 (1) rfl 1 rfl (by omega) (by decide) ?_
            refine V.topeq (nI (sNs s)) hR.2.1 ?_
            refine V.i2f hC dX13_rebuildableShare_65 ?_
            refine V.fdiv hC dX13_rebuildableShare_66 (rbsh_ok _ (by have := rbt_le (sSh s) (sTn s) (sNs s); omega) _ (by omega) (by omega)) ?_
            refine V.goto hC 71 dX13_rebuildableShare_67 rfl ?_
            have hcd : (if 1 ≤ sNs s then 0 else 1) = 0 := if_pos (by omega)
            refine V.eqw (ws' := [(m, .inr (13, [.ref nw, .ref bf, .ref sv, .ref hy, .int iS, .int rmb, .int eA, .int fA, .ref tx, .int tyd, .ref li, .int ldd, .int (nI (if 1 ≤ sNs s then 0 else 1)), .int siz, .int spt, .int wrg, .int tld, .ref nmb])), (nw, .inl (gI G, 72, .inl σ))]) (by rw [hcd]) ?_
            exact hE 71 _ (FP.fdiv (FP.i2f (nI (rbt (sSh s) (sTn s) (sNs s)))) (FP.i2f (nI (sNs s)))) () dX13_rebuildableShare_71 (fun _ => rfl)
      · refine V.iload_n hC (x := nI (rbt (sSh s) (sTn s) k)) dX13_rebuildableShare_14 rfl ?_
        refine V.aload_n hC (x := m) dX13_rebuildableShare_15 rfl ?_
        refine V.iload_n hC (x := nI k) dX13_rebuildableShare_16 rfl ?_
        refine V.callVr (n := 1) (As := [.int (nI k)]) (rest := [.int (nI (rbt (sSh s) (sTn s) k))]) hC (m_isEnough (kl K) G m nw bf sv hy tx li nmb iS rmb eA fA tyd ldd thr siz spt wrg tld σ s B hR hI hB k c_11) SFk0 SFgo0 gX13_rebuildableShare_X13_isEnough rfl ⟨rfl, rfl⟩ (by decide +kernel) ⟨by decide, by decide, by decide, by decide⟩ [0, 1] rfl (by decide) rfl rfl rfl rfl (Nat.le_of_ble_eq_true rfl) dX13_rebuildableShare_17 (fun r_17 u_17 hp_17 => ?_)
        subst hp_17
        show V G K 3 0 0 20 [some (.ref m), some (.int (nI (rbt (sSh s) (sTn s) k))), some (.int (nI k))] [.int (if sTn s k ≤ hc (sSh s k) 8 then 1 else 0), .int (nI (rbt (sSh s) (sTn s) k))] [(m, .inr (13, [.ref nw, .ref bf, .ref sv, .ref hy, .int iS, .int rmb, .int eA, .int fA, .ref tx, .int tyd, .ref li, .int ldd, .int thr, .int siz, .int spt, .int wrg, .int tld, .ref nmb])), (nw, .inl (gI G, 72, .inl σ))]
        refine V.if_eq hC 27 dX13_rebuildableShare_20 rfl (fun c_20 => ?_) (fun c_20 => ?_)
        · refine V.iconst hC 0 dX13_rebuildableShare_27 rfl ?_
          refine V.iaddN hC (rbt (sSh s) (sTn s) k) 0 dX13_rebuildableShare_28 rfl rfl ?_
          refine V.topeq (nI (rbt (sSh s) (sTn s) (k + 1))) (congrArg nI (rbt_n (if10 c_20))) ?_
          refine V.istore_n hC dX13_rebuildableShare_29 [some (.ref m), some (.int (nI (rbt (sSh s) (sTn s) (k + 1)))), some (.int (nI k))] (Nat.le_of_ble_eq_true rfl) rfl ?_
          refine V.iincN hC k 1 dX13_rebuildableShare_30 rfl [some (.ref m), some (.int (nI (rbt (sSh s) (sTn s) (k + 1)))), some (.int (nI (k + 1)))] (Nat.le_of_ble_eq_true rfl) rfl rfl rfl ?_
          refine V.goto hC 4 dX13_rebuildableShare_33 rfl ?_
          exact ih4 (k + 1) (by omega) (by omega)
        · refine V.iconst hC 1 dX13_rebuildableShare_23 rfl ?_
          refine V.goto hC 28 dX13_rebuildableShare_24 rfl ?_
          refine V.iaddN hC (rbt (sSh s) (sTn s) k) 1 dX13_rebuildableShare_28 rfl rfl ?_
          refine V.topeq (nI (rbt (sSh s) (sTn s) (k + 1))) (congrArg nI (rbt_y (if10n c_20))) ?_
          refine V.istore_n hC dX13_rebuildableShare_29 [some (.ref m), some (.int (nI (rbt (sSh s) (sTn s) (k + 1)))), some (.int (nI k))] (Nat.le_of_ble_eq_true rfl) rfl ?_
          refine V.iincN hC k 1 dX13_rebuildableShare_30 rfl [some (.ref m), some (.int (nI (rbt (sSh s) (sTn s) (k + 1)))), some (.int (nI (k + 1)))] (Nat.le_of_ble_eq_true rfl) rfl rfl rfl ?_
          refine V.goto hC 4 dX13_rebuildableShare_33 rfl ?_
          exact ih4 (k + 1) (by omega) (by omega)
  exact loop4 _ 0 (Nat.lt_succ_self _) (by omega)
