/-! the document's model: what asks (printed by gen/s63.py) -/
theorem rsn_y {hm : Nat → Int32} {x : Int32} {n : Nat} (h : hm n = x) : rsn hm x n + 1 = rsn hm x (n + 1) := by rw [rsn, if_pos h]
theorem rsn_n {hm : Nat → Int32} {x : Int32} {n : Nat} (h : ¬ hm n = x) : rsn hm x n = rsn hm x (n + 1) := by rw [rsn, if_neg h]; rfl
theorem sec_iff {ns : Nat} {x : Int32} (h : ns ≤ 8) : (¬ x < 0 ∧ ¬ nI ns - 1 < x) ↔ ¬ x < 0 ∧ x < nI ns := bird_iff h
theorem inv_iff (x : Int32) : (¬ x < 1 ∧ ¬ 96 < x) ↔ ¬ x < 1 ∧ x < 97 := by
  rw [Int32.lt_iff_toInt_lt, Int32.lt_iff_toInt_lt, Int32.lt_iff_toInt_lt, show (96 : Int32).toInt = 96 by decide, show (97 : Int32).toInt = 97 by decide]
  omega
set_option maxHeartbeats 4000000 in
set_option maxRecDepth 100000 in
theorem m_birdCount (l : Launch) (G : Gx) (m nw bf sv hy tx li nmb : Nat) (iS rmb eA fA tyd ldd thr siz spt wrg tld : Int32) (σ : Nat → Int32) (s : ASt) (B : Nat) (hR : Rel σ s) (hI : InvA B s) (hB : B < 2 ^ 30) : Ct l G SF0 yX13_birdCount wsX13_birdCount ({ frames := 0, cells := 0, slots := 0, locals := 0 }) [.ref m] [(m, .inr (13, [.ref nw, .ref bf, .ref sv, .ref hy, .int iS, .int rmb, .int eA, .int fA, .ref tx, .int tyd, .ref li, .int ldd, .int thr, .int siz, .int spt, .int wrg, .int tld, .ref nmb])), (nw, .inl (gI G, 72, .inl σ))] mkI (fun (r : Int32) (_ : Unit) => r = nI (sNb s)) (fun _ : Unit => [(m, .inr (13, [.ref nw, .ref bf, .ref sv, .ref hy, .int iS, .int rmb, .int eA, .int fA, .ref tx, .int tyd, .ref li, .int ldd, .int 0, .int siz, .int spt, .int wrg, .int tld, .ref nmb])), (nw, .inl (gI G, 72, .inl σ))]) 0 0 := by
  have hb8 := hI.1
  have hs6 := hI.2.1
  refine Ct.ofI (cc := cX13_birdCount) (maxL := 1) (by decide) rfl ⟨by simp [Value.category], Nat.le_of_ble_eq_true rfl⟩ ?_
  intro K hl hC hSF hnm hE
  subst hl
  have q0_ : ∀ w ∈ u_ws RX13 TX13 18, w ∈ wsX13_birdCount := by decide +kernel
  have q1_ : Cond.fieldLink RX13 38 "FeatherSharesModel" "thrown" "I" ∈ wsX13_birdCount := by decide +kernel
  have q2_ : Cond.fieldLink RX13 9 "FeatherSharesModel" "now" "[I" ∈ wsX13_birdCount := by decide +kernel
  show V G K 1 0 0 0 [some (.ref m)] [] [(m, .inr (13, [.ref nw, .ref bf, .ref sv, .ref hy, .int iS, .int rmb, .int eA, .int fA, .ref tx, .int tyd, .ref li, .int ldd, .int thr, .int siz, .int spt, .int wrg, .int tld, .ref nmb])), (nw, .inl (gI G, 72, .inl σ))]
  refine V.aload_n hC (x := m) dX13_birdCount_0 rfl ?_
  refine V.iconst hC 0 dX13_birdCount_1 rfl ?_
  refine V.putf hC (T := TX13) q0_ tyX13 tyX13_ok nmX13 12 q1_ rfl rfl (0) rfl rfl (by decide) (by simp) rfl rfl dX13_birdCount_2 [(m, .inr (13, [.ref nw, .ref bf, .ref sv, .ref hy, .int iS, .int rmb, .int eA, .int fA, .ref tx, .int tyd, .ref li, .int ldd, .int 0, .int siz, .int spt, .int wrg, .int tld, .ref nmb])), (nw, .inl (gI G, 72, .inl σ))] rfl ?_
  refine V.aload_n hC (x := m) dX13_birdCount_5 rfl ?_
  refine V.getf hC (T := TX13) q0_ 0 q2_ rfl (0) rfl rfl (by decide) (.ref nw) rfl dX13_birdCount_6 ?_
  refine V.iconst hC 0 dX13_birdCount_9 rfl ?_
  refine V.iald hC dX13_birdCount_10 (1) rfl 0 rfl (by omega) (by decide) ?_
  exact hE 11 _ (σ 0) () dX13_birdCount_11 rfl hR.1

set_option maxHeartbeats 4000000 in
set_option maxRecDepth 100000 in
theorem m_secretCount (l : Launch) (G : Gx) (m nw bf sv hy tx li nmb : Nat) (iS rmb eA fA tyd ldd thr siz spt wrg tld : Int32) (σ : Nat → Int32) (s : ASt) (B : Nat) (hR : Rel σ s) (hI : InvA B s) (hB : B < 2 ^ 30) : Ct l G SF0 yX13_secretCount wsX13_secretCount ({ frames := 0, cells := 0, slots := 0, locals := 0 }) [.ref m] [(m, .inr (13, [.ref nw, .ref bf, .ref sv, .ref hy, .int iS, .int rmb, .int eA, .int fA, .ref tx, .int tyd, .ref li, .int ldd, .int thr, .int siz, .int spt, .int wrg, .int tld, .ref nmb])), (nw, .inl (gI G, 72, .inl σ))] mkI (fun (r : Int32) (_ : Unit) => r = nI (sNs s)) (fun _ : Unit => [(m, .inr (13, [.ref nw, .ref bf, .ref sv, .ref hy, .int iS, .int rmb, .int eA, .int fA, .ref tx, .int tyd, .ref li, .int ldd, .int 0, .int siz, .int spt, .int wrg, .int tld, .ref nmb])), (nw, .inl (gI G, 72, .inl σ))]) 0 0 := by
  have hb8 := hI.1
  have hs6 := hI.2.1
  refine Ct.ofI (cc := cX13_secretCount) (maxL := 1) (by decide) rfl ⟨by simp [Value.category], Nat.le_of_ble_eq_true rfl⟩ ?_
  intro K hl hC hSF hnm hE
  subst hl
  have q0_ : ∀ w ∈ u_ws RX13 TX13 18, w ∈ wsX13_secretCount := by decide +kernel
  have q1_ : Cond.fieldLink RX13 38 "FeatherSharesModel" "thrown" "I" ∈ wsX13_secretCount := by decide +kernel
  have q2_ : Cond.fieldLink RX13 9 "FeatherSharesModel" "now" "[I" ∈ wsX13_secretCount := by decide +kernel
  show V G K 1 0 0 0 [some (.ref m)] [] [(m, .inr (13, [.ref nw, .ref bf, .ref sv, .ref hy, .int iS, .int rmb, .int eA, .int fA, .ref tx, .int tyd, .ref li, .int ldd, .int thr, .int siz, .int spt, .int wrg, .int tld, .ref nmb])), (nw, .inl (gI G, 72, .inl σ))]
  refine V.aload_n hC (x := m) dX13_secretCount_0 rfl ?_
  refine V.iconst hC 0 dX13_secretCount_1 rfl ?_
  refine V.putf hC (T := TX13) q0_ tyX13 tyX13_ok nmX13 12 q1_ rfl rfl (0) rfl rfl (by decide) (by simp) rfl rfl dX13_secretCount_2 [(m, .inr (13, [.ref nw, .ref bf, .ref sv, .ref hy, .int iS, .int rmb, .int eA, .int fA, .ref tx, .int tyd, .ref li, .int ldd, .int 0, .int siz, .int spt, .int wrg, .int tld, .ref nmb])), (nw, .inl (gI G, 72, .inl σ))] rfl ?_
  refine V.aload_n hC (x := m) dX13_secretCount_5 rfl ?_
  refine V.getf hC (T := TX13) q0_ 0 q2_ rfl (0) rfl rfl (by decide) (.ref nw) rfl dX13_secretCount_6 ?_
  refine V.iconst hC 1 dX13_secretCount_9 rfl ?_
  refine V.iald hC dX13_secretCount_10 (1) rfl 1 rfl (by omega) (by decide) ?_
  exact hE 11 _ (σ 1) () dX13_secretCount_11 rfl hR.2.1

set_option maxHeartbeats 4000000 in
set_option maxRecDepth 100000 in
theorem m_nestOf (l : Launch) (G : Gx) (m nw bf sv hy tx li nmb : Nat) (iS rmb eA fA tyd ldd thr siz spt wrg tld : Int32) (σ : Nat → Int32) (s : ASt) (B : Nat) (hR : Rel σ s) (hI : InvA B s) (hB : B < 2 ^ 30) (x : Int32) : Ct l G SF0 yX13_nestOf wsX13_nestOf ({ frames := 2, cells := 0, slots := 0, locals := 45 }) [.ref m, .int x] [(m, .inr (13, [.ref nw, .ref bf, .ref sv, .ref hy, .int iS, .int rmb, .int eA, .int fA, .ref tx, .int tyd, .ref li, .int ldd, .int thr, .int siz, .int spt, .int wrg, .int tld, .ref nmb])), (nw, .inl (gI G, 72, .inl σ))] mkI (fun (r : Int32) (_ : Unit) => r = (qNestOf s x).2) (fun _ : Unit => [(m, .inr (13, [.ref nw, .ref bf, .ref sv, .ref hy, .int iS, .int rmb, .int eA, .int fA, .ref tx, .int tyd, .ref li, .int ldd, .int (nI (qNestOf s x).1), .int siz, .int spt, .int wrg, .int tld, .ref nmb])), (nw, .inl (gI G, 72, .inl σ))]) 0 0 := by
  have hb8 := hI.1
  have hs6 := hI.2.1
  refine Ct.ofI (cc := cX13_nestOf) (maxL := 2) (by decide) rfl ⟨by simp [Value.category], Nat.le_of_ble_eq_true rfl⟩ ?_
  intro K hl hC hSF hnm hE
  subst hl
  have q0_ : ∀ w ∈ u_ws RX13 TX13 18, w ∈ wsX13_nestOf := by decide +kernel
  have q1_ : Cond.fieldLink RX13 9 "FeatherSharesModel" "now" "[I" ∈ wsX13_nestOf := by decide +kernel
  show V G K 2 0 0 0 [some (.ref m), some (.int x)] [] [(m, .inr (13, [.ref nw, .ref bf, .ref sv, .ref hy, .int iS, .int rmb, .int eA, .int fA, .ref tx, .int tyd, .ref li, .int ldd, .int thr, .int siz, .int spt, .int wrg, .int tld, .ref nmb])), (nw, .inl (gI G, 72, .inl σ))]
  refine V.aload_n hC (x := m) dX13_nestOf_0 rfl ?_
  refine V.aload_n hC (x := m) dX13_nestOf_1 rfl ?_
  refine V.iload_n hC (x := x) dX13_nestOf_2 rfl ?_
  refine V.callVr (n := 1) (As := [.int x]) (rest := [.ref m]) hC (m_isBird (kl K) G m nw bf sv hy tx li nmb iS rmb eA fA tyd ldd thr siz spt wrg tld σ s B hR hI hB x) SFk0 SFgo0 gX13_nestOf_X13_isBird rfl ⟨rfl, rfl⟩ (by decide +kernel) ⟨by decide, by decide, by decide, by decide⟩ [0, 1] rfl (by decide) rfl rfl rfl rfl (Nat.le_of_ble_eq_true rfl) dX13_nestOf_3 (fun r_3 u_3 hp_3 => ?_)
  subst hp_3
  show V G K 2 0 0 6 [some (.ref m), some (.int x)] [.int (if ¬ x < 0 ∧ x < nI (sNb s) then 1 else 0), .ref m] [(m, .inr (13, [.ref nw, .ref bf, .ref sv, .ref hy, .int iS, .int rmb, .int eA, .int fA, .ref tx, .int tyd, .ref li, .int ldd, .int thr, .int siz, .int spt, .int wrg, .int tld, .ref nmb])), (nw, .inl (gI G, 72, .inl σ))]
  refine V.callV (n := 1) (As := [.int (if ¬ x < 0 ∧ x < nI (sNb s) then 1 else 0)]) (rest := []) hC (m_goes (kl K) G m nw bf sv hy tx li nmb iS rmb eA fA tyd ldd thr siz spt wrg tld (if ¬ x < 0 ∧ x < nI (sNb s) then 1 else 0)) SFk0 SFgo0 gX13_nestOf_X13_goes rfl ⟨rfl, rfl⟩ (by decide +kernel) ⟨by decide, by decide, by decide, by decide⟩ [0] rfl (by decide) (fun _ => rfl) rfl rfl rfl rfl (Nat.le_of_ble_eq_true rfl) dX13_nestOf_6 (fun r_6 u_6 hp_6 => ?_)
  subst hp_6
  show V G K 2 0 0 9 [some (.ref m), some (.int x)] [.int (if alw (if ¬ x < 0 ∧ x < nI (sNb s) then 1 else 0) 1 1 1 = 0 then 1 else 0)] [(m, .inr (13, [.ref nw, .ref bf, .ref sv, .ref hy, .int iS, .int rmb, .int eA, .int fA, .ref tx, .int tyd, .ref li, .int ldd, .int (nI (alw (if ¬ x < 0 ∧ x < nI (sNb s) then 1 else 0) 1 1 1)), .int siz, .int spt, .int wrg, .int tld, .ref nmb])), (nw, .inl (gI G, 72, .inl σ))]
  by_cases hg0_6 : ¬ x < 0 ∧ x < nI (sNb s)
  · have ha_6 : alw (if ¬ x < 0 ∧ x < nI (sNb s) then 1 else 0) 1 1 1 = 0 := by rw [if_pos hg0_6]; rfl
    refine V.topeq (nI 1) (by rw [ha_6]; rfl) ?_
    refine V.eqw (ws' := [(m, .inr (13, [.ref nw, .ref bf, .ref sv, .ref hy, .int iS, .int rmb, .int eA, .int fA, .ref tx, .int tyd, .ref li, .int ldd, .int (nI 0), .int siz, .int spt, .int wrg, .int tld, .ref nmb])), (nw, .inl (gI G, 72, .inl σ))]) (by rw [ha_6]) ?_
    refine V.ifN_eq hC 1 23 dX13_nestOf_9 rfl rfl (by omega) (fun c_9 => ?_) (fun c_9 => ?_)
    · exact absurd c_9 (by decide)
    · obtain ⟨b, hb, hxb⟩ := i32_nat (by omega) hg0_6
      refine V.aload_n hC (x := m) dX13_nestOf_12 rfl ?_
      refine V.getf hC (T := TX13) q0_ 0 q1_ rfl (0) rfl rfl (by decide) (.ref nw) rfl dX13_nestOf_13 ?_
      refine V.iconst hC 4 dX13_nestOf_16 rfl ?_
      refine V.iload_n hC (x := x) dX13_nestOf_17 rfl ?_
      refine V.topeq (nI b) hxb ?_
      refine V.iaddN hC 4 b dX13_nestOf_18 rfl rfl ?_
      refine V.iald hC dX13_nestOf_19 (1) rfl (4 + b) rfl (by omega) (by decide) ?_
      refine V.goto hC 24 dX13_nestOf_20 rfl ?_
      have hq : qNestOf s x = (0, σ (4 + b)) := (qB_y hI.1 hb hxb).trans (congrArg (Prod.mk 0) (hR.2.2.2.2.1 b hb).symm)
      refine V.eqw (ws' := [(m, .inr (13, [.ref nw, .ref bf, .ref sv, .ref hy, .int iS, .int rmb, .int eA, .int fA, .ref tx, .int tyd, .ref li, .int ldd, .int (nI (qNestOf s x).1), .int siz, .int spt, .int wrg, .int tld, .ref nmb])), (nw, .inl (gI G, 72, .inl σ))]) (by rw [hq]) ?_
      exact hE 24 _ (σ (4 + b)) () dX13_nestOf_24 rfl (by rw [hq])
  · have ha_6 : alw (if ¬ x < 0 ∧ x < nI (sNb s) then 1 else 0) 1 1 1 = 1 := by rw [if_neg hg0_6]; rfl
    refine V.topeq (nI 0) (by rw [ha_6]; rfl) ?_
    refine V.eqw (ws' := [(m, .inr (13, [.ref nw, .ref bf, .ref sv, .ref hy, .int iS, .int rmb, .int eA, .int fA, .ref tx, .int tyd, .ref li, .int ldd, .int (nI 1), .int siz, .int spt, .int wrg, .int tld, .ref nmb])), (nw, .inl (gI G, 72, .inl σ))]) (by rw [ha_6]) ?_
    refine V.ifN_eq hC 0 23 dX13_nestOf_9 rfl rfl (by omega) (fun c_9 => ?_) (fun c_9 => ?_)
    · refine V.iconst hC 0 dX13_nestOf_23 rfl ?_
      have hq : qNestOf s x = (1, 0) := qB_n hg0_6
      refine V.eqw (ws' := [(m, .inr (13, [.ref nw, .ref bf, .ref sv, .ref hy, .int iS, .int rmb, .int eA, .int fA, .ref tx, .int tyd, .ref li, .int ldd, .int (nI (qNestOf s x).1), .int siz, .int spt, .int wrg, .int tld, .ref nmb])), (nw, .inl (gI G, 72, .inl σ))]) (by rw [hq]) ?_
      exact hE 24 _ 0 () dX13_nestOf_24 rfl (by rw [hq])
    · exact absurd c_9 (by decide)

set_option maxHeartbeats 4000000 in
set_option maxRecDepth 100000 in
theorem m_birdsIn (l : Launch) (G : Gx) (m nw bf sv hy tx li nmb : Nat) (iS rmb eA fA tyd ldd thr siz spt wrg tld : Int32) (σ : Nat → Int32) (s : ASt) (B : Nat) (hR : Rel σ s) (hI : InvA B s) (hB : B < 2 ^ 30) (x : Int32) : Ct l G SF0 yX13_birdsIn wsX13_birdsIn ({ frames := 2, cells := 0, slots := 0, locals := 45 }) [.ref m, .int x] [(m, .inr (13, [.ref nw, .ref bf, .ref sv, .ref hy, .int iS, .int rmb, .int eA, .int fA, .ref tx, .int tyd, .ref li, .int ldd, .int thr, .int siz, .int spt, .int wrg, .int tld, .ref nmb])), (nw, .inl (gI G, 72, .inl σ))] mkI (fun (r : Int32) (_ : Unit) => r = (qBirdsIn s x).2) (fun _ : Unit => [(m, .inr (13, [.ref nw, .ref bf, .ref sv, .ref hy, .int iS, .int rmb, .int eA, .int fA, .ref tx, .int tyd, .ref li, .int ldd, .int (nI (qBirdsIn s x).1), .int siz, .int spt, .int wrg, .int tld, .ref nmb])), (nw, .inl (gI G, 72, .inl σ))]) 0 0 := by
  have hb8 := hI.1
  have hs6 := hI.2.1
  refine Ct.ofI (cc := cX13_birdsIn) (maxL := 4) (by decide) rfl ⟨by simp [Value.category], Nat.le_of_ble_eq_true rfl⟩ ?_
  intro K hl hC hSF hnm hE
  subst hl
  have q0_ : ∀ w ∈ u_ws RX13 TX13 18, w ∈ wsX13_birdsIn := by decide +kernel
  have q1_ : Cond.fieldLink RX13 9 "FeatherSharesModel" "now" "[I" ∈ wsX13_birdsIn := by decide +kernel
  show V G K 4 0 0 0 [some (.ref m), some (.int x), none, none] [] [(m, .inr (13, [.ref nw, .ref bf, .ref sv, .ref hy, .int iS, .int rmb, .int eA, .int fA, .ref tx, .int tyd, .ref li, .int ldd, .int thr, .int siz, .int spt, .int wrg, .int tld, .ref nmb])), (nw, .inl (gI G, 72, .inl σ))]
  refine V.iconst hC 0 dX13_birdsIn_0 rfl ?_
  refine V.istore_n hC dX13_birdsIn_1 [some (.ref m), some (.int x), some (.int 0), none] (Nat.le_of_ble_eq_true rfl) rfl ?_
  refine V.iconst hC 0 dX13_birdsIn_2 rfl ?_
  refine V.istore_n hC dX13_birdsIn_3 [some (.ref m), some (.int x), some (.int 0), some (.int 0)] (Nat.le_of_ble_eq_true rfl) rfl ?_
  have loop4 : ∀ (n : Nat) (k : Nat), 8 - k < n → (k ≤ sNb s) → V G K 4 0 0 4 [some (.ref m), some (.int x), some (.int (nI (rsn (sHm s) x k))), some (.int (nI k))] [] [(m, .inr (13, [.ref nw, .ref bf, .ref sv, .ref hy, .int iS, .int rmb, .int eA, .int fA, .ref tx, .int tyd, .ref li, .int ldd, .int thr, .int siz, .int spt, .int wrg, .int tld, .ref nmb])), (nw, .inl (gI G, 72, .inl σ))] := by
    intro n
    induction n with
    | zero => intro k hlt; exact absurd hlt (Nat.not_lt_zero _)
    | succ n ih4 =>
      intro k hlt4 hk
      have hrl := rsn_le (sHm s) x k
      refine V.iload_n hC (x := nI k) dX13_birdsIn_4 rfl ?_
      refine V.aload_n hC (x := m) dX13_birdsIn_5 rfl ?_
      refine V.getf hC (T := TX13) q0_ 0 q1_ rfl (0) rfl rfl (by decide) (.ref nw) rfl dX13_birdsIn_6 ?_
      refine V.iconst hC 0 dX13_birdsIn_9 rfl ?_
      refine V.iald hC dX13_birdsIn_10 (1) rfl 0 rfl (by omega) (by decide) ?_
      refine V.topeq (nI (sNb s)) hR.1 ?_
      refine V.icmpN_ge hC k (sNb s) 40 dX13_birdsIn_11 rfl rfl rfl (by omega) (by omega) (fun c_11 => ?_) (fun c_11 => ?_)
      · refine V.aload_n hC (x := m) dX13_birdsIn_40 rfl ?_
        refine V.iload_n hC (x := x) dX13_birdsIn_41 rfl ?_
        refine V.callSr (n := 1) (As := [.int x]) (rest := [.ref m]) hC (m_isNest (kl K) G x) SFk0 SFgo0 gX13_birdsIn_X13_isNest rfl ⟨rfl, rfl⟩ (by decide +kernel) ⟨by decide, by decide, by decide, by decide⟩ [] rfl (by decide) rfl rfl (Nat.le_of_ble_eq_true rfl) dX13_birdsIn_42 (fun r_42 u_42 hp_42 => ?_)
        subst hp_42
        show V G K 4 0 0 45 [some (.ref m), some (.int x), some (.int (nI (rsn (sHm s) x k))), some (.int (nI k))] [.int (if ¬ x < 0 ∧ x < 4 then 1 else 0), .ref m] [(m, .inr (13, [.ref nw, .ref bf, .ref sv, .ref hy, .int iS, .int rmb, .int eA, .int fA, .ref tx, .int tyd, .ref li, .int ldd, .int thr, .int siz, .int spt, .int wrg, .int tld, .ref nmb])), (nw, .inl (gI G, 72, .inl σ))]
        refine V.callV (n := 1) (As := [.int (if ¬ x < 0 ∧ x < 4 then 1 else 0)]) (rest := []) hC (m_goes (kl K) G m nw bf sv hy tx li nmb iS rmb eA fA tyd ldd thr siz spt wrg tld (if ¬ x < 0 ∧ x < 4 then 1 else 0)) SFk0 SFgo0 gX13_birdsIn_X13_goes rfl ⟨rfl, rfl⟩ (by decide +kernel) ⟨by decide, by decide, by decide, by decide⟩ [0] rfl (by decide) (fun _ => rfl) rfl rfl rfl rfl (Nat.le_of_ble_eq_true rfl) dX13_birdsIn_45 (fun r_45 u_45 hp_45 => ?_)
        subst hp_45
        show V G K 4 0 0 48 [some (.ref m), some (.int x), some (.int (nI (rsn (sHm s) x k))), some (.int (nI k))] [.int (if alw (if ¬ x < 0 ∧ x < 4 then 1 else 0) 1 1 1 = 0 then 1 else 0)] [(m, .inr (13, [.ref nw, .ref bf, .ref sv, .ref hy, .int iS, .int rmb, .int eA, .int fA, .ref tx, .int tyd, .ref li, .int ldd, .int (nI (alw (if ¬ x < 0 ∧ x < 4 then 1 else 0) 1 1 1)), .int siz, .int spt, .int wrg, .int tld, .ref nmb])), (nw, .inl (gI G, 72, .inl σ))]
        by_cases hg0_45 : ¬ x < 0 ∧ x < 4
        · have ha_45 : alw (if ¬ x < 0 ∧ x < 4 then 1 else 0) 1 1 1 = 0 := by rw [if_pos hg0_45]; rfl
          refine V.topeq (nI 1) (by rw [ha_45]; rfl) ?_
          refine V.eqw (ws' := [(m, .inr (13, [.ref nw, .ref bf, .ref sv, .ref hy, .int iS, .int rmb, .int eA, .int fA, .ref tx, .int tyd, .ref li, .int ldd, .int (nI 0), .int siz, .int spt, .int wrg, .int tld, .ref nmb])), (nw, .inl (gI G, 72, .inl σ))]) (by rw [ha_45]) ?_
          refine V.ifN_eq hC 1 55 dX13_birdsIn_48 rfl rfl (by omega) (fun c_48 => ?_) (fun c_48 => ?_)
          · exact absurd c_48 (by decide)
          · refine V.iload_n hC (x := nI (rsn (sHm s) x k)) dX13_birdsIn_51 rfl ?_
            refine V.goto hC 56 dX13_birdsIn_52 rfl ?_
            have hq : qBirdsIn s x = (0, nI (rsn (sHm s) x k)) := (qN_y hg0_45).trans (by rw [show k = sNb s by omega])
            refine V.eqw (ws' := [(m, .inr (13, [.ref nw, .ref bf, .ref sv, .ref hy, .int iS, .int rmb, .int eA, .int fA, .ref tx, .int tyd, .ref li, .int ldd, .int (nI (qBirdsIn s x).1), .int siz, .int spt, .int wrg, .int tld, .ref nmb])), (nw, .inl (gI G, 72, .inl σ))]) (by rw [hq]) ?_
            exact hE 56 _ (nI (rsn (sHm s) x k)) () dX13_birdsIn_56 rfl (by rw [hq])
        · have ha_45 : alw (if ¬ x < 0 ∧ x < 4 then 1 else 0) 1 1 1 = 1 := by rw [if_neg hg0_45]; rfl
          refine V.topeq (nI 0) (by rw [ha_45]; rfl) ?_
          refine V.eqw (ws' := [(m, .inr (13, [.ref nw, .ref bf, .ref sv, .ref hy, .int iS, .int rmb, .int eA, .int fA, .ref tx, .int tyd, .ref li, .int ldd, .int (nI 1), .int siz, .int spt, .int wrg, .int tld, .ref nmb])), (nw, .inl (gI G, 72, .inl σ))]) (by rw [ha_45]) ?_
          refine V.ifN_eq hC 0 55 dX13_birdsIn_48 rfl rfl (by omega) (fun c_48 => ?_) (fun c_48 => ?_)
          · refine V.iconst hC 0 dX13_birdsIn_55 rfl ?_
            have hq : qBirdsIn s x = (1, 0) := qN_n hg0_45
            refine V.eqw (ws' := [(m, .inr (13, [.ref nw, .ref bf, .ref sv, .ref hy, .int iS, .int rmb, .int eA, .int fA, .ref tx, .int tyd, .ref li, .int ldd, .int (nI (qBirdsIn s x).1), .int siz, .int spt, .int wrg, .int tld, .ref nmb])), (nw, .inl (gI G, 72, .inl σ))]) (by rw [hq]) ?_
            exact hE 56 _ 0 () dX13_birdsIn_56 rfl (by rw [hq])
          · exact absurd c_48 (by decide)
      · refine V.iload_n hC (x := nI (rsn (sHm s) x k)) dX13_birdsIn_14 rfl ?_
        refine V.aload_n hC (x := m) dX13_birdsIn_15 rfl ?_
        refine V.getf hC (T := TX13) q0_ 0 q1_ rfl (0) rfl rfl (by decide) (.ref nw) rfl dX13_birdsIn_16 ?_
        refine V.iconst hC 4 dX13_birdsIn_19 rfl ?_
        refine V.iload_n hC (x := nI k) dX13_birdsIn_20 rfl ?_
        refine V.iaddN hC 4 k dX13_birdsIn_21 rfl rfl ?_
        refine V.iald hC dX13_birdsIn_22 (1) rfl (4 + k) rfl (by omega) (by decide) ?_
        refine V.topeq (sHm s k) (hR.2.2.2.2.1 k c_11) ?_
        refine V.iload_n hC (x := x) dX13_birdsIn_23 rfl ?_
        refine V.icmp_ne hC 31 dX13_birdsIn_24 rfl (fun c_24 => ?_) (fun c_24 => ?_)
        · refine V.iconst hC 0 dX13_birdsIn_31 rfl ?_
          refine V.iaddN hC (rsn (sHm s) x k) 0 dX13_birdsIn_32 rfl rfl ?_
          refine V.topeq (nI (rsn (sHm s) x (k + 1))) (congrArg nI (rsn_n c_24)) ?_
          refine V.istore_n hC dX13_birdsIn_33 [some (.ref m), some (.int x), some (.int (nI (rsn (sHm s) x (k + 1)))), some (.int (nI k))] (Nat.le_of_ble_eq_true rfl) rfl ?_
          refine V.iincN hC k 1 dX13_birdsIn_34 rfl [some (.ref m), some (.int x), some (.int (nI (rsn (sHm s) x (k + 1)))), some (.int (nI (k + 1)))] (Nat.le_of_ble_eq_true rfl) rfl rfl rfl ?_
          refine V.goto hC 4 dX13_birdsIn_37 rfl ?_
          exact ih4 (k + 1) (by omega) (by omega)
        · refine V.iconst hC 1 dX13_birdsIn_27 rfl ?_
          refine V.goto hC 32 dX13_birdsIn_28 rfl ?_
          refine V.iaddN hC (rsn (sHm s) x k) 1 dX13_birdsIn_32 rfl rfl ?_
          refine V.topeq (nI (rsn (sHm s) x (k + 1))) (congrArg nI (rsn_y c_24)) ?_
          refine V.istore_n hC dX13_birdsIn_33 [some (.ref m), some (.int x), some (.int (nI (rsn (sHm s) x (k + 1)))), some (.int (nI k))] (Nat.le_of_ble_eq_true rfl) rfl ?_
          refine V.iincN hC k 1 dX13_birdsIn_34 rfl [some (.ref m), some (.int x), some (.int (nI (rsn (sHm s) x (k + 1)))), some (.int (nI (k + 1)))] (Nat.le_of_ble_eq_true rfl) rfl rfl rfl ?_
          refine V.goto hC 4 dX13_birdsIn_37 rfl ?_
          exact ih4 (k + 1) (by omega) (by omega)
  exact loop4 _ 0 (Nat.lt_succ_self _) (by omega)

set_option maxHeartbeats 4000000 in
set_option maxRecDepth 100000 in
theorem m_sharesOf (l : Launch) (G : Gx) (m nw bf sv hy tx li nmb : Nat) (iS rmb eA fA tyd ldd thr siz spt wrg tld : Int32) (σ : Nat → Int32) (s : ASt) (B : Nat) (hR : Rel σ s) (hI : InvA B s) (hB : B < 2 ^ 30) (x : Int32) : Ct l G SF0 yX13_sharesOf wsX13_sharesOf ({ frames := 4, cells := 0, slots := 0, locals := 88 }) [.ref m, .int x] [(m, .inr (13, [.ref nw, .ref bf, .ref sv, .ref hy, .int iS, .int rmb, .int eA, .int fA, .ref tx, .int tyd, .ref li, .int ldd, .int thr, .int siz, .int spt, .int wrg, .int tld, .ref nmb])), (nw, .inl (gI G, 72, .inl σ))] mkI (fun (r : Int32) (_ : Unit) => r = (qSharesOf s x).2) (fun _ : Unit => [(m, .inr (13, [.ref nw, .ref bf, .ref sv, .ref hy, .int iS, .int rmb, .int eA, .int fA, .ref tx, .int tyd, .ref li, .int ldd, .int (nI (qSharesOf s x).1), .int siz, .int spt, .int wrg, .int tld, .ref nmb])), (nw, .inl (gI G, 72, .inl σ))]) 0 0 := by
  have hb8 := hI.1
  have hs6 := hI.2.1
  refine Ct.ofI (cc := cX13_sharesOf) (maxL := 2) (by decide) rfl ⟨by simp [Value.category], Nat.le_of_ble_eq_true rfl⟩ ?_
  intro K hl hC hSF hnm hE
  subst hl
  show V G K 2 0 0 0 [some (.ref m), some (.int x)] [] [(m, .inr (13, [.ref nw, .ref bf, .ref sv, .ref hy, .int iS, .int rmb, .int eA, .int fA, .ref tx, .int tyd, .ref li, .int ldd, .int thr, .int siz, .int spt, .int wrg, .int tld, .ref nmb])), (nw, .inl (gI G, 72, .inl σ))]
  refine V.aload_n hC (x := m) dX13_sharesOf_0 rfl ?_
  refine V.aload_n hC (x := m) dX13_sharesOf_1 rfl ?_
  refine V.iload_n hC (x := x) dX13_sharesOf_2 rfl ?_
  refine V.callVr (n := 1) (As := [.int x]) (rest := [.ref m]) hC (m_isBird (kl K) G m nw bf sv hy tx li nmb iS rmb eA fA tyd ldd thr siz spt wrg tld σ s B hR hI hB x) SFk0 SFgo0 gX13_sharesOf_X13_isBird rfl ⟨rfl, rfl⟩ (by decide +kernel) ⟨by decide, by decide, by decide, by decide⟩ [0, 1] rfl (by decide) rfl rfl rfl rfl (Nat.le_of_ble_eq_true rfl) dX13_sharesOf_3 (fun r_3 u_3 hp_3 => ?_)
  subst hp_3
  show V G K 2 0 0 6 [some (.ref m), some (.int x)] [.int (if ¬ x < 0 ∧ x < nI (sNb s) then 1 else 0), .ref m] [(m, .inr (13, [.ref nw, .ref bf, .ref sv, .ref hy, .int iS, .int rmb, .int eA, .int fA, .ref tx, .int tyd, .ref li, .int ldd, .int thr, .int siz, .int spt, .int wrg, .int tld, .ref nmb])), (nw, .inl (gI G, 72, .inl σ))]
  refine V.callV (n := 1) (As := [.int (if ¬ x < 0 ∧ x < nI (sNb s) then 1 else 0)]) (rest := []) hC (m_goes (kl K) G m nw bf sv hy tx li nmb iS rmb eA fA tyd ldd thr siz spt wrg tld (if ¬ x < 0 ∧ x < nI (sNb s) then 1 else 0)) SFk0 SFgo0 gX13_sharesOf_X13_goes rfl ⟨rfl, rfl⟩ (by decide +kernel) ⟨by decide, by decide, by decide, by decide⟩ [0] rfl (by decide) (fun _ => rfl) rfl rfl rfl rfl (Nat.le_of_ble_eq_true rfl) dX13_sharesOf_6 (fun r_6 u_6 hp_6 => ?_)
  subst hp_6
  show V G K 2 0 0 9 [some (.ref m), some (.int x)] [.int (if alw (if ¬ x < 0 ∧ x < nI (sNb s) then 1 else 0) 1 1 1 = 0 then 1 else 0)] [(m, .inr (13, [.ref nw, .ref bf, .ref sv, .ref hy, .int iS, .int rmb, .int eA, .int fA, .ref tx, .int tyd, .ref li, .int ldd, .int (nI (alw (if ¬ x < 0 ∧ x < nI (sNb s) then 1 else 0) 1 1 1)), .int siz, .int spt, .int wrg, .int tld, .ref nmb])), (nw, .inl (gI G, 72, .inl σ))]
  by_cases hg0_6 : ¬ x < 0 ∧ x < nI (sNb s)
  · have ha_6 : alw (if ¬ x < 0 ∧ x < nI (sNb s) then 1 else 0) 1 1 1 = 0 := by rw [if_pos hg0_6]; rfl
    refine V.topeq (nI 1) (by rw [ha_6]; rfl) ?_
    refine V.eqw (ws' := [(m, .inr (13, [.ref nw, .ref bf, .ref sv, .ref hy, .int iS, .int rmb, .int eA, .int fA, .ref tx, .int tyd, .ref li, .int ldd, .int (nI 0), .int siz, .int spt, .int wrg, .int tld, .ref nmb])), (nw, .inl (gI G, 72, .inl σ))]) (by rw [ha_6]) ?_
    refine V.ifN_eq hC 1 20 dX13_sharesOf_9 rfl rfl (by omega) (fun c_9 => ?_) (fun c_9 => ?_)
    · exact absurd c_9 (by decide)
    · obtain ⟨b, hb, hxb⟩ := i32_nat (by omega) hg0_6
      refine V.aload_n hC (x := m) dX13_sharesOf_12 rfl ?_
      refine V.iload_n hC (x := x) dX13_sharesOf_13 rfl ?_
      refine V.topeq (nI b) hxb ?_
      refine V.callVr (n := 1) (As := [.int (nI b)]) (rest := []) hC (m_sharesWith (kl K) G m nw bf sv hy tx li nmb iS rmb eA fA tyd ldd (nI 0) siz spt wrg tld σ s B hR hI hB b hb) SFk0 SFgo0 gX13_sharesOf_X13_sharesWith rfl ⟨rfl, rfl⟩ (by decide +kernel) ⟨by decide, by decide, by decide, by decide⟩ [0, 1] rfl (by decide) rfl rfl rfl rfl (Nat.le_of_ble_eq_true rfl) dX13_sharesOf_14 (fun r_14 u_14 hp_14 => ?_)
      subst hp_14
      show V G K 2 0 0 17 [some (.ref m), some (.int x)] [.int (nI (ldn (sSh s) b (sNs s)))] [(m, .inr (13, [.ref nw, .ref bf, .ref sv, .ref hy, .int iS, .int rmb, .int eA, .int fA, .ref tx, .int tyd, .ref li, .int ldd, .int (nI 0), .int siz, .int spt, .int wrg, .int tld, .ref nmb])), (nw, .inl (gI G, 72, .inl σ))]
      refine V.goto hC 21 dX13_sharesOf_17 rfl ?_
      have hq : qSharesOf s x = (0, nI (ldn (sSh s) b (sNs s))) := qB_y hI.1 hb hxb
      refine V.eqw (ws' := [(m, .inr (13, [.ref nw, .ref bf, .ref sv, .ref hy, .int iS, .int rmb, .int eA, .int fA, .ref tx, .int tyd, .ref li, .int ldd, .int (nI (qSharesOf s x).1), .int siz, .int spt, .int wrg, .int tld, .ref nmb])), (nw, .inl (gI G, 72, .inl σ))]) (by rw [hq]) ?_
      exact hE 21 _ (nI (ldn (sSh s) b (sNs s))) () dX13_sharesOf_21 rfl (by rw [hq])
  · have ha_6 : alw (if ¬ x < 0 ∧ x < nI (sNb s) then 1 else 0) 1 1 1 = 1 := by rw [if_neg hg0_6]; rfl
    refine V.topeq (nI 0) (by rw [ha_6]; rfl) ?_
    refine V.eqw (ws' := [(m, .inr (13, [.ref nw, .ref bf, .ref sv, .ref hy, .int iS, .int rmb, .int eA, .int fA, .ref tx, .int tyd, .ref li, .int ldd, .int (nI 1), .int siz, .int spt, .int wrg, .int tld, .ref nmb])), (nw, .inl (gI G, 72, .inl σ))]) (by rw [ha_6]) ?_
    refine V.ifN_eq hC 0 20 dX13_sharesOf_9 rfl rfl (by omega) (fun c_9 => ?_) (fun c_9 => ?_)
    · refine V.iconst hC 0 dX13_sharesOf_20 rfl ?_
      have hq : qSharesOf s x = (1, 0) := qB_n hg0_6
      refine V.eqw (ws' := [(m, .inr (13, [.ref nw, .ref bf, .ref sv, .ref hy, .int iS, .int rmb, .int eA, .int fA, .ref tx, .int tyd, .ref li, .int ldd, .int (nI (qSharesOf s x).1), .int siz, .int spt, .int wrg, .int tld, .ref nmb])), (nw, .inl (gI G, 72, .inl σ))]) (by rw [hq]) ?_
      exact hE 21 _ 0 () dX13_sharesOf_21 rfl (by rw [hq])
    · exact absurd c_9 (by decide)

set_option maxHeartbeats 4000000 in
set_option maxRecDepth 100000 in
theorem m_threshold (l : Launch) (G : Gx) (m nw bf sv hy tx li nmb : Nat) (iS rmb eA fA tyd ldd thr siz spt wrg tld : Int32) (σ : Nat → Int32) (s : ASt) (B : Nat) (hR : Rel σ s) (hI : InvA B s) (hB : B < 2 ^ 30) (x : Int32) : Ct l G SF0 yX13_threshold wsX13_threshold ({ frames := 3, cells := 0, slots := 0, locals := 61 }) [.ref m, .int x] [(m, .inr (13, [.ref nw, .ref bf, .ref sv, .ref hy, .int iS, .int rmb, .int eA, .int fA, .ref tx, .int tyd, .ref li, .int ldd, .int thr, .int siz, .int spt, .int wrg, .int tld, .ref nmb])), (nw, .inl (gI G, 72, .inl σ))] mkI (fun (r : Int32) (_ : Unit) => r = (qThr s x).2) (fun _ : Unit => [(m, .inr (13, [.ref nw, .ref bf, .ref sv, .ref hy, .int iS, .int rmb, .int eA, .int fA, .ref tx, .int tyd, .ref li, .int ldd, .int (nI (qThr s x).1), .int siz, .int spt, .int wrg, .int tld, .ref nmb])), (nw, .inl (gI G, 72, .inl σ))]) 0 0 := by
  have hb8 := hI.1
  have hs6 := hI.2.1
  refine Ct.ofI (cc := cX13_threshold) (maxL := 3) (by decide) rfl ⟨by simp [Value.category], Nat.le_of_ble_eq_true rfl⟩ ?_
  intro K hl hC hSF hnm hE
  subst hl
  show V G K 3 0 0 0 [some (.ref m), some (.int x), none] [] [(m, .inr (13, [.ref nw, .ref bf, .ref sv, .ref hy, .int iS, .int rmb, .int eA, .int fA, .ref tx, .int tyd, .ref li, .int ldd, .int thr, .int siz, .int spt, .int wrg, .int tld, .ref nmb])), (nw, .inl (gI G, 72, .inl σ))]
  refine V.aload_n hC (x := m) dX13_threshold_0 rfl ?_
  refine V.iload_n hC (x := x) dX13_threshold_1 rfl ?_
  refine V.callVr (n := 1) (As := [.int x]) (rest := []) hC (m_find (kl K) G m nw bf sv hy tx li nmb iS rmb eA fA tyd ldd thr siz spt wrg tld σ s B hR hI hB x) SFk0 SFgo0 gX13_threshold_X13_find rfl ⟨rfl, rfl⟩ (by decide +kernel) ⟨by decide, by decide, by decide, by decide⟩ [0, 1] rfl (by decide) rfl rfl rfl rfl (Nat.le_of_ble_eq_true rfl) dX13_threshold_2 (fun r_2 u_2 hp_2 => ?_)
  rcases hf : fd (sNu s) x (sNs s) with _ | k
  · rw [hf] at hp_2
    subst hp_2
    show V G K 3 0 0 5 [some (.ref m), some (.int x), none] [.int (-1)] [(m, .inr (13, [.ref nw, .ref bf, .ref sv, .ref hy, .int iS, .int rmb, .int eA, .int fA, .ref tx, .int tyd, .ref li, .int ldd, .int thr, .int siz, .int spt, .int wrg, .int tld, .ref nmb])), (nw, .inl (gI G, 72, .inl σ))]
    refine V.istore_n hC dX13_threshold_5 [some (.ref m), some (.int x), some (.int (-1))] (Nat.le_of_ble_eq_true rfl) rfl ?_
    refine V.aload_n hC (x := m) dX13_threshold_6 rfl ?_
    refine V.iload_n hC (x := -1) dX13_threshold_7 rfl ?_
    refine V.iconst hC (-1) dX13_threshold_8 rfl ?_
    refine V.icmp_eq hC 16 dX13_threshold_9 rfl (fun c_9 => ?_) (fun c_9 => ?_)
    · refine V.iconst hC 0 dX13_threshold_16 rfl ?_
      refine V.callV (n := 1) (As := [.int 0]) (rest := []) hC (m_goes (kl K) G m nw bf sv hy tx li nmb iS rmb eA fA tyd ldd thr siz spt wrg tld 0) SFk0 SFgo0 gX13_threshold_X13_goes rfl ⟨rfl, rfl⟩ (by decide +kernel) ⟨by decide, by decide, by decide, by decide⟩ [0] rfl (by decide) (fun _ => rfl) rfl rfl rfl rfl (Nat.le_of_ble_eq_true rfl) dX13_threshold_17 (fun r_17 u_17 hp_17 => ?_)
      subst hp_17
      show V G K 3 0 0 20 [some (.ref m), some (.int x), some (.int (-1))] [.int (if alw 0 1 1 1 = 0 then 1 else 0)] [(m, .inr (13, [.ref nw, .ref bf, .ref sv, .ref hy, .int iS, .int rmb, .int eA, .int fA, .ref tx, .int tyd, .ref li, .int ldd, .int (nI (alw 0 1 1 1)), .int siz, .int spt, .int wrg, .int tld, .ref nmb])), (nw, .inl (gI G, 72, .inl σ))]
      have ha_17 : alw 0 1 1 1 = 1 := by rfl
      refine V.topeq (nI 0) (by rw [ha_17]; rfl) ?_
      refine V.eqw (ws' := [(m, .inr (13, [.ref nw, .ref bf, .ref sv, .ref hy, .int iS, .int rmb, .int eA, .int fA, .ref tx, .int tyd, .ref li, .int ldd, .int (nI 1), .int siz, .int spt, .int wrg, .int tld, .ref nmb])), (nw, .inl (gI G, 72, .inl σ))]) (by rw [ha_17]) ?_
      refine V.ifN_eq hC 0 32 dX13_threshold_20 rfl rfl (by omega) (fun c_20 => ?_) (fun c_20 => ?_)
      · refine V.iconst hC 0 dX13_threshold_32 rfl ?_
        have hq : qThr s x = (1, 0) := qS_n hf
        refine V.eqw (ws' := [(m, .inr (13, [.ref nw, .ref bf, .ref sv, .ref hy, .int iS, .int rmb, .int eA, .int fA, .ref tx, .int tyd, .ref li, .int ldd, .int (nI (qThr s x).1), .int siz, .int spt, .int wrg, .int tld, .ref nmb])), (nw, .inl (gI G, 72, .inl σ))]) (by rw [hq]) ?_
        exact hE 33 _ 0 () dX13_threshold_33 rfl (by rw [hq])
      · exact absurd c_20 (by decide)
    · exact absurd rfl c_9
  · rw [hf] at hp_2
    subst hp_2
    have hkn := (fd_lt hf hs6).1
    have hk6 := (fd_lt hf hs6).2
    have ik := hI.2.2.1 k hkn
    show V G K 3 0 0 5 [some (.ref m), some (.int x), none] [.int (nI k)] [(m, .inr (13, [.ref nw, .ref bf, .ref sv, .ref hy, .int iS, .int rmb, .int eA, .int fA, .ref tx, .int tyd, .ref li, .int ldd, .int thr, .int siz, .int spt, .int wrg, .int tld, .ref nmb])), (nw, .inl (gI G, 72, .inl σ))]
    refine V.istore_n hC dX13_threshold_5 [some (.ref m), some (.int x), some (.int (nI k))] (Nat.le_of_ble_eq_true rfl) rfl ?_
    refine V.aload_n hC (x := m) dX13_threshold_6 rfl ?_
    refine V.iload_n hC (x := nI k) dX13_threshold_7 rfl ?_
    refine V.iconst hC (-1) dX13_threshold_8 rfl ?_
    refine V.icmp_eq hC 16 dX13_threshold_9 rfl (fun c_9 => ?_) (fun c_9 => ?_)
    · exact absurd c_9 (nI_m1 (by omega))
    · refine V.iconst hC 1 dX13_threshold_12 rfl ?_
      refine V.goto hC 17 dX13_threshold_13 rfl ?_
      refine V.callV (n := 1) (As := [.int 1]) (rest := []) hC (m_goes (kl K) G m nw bf sv hy tx li nmb iS rmb eA fA tyd ldd thr siz spt wrg tld 1) SFk0 SFgo0 gX13_threshold_X13_goes rfl ⟨rfl, rfl⟩ (by decide +kernel) ⟨by decide, by decide, by decide, by decide⟩ [0] rfl (by decide) (fun _ => rfl) rfl rfl rfl rfl (Nat.le_of_ble_eq_true rfl) dX13_threshold_17 (fun r_17 u_17 hp_17 => ?_)
      subst hp_17
      show V G K 3 0 0 20 [some (.ref m), some (.int x), some (.int (nI k))] [.int (if alw 1 1 1 1 = 0 then 1 else 0)] [(m, .inr (13, [.ref nw, .ref bf, .ref sv, .ref hy, .int iS, .int rmb, .int eA, .int fA, .ref tx, .int tyd, .ref li, .int ldd, .int (nI (alw 1 1 1 1)), .int siz, .int spt, .int wrg, .int tld, .ref nmb])), (nw, .inl (gI G, 72, .inl σ))]
      have ha_17 : alw 1 1 1 1 = 0 := by rfl
      refine V.topeq (nI 1) (by rw [ha_17]; rfl) ?_
      refine V.eqw (ws' := [(m, .inr (13, [.ref nw, .ref bf, .ref sv, .ref hy, .int iS, .int rmb, .int eA, .int fA, .ref tx, .int tyd, .ref li, .int ldd, .int (nI 0), .int siz, .int spt, .int wrg, .int tld, .ref nmb])), (nw, .inl (gI G, 72, .inl σ))]) (by rw [ha_17]) ?_
      refine V.ifN_eq hC 1 32 dX13_threshold_20 rfl rfl (by omega) (fun c_20 => ?_) (fun c_20 => ?_)
      · exact absurd c_20 (by decide)
      · refine V.aload_n hC (x := m) dX13_threshold_23 rfl ?_
        refine V.iload_n hC (x := nI k) dX13_threshold_24 rfl ?_
        refine V.iconst hC 1 dX13_threshold_25 rfl ?_
        refine V.callVr (n := 2) (As := [.int (nI k), .int 1]) (rest := []) hC (m_of (kl K) G m nw bf sv hy tx li nmb iS rmb eA fA tyd ldd (nI 0) siz spt wrg tld σ k hk6 1 (by decide)) SFk0 SFgo0 gX13_threshold_X13_of rfl ⟨rfl, rfl⟩ (by decide +kernel) ⟨by decide, by decide, by decide, by decide⟩ [0, 1] rfl (by decide) rfl rfl rfl rfl (Nat.le_of_ble_eq_true rfl) dX13_threshold_26 (fun r_26 u_26 hp_26 => ?_)
        have hq_26 := hp_26.trans (show σ (12 + 10 * k + 1) = nI (sTn s k) by rw [show 12 + 10 * k + 1 = 13 + 10 * k by omega]; exact (hR.2.2.2.2.2 k hkn).2.1)
        subst hq_26
        show V G K 3 0 0 29 [some (.ref m), some (.int x), some (.int (nI k))] [.int (nI (sTn s k))] [(m, .inr (13, [.ref nw, .ref bf, .ref sv, .ref hy, .int iS, .int rmb, .int eA, .int fA, .ref tx, .int tyd, .ref li, .int ldd, .int (nI 0), .int siz, .int spt, .int wrg, .int tld, .ref nmb])), (nw, .inl (gI G, 72, .inl σ))]
        refine V.goto hC 33 dX13_threshold_29 rfl ?_
        have hq : qThr s x = (0, nI (sTn s k)) := qS_y hf
        refine V.eqw (ws' := [(m, .inr (13, [.ref nw, .ref bf, .ref sv, .ref hy, .int iS, .int rmb, .int eA, .int fA, .ref tx, .int tyd, .ref li, .int ldd, .int (nI (qThr s x).1), .int siz, .int spt, .int wrg, .int tld, .ref nmb])), (nw, .inl (gI G, 72, .inl σ))]) (by rw [hq]) ?_
        exact hE 33 _ (nI (sTn s k)) () dX13_threshold_33 rfl (by rw [hq])

set_option maxHeartbeats 4000000 in
set_option maxRecDepth 100000 in
theorem m_holders (l : Launch) (G : Gx) (m nw bf sv hy tx li nmb : Nat) (iS rmb eA fA tyd ldd thr siz spt wrg tld : Int32) (σ : Nat → Int32) (s : ASt) (B : Nat) (hR : Rel σ s) (hI : InvA B s) (hB : B < 2 ^ 30) (x : Int32) : Ct l G SF0 yX13_holders wsX13_holders ({ frames := 4, cells := 0, slots := 0, locals := 88 }) [.ref m, .int x] [(m, .inr (13, [.ref nw, .ref bf, .ref sv, .ref hy, .int iS, .int rmb, .int eA, .int fA, .ref tx, .int tyd, .ref li, .int ldd, .int thr, .int siz, .int spt, .int wrg, .int tld, .ref nmb])), (nw, .inl (gI G, 72, .inl σ))] mkI (fun (r : Int32) (_ : Unit) => r = (qHolders s x).2) (fun _ : Unit => [(m, .inr (13, [.ref nw, .ref bf, .ref sv, .ref hy, .int iS, .int rmb, .int eA, .int fA, .ref tx, .int tyd, .ref li, .int ldd, .int (nI (qHolders s x).1), .int siz, .int spt, .int wrg, .int tld, .ref nmb])), (nw, .inl (gI G, 72, .inl σ))]) 0 0 := by
  have hb8 := hI.1
  have hs6 := hI.2.1
  refine Ct.ofI (cc := cX13_holders) (maxL := 3) (by decide) rfl ⟨by simp [Value.category], Nat.le_of_ble_eq_true rfl⟩ ?_
  intro K hl hC hSF hnm hE
  subst hl
  show V G K 3 0 0 0 [some (.ref m), some (.int x), none] [] [(m, .inr (13, [.ref nw, .ref bf, .ref sv, .ref hy, .int iS, .int rmb, .int eA, .int fA, .ref tx, .int tyd, .ref li, .int ldd, .int thr, .int siz, .int spt, .int wrg, .int tld, .ref nmb])), (nw, .inl (gI G, 72, .inl σ))]
  refine V.aload_n hC (x := m) dX13_holders_0 rfl ?_
  refine V.iload_n hC (x := x) dX13_holders_1 rfl ?_
  refine V.callVr (n := 1) (As := [.int x]) (rest := []) hC (m_find (kl K) G m nw bf sv hy tx li nmb iS rmb eA fA tyd ldd thr siz spt wrg tld σ s B hR hI hB x) SFk0 SFgo0 gX13_holders_X13_find rfl ⟨rfl, rfl⟩ (by decide +kernel) ⟨by decide, by decide, by decide, by decide⟩ [0, 1] rfl (by decide) rfl rfl rfl rfl (Nat.le_of_ble_eq_true rfl) dX13_holders_2 (fun r_2 u_2 hp_2 => ?_)
  rcases hf : fd (sNu s) x (sNs s) with _ | k
  · rw [hf] at hp_2
    subst hp_2
    show V G K 3 0 0 5 [some (.ref m), some (.int x), none] [.int (-1)] [(m, .inr (13, [.ref nw, .ref bf, .ref sv, .ref hy, .int iS, .int rmb, .int eA, .int fA, .ref tx, .int tyd, .ref li, .int ldd, .int thr, .int siz, .int spt, .int wrg, .int tld, .ref nmb])), (nw, .inl (gI G, 72, .inl σ))]
    refine V.istore_n hC dX13_holders_5 [some (.ref m), some (.int x), some (.int (-1))] (Nat.le_of_ble_eq_true rfl) rfl ?_
    refine V.aload_n hC (x := m) dX13_holders_6 rfl ?_
    refine V.iload_n hC (x := -1) dX13_holders_7 rfl ?_
    refine V.iconst hC (-1) dX13_holders_8 rfl ?_
    refine V.icmp_eq hC 16 dX13_holders_9 rfl (fun c_9 => ?_) (fun c_9 => ?_)
    · refine V.iconst hC 0 dX13_holders_16 rfl ?_
      refine V.callV (n := 1) (As := [.int 0]) (rest := []) hC (m_goes (kl K) G m nw bf sv hy tx li nmb iS rmb eA fA tyd ldd thr siz spt wrg tld 0) SFk0 SFgo0 gX13_holders_X13_goes rfl ⟨rfl, rfl⟩ (by decide +kernel) ⟨by decide, by decide, by decide, by decide⟩ [0] rfl (by decide) (fun _ => rfl) rfl rfl rfl rfl (Nat.le_of_ble_eq_true rfl) dX13_holders_17 (fun r_17 u_17 hp_17 => ?_)
      subst hp_17
      show V G K 3 0 0 20 [some (.ref m), some (.int x), some (.int (-1))] [.int (if alw 0 1 1 1 = 0 then 1 else 0)] [(m, .inr (13, [.ref nw, .ref bf, .ref sv, .ref hy, .int iS, .int rmb, .int eA, .int fA, .ref tx, .int tyd, .ref li, .int ldd, .int (nI (alw 0 1 1 1)), .int siz, .int spt, .int wrg, .int tld, .ref nmb])), (nw, .inl (gI G, 72, .inl σ))]
      have ha_17 : alw 0 1 1 1 = 1 := by rfl
      refine V.topeq (nI 0) (by rw [ha_17]; rfl) ?_
      refine V.eqw (ws' := [(m, .inr (13, [.ref nw, .ref bf, .ref sv, .ref hy, .int iS, .int rmb, .int eA, .int fA, .ref tx, .int tyd, .ref li, .int ldd, .int (nI 1), .int siz, .int spt, .int wrg, .int tld, .ref nmb])), (nw, .inl (gI G, 72, .inl σ))]) (by rw [ha_17]) ?_
      refine V.ifN_eq hC 0 34 dX13_holders_20 rfl rfl (by omega) (fun c_20 => ?_) (fun c_20 => ?_)
      · refine V.iconst hC 0 dX13_holders_34 rfl ?_
        have hq : qHolders s x = (1, 0) := qS_n hf
        refine V.eqw (ws' := [(m, .inr (13, [.ref nw, .ref bf, .ref sv, .ref hy, .int iS, .int rmb, .int eA, .int fA, .ref tx, .int tyd, .ref li, .int ldd, .int (nI (qHolders s x).1), .int siz, .int spt, .int wrg, .int tld, .ref nmb])), (nw, .inl (gI G, 72, .inl σ))]) (by rw [hq]) ?_
        exact hE 35 _ 0 () dX13_holders_35 rfl (by rw [hq])
      · exact absurd c_20 (by decide)
    · exact absurd rfl c_9
  · rw [hf] at hp_2
    subst hp_2
    have hkn := (fd_lt hf hs6).1
    have hk6 := (fd_lt hf hs6).2
    have ik := hI.2.2.1 k hkn
    show V G K 3 0 0 5 [some (.ref m), some (.int x), none] [.int (nI k)] [(m, .inr (13, [.ref nw, .ref bf, .ref sv, .ref hy, .int iS, .int rmb, .int eA, .int fA, .ref tx, .int tyd, .ref li, .int ldd, .int thr, .int siz, .int spt, .int wrg, .int tld, .ref nmb])), (nw, .inl (gI G, 72, .inl σ))]
    refine V.istore_n hC dX13_holders_5 [some (.ref m), some (.int x), some (.int (nI k))] (Nat.le_of_ble_eq_true rfl) rfl ?_
    refine V.aload_n hC (x := m) dX13_holders_6 rfl ?_
    refine V.iload_n hC (x := nI k) dX13_holders_7 rfl ?_
    refine V.iconst hC (-1) dX13_holders_8 rfl ?_
    refine V.icmp_eq hC 16 dX13_holders_9 rfl (fun c_9 => ?_) (fun c_9 => ?_)
    · exact absurd c_9 (nI_m1 (by omega))
    · refine V.iconst hC 1 dX13_holders_12 rfl ?_
      refine V.goto hC 17 dX13_holders_13 rfl ?_
      refine V.callV (n := 1) (As := [.int 1]) (rest := []) hC (m_goes (kl K) G m nw bf sv hy tx li nmb iS rmb eA fA tyd ldd thr siz spt wrg tld 1) SFk0 SFgo0 gX13_holders_X13_goes rfl ⟨rfl, rfl⟩ (by decide +kernel) ⟨by decide, by decide, by decide, by decide⟩ [0] rfl (by decide) (fun _ => rfl) rfl rfl rfl rfl (Nat.le_of_ble_eq_true rfl) dX13_holders_17 (fun r_17 u_17 hp_17 => ?_)
      subst hp_17
      show V G K 3 0 0 20 [some (.ref m), some (.int x), some (.int (nI k))] [.int (if alw 1 1 1 1 = 0 then 1 else 0)] [(m, .inr (13, [.ref nw, .ref bf, .ref sv, .ref hy, .int iS, .int rmb, .int eA, .int fA, .ref tx, .int tyd, .ref li, .int ldd, .int (nI (alw 1 1 1 1)), .int siz, .int spt, .int wrg, .int tld, .ref nmb])), (nw, .inl (gI G, 72, .inl σ))]
      have ha_17 : alw 1 1 1 1 = 0 := by rfl
      refine V.topeq (nI 1) (by rw [ha_17]; rfl) ?_
      refine V.eqw (ws' := [(m, .inr (13, [.ref nw, .ref bf, .ref sv, .ref hy, .int iS, .int rmb, .int eA, .int fA, .ref tx, .int tyd, .ref li, .int ldd, .int (nI 0), .int siz, .int spt, .int wrg, .int tld, .ref nmb])), (nw, .inl (gI G, 72, .inl σ))]) (by rw [ha_17]) ?_
      refine V.ifN_eq hC 1 34 dX13_holders_20 rfl rfl (by omega) (fun c_20 => ?_) (fun c_20 => ?_)
      · exact absurd c_20 (by decide)
      · refine V.aload_n hC (x := m) dX13_holders_23 rfl ?_
        refine V.iload_n hC (x := nI k) dX13_holders_24 rfl ?_
        refine V.callVr (n := 1) (As := [.int (nI k)]) (rest := []) hC (m_holdersOf (kl K) G m nw bf sv hy tx li nmb iS rmb eA fA tyd ldd (nI 0) siz spt wrg tld σ s B hR hI hB k hkn) SFk0 SFgo0 gX13_holders_X13_holdersOf rfl ⟨rfl, rfl⟩ (by decide +kernel) ⟨by decide, by decide, by decide, by decide⟩ [0, 1] rfl (by decide) rfl rfl rfl rfl (Nat.le_of_ble_eq_true rfl) dX13_holders_25 (fun r_25 u_25 hp_25 => ?_)
        subst hp_25
        show V G K 3 0 0 28 [some (.ref m), some (.int x), some (.int (nI k))] [.int (nI (fh (sSh s k) 8 8))] [(m, .inr (13, [.ref nw, .ref bf, .ref sv, .ref hy, .int iS, .int rmb, .int eA, .int fA, .ref tx, .int tyd, .ref li, .int ldd, .int (nI 0), .int siz, .int spt, .int wrg, .int tld, .ref nmb])), (nw, .inl (gI G, 72, .inl σ))]
        refine V.callSr (n := 1) (As := [.int (nI (fh (sSh s k) 8 8))]) (rest := []) hC (c_bitCount (kl K) G (fh (sSh s k) 8 8) (fh_256 _ _ _ (by decide))) SFk0 SFgo0 gX13_holders_J6_bitCount_0f7a4 rfl ⟨rfl, rfl⟩ (by decide +kernel) ⟨by decide, by decide, by decide, by decide⟩ [] rfl (by decide) rfl rfl (Nat.le_of_ble_eq_true rfl) dX13_holders_28 (fun r_28 u_28 hp_28 => ?_)
        rw [pop_fh8] at hp_28
        subst hp_28
        have hcl := hc_le (sSh s k) 8
        show V G K 3 0 0 31 [some (.ref m), some (.int x), some (.int (nI k))] [.int (nI (hc (sSh s k) 8))] [(m, .inr (13, [.ref nw, .ref bf, .ref sv, .ref hy, .int iS, .int rmb, .int eA, .int fA, .ref tx, .int tyd, .ref li, .int ldd, .int (nI 0), .int siz, .int spt, .int wrg, .int tld, .ref nmb])), (nw, .inl (gI G, 72, .inl σ))]
        refine V.goto hC 35 dX13_holders_31 rfl ?_
        have hq : qHolders s x = (0, nI (hc (sSh s k) 8)) := qS_y hf
        refine V.eqw (ws' := [(m, .inr (13, [.ref nw, .ref bf, .ref sv, .ref hy, .int iS, .int rmb, .int eA, .int fA, .ref tx, .int tyd, .ref li, .int ldd, .int (nI (qHolders s x).1), .int siz, .int spt, .int wrg, .int tld, .ref nmb])), (nw, .inl (gI G, 72, .inl σ))]) (by rw [hq]) ?_
        exact hE 35 _ (nI (hc (sSh s k) 8)) () dX13_holders_35 rfl (by rw [hq])

set_option maxHeartbeats 4000000 in
set_option maxRecDepth 100000 in
theorem m_spareShares (l : Launch) (G : Gx) (m nw bf sv hy tx li nmb : Nat) (iS rmb eA fA tyd ldd thr siz spt wrg tld : Int32) (σ : Nat → Int32) (s : ASt) (B : Nat) (hR : Rel σ s) (hI : InvA B s) (hB : B < 2 ^ 30) (x : Int32) : Ct l G SF0 yX13_spareShares wsX13_spareShares ({ frames := 4, cells := 0, slots := 0, locals := 88 }) [.ref m, .int x] [(m, .inr (13, [.ref nw, .ref bf, .ref sv, .ref hy, .int iS, .int rmb, .int eA, .int fA, .ref tx, .int tyd, .ref li, .int ldd, .int thr, .int siz, .int spt, .int wrg, .int tld, .ref nmb])), (nw, .inl (gI G, 72, .inl σ))] mkI (fun (r : Int32) (_ : Unit) => r = (qSpare s x).2) (fun _ : Unit => [(m, .inr (13, [.ref nw, .ref bf, .ref sv, .ref hy, .int iS, .int rmb, .int eA, .int fA, .ref tx, .int tyd, .ref li, .int ldd, .int (nI (qSpare s x).1), .int siz, .int spt, .int wrg, .int tld, .ref nmb])), (nw, .inl (gI G, 72, .inl σ))]) 0 0 := by
  have hb8 := hI.1
  have hs6 := hI.2.1
  refine Ct.ofI (cc := cX13_spareShares) (maxL := 3) (by decide) rfl ⟨by simp [Value.category], Nat.le_of_ble_eq_true rfl⟩ ?_
  intro K hl hC hSF hnm hE
  subst hl
  show V G K 3 0 0 0 [some (.ref m), some (.int x), none] [] [(m, .inr (13, [.ref nw, .ref bf, .ref sv, .ref hy, .int iS, .int rmb, .int eA, .int fA, .ref tx, .int tyd, .ref li, .int ldd, .int thr, .int siz, .int spt, .int wrg, .int tld, .ref nmb])), (nw, .inl (gI G, 72, .inl σ))]
  refine V.aload_n hC (x := m) dX13_spareShares_0 rfl ?_
  refine V.iload_n hC (x := x) dX13_spareShares_1 rfl ?_
  refine V.callVr (n := 1) (As := [.int x]) (rest := []) hC (m_find (kl K) G m nw bf sv hy tx li nmb iS rmb eA fA tyd ldd thr siz spt wrg tld σ s B hR hI hB x) SFk0 SFgo0 gX13_spareShares_X13_find rfl ⟨rfl, rfl⟩ (by decide +kernel) ⟨by decide, by decide, by decide, by decide⟩ [0, 1] rfl (by decide) rfl rfl rfl rfl (Nat.le_of_ble_eq_true rfl) dX13_spareShares_2 (fun r_2 u_2 hp_2 => ?_)
  rcases hf : fd (sNu s) x (sNs s) with _ | k
  · rw [hf] at hp_2
    subst hp_2
    show V G K 3 0 0 5 [some (.ref m), some (.int x), none] [.int (-1)] [(m, .inr (13, [.ref nw, .ref bf, .ref sv, .ref hy, .int iS, .int rmb, .int eA, .int fA, .ref tx, .int tyd, .ref li, .int ldd, .int thr, .int siz, .int spt, .int wrg, .int tld, .ref nmb])), (nw, .inl (gI G, 72, .inl σ))]
    refine V.istore_n hC dX13_spareShares_5 [some (.ref m), some (.int x), some (.int (-1))] (Nat.le_of_ble_eq_true rfl) rfl ?_
    refine V.aload_n hC (x := m) dX13_spareShares_6 rfl ?_
    refine V.iload_n hC (x := -1) dX13_spareShares_7 rfl ?_
    refine V.iconst hC (-1) dX13_spareShares_8 rfl ?_
    refine V.icmp_eq hC 16 dX13_spareShares_9 rfl (fun c_9 => ?_) (fun c_9 => ?_)
    · refine V.iconst hC 0 dX13_spareShares_16 rfl ?_
      refine V.callV (n := 1) (As := [.int 0]) (rest := []) hC (m_goes (kl K) G m nw bf sv hy tx li nmb iS rmb eA fA tyd ldd thr siz spt wrg tld 0) SFk0 SFgo0 gX13_spareShares_X13_goes rfl ⟨rfl, rfl⟩ (by decide +kernel) ⟨by decide, by decide, by decide, by decide⟩ [0] rfl (by decide) (fun _ => rfl) rfl rfl rfl rfl (Nat.le_of_ble_eq_true rfl) dX13_spareShares_17 (fun r_17 u_17 hp_17 => ?_)
      subst hp_17
      show V G K 3 0 0 20 [some (.ref m), some (.int x), some (.int (-1))] [.int (if alw 0 1 1 1 = 0 then 1 else 0)] [(m, .inr (13, [.ref nw, .ref bf, .ref sv, .ref hy, .int iS, .int rmb, .int eA, .int fA, .ref tx, .int tyd, .ref li, .int ldd, .int (nI (alw 0 1 1 1)), .int siz, .int spt, .int wrg, .int tld, .ref nmb])), (nw, .inl (gI G, 72, .inl σ))]
      have ha_17 : alw 0 1 1 1 = 1 := by rfl
      refine V.topeq (nI 0) (by rw [ha_17]; rfl) ?_
      refine V.eqw (ws' := [(m, .inr (13, [.ref nw, .ref bf, .ref sv, .ref hy, .int iS, .int rmb, .int eA, .int fA, .ref tx, .int tyd, .ref li, .int ldd, .int (nI 1), .int siz, .int spt, .int wrg, .int tld, .ref nmb])), (nw, .inl (gI G, 72, .inl σ))]) (by rw [ha_17]) ?_
      refine V.ifN_eq hC 0 41 dX13_spareShares_20 rfl rfl (by omega) (fun c_20 => ?_) (fun c_20 => ?_)
      · refine V.iconst hC 0 dX13_spareShares_41 rfl ?_
        have hq : qSpare s x = (1, 0) := qS_n hf
        refine V.eqw (ws' := [(m, .inr (13, [.ref nw, .ref bf, .ref sv, .ref hy, .int iS, .int rmb, .int eA, .int fA, .ref tx, .int tyd, .ref li, .int ldd, .int (nI (qSpare s x).1), .int siz, .int spt, .int wrg, .int tld, .ref nmb])), (nw, .inl (gI G, 72, .inl σ))]) (by rw [hq]) ?_
        exact hE 42 _ 0 () dX13_spareShares_42 rfl (by rw [hq])
      · exact absurd c_20 (by decide)
    · exact absurd rfl c_9
  · rw [hf] at hp_2
    subst hp_2
    have hkn := (fd_lt hf hs6).1
    have hk6 := (fd_lt hf hs6).2
    have ik := hI.2.2.1 k hkn
    show V G K 3 0 0 5 [some (.ref m), some (.int x), none] [.int (nI k)] [(m, .inr (13, [.ref nw, .ref bf, .ref sv, .ref hy, .int iS, .int rmb, .int eA, .int fA, .ref tx, .int tyd, .ref li, .int ldd, .int thr, .int siz, .int spt, .int wrg, .int tld, .ref nmb])), (nw, .inl (gI G, 72, .inl σ))]
    refine V.istore_n hC dX13_spareShares_5 [some (.ref m), some (.int x), some (.int (nI k))] (Nat.le_of_ble_eq_true rfl) rfl ?_
    refine V.aload_n hC (x := m) dX13_spareShares_6 rfl ?_
    refine V.iload_n hC (x := nI k) dX13_spareShares_7 rfl ?_
    refine V.iconst hC (-1) dX13_spareShares_8 rfl ?_
    refine V.icmp_eq hC 16 dX13_spareShares_9 rfl (fun c_9 => ?_) (fun c_9 => ?_)
    · exact absurd c_9 (nI_m1 (by omega))
    · refine V.iconst hC 1 dX13_spareShares_12 rfl ?_
      refine V.goto hC 17 dX13_spareShares_13 rfl ?_
      refine V.callV (n := 1) (As := [.int 1]) (rest := []) hC (m_goes (kl K) G m nw bf sv hy tx li nmb iS rmb eA fA tyd ldd thr siz spt wrg tld 1) SFk0 SFgo0 gX13_spareShares_X13_goes rfl ⟨rfl, rfl⟩ (by decide +kernel) ⟨by decide, by decide, by decide, by decide⟩ [0] rfl (by decide) (fun _ => rfl) rfl rfl rfl rfl (Nat.le_of_ble_eq_true rfl) dX13_spareShares_17 (fun r_17 u_17 hp_17 => ?_)
      subst hp_17
      show V G K 3 0 0 20 [some (.ref m), some (.int x), some (.int (nI k))] [.int (if alw 1 1 1 1 = 0 then 1 else 0)] [(m, .inr (13, [.ref nw, .ref bf, .ref sv, .ref hy, .int iS, .int rmb, .int eA, .int fA, .ref tx, .int tyd, .ref li, .int ldd, .int (nI (alw 1 1 1 1)), .int siz, .int spt, .int wrg, .int tld, .ref nmb])), (nw, .inl (gI G, 72, .inl σ))]
      have ha_17 : alw 1 1 1 1 = 0 := by rfl
      refine V.topeq (nI 1) (by rw [ha_17]; rfl) ?_
      refine V.eqw (ws' := [(m, .inr (13, [.ref nw, .ref bf, .ref sv, .ref hy, .int iS, .int rmb, .int eA, .int fA, .ref tx, .int tyd, .ref li, .int ldd, .int (nI 0), .int siz, .int spt, .int wrg, .int tld, .ref nmb])), (nw, .inl (gI G, 72, .inl σ))]) (by rw [ha_17]) ?_
      refine V.ifN_eq hC 1 41 dX13_spareShares_20 rfl rfl (by omega) (fun c_20 => ?_) (fun c_20 => ?_)
      · exact absurd c_20 (by decide)
      · refine V.aload_n hC (x := m) dX13_spareShares_23 rfl ?_
        refine V.iload_n hC (x := nI k) dX13_spareShares_24 rfl ?_
        refine V.callVr (n := 1) (As := [.int (nI k)]) (rest := []) hC (m_holdersOf (kl K) G m nw bf sv hy tx li nmb iS rmb eA fA tyd ldd (nI 0) siz spt wrg tld σ s B hR hI hB k hkn) SFk0 SFgo0 gX13_spareShares_X13_holdersOf rfl ⟨rfl, rfl⟩ (by decide +kernel) ⟨by decide, by decide, by decide, by decide⟩ [0, 1] rfl (by decide) rfl rfl rfl rfl (Nat.le_of_ble_eq_true rfl) dX13_spareShares_25 (fun r_25 u_25 hp_25 => ?_)
        subst hp_25
        show V G K 3 0 0 28 [some (.ref m), some (.int x), some (.int (nI k))] [.int (nI (fh (sSh s k) 8 8))] [(m, .inr (13, [.ref nw, .ref bf, .ref sv, .ref hy, .int iS, .int rmb, .int eA, .int fA, .ref tx, .int tyd, .ref li, .int ldd, .int (nI 0), .int siz, .int spt, .int wrg, .int tld, .ref nmb])), (nw, .inl (gI G, 72, .inl σ))]
        refine V.callSr (n := 1) (As := [.int (nI (fh (sSh s k) 8 8))]) (rest := []) hC (c_bitCount (kl K) G (fh (sSh s k) 8 8) (fh_256 _ _ _ (by decide))) SFk0 SFgo0 gX13_spareShares_J6_bitCount_0f7a4 rfl ⟨rfl, rfl⟩ (by decide +kernel) ⟨by decide, by decide, by decide, by decide⟩ [] rfl (by decide) rfl rfl (Nat.le_of_ble_eq_true rfl) dX13_spareShares_28 (fun r_28 u_28 hp_28 => ?_)
        rw [pop_fh8] at hp_28
        subst hp_28
        show V G K 3 0 0 31 [some (.ref m), some (.int x), some (.int (nI k))] [.int (nI (hc (sSh s k) 8))] [(m, .inr (13, [.ref nw, .ref bf, .ref sv, .ref hy, .int iS, .int rmb, .int eA, .int fA, .ref tx, .int tyd, .ref li, .int ldd, .int (nI 0), .int siz, .int spt, .int wrg, .int tld, .ref nmb])), (nw, .inl (gI G, 72, .inl σ))]
        refine V.aload_n hC (x := m) dX13_spareShares_31 rfl ?_
        refine V.iload_n hC (x := nI k) dX13_spareShares_32 rfl ?_
        refine V.iconst hC 1 dX13_spareShares_33 rfl ?_
        refine V.callVr (n := 2) (As := [.int (nI k), .int 1]) (rest := [.int (nI (hc (sSh s k) 8))]) hC (m_of (kl K) G m nw bf sv hy tx li nmb iS rmb eA fA tyd ldd (nI 0) siz spt wrg tld σ k hk6 1 (by decide)) SFk0 SFgo0 gX13_spareShares_X13_of rfl ⟨rfl, rfl⟩ (by decide +kernel) ⟨by decide, by decide, by decide, by decide⟩ [0, 1] rfl (by decide) rfl rfl rfl rfl (Nat.le_of_ble_eq_true rfl) dX13_spareShares_34 (fun r_34 u_34 hp_34 => ?_)
        have hq_34 := hp_34.trans (show σ (12 + 10 * k + 1) = nI (sTn s k) by rw [show 12 + 10 * k + 1 = 13 + 10 * k by omega]; exact (hR.2.2.2.2.2 k hkn).2.1)
        subst hq_34
        show V G K 3 0 0 37 [some (.ref m), some (.int x), some (.int (nI k))] [.int (nI (sTn s k)), .int (nI (hc (sSh s k) 8))] [(m, .inr (13, [.ref nw, .ref bf, .ref sv, .ref hy, .int iS, .int rmb, .int eA, .int fA, .ref tx, .int tyd, .ref li, .int ldd, .int (nI 0), .int siz, .int spt, .int wrg, .int tld, .ref nmb])), (nw, .inl (gI G, 72, .inl σ))]
        refine V.isub hC dX13_spareShares_37 ?_
        refine V.goto hC 42 dX13_spareShares_38 rfl ?_
        have hq : qSpare s x = (0, (nI (hc (sSh s k) 8)) - (nI (sTn s k))) := qS_y hf
        refine V.eqw (ws' := [(m, .inr (13, [.ref nw, .ref bf, .ref sv, .ref hy, .int iS, .int rmb, .int eA, .int fA, .ref tx, .int tyd, .ref li, .int ldd, .int (nI (qSpare s x).1), .int siz, .int spt, .int wrg, .int tld, .ref nmb])), (nw, .inl (gI G, 72, .inl σ))]) (by rw [hq]) ?_
        exact hE 42 _ ((nI (hc (sSh s k) 8)) - (nI (sTn s k))) () dX13_spareShares_42 rfl (by rw [hq])

set_option maxHeartbeats 4000000 in
set_option maxRecDepth 100000 in
theorem m_rebuilt (l : Launch) (G : Gx) (m nw bf sv hy tx li nmb : Nat) (iS rmb eA fA tyd ldd thr siz spt wrg tld : Int32) (σ : Nat → Int32) (s : ASt) (B : Nat) (hR : Rel σ s) (hI : InvA B s) (hB : B < 2 ^ 30) (x : Int32) : Ct l G SF0 yX13_rebuilt wsX13_rebuilt ({ frames := 5, cells := 0, slots := 0, locals := 109 }) [.ref m, .int x] [(m, .inr (13, [.ref nw, .ref bf, .ref sv, .ref hy, .int iS, .int rmb, .int eA, .int fA, .ref tx, .int tyd, .ref li, .int ldd, .int thr, .int siz, .int spt, .int wrg, .int tld, .ref nmb])), (nw, .inl (gI G, 72, .inl σ))] mkI (fun (r : Int32) (_ : Unit) => r = (qReb s x).2) (fun _ : Unit => [(m, .inr (13, [.ref nw, .ref bf, .ref sv, .ref hy, .int iS, .int rmb, .int eA, .int fA, .ref tx, .int tyd, .ref li, .int ldd, .int (nI (qReb s x).1), .int siz, .int spt, .int wrg, .int tld, .ref nmb])), (nw, .inl (gI G, 72, .inl σ))]) 0 0 := by
  have hb8 := hI.1
  have hs6 := hI.2.1
  refine Ct.ofI (cc := cX13_rebuilt) (maxL := 3) (by decide) rfl ⟨by simp [Value.category], Nat.le_of_ble_eq_true rfl⟩ ?_
  intro K hl hC hSF hnm hE
  subst hl
  show V G K 3 0 0 0 [some (.ref m), some (.int x), none] [] [(m, .inr (13, [.ref nw, .ref bf, .ref sv, .ref hy, .int iS, .int rmb, .int eA, .int fA, .ref tx, .int tyd, .ref li, .int ldd, .int thr, .int siz, .int spt, .int wrg, .int tld, .ref nmb])), (nw, .inl (gI G, 72, .inl σ))]
  refine V.aload_n hC (x := m) dX13_rebuilt_0 rfl ?_
  refine V.iload_n hC (x := x) dX13_rebuilt_1 rfl ?_
  refine V.callVr (n := 1) (As := [.int x]) (rest := []) hC (m_find (kl K) G m nw bf sv hy tx li nmb iS rmb eA fA tyd ldd thr siz spt wrg tld σ s B hR hI hB x) SFk0 SFgo0 gX13_rebuilt_X13_find rfl ⟨rfl, rfl⟩ (by decide +kernel) ⟨by decide, by decide, by decide, by decide⟩ [0, 1] rfl (by decide) rfl rfl rfl rfl (Nat.le_of_ble_eq_true rfl) dX13_rebuilt_2 (fun r_2 u_2 hp_2 => ?_)
  rcases hf : fd (sNu s) x (sNs s) with _ | k
  · rw [hf] at hp_2
    subst hp_2
    show V G K 3 0 0 5 [some (.ref m), some (.int x), none] [.int (-1)] [(m, .inr (13, [.ref nw, .ref bf, .ref sv, .ref hy, .int iS, .int rmb, .int eA, .int fA, .ref tx, .int tyd, .ref li, .int ldd, .int thr, .int siz, .int spt, .int wrg, .int tld, .ref nmb])), (nw, .inl (gI G, 72, .inl σ))]
    refine V.istore_n hC dX13_rebuilt_5 [some (.ref m), some (.int x), some (.int (-1))] (Nat.le_of_ble_eq_true rfl) rfl ?_
    refine V.aload_n hC (x := m) dX13_rebuilt_6 rfl ?_
    refine V.iload_n hC (x := -1) dX13_rebuilt_7 rfl ?_
    refine V.iconst hC (-1) dX13_rebuilt_8 rfl ?_
    refine V.icmp_eq hC 16 dX13_rebuilt_9 rfl (fun c_9 => ?_) (fun c_9 => ?_)
    · refine V.iconst hC 0 dX13_rebuilt_16 rfl ?_
      refine V.aload_n hC (x := m) dX13_rebuilt_17 rfl ?_
      refine V.iload_n hC (x := -1) dX13_rebuilt_18 rfl ?_
      refine V.callVr (n := 1) (As := [.int (-1)]) (rest := [.int 0, .ref m]) hC (m_isEnoughN (kl K) G m nw bf sv hy tx li nmb iS rmb eA fA tyd ldd thr siz spt wrg tld σ s B hR hI hB) SFk0 SFgo0 gX13_rebuilt_X13_isEnough rfl ⟨rfl, rfl⟩ (by decide +kernel) ⟨by decide, by decide, by decide, by decide⟩ [0, 1] rfl (by decide) rfl rfl rfl rfl (Nat.le_of_ble_eq_true rfl) dX13_rebuilt_19 (fun r_19 u_19 hp_19 => ?_)
      subst hp_19
      show V G K 3 0 0 22 [some (.ref m), some (.int x), some (.int (-1))] [.int (nI 0), .int 0, .ref m] [(m, .inr (13, [.ref nw, .ref bf, .ref sv, .ref hy, .int iS, .int rmb, .int eA, .int fA, .ref tx, .int tyd, .ref li, .int ldd, .int thr, .int siz, .int spt, .int wrg, .int tld, .ref nmb])), (nw, .inl (gI G, 72, .inl σ))]
      refine V.iconst hC 1 dX13_rebuilt_22 rfl ?_
      refine V.iconst hC 1 dX13_rebuilt_23 rfl ?_
      refine V.callV (n := 4) (As := [.int 0, .int (nI 0), .int 1, .int 1]) (rest := []) hC (m_allows (kl K) G m nw bf sv hy tx li nmb iS rmb eA fA tyd ldd thr siz spt wrg tld 0 (nI 0) 1 1) SFk0 SFgo0 gX13_rebuilt_X13_allows rfl ⟨rfl, rfl⟩ (by decide +kernel) ⟨by decide, by decide, by decide, by decide⟩ [0] rfl (by decide) (fun _ => rfl) rfl rfl rfl rfl (Nat.le_of_ble_eq_true rfl) dX13_rebuilt_24 (fun r_24 u_24 hp_24 => ?_)
      subst hp_24
      show V G K 3 0 0 27 [some (.ref m), some (.int x), some (.int (-1))] [.int (if alw 0 (nI 0) 1 1 = 0 then 1 else 0)] [(m, .inr (13, [.ref nw, .ref bf, .ref sv, .ref hy, .int iS, .int rmb, .int eA, .int fA, .ref tx, .int tyd, .ref li, .int ldd, .int (nI (alw 0 (nI 0) 1 1)), .int siz, .int spt, .int wrg, .int tld, .ref nmb])), (nw, .inl (gI G, 72, .inl σ))]
      have ha_24 : alw 0 (nI 0) 1 1 = 1 := by rfl
      refine V.topeq (nI 0) (by rw [ha_24]; rfl) ?_
      refine V.eqw (ws' := [(m, .inr (13, [.ref nw, .ref bf, .ref sv, .ref hy, .int iS, .int rmb, .int eA, .int fA, .ref tx, .int tyd, .ref li, .int ldd, .int (nI 1), .int siz, .int spt, .int wrg, .int tld, .ref nmb])), (nw, .inl (gI G, 72, .inl σ))]) (by rw [ha_24]) ?_
      refine V.ifN_eq hC 0 44 dX13_rebuilt_27 rfl rfl (by omega) (fun c_27 => ?_) (fun c_27 => ?_)
      · refine V.iconst hC 0 dX13_rebuilt_44 rfl ?_
        have hq : qReb s x = (1, 0) := qS_n hf
        refine V.eqw (ws' := [(m, .inr (13, [.ref nw, .ref bf, .ref sv, .ref hy, .int iS, .int rmb, .int eA, .int fA, .ref tx, .int tyd, .ref li, .int ldd, .int (nI (qReb s x).1), .int siz, .int spt, .int wrg, .int tld, .ref nmb])), (nw, .inl (gI G, 72, .inl σ))]) (by rw [hq]) ?_
        exact hE 45 _ 0 () dX13_rebuilt_45 rfl (by rw [hq])
      · exact absurd c_27 (by decide)
    · exact absurd rfl c_9
  · rw [hf] at hp_2
    subst hp_2
    have hkn := (fd_lt hf hs6).1
    have hk6 := (fd_lt hf hs6).2
    have ik := hI.2.2.1 k hkn
    show V G K 3 0 0 5 [some (.ref m), some (.int x), none] [.int (nI k)] [(m, .inr (13, [.ref nw, .ref bf, .ref sv, .ref hy, .int iS, .int rmb, .int eA, .int fA, .ref tx, .int tyd, .ref li, .int ldd, .int thr, .int siz, .int spt, .int wrg, .int tld, .ref nmb])), (nw, .inl (gI G, 72, .inl σ))]
    refine V.istore_n hC dX13_rebuilt_5 [some (.ref m), some (.int x), some (.int (nI k))] (Nat.le_of_ble_eq_true rfl) rfl ?_
    refine V.aload_n hC (x := m) dX13_rebuilt_6 rfl ?_
    refine V.iload_n hC (x := nI k) dX13_rebuilt_7 rfl ?_
    refine V.iconst hC (-1) dX13_rebuilt_8 rfl ?_
    refine V.icmp_eq hC 16 dX13_rebuilt_9 rfl (fun c_9 => ?_) (fun c_9 => ?_)
    · exact absurd c_9 (nI_m1 (by omega))
    · refine V.iconst hC 1 dX13_rebuilt_12 rfl ?_
      refine V.goto hC 17 dX13_rebuilt_13 rfl ?_
      refine V.aload_n hC (x := m) dX13_rebuilt_17 rfl ?_
      refine V.iload_n hC (x := nI k) dX13_rebuilt_18 rfl ?_
      refine V.callVr (n := 1) (As := [.int (nI k)]) (rest := [.int 1, .ref m]) hC (m_isEnough (kl K) G m nw bf sv hy tx li nmb iS rmb eA fA tyd ldd thr siz spt wrg tld σ s B hR hI hB k hkn) SFk0 SFgo0 gX13_rebuilt_X13_isEnough rfl ⟨rfl, rfl⟩ (by decide +kernel) ⟨by decide, by decide, by decide, by decide⟩ [0, 1] rfl (by decide) rfl rfl rfl rfl (Nat.le_of_ble_eq_true rfl) dX13_rebuilt_19 (fun r_19 u_19 hp_19 => ?_)
      subst hp_19
      show V G K 3 0 0 22 [some (.ref m), some (.int x), some (.int (nI k))] [.int (if sTn s k ≤ hc (sSh s k) 8 then 1 else 0), .int 1, .ref m] [(m, .inr (13, [.ref nw, .ref bf, .ref sv, .ref hy, .int iS, .int rmb, .int eA, .int fA, .ref tx, .int tyd, .ref li, .int ldd, .int thr, .int siz, .int spt, .int wrg, .int tld, .ref nmb])), (nw, .inl (gI G, 72, .inl σ))]
      refine V.iconst hC 1 dX13_rebuilt_22 rfl ?_
      refine V.iconst hC 1 dX13_rebuilt_23 rfl ?_
      refine V.callV (n := 4) (As := [.int 1, .int (if sTn s k ≤ hc (sSh s k) 8 then 1 else 0), .int 1, .int 1]) (rest := []) hC (m_allows (kl K) G m nw bf sv hy tx li nmb iS rmb eA fA tyd ldd thr siz spt wrg tld 1 (if sTn s k ≤ hc (sSh s k) 8 then 1 else 0) 1 1) SFk0 SFgo0 gX13_rebuilt_X13_allows rfl ⟨rfl, rfl⟩ (by decide +kernel) ⟨by decide, by decide, by decide, by decide⟩ [0] rfl (by decide) (fun _ => rfl) rfl rfl rfl rfl (Nat.le_of_ble_eq_true rfl) dX13_rebuilt_24 (fun r_24 u_24 hp_24 => ?_)
      subst hp_24
      show V G K 3 0 0 27 [some (.ref m), some (.int x), some (.int (nI k))] [.int (if alw 1 (if sTn s k ≤ hc (sSh s k) 8 then 1 else 0) 1 1 = 0 then 1 else 0)] [(m, .inr (13, [.ref nw, .ref bf, .ref sv, .ref hy, .int iS, .int rmb, .int eA, .int fA, .ref tx, .int tyd, .ref li, .int ldd, .int (nI (alw 1 (if sTn s k ≤ hc (sSh s k) 8 then 1 else 0) 1 1)), .int siz, .int spt, .int wrg, .int tld, .ref nmb])), (nw, .inl (gI G, 72, .inl σ))]
      by_cases hg1_24 : sTn s k ≤ hc (sSh s k) 8
      · have ha_24 : alw 1 (if sTn s k ≤ hc (sSh s k) 8 then 1 else 0) 1 1 = 0 := by rw [if_pos hg1_24]; rfl
        refine V.topeq (nI 1) (by rw [ha_24]; rfl) ?_
        refine V.eqw (ws' := [(m, .inr (13, [.ref nw, .ref bf, .ref sv, .ref hy, .int iS, .int rmb, .int eA, .int fA, .ref tx, .int tyd, .ref li, .int ldd, .int (nI 0), .int siz, .int spt, .int wrg, .int tld, .ref nmb])), (nw, .inl (gI G, 72, .inl σ))]) (by rw [ha_24]) ?_
        refine V.ifN_eq hC 1 44 dX13_rebuilt_27 rfl rfl (by omega) (fun c_27 => ?_) (fun c_27 => ?_)
        · exact absurd c_27 (by decide)
        · refine V.aload_n hC (x := m) dX13_rebuilt_30 rfl ?_
          refine V.iload_n hC (x := nI k) dX13_rebuilt_31 rfl ?_
          refine V.aload_n hC (x := m) dX13_rebuilt_32 rfl ?_
          refine V.iload_n hC (x := nI k) dX13_rebuilt_33 rfl ?_
          refine V.callVr (n := 1) (As := [.int (nI k)]) (rest := [.int (nI k), .ref m]) hC (m_leading (kl K) G m nw bf sv hy tx li nmb iS rmb eA fA tyd ldd (nI 0) siz spt wrg tld σ s B hR hI hB k hkn) SFk0 SFgo0 gX13_rebuilt_X13_leading rfl ⟨rfl, rfl⟩ (by decide +kernel) ⟨by decide, by decide, by decide, by decide⟩ [0, 1] rfl (by decide) rfl rfl rfl rfl (Nat.le_of_ble_eq_true rfl) dX13_rebuilt_34 (fun r_34 u_34 hp_34 => ?_)
          subst hp_34
          show V G K 3 0 0 37 [some (.ref m), some (.int x), some (.int (nI k))] [.int (nI (fh (sSh s k) (sTn s k) 8)), .int (nI k), .ref m] [(m, .inr (13, [.ref nw, .ref bf, .ref sv, .ref hy, .int iS, .int rmb, .int eA, .int fA, .ref tx, .int tyd, .ref li, .int ldd, .int (nI 0), .int siz, .int spt, .int wrg, .int tld, .ref nmb])), (nw, .inl (gI G, 72, .inl σ))]
          refine V.iconst hC 0 dX13_rebuilt_37 rfl ?_
          refine V.callVr (n := 3) (As := [.int (nI k), .int (nI (fh (sSh s k) (sTn s k) 8)), .int 0]) (rest := []) hC (m_valueAt (kl K) G m nw bf sv hy tx li nmb iS rmb eA fA tyd ldd (nI 0) siz spt wrg tld σ s B hR hI hB k hkn (fh (sSh s k) (sTn s k) 8) (fh_256 _ _ _ (by decide)) (HB.fh ik.2.2.1 _) 0 (by decide)) SFk0 SFgo0 gX13_rebuilt_X13_valueAt rfl ⟨rfl, rfl⟩ (by decide +kernel) ⟨by decide, by decide, by decide, by decide⟩ [0, 1] rfl (by decide) rfl rfl rfl rfl (Nat.le_of_ble_eq_true rfl) dX13_rebuilt_38 (fun r_38 u_38 hp_38 => ?_)
          subst hp_38
          show V G K 3 0 0 41 [some (.ref m), some (.int x), some (.int (nI k))] [.int (nI (lagS (fh (sSh s k) (sTn s k) 8) (svn (sSh s k)) 0))] [(m, .inr (13, [.ref nw, .ref bf, .ref sv, .ref hy, .int iS, .int rmb, .int eA, .int fA, .ref tx, .int tyd, .ref li, .int ldd, .int (nI 0), .int siz, .int spt, .int wrg, .int tld, .ref nmb])), (nw, .inl (gI G, 72, .inl σ))]
          refine V.goto hC 45 dX13_rebuilt_41 rfl ?_
          have hq : qReb s x = (0, nI (lagS (fh (sSh s k) (sTn s k) 8) (svn (sSh s k)) 0)) := (qS_y hf).trans (qI_y hg1_24)
          refine V.eqw (ws' := [(m, .inr (13, [.ref nw, .ref bf, .ref sv, .ref hy, .int iS, .int rmb, .int eA, .int fA, .ref tx, .int tyd, .ref li, .int ldd, .int (nI (qReb s x).1), .int siz, .int spt, .int wrg, .int tld, .ref nmb])), (nw, .inl (gI G, 72, .inl σ))]) (by rw [hq]) ?_
          exact hE 45 _ (nI (lagS (fh (sSh s k) (sTn s k) 8) (svn (sSh s k)) 0)) () dX13_rebuilt_45 rfl (by rw [hq])
      · have ha_24 : alw 1 (if sTn s k ≤ hc (sSh s k) 8 then 1 else 0) 1 1 = 2 := by rw [if_neg hg1_24]; rfl
        refine V.topeq (nI 0) (by rw [ha_24]; rfl) ?_
        refine V.eqw (ws' := [(m, .inr (13, [.ref nw, .ref bf, .ref sv, .ref hy, .int iS, .int rmb, .int eA, .int fA, .ref tx, .int tyd, .ref li, .int ldd, .int (nI 2), .int siz, .int spt, .int wrg, .int tld, .ref nmb])), (nw, .inl (gI G, 72, .inl σ))]) (by rw [ha_24]) ?_
        refine V.ifN_eq hC 0 44 dX13_rebuilt_27 rfl rfl (by omega) (fun c_27 => ?_) (fun c_27 => ?_)
        · refine V.iconst hC 0 dX13_rebuilt_44 rfl ?_
          have hq : qReb s x = (2, 0) := (qS_y hf).trans (qI_n hg1_24)
          refine V.eqw (ws' := [(m, .inr (13, [.ref nw, .ref bf, .ref sv, .ref hy, .int iS, .int rmb, .int eA, .int fA, .ref tx, .int tyd, .ref li, .int ldd, .int (nI (qReb s x).1), .int siz, .int spt, .int wrg, .int tld, .ref nmb])), (nw, .inl (gI G, 72, .inl σ))]) (by rw [hq]) ?_
          exact hE 45 _ 0 () dX13_rebuilt_45 rfl (by rw [hq])
        · exact absurd c_27 (by decide)

set_option maxHeartbeats 4000000 in
set_option maxRecDepth 100000 in
theorem m_unfitShares (l : Launch) (G : Gx) (m nw bf sv hy tx li nmb : Nat) (iS rmb eA fA tyd ldd thr siz spt wrg tld : Int32) (σ : Nat → Int32) (s : ASt) (B : Nat) (hR : Rel σ s) (hI : InvA B s) (hB : B < 2 ^ 30) (x : Int32) : Ct l G SF0 yX13_unfitShares wsX13_unfitShares ({ frames := 5, cells := 0, slots := 0, locals := 109 }) [.ref m, .int x] [(m, .inr (13, [.ref nw, .ref bf, .ref sv, .ref hy, .int iS, .int rmb, .int eA, .int fA, .ref tx, .int tyd, .ref li, .int ldd, .int thr, .int siz, .int spt, .int wrg, .int tld, .ref nmb])), (nw, .inl (gI G, 72, .inl σ))] mkI (fun (r : Int32) (_ : Unit) => r = (qUnf s x).2) (fun _ : Unit => [(m, .inr (13, [.ref nw, .ref bf, .ref sv, .ref hy, .int iS, .int rmb, .int eA, .int fA, .ref tx, .int tyd, .ref li, .int ldd, .int (nI (qUnf s x).1), .int siz, .int spt, .int wrg, .int tld, .ref nmb])), (nw, .inl (gI G, 72, .inl σ))]) 0 0 := by
  have hb8 := hI.1
  have hs6 := hI.2.1
  refine Ct.ofI (cc := cX13_unfitShares) (maxL := 3) (by decide) rfl ⟨by simp [Value.category], Nat.le_of_ble_eq_true rfl⟩ ?_
  intro K hl hC hSF hnm hE
  subst hl
  show V G K 3 0 0 0 [some (.ref m), some (.int x), none] [] [(m, .inr (13, [.ref nw, .ref bf, .ref sv, .ref hy, .int iS, .int rmb, .int eA, .int fA, .ref tx, .int tyd, .ref li, .int ldd, .int thr, .int siz, .int spt, .int wrg, .int tld, .ref nmb])), (nw, .inl (gI G, 72, .inl σ))]
  refine V.aload_n hC (x := m) dX13_unfitShares_0 rfl ?_
  refine V.iload_n hC (x := x) dX13_unfitShares_1 rfl ?_
  refine V.callVr (n := 1) (As := [.int x]) (rest := []) hC (m_find (kl K) G m nw bf sv hy tx li nmb iS rmb eA fA tyd ldd thr siz spt wrg tld σ s B hR hI hB x) SFk0 SFgo0 gX13_unfitShares_X13_find rfl ⟨rfl, rfl⟩ (by decide +kernel) ⟨by decide, by decide, by decide, by decide⟩ [0, 1] rfl (by decide) rfl rfl rfl rfl (Nat.le_of_ble_eq_true rfl) dX13_unfitShares_2 (fun r_2 u_2 hp_2 => ?_)
  rcases hf : fd (sNu s) x (sNs s) with _ | k
  · rw [hf] at hp_2
    subst hp_2
    show V G K 3 0 0 5 [some (.ref m), some (.int x), none] [.int (-1)] [(m, .inr (13, [.ref nw, .ref bf, .ref sv, .ref hy, .int iS, .int rmb, .int eA, .int fA, .ref tx, .int tyd, .ref li, .int ldd, .int thr, .int siz, .int spt, .int wrg, .int tld, .ref nmb])), (nw, .inl (gI G, 72, .inl σ))]
    refine V.istore_n hC dX13_unfitShares_5 [some (.ref m), some (.int x), some (.int (-1))] (Nat.le_of_ble_eq_true rfl) rfl ?_
    refine V.aload_n hC (x := m) dX13_unfitShares_6 rfl ?_
    refine V.iload_n hC (x := -1) dX13_unfitShares_7 rfl ?_
    refine V.iconst hC (-1) dX13_unfitShares_8 rfl ?_
    refine V.icmp_eq hC 16 dX13_unfitShares_9 rfl (fun c_9 => ?_) (fun c_9 => ?_)
    · refine V.iconst hC 0 dX13_unfitShares_16 rfl ?_
      refine V.aload_n hC (x := m) dX13_unfitShares_17 rfl ?_
      refine V.iload_n hC (x := -1) dX13_unfitShares_18 rfl ?_
      refine V.callVr (n := 1) (As := [.int (-1)]) (rest := [.int 0, .ref m]) hC (m_isEnoughN (kl K) G m nw bf sv hy tx li nmb iS rmb eA fA tyd ldd thr siz spt wrg tld σ s B hR hI hB) SFk0 SFgo0 gX13_unfitShares_X13_isEnough rfl ⟨rfl, rfl⟩ (by decide +kernel) ⟨by decide, by decide, by decide, by decide⟩ [0, 1] rfl (by decide) rfl rfl rfl rfl (Nat.le_of_ble_eq_true rfl) dX13_unfitShares_19 (fun r_19 u_19 hp_19 => ?_)
      subst hp_19
      show V G K 3 0 0 22 [some (.ref m), some (.int x), some (.int (-1))] [.int (nI 0), .int 0, .ref m] [(m, .inr (13, [.ref nw, .ref bf, .ref sv, .ref hy, .int iS, .int rmb, .int eA, .int fA, .ref tx, .int tyd, .ref li, .int ldd, .int thr, .int siz, .int spt, .int wrg, .int tld, .ref nmb])), (nw, .inl (gI G, 72, .inl σ))]
      refine V.iconst hC 1 dX13_unfitShares_22 rfl ?_
      refine V.iconst hC 1 dX13_unfitShares_23 rfl ?_
      refine V.callV (n := 4) (As := [.int 0, .int (nI 0), .int 1, .int 1]) (rest := []) hC (m_allows (kl K) G m nw bf sv hy tx li nmb iS rmb eA fA tyd ldd thr siz spt wrg tld 0 (nI 0) 1 1) SFk0 SFgo0 gX13_unfitShares_X13_allows rfl ⟨rfl, rfl⟩ (by decide +kernel) ⟨by decide, by decide, by decide, by decide⟩ [0] rfl (by decide) (fun _ => rfl) rfl rfl rfl rfl (Nat.le_of_ble_eq_true rfl) dX13_unfitShares_24 (fun r_24 u_24 hp_24 => ?_)
      subst hp_24
      show V G K 3 0 0 27 [some (.ref m), some (.int x), some (.int (-1))] [.int (if alw 0 (nI 0) 1 1 = 0 then 1 else 0)] [(m, .inr (13, [.ref nw, .ref bf, .ref sv, .ref hy, .int iS, .int rmb, .int eA, .int fA, .ref tx, .int tyd, .ref li, .int ldd, .int (nI (alw 0 (nI 0) 1 1)), .int siz, .int spt, .int wrg, .int tld, .ref nmb])), (nw, .inl (gI G, 72, .inl σ))]
      have ha_24 : alw 0 (nI 0) 1 1 = 1 := by rfl
      refine V.topeq (nI 0) (by rw [ha_24]; rfl) ?_
      refine V.eqw (ws' := [(m, .inr (13, [.ref nw, .ref bf, .ref sv, .ref hy, .int iS, .int rmb, .int eA, .int fA, .ref tx, .int tyd, .ref li, .int ldd, .int (nI 1), .int siz, .int spt, .int wrg, .int tld, .ref nmb])), (nw, .inl (gI G, 72, .inl σ))]) (by rw [ha_24]) ?_
      refine V.ifN_eq hC 0 48 dX13_unfitShares_27 rfl rfl (by omega) (fun c_27 => ?_) (fun c_27 => ?_)
      · refine V.iconst hC 0 dX13_unfitShares_48 rfl ?_
        have hq : qUnf s x = (1, 0) := qS_n hf
        refine V.eqw (ws' := [(m, .inr (13, [.ref nw, .ref bf, .ref sv, .ref hy, .int iS, .int rmb, .int eA, .int fA, .ref tx, .int tyd, .ref li, .int ldd, .int (nI (qUnf s x).1), .int siz, .int spt, .int wrg, .int tld, .ref nmb])), (nw, .inl (gI G, 72, .inl σ))]) (by rw [hq]) ?_
        exact hE 49 _ 0 () dX13_unfitShares_49 rfl (by rw [hq])
      · exact absurd c_27 (by decide)
    · exact absurd rfl c_9
  · rw [hf] at hp_2
    subst hp_2
    have hkn := (fd_lt hf hs6).1
    have hk6 := (fd_lt hf hs6).2
    have ik := hI.2.2.1 k hkn
    show V G K 3 0 0 5 [some (.ref m), some (.int x), none] [.int (nI k)] [(m, .inr (13, [.ref nw, .ref bf, .ref sv, .ref hy, .int iS, .int rmb, .int eA, .int fA, .ref tx, .int tyd, .ref li, .int ldd, .int thr, .int siz, .int spt, .int wrg, .int tld, .ref nmb])), (nw, .inl (gI G, 72, .inl σ))]
    refine V.istore_n hC dX13_unfitShares_5 [some (.ref m), some (.int x), some (.int (nI k))] (Nat.le_of_ble_eq_true rfl) rfl ?_
    refine V.aload_n hC (x := m) dX13_unfitShares_6 rfl ?_
    refine V.iload_n hC (x := nI k) dX13_unfitShares_7 rfl ?_
    refine V.iconst hC (-1) dX13_unfitShares_8 rfl ?_
    refine V.icmp_eq hC 16 dX13_unfitShares_9 rfl (fun c_9 => ?_) (fun c_9 => ?_)
    · exact absurd c_9 (nI_m1 (by omega))
    · refine V.iconst hC 1 dX13_unfitShares_12 rfl ?_
      refine V.goto hC 17 dX13_unfitShares_13 rfl ?_
      refine V.aload_n hC (x := m) dX13_unfitShares_17 rfl ?_
      refine V.iload_n hC (x := nI k) dX13_unfitShares_18 rfl ?_
      refine V.callVr (n := 1) (As := [.int (nI k)]) (rest := [.int 1, .ref m]) hC (m_isEnough (kl K) G m nw bf sv hy tx li nmb iS rmb eA fA tyd ldd thr siz spt wrg tld σ s B hR hI hB k hkn) SFk0 SFgo0 gX13_unfitShares_X13_isEnough rfl ⟨rfl, rfl⟩ (by decide +kernel) ⟨by decide, by decide, by decide, by decide⟩ [0, 1] rfl (by decide) rfl rfl rfl rfl (Nat.le_of_ble_eq_true rfl) dX13_unfitShares_19 (fun r_19 u_19 hp_19 => ?_)
      subst hp_19
      show V G K 3 0 0 22 [some (.ref m), some (.int x), some (.int (nI k))] [.int (if sTn s k ≤ hc (sSh s k) 8 then 1 else 0), .int 1, .ref m] [(m, .inr (13, [.ref nw, .ref bf, .ref sv, .ref hy, .int iS, .int rmb, .int eA, .int fA, .ref tx, .int tyd, .ref li, .int ldd, .int thr, .int siz, .int spt, .int wrg, .int tld, .ref nmb])), (nw, .inl (gI G, 72, .inl σ))]
      refine V.iconst hC 1 dX13_unfitShares_22 rfl ?_
      refine V.iconst hC 1 dX13_unfitShares_23 rfl ?_
      refine V.callV (n := 4) (As := [.int 1, .int (if sTn s k ≤ hc (sSh s k) 8 then 1 else 0), .int 1, .int 1]) (rest := []) hC (m_allows (kl K) G m nw bf sv hy tx li nmb iS rmb eA fA tyd ldd thr siz spt wrg tld 1 (if sTn s k ≤ hc (sSh s k) 8 then 1 else 0) 1 1) SFk0 SFgo0 gX13_unfitShares_X13_allows rfl ⟨rfl, rfl⟩ (by decide +kernel) ⟨by decide, by decide, by decide, by decide⟩ [0] rfl (by decide) (fun _ => rfl) rfl rfl rfl rfl (Nat.le_of_ble_eq_true rfl) dX13_unfitShares_24 (fun r_24 u_24 hp_24 => ?_)
      subst hp_24
      show V G K 3 0 0 27 [some (.ref m), some (.int x), some (.int (nI k))] [.int (if alw 1 (if sTn s k ≤ hc (sSh s k) 8 then 1 else 0) 1 1 = 0 then 1 else 0)] [(m, .inr (13, [.ref nw, .ref bf, .ref sv, .ref hy, .int iS, .int rmb, .int eA, .int fA, .ref tx, .int tyd, .ref li, .int ldd, .int (nI (alw 1 (if sTn s k ≤ hc (sSh s k) 8 then 1 else 0) 1 1)), .int siz, .int spt, .int wrg, .int tld, .ref nmb])), (nw, .inl (gI G, 72, .inl σ))]
      by_cases hg1_24 : sTn s k ≤ hc (sSh s k) 8
      · have ha_24 : alw 1 (if sTn s k ≤ hc (sSh s k) 8 then 1 else 0) 1 1 = 0 := by rw [if_pos hg1_24]; rfl
        refine V.topeq (nI 1) (by rw [ha_24]; rfl) ?_
        refine V.eqw (ws' := [(m, .inr (13, [.ref nw, .ref bf, .ref sv, .ref hy, .int iS, .int rmb, .int eA, .int fA, .ref tx, .int tyd, .ref li, .int ldd, .int (nI 0), .int siz, .int spt, .int wrg, .int tld, .ref nmb])), (nw, .inl (gI G, 72, .inl σ))]) (by rw [ha_24]) ?_
        refine V.ifN_eq hC 1 48 dX13_unfitShares_27 rfl rfl (by omega) (fun c_27 => ?_) (fun c_27 => ?_)
        · exact absurd c_27 (by decide)
        · refine V.aload_n hC (x := m) dX13_unfitShares_30 rfl ?_
          refine V.iload_n hC (x := nI k) dX13_unfitShares_31 rfl ?_
          refine V.aload_n hC (x := m) dX13_unfitShares_32 rfl ?_
          refine V.iload_n hC (x := nI k) dX13_unfitShares_33 rfl ?_
          refine V.callVr (n := 1) (As := [.int (nI k)]) (rest := [.int (nI k), .ref m]) hC (m_holdersOf (kl K) G m nw bf sv hy tx li nmb iS rmb eA fA tyd ldd (nI 0) siz spt wrg tld σ s B hR hI hB k hkn) SFk0 SFgo0 gX13_unfitShares_X13_holdersOf rfl ⟨rfl, rfl⟩ (by decide +kernel) ⟨by decide, by decide, by decide, by decide⟩ [0, 1] rfl (by decide) rfl rfl rfl rfl (Nat.le_of_ble_eq_true rfl) dX13_unfitShares_34 (fun r_34 u_34 hp_34 => ?_)
          subst hp_34
          show V G K 3 0 0 37 [some (.ref m), some (.int x), some (.int (nI k))] [.int (nI (fh (sSh s k) 8 8)), .int (nI k), .ref m] [(m, .inr (13, [.ref nw, .ref bf, .ref sv, .ref hy, .int iS, .int rmb, .int eA, .int fA, .ref tx, .int tyd, .ref li, .int ldd, .int (nI 0), .int siz, .int spt, .int wrg, .int tld, .ref nmb])), (nw, .inl (gI G, 72, .inl σ))]
          refine V.aload_n hC (x := m) dX13_unfitShares_37 rfl ?_
          refine V.iload_n hC (x := nI k) dX13_unfitShares_38 rfl ?_
          refine V.callVr (n := 1) (As := [.int (nI k)]) (rest := [.int (nI (fh (sSh s k) 8 8)), .int (nI k), .ref m]) hC (m_leading (kl K) G m nw bf sv hy tx li nmb iS rmb eA fA tyd ldd (nI 0) siz spt wrg tld σ s B hR hI hB k hkn) SFk0 SFgo0 gX13_unfitShares_X13_leading rfl ⟨rfl, rfl⟩ (by decide +kernel) ⟨by decide, by decide, by decide, by decide⟩ [0, 1] rfl (by decide) rfl rfl rfl rfl (Nat.le_of_ble_eq_true rfl) dX13_unfitShares_39 (fun r_39 u_39 hp_39 => ?_)
          subst hp_39
          show V G K 3 0 0 42 [some (.ref m), some (.int x), some (.int (nI k))] [.int (nI (fh (sSh s k) (sTn s k) 8)), .int (nI (fh (sSh s k) 8 8)), .int (nI k), .ref m] [(m, .inr (13, [.ref nw, .ref bf, .ref sv, .ref hy, .int iS, .int rmb, .int eA, .int fA, .ref tx, .int tyd, .ref li, .int ldd, .int (nI 0), .int siz, .int spt, .int wrg, .int tld, .ref nmb])), (nw, .inl (gI G, 72, .inl σ))]
          refine V.callVr (n := 3) (As := [.int (nI k), .int (nI (fh (sSh s k) 8 8)), .int (nI (fh (sSh s k) (sTn s k) 8))]) (rest := []) hC (m_unfit (kl K) G m nw bf sv hy tx li nmb iS rmb eA fA tyd ldd (nI 0) siz spt wrg tld σ s B hR hI hB k hkn (fh (sSh s k) 8 8) (fh (sSh s k) (sTn s k) 8) (fh_256 _ _ _ (by decide)) (HB.fh ik.2.2.1 _) (fh_256 _ _ _ (by decide)) (HB.fh ik.2.2.1 _)) SFk0 SFgo0 gX13_unfitShares_X13_unfit rfl ⟨rfl, rfl⟩ (by decide +kernel) ⟨by decide, by decide, by decide, by decide⟩ [0, 1] rfl (by decide) rfl rfl rfl rfl (Nat.le_of_ble_eq_true rfl) dX13_unfitShares_42 (fun r_42 u_42 hp_42 => ?_)
          subst hp_42
          show V G K 3 0 0 45 [some (.ref m), some (.int x), some (.int (nI k))] [.int (nI (unfA (sSh s k) (sTn s k)))] [(m, .inr (13, [.ref nw, .ref bf, .ref sv, .ref hy, .int iS, .int rmb, .int eA, .int fA, .ref tx, .int tyd, .ref li, .int ldd, .int (nI 0), .int siz, .int spt, .int wrg, .int tld, .ref nmb])), (nw, .inl (gI G, 72, .inl σ))]
          refine V.goto hC 49 dX13_unfitShares_45 rfl ?_
          have hq : qUnf s x = (0, nI (unfA (sSh s k) (sTn s k))) := (qS_y hf).trans (qI_y hg1_24)
          refine V.eqw (ws' := [(m, .inr (13, [.ref nw, .ref bf, .ref sv, .ref hy, .int iS, .int rmb, .int eA, .int fA, .ref tx, .int tyd, .ref li, .int ldd, .int (nI (qUnf s x).1), .int siz, .int spt, .int wrg, .int tld, .ref nmb])), (nw, .inl (gI G, 72, .inl σ))]) (by rw [hq]) ?_
          exact hE 49 _ (nI (unfA (sSh s k) (sTn s k))) () dX13_unfitShares_49 rfl (by rw [hq])
      · have ha_24 : alw 1 (if sTn s k ≤ hc (sSh s k) 8 then 1 else 0) 1 1 = 2 := by rw [if_neg hg1_24]; rfl
        refine V.topeq (nI 0) (by rw [ha_24]; rfl) ?_
        refine V.eqw (ws' := [(m, .inr (13, [.ref nw, .ref bf, .ref sv, .ref hy, .int iS, .int rmb, .int eA, .int fA, .ref tx, .int tyd, .ref li, .int ldd, .int (nI 2), .int siz, .int spt, .int wrg, .int tld, .ref nmb])), (nw, .inl (gI G, 72, .inl σ))]) (by rw [ha_24]) ?_
        refine V.ifN_eq hC 0 48 dX13_unfitShares_27 rfl rfl (by omega) (fun c_27 => ?_) (fun c_27 => ?_)
        · refine V.iconst hC 0 dX13_unfitShares_48 rfl ?_
          have hq : qUnf s x = (2, 0) := (qS_y hf).trans (qI_n hg1_24)
          refine V.eqw (ws' := [(m, .inr (13, [.ref nw, .ref bf, .ref sv, .ref hy, .int iS, .int rmb, .int eA, .int fA, .ref tx, .int tyd, .ref li, .int ldd, .int (nI (qUnf s x).1), .int siz, .int spt, .int wrg, .int tld, .ref nmb])), (nw, .inl (gI G, 72, .inl σ))]) (by rw [hq]) ?_
          exact hE 49 _ 0 () dX13_unfitShares_49 rfl (by rw [hq])
        · exact absurd c_27 (by decide)
