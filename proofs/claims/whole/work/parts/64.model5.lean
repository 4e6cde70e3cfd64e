/-! the document's model: what asks, further (printed by gen/s64.py) -/
theorem shO {s : ASt} {k b : Nat} {x : Int32} (hb : b < sNb s) (h8 : sNb s ≤ 8) (hx : x = nI b) : (if ¬ x < 0 ∧ x < nI (sNb s) then sSh s k x.toNatClampNeg else -1) = sSh s k b := by
  subst hx
  exact shK hb h8
theorem qB_c {s : ASt} {x : Int32} {f : Nat → Nat × Int32} (h : ¬ x < 0 ∧ x < nI (sNb s)) : qB s x f = f x.toNatClampNeg := if_pos h
theorem hin_y {hm f : Nat → Int32} {x : Int32} {n : Nat} (h : hm n = x) (h2 : ¬ f n = -1) : hin hm f x n + 1 = hin hm f x (n + 1) := by rw [hin, if_pos ⟨h, h2⟩]
theorem hin_n {hm f : Nat → Int32} {x : Int32} {n : Nat} (h : ¬ (hm n = x ∧ ¬ f n = -1)) : hin hm f x n = hin hm f x (n + 1) := by rw [hin, if_neg h]; rfl
set_option maxHeartbeats 4000000 in
set_option maxRecDepth 100000 in
theorem m_exists (l : Launch) (G : Gx) (m nw bf sv hy tx li nmb : Nat) (iS rmb eA fA tyd ldd thr siz spt wrg tld : Int32) (σ : Nat → Int32) (s : ASt) (B : Nat) (hR : Rel σ s) (hI : InvA B s) (hB : B < 2 ^ 30) (x : Int32) : Ct l G SF0 yX13_exists wsX13_exists ({ frames := 3, cells := 0, slots := 0, locals := 61 }) [.ref m, .int x] [(m, .inr (13, [.ref nw, .ref bf, .ref sv, .ref hy, .int iS, .int rmb, .int eA, .int fA, .ref tx, .int tyd, .ref li, .int ldd, .int thr, .int siz, .int spt, .int wrg, .int tld, .ref nmb])), (nw, .inl (gI G, 72, .inl σ))] mkI (fun (r : Int32) (_ : Unit) => r = qExists s x) (fun _ : Unit => [(m, .inr (13, [.ref nw, .ref bf, .ref sv, .ref hy, .int iS, .int rmb, .int eA, .int fA, .ref tx, .int tyd, .ref li, .int ldd, .int 0, .int siz, .int spt, .int wrg, .int tld, .ref nmb])), (nw, .inl (gI G, 72, .inl σ))]) 0 0 := by
  have hb8 := hI.1
  have hs6 := hI.2.1
  refine Ct.ofI (cc := cX13_exists) (maxL := 2) (by decide) rfl ⟨by simp [Value.category], Nat.le_of_ble_eq_true rfl⟩ ?_
  intro K hl hC hSF hnm hE
  subst hl
  have q0_ : ∀ w ∈ u_ws RX13 TX13 18, w ∈ wsX13_exists := by decide +kernel
  have q1_ : Cond.fieldLink RX13 38 "FeatherSharesModel" "thrown" "I" ∈ wsX13_exists := by decide +kernel
  show V G K 2 0 0 0 [some (.ref m), some (.int x)] [] [(m, .inr (13, [.ref nw, .ref bf, .ref sv, .ref hy, .int iS, .int rmb, .int eA, .int fA, .ref tx, .int tyd, .ref li, .int ldd, .int thr, .int siz, .int spt, .int wrg, .int tld, .ref nmb])), (nw, .inl (gI G, 72, .inl σ))]
  refine V.aload_n hC (x := m) dX13_exists_0 rfl ?_
  refine V.iconst hC 0 dX13_exists_1 rfl ?_
  refine V.putf hC (T := TX13) q0_ tyX13 tyX13_ok nmX13 12 q1_ rfl rfl (0) rfl rfl (by decide) (by simp) rfl rfl dX13_exists_2 [(m, .inr (13, [.ref nw, .ref bf, .ref sv, .ref hy, .int iS, .int rmb, .int eA, .int fA, .ref tx, .int tyd, .ref li, .int ldd, .int 0, .int siz, .int spt, .int wrg, .int tld, .ref nmb])), (nw, .inl (gI G, 72, .inl σ))] rfl ?_
  refine V.aload_n hC (x := m) dX13_exists_5 rfl ?_
  refine V.iload_n hC (x := x) dX13_exists_6 rfl ?_
  refine V.callVr (n := 1) (As := [.int x]) (rest := []) hC (m_find (kl K) G m nw bf sv hy tx li nmb iS rmb eA fA tyd ldd 0 siz spt wrg tld σ s B hR hI hB x) SFk0 SFgo0 gX13_exists_X13_find rfl ⟨rfl, rfl⟩ (by decide +kernel) ⟨by decide, by decide, by decide, by decide⟩ [0, 1] rfl (by decide) rfl rfl rfl rfl (Nat.le_of_ble_eq_true rfl) dX13_exists_7 (fun r_7 u_7 hp_7 => ?_)
  rcases hf : fd (sNu s) x (sNs s) with _ | k
  · rw [hf] at hp_7
    subst hp_7
    show V G K 2 0 0 10 [some (.ref m), some (.int x)] [.int (-1)] [(m, .inr (13, [.ref nw, .ref bf, .ref sv, .ref hy, .int iS, .int rmb, .int eA, .int fA, .ref tx, .int tyd, .ref li, .int ldd, .int 0, .int siz, .int spt, .int wrg, .int tld, .ref nmb])), (nw, .inl (gI G, 72, .inl σ))]
    refine V.iconst hC (-1) dX13_exists_10 rfl ?_
    refine V.icmp_eq hC 18 dX13_exists_11 rfl (fun c_11 => ?_) (fun c_11 => ?_)
    · refine V.iconst hC 0 dX13_exists_18 rfl ?_
      exact hE 19 _ 0 () dX13_exists_19 rfl (by rw [qExists, hf]; rfl)
    · exact absurd rfl c_11
  · rw [hf] at hp_7
    subst hp_7
    have hkn := (fd_lt hf hs6).1
    have hk6 := (fd_lt hf hs6).2
    have ik := hI.2.2.1 k hkn
    show V G K 2 0 0 10 [some (.ref m), some (.int x)] [.int (nI k)] [(m, .inr (13, [.ref nw, .ref bf, .ref sv, .ref hy, .int iS, .int rmb, .int eA, .int fA, .ref tx, .int tyd, .ref li, .int ldd, .int 0, .int siz, .int spt, .int wrg, .int tld, .ref nmb])), (nw, .inl (gI G, 72, .inl σ))]
    refine V.iconst hC (-1) dX13_exists_10 rfl ?_
    refine V.icmp_eq hC 18 dX13_exists_11 rfl (fun c_11 => ?_) (fun c_11 => ?_)
    · exact absurd c_11 (nI_m1 (by omega))
    · refine V.iconst hC 1 dX13_exists_14 rfl ?_
      refine V.goto hC 19 dX13_exists_15 rfl ?_
      exact hE 19 _ 1 () dX13_exists_19 rfl (by rw [qExists, hf]; rfl)

set_option maxHeartbeats 4000000 in
set_option maxRecDepth 100000 in
theorem m_lostTotal (l : Launch) (G : Gx) (m nw bf sv hy tx li nmb : Nat) (iS rmb eA fA tyd ldd thr siz spt wrg tld : Int32) (σ : Nat → Int32) (s : ASt) (B : Nat) (hR : Rel σ s) (hI : InvA B s) (hB : B < 2 ^ 30) : Ct l G SF0 yX13_lostTotal wsX13_lostTotal ({ frames := 0, cells := 0, slots := 0, locals := 0 }) [.ref m] [(m, .inr (13, [.ref nw, .ref bf, .ref sv, .ref hy, .int iS, .int rmb, .int eA, .int fA, .ref tx, .int tyd, .ref li, .int ldd, .int thr, .int siz, .int spt, .int wrg, .int tld, .ref nmb])), (nw, .inl (gI G, 72, .inl σ))] mkL (fun (r : Int64) (_ : Unit) => r = sLo s) (fun _ : Unit => [(m, .inr (13, [.ref nw, .ref bf, .ref sv, .ref hy, .int iS, .int rmb, .int eA, .int fA, .ref tx, .int tyd, .ref li, .int ldd, .int 0, .int siz, .int spt, .int wrg, .int tld, .ref nmb])), (nw, .inl (gI G, 72, .inl σ))]) 0 0 := by
  have hb8 := hI.1
  have hs6 := hI.2.1
  refine Ct.ofL (cc := cX13_lostTotal) (maxL := 1) (by decide) rfl ⟨by simp [Value.category], Nat.le_of_ble_eq_true rfl⟩ ?_
  intro K hl hC hSF hnm hE
  subst hl
  have q0_ : ∀ w ∈ u_ws RX13 TX13 18, w ∈ wsX13_lostTotal := by decide +kernel
  have q1_ : Cond.fieldLink RX13 38 "FeatherSharesModel" "thrown" "I" ∈ wsX13_lostTotal := by decide +kernel
  have q2_ : Cond.fieldLink RX13 9 "FeatherSharesModel" "now" "[I" ∈ wsX13_lostTotal := by decide +kernel
  show V G K 1 0 0 0 [some (.ref m)] [] [(m, .inr (13, [.ref nw, .ref bf, .ref sv, .ref hy, .int iS, .int rmb, .int eA, .int fA, .ref tx, .int tyd, .ref li, .int ldd, .int thr, .int siz, .int spt, .int wrg, .int tld, .ref nmb])), (nw, .inl (gI G, 72, .inl σ))]
  refine V.aload_n hC (x := m) dX13_lostTotal_0 rfl ?_
  refine V.iconst hC 0 dX13_lostTotal_1 rfl ?_
  refine V.putf hC (T := TX13) q0_ tyX13 tyX13_ok nmX13 12 q1_ rfl rfl (0) rfl rfl (by decide) (by simp) rfl rfl dX13_lostTotal_2 [(m, .inr (13, [.ref nw, .ref bf, .ref sv, .ref hy, .int iS, .int rmb, .int eA, .int fA, .ref tx, .int tyd, .ref li, .int ldd, .int 0, .int siz, .int spt, .int wrg, .int tld, .ref nmb])), (nw, .inl (gI G, 72, .inl σ))] rfl ?_
  refine V.aload_n hC (x := m) dX13_lostTotal_5 rfl ?_
  refine V.getf hC (T := TX13) q0_ 0 q2_ rfl (0) rfl rfl (by decide) (.ref nw) rfl dX13_lostTotal_6 ?_
  refine V.iconst hC 3 dX13_lostTotal_9 rfl ?_
  refine V.iald hC dX13_lostTotal_10 (1) rfl 3 rfl (by omega) (by decide) ?_
  refine V.i2l hC dX13_lostTotal_11 ?_
  exact hE 12 _ ((σ 3).toInt64) () dX13_lostTotal_12 (by obtain ⟨lo, hlo1, hlo2⟩ := hI.2.2.2.2.2; rw [hR.2.2.2.1, hlo2, lN_i, nI_l (by omega)])

set_option maxHeartbeats 4000000 in
set_option maxRecDepth 100000 in
theorem m_secretAt (l : Launch) (G : Gx) (m nw bf sv hy tx li nmb : Nat) (iS rmb eA fA tyd ldd thr siz spt wrg tld : Int32) (σ : Nat → Int32) (s : ASt) (B : Nat) (hR : Rel σ s) (hI : InvA B s) (hB : B < 2 ^ 30) (x : Int32) : Ct l G SF0 yX13_secretAt wsX13_secretAt ({ frames := 2, cells := 0, slots := 0, locals := 45 }) [.ref m, .int x] [(m, .inr (13, [.ref nw, .ref bf, .ref sv, .ref hy, .int iS, .int rmb, .int eA, .int fA, .ref tx, .int tyd, .ref li, .int ldd, .int thr, .int siz, .int spt, .int wrg, .int tld, .ref nmb])), (nw, .inl (gI G, 72, .inl σ))] mkI (fun (r : Int32) (_ : Unit) => r = (qSecAt s x).2) (fun _ : Unit => [(m, .inr (13, [.ref nw, .ref bf, .ref sv, .ref hy, .int iS, .int rmb, .int eA, .int fA, .ref tx, .int tyd, .ref li, .int ldd, .int (nI (qSecAt s x).1), .int siz, .int spt, .int wrg, .int tld, .ref nmb])), (nw, .inl (gI G, 72, .inl σ))]) 0 0 := by
  have hb8 := hI.1
  have hs6 := hI.2.1
  refine Ct.ofI (cc := cX13_secretAt) (maxL := 2) (by decide) rfl ⟨by simp [Value.category], Nat.le_of_ble_eq_true rfl⟩ ?_
  intro K hl hC hSF hnm hE
  subst hl
  have q0_ : ∀ w ∈ u_ws RX13 TX13 18, w ∈ wsX13_secretAt := by decide +kernel
  have q1_ : Cond.fieldLink RX13 9 "FeatherSharesModel" "now" "[I" ∈ wsX13_secretAt := by decide +kernel
  show V G K 2 0 0 0 [some (.ref m), some (.int x)] [] [(m, .inr (13, [.ref nw, .ref bf, .ref sv, .ref hy, .int iS, .int rmb, .int eA, .int fA, .ref tx, .int tyd, .ref li, .int ldd, .int thr, .int siz, .int spt, .int wrg, .int tld, .ref nmb])), (nw, .inl (gI G, 72, .inl σ))]
  refine V.aload_n hC (x := m) dX13_secretAt_0 rfl ?_
  refine V.iload_n hC (x := x) dX13_secretAt_1 rfl ?_
  refine V.iconst hC 0 dX13_secretAt_2 rfl ?_
  refine V.aload_n hC (x := m) dX13_secretAt_3 rfl ?_
  refine V.getf hC (T := TX13) q0_ 0 q1_ rfl (0) rfl rfl (by decide) (.ref nw) rfl dX13_secretAt_4 ?_
  refine V.iconst hC 1 dX13_secretAt_7 rfl ?_
  refine V.iald hC dX13_secretAt_8 (1) rfl 1 rfl (by omega) (by decide) ?_
  refine V.iconst hC 1 dX13_secretAt_9 rfl ?_
  refine V.isub hC dX13_secretAt_10 ?_
  refine V.callSr (n := 3) (As := [.int x, .int 0, .int ((σ 1) - 1)]) (rest := [.ref m]) hC (m_isIn (kl K) G x 0 (σ 1 - 1)) SFk0 SFgo0 gX13_secretAt_X13_isIn rfl ⟨rfl, rfl⟩ (by decide +kernel) ⟨by decide, by decide, by decide, by decide⟩ [] rfl (by decide) rfl rfl (Nat.le_of_ble_eq_true rfl) dX13_secretAt_11 (fun r_11 u_11 hp_11 => ?_)
  subst hp_11
  show V G K 2 0 0 14 [some (.ref m), some (.int x)] [.int (if ¬ x < 0 ∧ ¬ σ 1 - 1 < x then 1 else 0), .ref m] [(m, .inr (13, [.ref nw, .ref bf, .ref sv, .ref hy, .int iS, .int rmb, .int eA, .int fA, .ref tx, .int tyd, .ref li, .int ldd, .int thr, .int siz, .int spt, .int wrg, .int tld, .ref nmb])), (nw, .inl (gI G, 72, .inl σ))]
  refine V.callV (n := 1) (As := [.int (if ¬ x < 0 ∧ ¬ σ 1 - 1 < x then 1 else 0)]) (rest := []) hC (m_goes (kl K) G m nw bf sv hy tx li nmb iS rmb eA fA tyd ldd thr siz spt wrg tld (if ¬ x < 0 ∧ ¬ σ 1 - 1 < x then 1 else 0)) SFk0 SFgo0 gX13_secretAt_X13_goes rfl ⟨rfl, rfl⟩ (by decide +kernel) ⟨by decide, by decide, by decide, by decide⟩ [0] rfl (by decide) (fun _ => rfl) rfl rfl rfl rfl (Nat.le_of_ble_eq_true rfl) dX13_secretAt_14 (fun r_14 u_14 hp_14 => ?_)
  subst hp_14
  show V G K 2 0 0 17 [some (.ref m), some (.int x)] [.int (if alw (if ¬ x < 0 ∧ ¬ σ 1 - 1 < x then 1 else 0) 1 1 1 = 0 then 1 else 0)] [(m, .inr (13, [.ref nw, .ref bf, .ref sv, .ref hy, .int iS, .int rmb, .int eA, .int fA, .ref tx, .int tyd, .ref li, .int ldd, .int (nI (alw (if ¬ x < 0 ∧ ¬ σ 1 - 1 < x then 1 else 0) 1 1 1)), .int siz, .int spt, .int wrg, .int tld, .ref nmb])), (nw, .inl (gI G, 72, .inl σ))]
  by_cases hg0_14 : ¬ x < 0 ∧ ¬ σ 1 - 1 < x
  · have ha_14 : alw (if ¬ x < 0 ∧ ¬ σ 1 - 1 < x then 1 else 0) 1 1 1 = 0 := by rw [if_pos hg0_14]; rfl
    refine V.topeq (nI 1) (by rw [ha_14]; rfl) ?_
    refine V.eqw (ws' := [(m, .inr (13, [.ref nw, .ref bf, .ref sv, .ref hy, .int iS, .int rmb, .int eA, .int fA, .ref tx, .int tyd, .ref li, .int ldd, .int (nI 0), .int siz, .int spt, .int wrg, .int tld, .ref nmb])), (nw, .inl (gI G, 72, .inl σ))]) (by rw [ha_14]) ?_
    refine V.ifN_eq hC 1 29 dX13_secretAt_17 rfl rfl (by omega) (fun c_17 => ?_) (fun c_17 => ?_)
    · exact absurd c_17 (by decide)
    · have hgx : ¬ x < 0 ∧ x < nI (sNs s) := (by rw [hR.2.1]; exact bird_iff (nb := sNs s) (by omega) : (¬ x < 0 ∧ ¬ σ 1 - 1 < x) ↔ ¬ x < 0 ∧ x < nI (sNs s)).mp hg0_14
      obtain ⟨k, hkn, hxk⟩ := i32_nat (by omega) hgx
      refine V.aload_n hC (x := m) dX13_secretAt_20 rfl ?_
      refine V.iload_n hC (x := x) dX13_secretAt_21 rfl ?_
      refine V.topeq (nI k) hxk ?_
      refine V.iconst hC 0 dX13_secretAt_22 rfl ?_
      refine V.callVr (n := 2) (As := [.int (nI k), .int 0]) (rest := []) hC (m_of (kl K) G m nw bf sv hy tx li nmb iS rmb eA fA tyd ldd (nI 0) siz spt wrg tld σ k (by omega) 0 (by decide)) SFk0 SFgo0 gX13_secretAt_X13_of rfl ⟨rfl, rfl⟩ (by decide +kernel) ⟨by decide, by decide, by decide, by decide⟩ [0, 1] rfl (by decide) rfl rfl rfl rfl (Nat.le_of_ble_eq_true rfl) dX13_secretAt_23 (fun r_23 u_23 hp_23 => ?_)
      have hq_23 := hp_23.trans (hR.2.2.2.2.2 k hkn).1
      subst hq_23
      show V G K 2 0 0 26 [some (.ref m), some (.int x)] [.int (sNu s k)] [(m, .inr (13, [.ref nw, .ref bf, .ref sv, .ref hy, .int iS, .int rmb, .int eA, .int fA, .ref tx, .int tyd, .ref li, .int ldd, .int (nI 0), .int siz, .int spt, .int wrg, .int tld, .ref nmb])), (nw, .inl (gI G, 72, .inl σ))]
      refine V.goto hC 30 dX13_secretAt_26 rfl ?_
      have hq : qSecAt s x = (0, sNu s k) := (qI_y hgx).trans (by rw [hxk, nI_clamp (by omega)])
      refine V.eqw (ws' := [(m, .inr (13, [.ref nw, .ref bf, .ref sv, .ref hy, .int iS, .int rmb, .int eA, .int fA, .ref tx, .int tyd, .ref li, .int ldd, .int (nI (qSecAt s x).1), .int siz, .int spt, .int wrg, .int tld, .ref nmb])), (nw, .inl (gI G, 72, .inl σ))]) (by rw [hq]) ?_
      exact hE 30 _ (sNu s k) () dX13_secretAt_30 rfl (by rw [hq])
  · have ha_14 : alw (if ¬ x < 0 ∧ ¬ σ 1 - 1 < x then 1 else 0) 1 1 1 = 1 := by rw [if_neg hg0_14]; rfl
    refine V.topeq (nI 0) (by rw [ha_14]; rfl) ?_
    refine V.eqw (ws' := [(m, .inr (13, [.ref nw, .ref bf, .ref sv, .ref hy, .int iS, .int rmb, .int eA, .int fA, .ref tx, .int tyd, .ref li, .int ldd, .int (nI 1), .int siz, .int spt, .int wrg, .int tld, .ref nmb])), (nw, .inl (gI G, 72, .inl σ))]) (by rw [ha_14]) ?_
    refine V.ifN_eq hC 0 29 dX13_secretAt_17 rfl rfl (by omega) (fun c_17 => ?_) (fun c_17 => ?_)
    · refine V.iconst hC 0 dX13_secretAt_29 rfl ?_
      have hq : qSecAt s x = (1, 0) := qI_n (fun z => hg0_14 ((by rw [hR.2.1]; exact bird_iff (nb := sNs s) (by omega) : (¬ x < 0 ∧ ¬ σ 1 - 1 < x) ↔ ¬ x < 0 ∧ x < nI (sNs s)).mpr z))
      refine V.eqw (ws' := [(m, .inr (13, [.ref nw, .ref bf, .ref sv, .ref hy, .int iS, .int rmb, .int eA, .int fA, .ref tx, .int tyd, .ref li, .int ldd, .int (nI (qSecAt s x).1), .int siz, .int spt, .int wrg, .int tld, .ref nmb])), (nw, .inl (gI G, 72, .inl σ))]) (by rw [hq]) ?_
      exact hE 30 _ 0 () dX13_secretAt_30 rfl (by rw [hq])
    · exact absurd c_17 (by decide)

set_option maxHeartbeats 4000000 in
set_option maxRecDepth 100000 in
theorem m_holds (l : Launch) (G : Gx) (m nw bf sv hy tx li nmb : Nat) (iS rmb eA fA tyd ldd thr siz spt wrg tld : Int32) (σ : Nat → Int32) (s : ASt) (B : Nat) (hR : Rel σ s) (hI : InvA B s) (hB : B < 2 ^ 30) (x y : Int32) : Ct l G SF0 yX13_holds wsX13_holds ({ frames := 3, cells := 0, slots := 0, locals := 65 }) [.ref m, .int x, .int y] [(m, .inr (13, [.ref nw, .ref bf, .ref sv, .ref hy, .int iS, .int rmb, .int eA, .int fA, .ref tx, .int tyd, .ref li, .int ldd, .int thr, .int siz, .int spt, .int wrg, .int tld, .ref nmb])), (nw, .inl (gI G, 72, .inl σ))] mkI (fun (r : Int32) (_ : Unit) => r = (qHolds s x y).2) (fun _ : Unit => [(m, .inr (13, [.ref nw, .ref bf, .ref sv, .ref hy, .int iS, .int rmb, .int eA, .int fA, .ref tx, .int tyd, .ref li, .int ldd, .int (nI (qHolds s x y).1), .int siz, .int spt, .int wrg, .int tld, .ref nmb])), (nw, .inl (gI G, 72, .inl σ))]) 0 0 := by
  have hb8 := hI.1
  have hs6 := hI.2.1
  refine Ct.ofI (cc := cX13_holds) (maxL := 4) (by decide) rfl ⟨by simp [Value.category], Nat.le_of_ble_eq_true rfl⟩ ?_
  intro K hl hC hSF hnm hE
  subst hl
  show V G K 4 0 0 0 [some (.ref m), some (.int x), some (.int y), none] [] [(m, .inr (13, [.ref nw, .ref bf, .ref sv, .ref hy, .int iS, .int rmb, .int eA, .int fA, .ref tx, .int tyd, .ref li, .int ldd, .int thr, .int siz, .int spt, .int wrg, .int tld, .ref nmb])), (nw, .inl (gI G, 72, .inl σ))]
  refine V.aload_n hC (x := m) dX13_holds_0 rfl ?_
  refine V.iload_n hC (x := y) dX13_holds_1 rfl ?_
  refine V.callVr (n := 1) (As := [.int y]) (rest := []) hC (m_find (kl K) G m nw bf sv hy tx li nmb iS rmb eA fA tyd ldd thr siz spt wrg tld σ s B hR hI hB y) SFk0 SFgo0 gX13_holds_X13_find rfl ⟨rfl, rfl⟩ (by decide +kernel) ⟨by decide, by decide, by decide, by decide⟩ [0, 1] rfl (by decide) rfl rfl rfl rfl (Nat.le_of_ble_eq_true rfl) dX13_holds_2 (fun r_2 u_2 hp_2 => ?_)
  rcases hf : fd (sNu s) y (sNs s) with _ | k
  · rw [hf] at hp_2
    subst hp_2
    show V G K 4 0 0 5 [some (.ref m), some (.int x), some (.int y), none] [.int (-1)] [(m, .inr (13, [.ref nw, .ref bf, .ref sv, .ref hy, .int iS, .int rmb, .int eA, .int fA, .ref tx, .int tyd, .ref li, .int ldd, .int thr, .int siz, .int spt, .int wrg, .int tld, .ref nmb])), (nw, .inl (gI G, 72, .inl σ))]
    refine V.istore_n hC dX13_holds_5 [some (.ref m), some (.int x), some (.int y), some (.int (-1))] (Nat.le_of_ble_eq_true rfl) rfl ?_
    refine V.aload_n hC (x := m) dX13_holds_6 rfl ?_
    refine V.aload_n hC (x := m) dX13_holds_7 rfl ?_
    refine V.iload_n hC (x := x) dX13_holds_8 rfl ?_
    refine V.callVr (n := 1) (As := [.int x]) (rest := [.ref m]) hC (m_isBird (kl K) G m nw bf sv hy tx li nmb iS rmb eA fA tyd ldd thr siz spt wrg tld σ s B hR hI hB x) SFk0 SFgo0 gX13_holds_X13_isBird rfl ⟨rfl, rfl⟩ (by decide +kernel) ⟨by decide, by decide, by decide, by decide⟩ [0, 1] rfl (by decide) rfl rfl rfl rfl (Nat.le_of_ble_eq_true rfl) dX13_holds_9 (fun r_9 u_9 hp_9 => ?_)
    subst hp_9
    show V G K 4 0 0 12 [some (.ref m), some (.int x), some (.int y), some (.int (-1))] [.int (if ¬ x < 0 ∧ x < nI (sNb s) then 1 else 0), .ref m] [(m, .inr (13, [.ref nw, .ref bf, .ref sv, .ref hy, .int iS, .int rmb, .int eA, .int fA, .ref tx, .int tyd, .ref li, .int ldd, .int thr, .int siz, .int spt, .int wrg, .int tld, .ref nmb])), (nw, .inl (gI G, 72, .inl σ))]
    refine V.iload_n hC (x := -1) dX13_holds_12 rfl ?_
    refine V.iconst hC (-1) dX13_holds_13 rfl ?_
    refine V.icmp_eq hC 21 dX13_holds_14 rfl (fun c_14 => ?_) (fun c_14 => ?_)
    · refine V.iconst hC 0 dX13_holds_21 rfl ?_
      refine V.iconst hC 1 dX13_holds_22 rfl ?_
      refine V.iconst hC 1 dX13_holds_23 rfl ?_
      refine V.callV (n := 4) (As := [.int (if ¬ x < 0 ∧ x < nI (sNb s) then 1 else 0), .int 0, .int 1, .int 1]) (rest := []) hC (m_allows (kl K) G m nw bf sv hy tx li nmb iS rmb eA fA tyd ldd thr siz spt wrg tld (if ¬ x < 0 ∧ x < nI (sNb s) then 1 else 0) 0 1 1) SFk0 SFgo0 gX13_holds_X13_allows rfl ⟨rfl, rfl⟩ (by decide +kernel) ⟨by decide, by decide, by decide, by decide⟩ [0] rfl (by decide) (fun _ => rfl) rfl rfl rfl rfl (Nat.le_of_ble_eq_true rfl) dX13_holds_24 (fun r_24 u_24 hp_24 => ?_)
      subst hp_24
      show V G K 4 0 0 27 [some (.ref m), some (.int x), some (.int y), some (.int (-1))] [.int (if alw (if ¬ x < 0 ∧ x < nI (sNb s) then 1 else 0) 0 1 1 = 0 then 1 else 0)] [(m, .inr (13, [.ref nw, .ref bf, .ref sv, .ref hy, .int iS, .int rmb, .int eA, .int fA, .ref tx, .int tyd, .ref li, .int ldd, .int (nI (alw (if ¬ x < 0 ∧ x < nI (sNb s) then 1 else 0) 0 1 1)), .int siz, .int spt, .int wrg, .int tld, .ref nmb])), (nw, .inl (gI G, 72, .inl σ))]
      by_cases hg0_24 : ¬ x < 0 ∧ x < nI (sNb s)
      · have ha_24 : alw (if ¬ x < 0 ∧ x < nI (sNb s) then 1 else 0) 0 1 1 = 2 := by rw [if_pos hg0_24]; rfl
        refine V.topeq (nI 0) (by rw [ha_24]; rfl) ?_
        refine V.eqw (ws' := [(m, .inr (13, [.ref nw, .ref bf, .ref sv, .ref hy, .int iS, .int rmb, .int eA, .int fA, .ref tx, .int tyd, .ref li, .int ldd, .int (nI 2), .int siz, .int spt, .int wrg, .int tld, .ref nmb])), (nw, .inl (gI G, 72, .inl σ))]) (by rw [ha_24]) ?_
        refine V.ifN_eq hC 0 44 dX13_holds_27 rfl rfl (by omega) (fun c_27 => ?_) (fun c_27 => ?_)
        · refine V.iconst hC 0 dX13_holds_44 rfl ?_
          have hq : qHolds s x y = (2, 0) := (qB_c hg0_24).trans (qS_n hf)
          refine V.eqw (ws' := [(m, .inr (13, [.ref nw, .ref bf, .ref sv, .ref hy, .int iS, .int rmb, .int eA, .int fA, .ref tx, .int tyd, .ref li, .int ldd, .int (nI (qHolds s x y).1), .int siz, .int spt, .int wrg, .int tld, .ref nmb])), (nw, .inl (gI G, 72, .inl σ))]) (by rw [hq]) ?_
          exact hE 45 _ 0 () dX13_holds_45 rfl (by rw [hq])
        · exact absurd c_27 (by decide)
      · have ha_24 : alw (if ¬ x < 0 ∧ x < nI (sNb s) then 1 else 0) 0 1 1 = 1 := by rw [if_neg hg0_24]; rfl
        refine V.topeq (nI 0) (by rw [ha_24]; rfl) ?_
        refine V.eqw (ws' := [(m, .inr (13, [.ref nw, .ref bf, .ref sv, .ref hy, .int iS, .int rmb, .int eA, .int fA, .ref tx, .int tyd, .ref li, .int ldd, .int (nI 1), .int siz, .int spt, .int wrg, .int tld, .ref nmb])), (nw, .inl (gI G, 72, .inl σ))]) (by rw [ha_24]) ?_
        refine V.ifN_eq hC 0 44 dX13_holds_27 rfl rfl (by omega) (fun c_27 => ?_) (fun c_27 => ?_)
        · refine V.iconst hC 0 dX13_holds_44 rfl ?_
          have hq : qHolds s x y = (1, 0) := qB_n hg0_24
          refine V.eqw (ws' := [(m, .inr (13, [.ref nw, .ref bf, .ref sv, .ref hy, .int iS, .int rmb, .int eA, .int fA, .ref tx, .int tyd, .ref li, .int ldd, .int (nI (qHolds s x y).1), .int siz, .int spt, .int wrg, .int tld, .ref nmb])), (nw, .inl (gI G, 72, .inl σ))]) (by rw [hq]) ?_
          exact hE 45 _ 0 () dX13_holds_45 rfl (by rw [hq])
        · exact absurd c_27 (by decide)
    · exact absurd rfl c_14
  · rw [hf] at hp_2
    subst hp_2
    have hkn := (fd_lt hf hs6).1
    have hk6 := (fd_lt hf hs6).2
    have ik := hI.2.2.1 k hkn
    show V G K 4 0 0 5 [some (.ref m), some (.int x), some (.int y), none] [.int (nI k)] [(m, .inr (13, [.ref nw, .ref bf, .ref sv, .ref hy, .int iS, .int rmb, .int eA, .int fA, .ref tx, .int tyd, .ref li, .int ldd, .int thr, .int siz, .int spt, .int wrg, .int tld, .ref nmb])), (nw, .inl (gI G, 72, .inl σ))]
    refine V.istore_n hC dX13_holds_5 [some (.ref m), some (.int x), some (.int y), some (.int (nI k))] (Nat.le_of_ble_eq_true rfl) rfl ?_
    refine V.aload_n hC (x := m) dX13_holds_6 rfl ?_
    refine V.aload_n hC (x := m) dX13_holds_7 rfl ?_
    refine V.iload_n hC (x := x) dX13_holds_8 rfl ?_
    refine V.callVr (n := 1) (As := [.int x]) (rest := [.ref m]) hC (m_isBird (kl K) G m nw bf sv hy tx li nmb iS rmb eA fA tyd ldd thr siz spt wrg tld σ s B hR hI hB x) SFk0 SFgo0 gX13_holds_X13_isBird rfl ⟨rfl, rfl⟩ (by decide +kernel) ⟨by decide, by decide, by decide, by decide⟩ [0, 1] rfl (by decide) rfl rfl rfl rfl (Nat.le_of_ble_eq_true rfl) dX13_holds_9 (fun r_9 u_9 hp_9 => ?_)
    subst hp_9
    show V G K 4 0 0 12 [some (.ref m), some (.int x), some (.int y), some (.int (nI k))] [.int (if ¬ x < 0 ∧ x < nI (sNb s) then 1 else 0), .ref m] [(m, .inr (13, [.ref nw, .ref bf, .ref sv, .ref hy, .int iS, .int rmb, .int eA, .int fA, .ref tx, .int tyd, .ref li, .int ldd, .int thr, .int siz, .int spt, .int wrg, .int tld, .ref nmb])), (nw, .inl (gI G, 72, .inl σ))]
    refine V.iload_n hC (x := nI k) dX13_holds_12 rfl ?_
    refine V.iconst hC (-1) dX13_holds_13 rfl ?_
    refine V.icmp_eq hC 21 dX13_holds_14 rfl (fun c_14 => ?_) (fun c_14 => ?_)
    · exact absurd c_14 (nI_m1 (by omega))
    · refine V.iconst hC 1 dX13_holds_17 rfl ?_
      refine V.goto hC 22 dX13_holds_18 rfl ?_
      refine V.iconst hC 1 dX13_holds_22 rfl ?_
      refine V.iconst hC 1 dX13_holds_23 rfl ?_
      refine V.callV (n := 4) (As := [.int (if ¬ x < 0 ∧ x < nI (sNb s) then 1 else 0), .int 1, .int 1, .int 1]) (rest := []) hC (m_allows (kl K) G m nw bf sv hy tx li nmb iS rmb eA fA tyd ldd thr siz spt wrg tld (if ¬ x < 0 ∧ x < nI (sNb s) then 1 else 0) 1 1 1) SFk0 SFgo0 gX13_holds_X13_allows rfl ⟨rfl, rfl⟩ (by decide +kernel) ⟨by decide, by decide, by decide, by decide⟩ [0] rfl (by decide) (fun _ => rfl) rfl rfl rfl rfl (Nat.le_of_ble_eq_true rfl) dX13_holds_24 (fun r_24 u_24 hp_24 => ?_)
      subst hp_24
      show V G K 4 0 0 27 [some (.ref m), some (.int x), some (.int y), some (.int (nI k))] [.int (if alw (if ¬ x < 0 ∧ x < nI (sNb s) then 1 else 0) 1 1 1 = 0 then 1 else 0)] [(m, .inr (13, [.ref nw, .ref bf, .ref sv, .ref hy, .int iS, .int rmb, .int eA, .int fA, .ref tx, .int tyd, .ref li, .int ldd, .int (nI (alw (if ¬ x < 0 ∧ x < nI (sNb s) then 1 else 0) 1 1 1)), .int siz, .int spt, .int wrg, .int tld, .ref nmb])), (nw, .inl (gI G, 72, .inl σ))]
      by_cases hg0_24 : ¬ x < 0 ∧ x < nI (sNb s)
      · have ha_24 : alw (if ¬ x < 0 ∧ x < nI (sNb s) then 1 else 0) 1 1 1 = 0 := by rw [if_pos hg0_24]; rfl
        refine V.topeq (nI 1) (by rw [ha_24]; rfl) ?_
        refine V.eqw (ws' := [(m, .inr (13, [.ref nw, .ref bf, .ref sv, .ref hy, .int iS, .int rmb, .int eA, .int fA, .ref tx, .int tyd, .ref li, .int ldd, .int (nI 0), .int siz, .int spt, .int wrg, .int tld, .ref nmb])), (nw, .inl (gI G, 72, .inl σ))]) (by rw [ha_24]) ?_
        refine V.ifN_eq hC 1 44 dX13_holds_27 rfl rfl (by omega) (fun c_27 => ?_) (fun c_27 => ?_)
        · exact absurd c_27 (by decide)
        · obtain ⟨b, hb, hxb⟩ := i32_nat (by omega) hg0_24
          refine V.aload_n hC (x := m) dX13_holds_30 rfl ?_
          refine V.iload_n hC (x := x) dX13_holds_31 rfl ?_
          refine V.iload_n hC (x := nI k) dX13_holds_32 rfl ?_
          refine V.callVr (n := 2) (As := [.int x, .int (nI k)]) (rest := []) hC (m_shareOf (kl K) G m nw bf sv hy tx li nmb iS rmb eA fA tyd ldd (nI 0) siz spt wrg tld σ s B hR hI hB x k hkn) SFk0 SFgo0 gX13_holds_X13_shareOf rfl ⟨rfl, rfl⟩ (by decide +kernel) ⟨by decide, by decide, by decide, by decide⟩ [0, 1] rfl (by decide) rfl rfl rfl rfl (Nat.le_of_ble_eq_true rfl) dX13_holds_33 (fun r_33 u_33 hp_33 => ?_)
          have hq_33 := hp_33.trans (shO hb hb8 hxb)
          subst hq_33
          show V G K 4 0 0 36 [some (.ref m), some (.int x), some (.int y), some (.int (nI k))] [.int (sSh s k b)] [(m, .inr (13, [.ref nw, .ref bf, .ref sv, .ref hy, .int iS, .int rmb, .int eA, .int fA, .ref tx, .int tyd, .ref li, .int ldd, .int (nI 0), .int siz, .int spt, .int wrg, .int tld, .ref nmb])), (nw, .inl (gI G, 72, .inl σ))]
          refine V.iconst hC (-1) dX13_holds_36 rfl ?_
          refine V.icmp_eq hC 44 dX13_holds_37 rfl (fun c_37 => ?_) (fun c_37 => ?_)
          · refine V.iconst hC 0 dX13_holds_44 rfl ?_
            have hq : qHolds s x y = (0, 0) := (qB_y hI.1 hb hxb).trans ((qS_y hf).trans (congrArg (Prod.mk 0) (if_pos c_37)))
            refine V.eqw (ws' := [(m, .inr (13, [.ref nw, .ref bf, .ref sv, .ref hy, .int iS, .int rmb, .int eA, .int fA, .ref tx, .int tyd, .ref li, .int ldd, .int (nI (qHolds s x y).1), .int siz, .int spt, .int wrg, .int tld, .ref nmb])), (nw, .inl (gI G, 72, .inl σ))]) (by rw [hq]) ?_
            exact hE 45 _ 0 () dX13_holds_45 rfl (by rw [hq])
          · refine V.iconst hC 1 dX13_holds_40 rfl ?_
            refine V.goto hC 45 dX13_holds_41 rfl ?_
            have hq : qHolds s x y = (0, 1) := (qB_y hI.1 hb hxb).trans ((qS_y hf).trans (congrArg (Prod.mk 0) (if_neg c_37)))
            refine V.eqw (ws' := [(m, .inr (13, [.ref nw, .ref bf, .ref sv, .ref hy, .int iS, .int rmb, .int eA, .int fA, .ref tx, .int tyd, .ref li, .int ldd, .int (nI (qHolds s x y).1), .int siz, .int spt, .int wrg, .int tld, .ref nmb])), (nw, .inl (gI G, 72, .inl σ))]) (by rw [hq]) ?_
            exact hE 45 _ 1 () dX13_holds_45 rfl (by rw [hq])
      · have ha_24 : alw (if ¬ x < 0 ∧ x < nI (sNb s) then 1 else 0) 1 1 1 = 1 := by rw [if_neg hg0_24]; rfl
        refine V.topeq (nI 0) (by rw [ha_24]; rfl) ?_
        refine V.eqw (ws' := [(m, .inr (13, [.ref nw, .ref bf, .ref sv, .ref hy, .int iS, .int rmb, .int eA, .int fA, .ref tx, .int tyd, .ref li, .int ldd, .int (nI 1), .int siz, .int spt, .int wrg, .int tld, .ref nmb])), (nw, .inl (gI G, 72, .inl σ))]) (by rw [ha_24]) ?_
        refine V.ifN_eq hC 0 44 dX13_holds_27 rfl rfl (by omega) (fun c_27 => ?_) (fun c_27 => ?_)
        · refine V.iconst hC 0 dX13_holds_44 rfl ?_
          have hq : qHolds s x y = (1, 0) := qB_n hg0_24
          refine V.eqw (ws' := [(m, .inr (13, [.ref nw, .ref bf, .ref sv, .ref hy, .int iS, .int rmb, .int eA, .int fA, .ref tx, .int tyd, .ref li, .int ldd, .int (nI (qHolds s x y).1), .int siz, .int spt, .int wrg, .int tld, .ref nmb])), (nw, .inl (gI G, 72, .inl σ))]) (by rw [hq]) ?_
          exact hE 45 _ 0 () dX13_holds_45 rfl (by rw [hq])
        · exact absurd c_27 (by decide)

set_option maxHeartbeats 4000000 in
set_option maxRecDepth 100000 in
theorem m_inverse (l : Launch) (G : Gx) (m nw bf sv hy tx li nmb : Nat) (iS rmb eA fA tyd ldd thr siz spt wrg tld : Int32) (σ : Nat → Int32) (s : ASt) (B : Nat) (hR : Rel σ s) (hI : InvA B s) (hB : B < 2 ^ 30) (x : Int32) : Ct l G SF0 yX13_inverse wsX13_inverse ({ frames := 2, cells := 0, slots := 0, locals := 45 }) [.ref m, .int x] [(m, .inr (13, [.ref nw, .ref bf, .ref sv, .ref hy, .int iS, .int rmb, .int eA, .int fA, .ref tx, .int tyd, .ref li, .int ldd, .int thr, .int siz, .int spt, .int wrg, .int tld, .ref nmb])), (nw, .inl (gI G, 72, .inl σ))] mkI (fun (r : Int32) (_ : Unit) => r = (qInv x).2) (fun _ : Unit => [(m, .inr (13, [.ref nw, .ref bf, .ref sv, .ref hy, .int iS, .int rmb, .int eA, .int fA, .ref tx, .int tyd, .ref li, .int ldd, .int (nI (qInv x).1), .int siz, .int spt, .int wrg, .int tld, .ref nmb])), (nw, .inl (gI G, 72, .inl σ))]) 0 0 := by
  have hb8 := hI.1
  have hs6 := hI.2.1
  refine Ct.ofI (cc := cX13_inverse) (maxL := 2) (by decide) rfl ⟨by simp [Value.category], Nat.le_of_ble_eq_true rfl⟩ ?_
  intro K hl hC hSF hnm hE
  subst hl
  show V G K 2 0 0 0 [some (.ref m), some (.int x)] [] [(m, .inr (13, [.ref nw, .ref bf, .ref sv, .ref hy, .int iS, .int rmb, .int eA, .int fA, .ref tx, .int tyd, .ref li, .int ldd, .int thr, .int siz, .int spt, .int wrg, .int tld, .ref nmb])), (nw, .inl (gI G, 72, .inl σ))]
  refine V.aload_n hC (x := m) dX13_inverse_0 rfl ?_
  refine V.iload_n hC (x := x) dX13_inverse_1 rfl ?_
  refine V.iconst hC 1 dX13_inverse_2 rfl ?_
  refine V.bipush hC 96 dX13_inverse_3 rfl ?_
  refine V.callSr (n := 3) (As := [.int x, .int 1, .int 96]) (rest := [.ref m]) hC (m_isIn (kl K) G x 1 96) SFk0 SFgo0 gX13_inverse_X13_isIn rfl ⟨rfl, rfl⟩ (by decide +kernel) ⟨by decide, by decide, by decide, by decide⟩ [] rfl (by decide) rfl rfl (Nat.le_of_ble_eq_true rfl) dX13_inverse_5 (fun r_5 u_5 hp_5 => ?_)
  subst hp_5
  show V G K 2 0 0 8 [some (.ref m), some (.int x)] [.int (if ¬ x < 1 ∧ ¬ 96 < x then 1 else 0), .ref m] [(m, .inr (13, [.ref nw, .ref bf, .ref sv, .ref hy, .int iS, .int rmb, .int eA, .int fA, .ref tx, .int tyd, .ref li, .int ldd, .int thr, .int siz, .int spt, .int wrg, .int tld, .ref nmb])), (nw, .inl (gI G, 72, .inl σ))]
  refine V.callV (n := 1) (As := [.int (if ¬ x < 1 ∧ ¬ 96 < x then 1 else 0)]) (rest := []) hC (m_goes (kl K) G m nw bf sv hy tx li nmb iS rmb eA fA tyd ldd thr siz spt wrg tld (if ¬ x < 1 ∧ ¬ 96 < x then 1 else 0)) SFk0 SFgo0 gX13_inverse_X13_goes rfl ⟨rfl, rfl⟩ (by decide +kernel) ⟨by decide, by decide, by decide, by decide⟩ [0] rfl (by decide) (fun _ => rfl) rfl rfl rfl rfl (Nat.le_of_ble_eq_true rfl) dX13_inverse_8 (fun r_8 u_8 hp_8 => ?_)
  subst hp_8
  show V G K 2 0 0 11 [some (.ref m), some (.int x)] [.int (if alw (if ¬ x < 1 ∧ ¬ 96 < x then 1 else 0) 1 1 1 = 0 then 1 else 0)] [(m, .inr (13, [.ref nw, .ref bf, .ref sv, .ref hy, .int iS, .int rmb, .int eA, .int fA, .ref tx, .int tyd, .ref li, .int ldd, .int (nI (alw (if ¬ x < 1 ∧ ¬ 96 < x then 1 else 0) 1 1 1)), .int siz, .int spt, .int wrg, .int tld, .ref nmb])), (nw, .inl (gI G, 72, .inl σ))]
  by_cases hg0_8 : ¬ x < 1 ∧ ¬ 96 < x
  · have ha_8 : alw (if ¬ x < 1 ∧ ¬ 96 < x then 1 else 0) 1 1 1 = 0 := by rw [if_pos hg0_8]; rfl
    refine V.topeq (nI 1) (by rw [ha_8]; rfl) ?_
    refine V.eqw (ws' := [(m, .inr (13, [.ref nw, .ref bf, .ref sv, .ref hy, .int iS, .int rmb, .int eA, .int fA, .ref tx, .int tyd, .ref li, .int ldd, .int (nI 0), .int siz, .int spt, .int wrg, .int tld, .ref nmb])), (nw, .inl (gI G, 72, .inl σ))]) (by rw [ha_8]) ?_
    refine V.ifN_eq hC 1 21 dX13_inverse_11 rfl rfl (by omega) (fun c_11 => ?_) (fun c_11 => ?_)
    · exact absurd c_11 (by decide)
    · have hgx := (inv_iff x).mp hg0_8
      obtain ⟨a, ha97, hxa⟩ := i32_nat (n := 97) (by decide) ⟨fun z => hgx.1 (Int32.lt_trans z (by decide)), hgx.2⟩
      have ha1 : 1 ≤ a := Nat.le_of_not_lt (fun z => hgx.1 (by rw [hxa]; exact nI_lt (a := a) (b := 1) z (by decide)))
      refine V.iload_n hC (x := x) dX13_inverse_14 rfl ?_
      refine V.topeq (nI a) hxa ?_
      refine V.callSr (n := 1) (As := [.int (nI a)]) (rest := []) hC (m_inverseOf (kl K) G a (by omega) (by omega)) SFk0 SFgo0 gX13_inverse_X13_inverseOf rfl ⟨rfl, rfl⟩ (by decide +kernel) ⟨by decide, by decide, by decide, by decide⟩ [] rfl (by decide) rfl rfl (Nat.le_of_ble_eq_true rfl) dX13_inverse_15 (fun r_15 u_15 hp_15 => ?_)
      subst hp_15
      show V G K 2 0 0 18 [some (.ref m), some (.int x)] [.int (nI (inv97 a))] [(m, .inr (13, [.ref nw, .ref bf, .ref sv, .ref hy, .int iS, .int rmb, .int eA, .int fA, .ref tx, .int tyd, .ref li, .int ldd, .int (nI 0), .int siz, .int spt, .int wrg, .int tld, .ref nmb])), (nw, .inl (gI G, 72, .inl σ))]
      refine V.goto hC 22 dX13_inverse_18 rfl ?_
      have hq : qInv x = (0, nI (inv97 a)) := (qI_y hgx).trans (by rw [hxa, nI_clamp (by omega)])
      refine V.eqw (ws' := [(m, .inr (13, [.ref nw, .ref bf, .ref sv, .ref hy, .int iS, .int rmb, .int eA, .int fA, .ref tx, .int tyd, .ref li, .int ldd, .int (nI (qInv x).1), .int siz, .int spt, .int wrg, .int tld, .ref nmb])), (nw, .inl (gI G, 72, .inl σ))]) (by rw [hq]) ?_
      exact hE 22 _ (nI (inv97 a)) () dX13_inverse_22 rfl (by rw [hq])
  · have ha_8 : alw (if ¬ x < 1 ∧ ¬ 96 < x then 1 else 0) 1 1 1 = 1 := by rw [if_neg hg0_8]; rfl
    refine V.topeq (nI 0) (by rw [ha_8]; rfl) ?_
    refine V.eqw (ws' := [(m, .inr (13, [.ref nw, .ref bf, .ref sv, .ref hy, .int iS, .int rmb, .int eA, .int fA, .ref tx, .int tyd, .ref li, .int ldd, .int (nI 1), .int siz, .int spt, .int wrg, .int tld, .ref nmb])), (nw, .inl (gI G, 72, .inl σ))]) (by rw [ha_8]) ?_
    refine V.ifN_eq hC 0 21 dX13_inverse_11 rfl rfl (by omega) (fun c_11 => ?_) (fun c_11 => ?_)
    · refine V.iconst hC 0 dX13_inverse_21 rfl ?_
      have hq : qInv x = (1, 0) := qI_n (fun z => hg0_8 ((inv_iff x).mpr z))
      refine V.eqw (ws' := [(m, .inr (13, [.ref nw, .ref bf, .ref sv, .ref hy, .int iS, .int rmb, .int eA, .int fA, .ref tx, .int tyd, .ref li, .int ldd, .int (nI (qInv x).1), .int siz, .int spt, .int wrg, .int tld, .ref nmb])), (nw, .inl (gI G, 72, .inl σ))]) (by rw [hq]) ?_
      exact hE 22 _ 0 () dX13_inverse_22 rfl (by rw [hq])
    · exact absurd c_11 (by decide)

set_option maxHeartbeats 4000000 in
set_option maxRecDepth 100000 in
theorem m_allShares (l : Launch) (G : Gx) (m nw bf sv hy tx li nmb : Nat) (iS rmb eA fA tyd ldd thr siz spt wrg tld : Int32) (σ : Nat → Int32) (s : ASt) (B : Nat) (hR : Rel σ s) (hI : InvA B s) (hB : B < 2 ^ 30) : Ct l G SF0 yX13_allShares wsX13_allShares ({ frames := 4, cells := 0, slots := 0, locals := 88 }) [.ref m] [(m, .inr (13, [.ref nw, .ref bf, .ref sv, .ref hy, .int iS, .int rmb, .int eA, .int fA, .ref tx, .int tyd, .ref li, .int ldd, .int thr, .int siz, .int spt, .int wrg, .int tld, .ref nmb])), (nw, .inl (gI G, 72, .inl σ))] mkI (fun (r : Int32) (_ : Unit) => r = nI (als (fun z => ldn (sSh s) z (sNs s)) (sNb s))) (fun _ : Unit => [(m, .inr (13, [.ref nw, .ref bf, .ref sv, .ref hy, .int iS, .int rmb, .int eA, .int fA, .ref tx, .int tyd, .ref li, .int ldd, .int thr, .int siz, .int spt, .int wrg, .int tld, .ref nmb])), (nw, .inl (gI G, 72, .inl σ))]) 0 0 := by
  have hb8 := hI.1
  have hs6 := hI.2.1
  refine Ct.ofI (cc := cX13_allShares) (maxL := 3) (by decide) rfl ⟨by simp [Value.category], Nat.le_of_ble_eq_true rfl⟩ ?_
  intro K hl hC hSF hnm hE
  subst hl
  have q0_ : ∀ w ∈ u_ws RX13 TX13 18, w ∈ wsX13_allShares := by decide +kernel
  have q1_ : Cond.fieldLink RX13 9 "FeatherSharesModel" "now" "[I" ∈ wsX13_allShares := by decide +kernel
  show V G K 3 0 0 0 [some (.ref m), none, none] [] [(m, .inr (13, [.ref nw, .ref bf, .ref sv, .ref hy, .int iS, .int rmb, .int eA, .int fA, .ref tx, .int tyd, .ref li, .int ldd, .int thr, .int siz, .int spt, .int wrg, .int tld, .ref nmb])), (nw, .inl (gI G, 72, .inl σ))]
  refine V.iconst hC 0 dX13_allShares_0 rfl ?_
  refine V.istore_n hC dX13_allShares_1 [some (.ref m), some (.int 0), none] (Nat.le_of_ble_eq_true rfl) rfl ?_
  refine V.iconst hC 0 dX13_allShares_2 rfl ?_
  refine V.istore_n hC dX13_allShares_3 [some (.ref m), some (.int 0), some (.int 0)] (Nat.le_of_ble_eq_true rfl) rfl ?_
  have loop4 : ∀ (n : Nat) (b : Nat), 8 - b < n → (b ≤ sNb s) → V G K 3 0 0 4 [some (.ref m), some (.int (nI (als (fun z => ldn (sSh s) z (sNs s)) b))), some (.int (nI b))] [] [(m, .inr (13, [.ref nw, .ref bf, .ref sv, .ref hy, .int iS, .int rmb, .int eA, .int fA, .ref tx, .int tyd, .ref li, .int ldd, .int thr, .int siz, .int spt, .int wrg, .int tld, .ref nmb])), (nw, .inl (gI G, 72, .inl σ))] := by
    intro n
    induction n with
    | zero => intro b hlt; exact absurd hlt (Nat.not_lt_zero _)
    | succ n ih4 =>
      intro b hlt4 hb
      refine V.iload_n hC (x := nI b) dX13_allShares_4 rfl ?_
      refine V.aload_n hC (x := m) dX13_allShares_5 rfl ?_
      refine V.getf hC (T := TX13) q0_ 0 q1_ rfl (0) rfl rfl (by decide) (.ref nw) rfl dX13_allShares_6 ?_
      refine V.iconst hC 0 dX13_allShares_9 rfl ?_
      refine V.iald hC dX13_allShares_10 (1) rfl 0 rfl (by omega) (by decide) ?_
      refine V.topeq (nI (sNb s)) hR.1 ?_
      refine V.icmpN_ge hC b (sNb s) 28 dX13_allShares_11 rfl rfl rfl (by omega) (by omega) (fun c_11 => ?_) (fun c_11 => ?_)
      · refine V.iload_n hC (x := nI (als (fun z => ldn (sSh s) z (sNs s)) b)) dX13_allShares_28 rfl ?_
        exact hE 29 _ (nI (als (fun z => ldn (sSh s) z (sNs s)) b)) () dX13_allShares_29 rfl (by rw [show b = sNb s by omega])
      · refine V.iload_n hC (x := nI (als (fun z => ldn (sSh s) z (sNs s)) b)) dX13_allShares_14 rfl ?_
        refine V.aload_n hC (x := m) dX13_allShares_15 rfl ?_
        refine V.iload_n hC (x := nI b) dX13_allShares_16 rfl ?_
        refine V.callVr (n := 1) (As := [.int (nI b)]) (rest := [.int (nI (als (fun z => ldn (sSh s) z (sNs s)) b))]) hC (m_sharesWith (kl K) G m nw bf sv hy tx li nmb iS rmb eA fA tyd ldd thr siz spt wrg tld σ s B hR hI hB b (by omega)) SFk0 SFgo0 gX13_allShares_X13_sharesWith rfl ⟨rfl, rfl⟩ (by decide +kernel) ⟨by decide, by decide, by decide, by decide⟩ [0, 1] rfl (by decide) rfl rfl rfl rfl (Nat.le_of_ble_eq_true rfl) dX13_allShares_17 (fun r_17 u_17 hp_17 => ?_)
        subst hp_17
        show V G K 3 0 0 20 [some (.ref m), some (.int (nI (als (fun z => ldn (sSh s) z (sNs s)) b))), some (.int (nI b))] [.int (nI (ldn (sSh s) b (sNs s))), .int (nI (als (fun z => ldn (sSh s) z (sNs s)) b))] [(m, .inr (13, [.ref nw, .ref bf, .ref sv, .ref hy, .int iS, .int rmb, .int eA, .int fA, .ref tx, .int tyd, .ref li, .int ldd, .int thr, .int siz, .int spt, .int wrg, .int tld, .ref nmb])), (nw, .inl (gI G, 72, .inl σ))]
        refine V.iaddN hC (als (fun z => ldn (sSh s) z (sNs s)) b) (ldn (sSh s) b (sNs s)) dX13_allShares_20 rfl rfl ?_
        refine V.istore_n hC dX13_allShares_21 [some (.ref m), some (.int (nI ((als (fun z => ldn (sSh s) z (sNs s)) b) + (ldn (sSh s) b (sNs s))))), some (.int (nI b))] (Nat.le_of_ble_eq_true rfl) rfl ?_
        refine V.iincN hC b 1 dX13_allShares_22 rfl [some (.ref m), some (.int (nI ((als (fun z => ldn (sSh s) z (sNs s)) b) + (ldn (sSh s) b (sNs s))))), some (.int (nI (b + 1)))] (Nat.le_of_ble_eq_true rfl) rfl rfl rfl ?_
        refine V.goto hC 4 dX13_allShares_25 rfl ?_
        exact ih4 (b + 1) (by omega) (by omega)
  exact loop4 _ 0 (Nat.lt_succ_self _) (by omega)
