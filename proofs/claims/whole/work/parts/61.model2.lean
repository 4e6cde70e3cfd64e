/-! the document's model: secrets, holders, sets (printed by gen/s61.py) -/
theorem shK {s : ASt} {k b : Nat} (hb : b < sNb s) (h8 : sNb s ≤ 8) : (if ¬ nI b < 0 ∧ nI b < nI (sNb s) then sSh s k (nI b).toNatClampNeg else -1) = sSh s k b := by
  rw [if_pos ⟨nI_nn (by omega), nI_lt hb (by omega)⟩, nI_clamp (by omega)]
theorem fh_tail {f : Nat → Int32} {m a : Nat} : ∀ n, (∀ b, a ≤ b → b < a + n → f b = -1) → fh f m (a + n) = fh f m a
  | 0, _ => rfl
  | n + 1, h => by
    rw [← Nat.add_assoc, fh_no (h (a + n) (by omega) (by omega))]
    exact fh_tail n (fun b h1 h2 => h b h1 (by omega))
theorem fh_nb {B : Nat} {s : ASt} (hI : InvA B s) {k : Nat} (hk : k < sNs s) (m : Nat) : fh (sSh s k) m (sNb s) = fh (sSh s k) m 8 := by
  have h8 := hI.1
  have := fh_tail (f := sSh s k) (m := m) (a := sNb s) (8 - sNb s) (fun b h1 h2 => (hI.2.2.1 k hk).2.2.2 b h1 (by omega))
  rw [show sNb s + (8 - sNb s) = 8 by omega] at this
  exact this.symm
theorem pop_fhb (f : Nat → Int32) (m b : Nat) (hb : b ≤ 8) : pop8 (fh f m b) = min m (hc f b) := by
  rw [← popb8]
  have := popb_lt (fh_lt f m b) (8 - b)
  rw [show b + (8 - b) = 8 by omega] at this
  rw [this, popb_fh]
set_option maxRecDepth 100000 in
theorem and_bit8 : ∀ b, b < 8 → ∀ s, s < 256 → nI s &&& ((1 : Int32) <<< (nI b &&& 31)) = if s / 2 ^ b % 2 = 1 then (1 : Int32) <<< (nI b &&& 31) else 0 := by decide +kernel
/-- one step of the first ones of a set -/
theorem first_step {f : Nat → Int32} {m b : Nat} (hb : b < 8) (hm : hc f b < m) : nI (fh f m b) ||| (nI (fh f 8 8) &&& ((1 : Int32) <<< (nI b &&& 31))) = nI (fh f m (b + 1)) := by
  rw [and_bit8 b hb _ (fh_256 f 8 8 (Nat.le_refl 8))]
  have h1 := fh_bit f 8 8 b
  by_cases h : f b = -1
  · rw [if_neg (fun z => (h1.mp z).2.1 h), fh_no h]
    exact Int32.or_zero
  · rw [if_pos (h1.mpr ⟨hb, h, by have := hc_le f b; omega⟩), fh_yes h hm]
    exact or_bit8 b hb _ (fh_256 f m b (by omega)) (fh_lt f m b)
set_option maxHeartbeats 4000000 in
set_option maxRecDepth 100000 in
theorem m_find (l : Launch) (G : Gx) (m nw bf sv hy tx li nmb : Nat) (iS rmb eA fA tyd ldd thr siz spt wrg tld : Int32) (σ : Nat → Int32) (s : ASt) (B : Nat) (hR : Rel σ s) (hI : InvA B s) (hB : B < 2 ^ 30) (x : Int32) : Ct l G SF0 yX13_find wsX13_find ({ frames := 2, cells := 0, slots := 0, locals := 38 }) [.ref m, .int x] [(m, .inr (13, [.ref nw, .ref bf, .ref sv, .ref hy, .int iS, .int rmb, .int eA, .int fA, .ref tx, .int tyd, .ref li, .int ldd, .int thr, .int siz, .int spt, .int wrg, .int tld, .ref nmb])), (nw, .inl (gI G, 72, .inl σ))] mkI (fun (r : Int32) (_ : Unit) => r = oI (fd (sNu s) x (sNs s))) (fun _ : Unit => [(m, .inr (13, [.ref nw, .ref bf, .ref sv, .ref hy, .int iS, .int rmb, .int eA, .int fA, .ref tx, .int tyd, .ref li, .int ldd, .int thr, .int siz, .int spt, .int wrg, .int tld, .ref nmb])), (nw, .inl (gI G, 72, .inl σ))]) 0 0 := by
  have hb8 := hI.1
  have hs6 := hI.2.1
  refine Ct.ofI (cc := cX13_find) (maxL := 4) (by decide) rfl ⟨by simp [Value.category], Nat.le_of_ble_eq_true rfl⟩ ?_
  intro K hl hC hSF hnm hE
  subst hl
  have q0_ : ∀ w ∈ u_ws RX13 TX13 18, w ∈ wsX13_find := by decide +kernel
  have q1_ : Cond.fieldLink RX13 9 "FeatherSharesModel" "now" "[I" ∈ wsX13_find := by decide +kernel
  show V G K 4 0 0 0 [some (.ref m), some (.int x), none, none] [] [(m, .inr (13, [.ref nw, .ref bf, .ref sv, .ref hy, .int iS, .int rmb, .int eA, .int fA, .ref tx, .int tyd, .ref li, .int ldd, .int thr, .int siz, .int spt, .int wrg, .int tld, .ref nmb])), (nw, .inl (gI G, 72, .inl σ))]
  refine V.iconst hC (-1) dX13_find_0 rfl ?_
  refine V.istore_n hC dX13_find_1 [some (.ref m), some (.int x), some (.int (-1)), none] (Nat.le_of_ble_eq_true rfl) rfl ?_
  refine V.iconst hC 0 dX13_find_2 rfl ?_
  refine V.istore_n hC dX13_find_3 [some (.ref m), some (.int x), some (.int (-1)), some (.int 0)] (Nat.le_of_ble_eq_true rfl) rfl ?_
  have loop4 : ∀ (n : Nat) (k : Nat), 6 - k < n → (k ≤ sNs s) → V G K 4 0 0 4 [some (.ref m), some (.int x), some (.int (oI (fd (sNu s) x k))), some (.int (nI k))] [] [(m, .inr (13, [.ref nw, .ref bf, .ref sv, .ref hy, .int iS, .int rmb, .int eA, .int fA, .ref tx, .int tyd, .ref li, .int ldd, .int thr, .int siz, .int spt, .int wrg, .int tld, .ref nmb])), (nw, .inl (gI G, 72, .inl σ))] := by
    intro n
    induction n with
    | zero => intro k hlt; exact absurd hlt (Nat.not_lt_zero _)
    | succ n ih4 =>
      intro k hlt4 hk
      refine V.iload_n hC (x := nI k) dX13_find_4 rfl ?_
      refine V.aload_n hC (x := m) dX13_find_5 rfl ?_
      refine V.getf hC (T := TX13) q0_ 0 q1_ rfl (0) rfl rfl (by decide) (.ref nw) rfl dX13_find_6 ?_
      refine V.iconst hC 1 dX13_find_9 rfl ?_
      refine V.iald hC dX13_find_10 (1) rfl 1 rfl (by omega) (by decide) ?_
      refine V.topeq (nI (sNs s)) hR.2.1 ?_
      refine V.icmpN_ge hC k (sNs s) 36 dX13_find_11 rfl rfl rfl (by omega) (by omega) (fun c_11 => ?_) (fun c_11 => ?_)
      · refine V.iload_n hC (x := oI (fd (sNu s) x k)) dX13_find_36 rfl ?_
        exact hE 37 _ (oI (fd (sNu s) x k)) () dX13_find_37 rfl (by rw [show k = sNs s by omega])
      · refine V.aload_n hC (x := m) dX13_find_14 rfl ?_
        refine V.iload_n hC (x := nI k) dX13_find_15 rfl ?_
        refine V.iconst hC 0 dX13_find_16 rfl ?_
        refine V.callVr (n := 2) (As := [.int (nI k), .int 0]) (rest := []) hC (m_of (kl K) G m nw bf sv hy tx li nmb iS rmb eA fA tyd ldd thr siz spt wrg tld σ k (by omega) 0 (by decide)) SFk0 SFgo0 gX13_find_X13_of rfl ⟨rfl, rfl⟩ (by decide +kernel) ⟨by decide, by decide, by decide, by decide⟩ [0, 1] rfl (by decide) rfl rfl rfl rfl (Nat.le_of_ble_eq_true rfl) dX13_find_17 (fun r_17 u_17 hp_17 => ?_)
        have hq_17 := hp_17.trans (hR.2.2.2.2.2 k c_11).1
        subst hq_17
        show V G K 4 0 0 20 [some (.ref m), some (.int x), some (.int (oI (fd (sNu s) x k))), some (.int (nI k))] [.int (sNu s k)] [(m, .inr (13, [.ref nw, .ref bf, .ref sv, .ref hy, .int iS, .int rmb, .int eA, .int fA, .ref tx, .int tyd, .ref li, .int ldd, .int thr, .int siz, .int spt, .int wrg, .int tld, .ref nmb])), (nw, .inl (gI G, 72, .inl σ))]
        refine V.iload_n hC (x := x) dX13_find_20 rfl ?_
        refine V.icmp_ne hC 28 dX13_find_21 rfl (fun c_21 => ?_) (fun c_21 => ?_)
        · refine V.iload_n hC (x := oI (fd (sNu s) x k)) dX13_find_28 rfl ?_
          refine V.istore_n hC dX13_find_29 [some (.ref m), some (.int x), some (.int (oI (fd (sNu s) x k))), some (.int (nI k))] (Nat.le_of_ble_eq_true rfl) rfl ?_
          refine V.lset 2 (x := .int (oI (fd (sNu s) x k))) (y := .int (oI (fd (sNu s) x (k + 1)))) (congrArg Value.int (fd_s0 c_21)) rfl (lv' := [some (.ref m), some (.int x), some (.int (oI (fd (sNu s) x (k + 1)))), some (.int (nI k))]) rfl ?_
          refine V.iincN hC k 1 dX13_find_30 rfl [some (.ref m), some (.int x), some (.int (oI (fd (sNu s) x (k + 1)))), some (.int (nI (k + 1)))] (Nat.le_of_ble_eq_true rfl) rfl rfl rfl ?_
          refine V.goto hC 4 dX13_find_33 rfl ?_
          exact ih4 (k + 1) (by omega) (by omega)
        · refine V.iload_n hC (x := nI k) dX13_find_24 rfl ?_
          refine V.goto hC 29 dX13_find_25 rfl ?_
          refine V.istore_n hC dX13_find_29 [some (.ref m), some (.int x), some (.int (nI k)), some (.int (nI k))] (Nat.le_of_ble_eq_true rfl) rfl ?_
          refine V.lset 2 (x := .int (nI k)) (y := .int (oI (fd (sNu s) x (k + 1)))) (congrArg Value.int (fd_s1 (fd_one hI hB c_11 c_21) c_21)) rfl (lv' := [some (.ref m), some (.int x), some (.int (oI (fd (sNu s) x (k + 1)))), some (.int (nI k))]) rfl ?_
          refine V.iincN hC k 1 dX13_find_30 rfl [some (.ref m), some (.int x), some (.int (oI (fd (sNu s) x (k + 1)))), some (.int (nI (k + 1)))] (Nat.le_of_ble_eq_true rfl) rfl rfl rfl ?_
          refine V.goto hC 4 dX13_find_33 rfl ?_
          exact ih4 (k + 1) (by omega) (by omega)
  exact loop4 _ 0 (Nat.lt_succ_self _) (by omega)

set_option maxHeartbeats 4000000 in
set_option maxRecDepth 100000 in
theorem m_shareOfN (l : Launch) (G : Gx) (m nw bf sv hy tx li nmb : Nat) (iS rmb eA fA tyd ldd thr siz spt wrg tld : Int32) (σ : Nat → Int32) (s : ASt) (B : Nat) (hR : Rel σ s) (hI : InvA B s) (hB : B < 2 ^ 30) (x : Int32) : Ct l G SF0 yX13_shareOf wsX13_shareOf ({ frames := 2, cells := 0, slots := 0, locals := 43 }) [.ref m, .int x, .int (-1)] [(m, .inr (13, [.ref nw, .ref bf, .ref sv, .ref hy, .int iS, .int rmb, .int eA, .int fA, .ref tx, .int tyd, .ref li, .int ldd, .int thr, .int siz, .int spt, .int wrg, .int tld, .ref nmb])), (nw, .inl (gI G, 72, .inl σ))] mkI (fun (r : Int32) (_ : Unit) => r = -1) (fun _ : Unit => [(m, .inr (13, [.ref nw, .ref bf, .ref sv, .ref hy, .int iS, .int rmb, .int eA, .int fA, .ref tx, .int tyd, .ref li, .int ldd, .int thr, .int siz, .int spt, .int wrg, .int tld, .ref nmb])), (nw, .inl (gI G, 72, .inl σ))]) 0 0 := by
  have hb8 := hI.1
  have hs6 := hI.2.1
  refine Ct.ofI (cc := cX13_shareOf) (maxL := 3) (by decide) rfl ⟨by simp [Value.category], Nat.le_of_ble_eq_true rfl⟩ ?_
  intro K hl hC hSF hnm hE
  subst hl
  show V G K 3 0 0 0 [some (.ref m), some (.int x), some (.int (-1))] [] [(m, .inr (13, [.ref nw, .ref bf, .ref sv, .ref hy, .int iS, .int rmb, .int eA, .int fA, .ref tx, .int tyd, .ref li, .int ldd, .int thr, .int siz, .int spt, .int wrg, .int tld, .ref nmb])), (nw, .inl (gI G, 72, .inl σ))]
  refine V.aload_n hC (x := m) dX13_shareOf_0 rfl ?_
  refine V.iload_n hC (x := x) dX13_shareOf_1 rfl ?_
  refine V.callVr (n := 1) (As := [.int x]) (rest := []) hC (m_isBird (kl K) G m nw bf sv hy tx li nmb iS rmb eA fA tyd ldd thr siz spt wrg tld σ s B hR hI hB x) SFk0 SFgo0 gX13_shareOf_X13_isBird rfl ⟨rfl, rfl⟩ (by decide +kernel) ⟨by decide, by decide, by decide, by decide⟩ [0, 1] rfl (by decide) rfl rfl rfl rfl (Nat.le_of_ble_eq_true rfl) dX13_shareOf_2 (fun r_2 u_2 hp_2 => ?_)
  subst hp_2
  show V G K 3 0 0 5 [some (.ref m), some (.int x), some (.int (-1))] [.int (if ¬ x < 0 ∧ x < nI (sNb s) then 1 else 0)] [(m, .inr (13, [.ref nw, .ref bf, .ref sv, .ref hy, .int iS, .int rmb, .int eA, .int fA, .ref tx, .int tyd, .ref li, .int ldd, .int thr, .int siz, .int spt, .int wrg, .int tld, .ref nmb])), (nw, .inl (gI G, 72, .inl σ))]
  refine V.if_eq hC 24 dX13_shareOf_5 rfl (fun c_5 => ?_) (fun c_5 => ?_)
  · refine V.iconst hC (-1) dX13_shareOf_24 rfl ?_
    exact hE 25 _ (-1) () dX13_shareOf_25 rfl rfl
  · refine V.iload_n hC (x := -1) dX13_shareOf_8 rfl ?_
    refine V.iconst hC (-1) dX13_shareOf_9 rfl ?_
    refine V.icmp_eq hC 24 dX13_shareOf_10 rfl (fun c_10 => ?_) (fun c_10 => ?_)
    · refine V.iconst hC (-1) dX13_shareOf_24 rfl ?_
      exact hE 25 _ (-1) () dX13_shareOf_25 rfl rfl
    · exact absurd rfl c_10

set_option maxHeartbeats 4000000 in
set_option maxRecDepth 100000 in
theorem m_shareOf (l : Launch) (G : Gx) (m nw bf sv hy tx li nmb : Nat) (iS rmb eA fA tyd ldd thr siz spt wrg tld : Int32) (σ : Nat → Int32) (s : ASt) (B : Nat) (hR : Rel σ s) (hI : InvA B s) (hB : B < 2 ^ 30) (x : Int32) (k : Nat) (hk : k < sNs s) : Ct l G SF0 yX13_shareOf wsX13_shareOf ({ frames := 2, cells := 0, slots := 0, locals := 43 }) [.ref m, .int x, .int (nI k)] [(m, .inr (13, [.ref nw, .ref bf, .ref sv, .ref hy, .int iS, .int rmb, .int eA, .int fA, .ref tx, .int tyd, .ref li, .int ldd, .int thr, .int siz, .int spt, .int wrg, .int tld, .ref nmb])), (nw, .inl (gI G, 72, .inl σ))] mkI (fun (r : Int32) (_ : Unit) => r = if ¬ x < 0 ∧ x < nI (sNb s) then sSh s k x.toNatClampNeg else -1) (fun _ : Unit => [(m, .inr (13, [.ref nw, .ref bf, .ref sv, .ref hy, .int iS, .int rmb, .int eA, .int fA, .ref tx, .int tyd, .ref li, .int ldd, .int thr, .int siz, .int spt, .int wrg, .int tld, .ref nmb])), (nw, .inl (gI G, 72, .inl σ))]) 0 0 := by
  have hb8 := hI.1
  have hs6 := hI.2.1
  refine Ct.ofI (cc := cX13_shareOf) (maxL := 3) (by decide) rfl ⟨by simp [Value.category], Nat.le_of_ble_eq_true rfl⟩ ?_
  intro K hl hC hSF hnm hE
  subst hl
  show V G K 3 0 0 0 [some (.ref m), some (.int x), some (.int (nI k))] [] [(m, .inr (13, [.ref nw, .ref bf, .ref sv, .ref hy, .int iS, .int rmb, .int eA, .int fA, .ref tx, .int tyd, .ref li, .int ldd, .int thr, .int siz, .int spt, .int wrg, .int tld, .ref nmb])), (nw, .inl (gI G, 72, .inl σ))]
  refine V.aload_n hC (x := m) dX13_shareOf_0 rfl ?_
  refine V.iload_n hC (x := x) dX13_shareOf_1 rfl ?_
  refine V.callVr (n := 1) (As := [.int x]) (rest := []) hC (m_isBird (kl K) G m nw bf sv hy tx li nmb iS rmb eA fA tyd ldd thr siz spt wrg tld σ s B hR hI hB x) SFk0 SFgo0 gX13_shareOf_X13_isBird rfl ⟨rfl, rfl⟩ (by decide +kernel) ⟨by decide, by decide, by decide, by decide⟩ [0, 1] rfl (by decide) rfl rfl rfl rfl (Nat.le_of_ble_eq_true rfl) dX13_shareOf_2 (fun r_2 u_2 hp_2 => ?_)
  subst hp_2
  show V G K 3 0 0 5 [some (.ref m), some (.int x), some (.int (nI k))] [.int (if ¬ x < 0 ∧ x < nI (sNb s) then 1 else 0)] [(m, .inr (13, [.ref nw, .ref bf, .ref sv, .ref hy, .int iS, .int rmb, .int eA, .int fA, .ref tx, .int tyd, .ref li, .int ldd, .int thr, .int siz, .int spt, .int wrg, .int tld, .ref nmb])), (nw, .inl (gI G, 72, .inl σ))]
  refine V.if_eq hC 24 dX13_shareOf_5 rfl (fun c_5 => ?_) (fun c_5 => ?_)
  · refine V.iconst hC (-1) dX13_shareOf_24 rfl ?_
    exact hE 25 _ (-1) () dX13_shareOf_25 rfl ((if_neg (if10 c_5)).symm)
  · obtain ⟨b, hb, hxb⟩ := i32_nat (by omega) (if10n c_5)
    refine V.iload_n hC (x := nI k) dX13_shareOf_8 rfl ?_
    refine V.iconst hC (-1) dX13_shareOf_9 rfl ?_
    refine V.icmp_eq hC 24 dX13_shareOf_10 rfl (fun c_10 => ?_) (fun c_10 => ?_)
    · exact absurd c_10 (nI_m1 (by omega))
    · refine V.aload_n hC (x := m) dX13_shareOf_13 rfl ?_
      refine V.iload_n hC (x := nI k) dX13_shareOf_14 rfl ?_
      refine V.iconst hC 2 dX13_shareOf_15 rfl ?_
      refine V.iload_n hC (x := x) dX13_shareOf_16 rfl ?_
      refine V.topeq (nI b) hxb ?_
      refine V.iaddN hC 2 b dX13_shareOf_17 rfl rfl ?_
      refine V.callVr (n := 2) (As := [.int (nI k), .int (nI (2 + b))]) (rest := []) hC (m_of (kl K) G m nw bf sv hy tx li nmb iS rmb eA fA tyd ldd thr siz spt wrg tld σ k (by omega) (2 + b) (by omega)) SFk0 SFgo0 gX13_shareOf_X13_of rfl ⟨rfl, rfl⟩ (by decide +kernel) ⟨by decide, by decide, by decide, by decide⟩ [0, 1] rfl (by decide) rfl rfl rfl rfl (Nat.le_of_ble_eq_true rfl) dX13_shareOf_18 (fun r_18 u_18 hp_18 => ?_)
      have hq_18 := hp_18.trans (show σ (12 + 10 * k + (2 + b)) = sSh s k b by rw [show 12 + 10 * k + (2 + b) = 14 + 10 * k + b by omega]; exact (hR.2.2.2.2.2 k hk).2.2 b (by omega))
      subst hq_18
      show V G K 3 0 0 21 [some (.ref m), some (.int x), some (.int (nI k))] [.int (sSh s k b)] [(m, .inr (13, [.ref nw, .ref bf, .ref sv, .ref hy, .int iS, .int rmb, .int eA, .int fA, .ref tx, .int tyd, .ref li, .int ldd, .int thr, .int siz, .int spt, .int wrg, .int tld, .ref nmb])), (nw, .inl (gI G, 72, .inl σ))]
      refine V.goto hC 25 dX13_shareOf_21 rfl ?_
      exact hE 25 _ (sSh s k b) () dX13_shareOf_25 rfl (by rw [if_pos (if10n c_5), hxb, nI_clamp (by omega)])

set_option maxHeartbeats 4000000 in
set_option maxRecDepth 100000 in
theorem m_holdersOf (l : Launch) (G : Gx) (m nw bf sv hy tx li nmb : Nat) (iS rmb eA fA tyd ldd thr siz spt wrg tld : Int32) (σ : Nat → Int32) (s : ASt) (B : Nat) (hR : Rel σ s) (hI : InvA B s) (hB : B < 2 ^ 30) (k : Nat) (hk : k < sNs s) : Ct l G SF0 yX13_holdersOf wsX13_holdersOf ({ frames := 3, cells := 0, slots := 0, locals := 65 }) [.ref m, .int (nI k)] [(m, .inr (13, [.ref nw, .ref bf, .ref sv, .ref hy, .int iS, .int rmb, .int eA, .int fA, .ref tx, .int tyd, .ref li, .int ldd, .int thr, .int siz, .int spt, .int wrg, .int tld, .ref nmb])), (nw, .inl (gI G, 72, .inl σ))] mkI (fun (r : Int32) (_ : Unit) => r = nI (fh (sSh s k) 8 8)) (fun _ : Unit => [(m, .inr (13, [.ref nw, .ref bf, .ref sv, .ref hy, .int iS, .int rmb, .int eA, .int fA, .ref tx, .int tyd, .ref li, .int ldd, .int thr, .int siz, .int spt, .int wrg, .int tld, .ref nmb])), (nw, .inl (gI G, 72, .inl σ))]) 0 0 := by
  have hb8 := hI.1
  have hs6 := hI.2.1
  refine Ct.ofI (cc := cX13_holdersOf) (maxL := 4) (by decide) rfl ⟨by simp [Value.category], Nat.le_of_ble_eq_true rfl⟩ ?_
  intro K hl hC hSF hnm hE
  subst hl
  have q0_ : ∀ w ∈ u_ws RX13 TX13 18, w ∈ wsX13_holdersOf := by decide +kernel
  have q1_ : Cond.fieldLink RX13 9 "FeatherSharesModel" "now" "[I" ∈ wsX13_holdersOf := by decide +kernel
  show V G K 4 0 0 0 [some (.ref m), some (.int (nI k)), none, none] [] [(m, .inr (13, [.ref nw, .ref bf, .ref sv, .ref hy, .int iS, .int rmb, .int eA, .int fA, .ref tx, .int tyd, .ref li, .int ldd, .int thr, .int siz, .int spt, .int wrg, .int tld, .ref nmb])), (nw, .inl (gI G, 72, .inl σ))]
  refine V.iconst hC 0 dX13_holdersOf_0 rfl ?_
  refine V.istore_n hC dX13_holdersOf_1 [some (.ref m), some (.int (nI k)), some (.int 0), none] (Nat.le_of_ble_eq_true rfl) rfl ?_
  refine V.iconst hC 0 dX13_holdersOf_2 rfl ?_
  refine V.istore_n hC dX13_holdersOf_3 [some (.ref m), some (.int (nI k)), some (.int 0), some (.int 0)] (Nat.le_of_ble_eq_true rfl) rfl ?_
  have loop4 : ∀ (n : Nat) (b : Nat), 8 - b < n → (b ≤ sNb s) → V G K 4 0 0 4 [some (.ref m), some (.int (nI k)), some (.int (nI (fh (sSh s k) 8 b))), some (.int (nI b))] [] [(m, .inr (13, [.ref nw, .ref bf, .ref sv, .ref hy, .int iS, .int rmb, .int eA, .int fA, .ref tx, .int tyd, .ref li, .int ldd, .int thr, .int siz, .int spt, .int wrg, .int tld, .ref nmb])), (nw, .inl (gI G, 72, .inl σ))] := by
    intro n
    induction n with
    | zero => intro b hlt; exact absurd hlt (Nat.not_lt_zero _)
    | succ n ih4 =>
      intro b hlt4 hb
      refine V.iload_n hC (x := nI b) dX13_holdersOf_4 rfl ?_
      refine V.aload_n hC (x := m) dX13_holdersOf_5 rfl ?_
      refine V.getf hC (T := TX13) q0_ 0 q1_ rfl (0) rfl rfl (by decide) (.ref nw) rfl dX13_holdersOf_6 ?_
      refine V.iconst hC 0 dX13_holdersOf_9 rfl ?_
      refine V.iald hC dX13_holdersOf_10 (1) rfl 0 rfl (by omega) (by decide) ?_
      refine V.topeq (nI (sNb s)) hR.1 ?_
      refine V.icmpN_ge hC b (sNb s) 40 dX13_holdersOf_11 rfl rfl rfl (by omega) (by omega) (fun c_11 => ?_) (fun c_11 => ?_)
      · refine V.iload_n hC (x := nI (fh (sSh s k) 8 b)) dX13_holdersOf_40 rfl ?_
        exact hE 41 _ (nI (fh (sSh s k) 8 b)) () dX13_holdersOf_41 rfl (by rw [show b = sNb s by omega, fh_nb hI hk])
      · refine V.iload_n hC (x := nI (fh (sSh s k) 8 b)) dX13_holdersOf_14 rfl ?_
        refine V.aload_n hC (x := m) dX13_holdersOf_15 rfl ?_
        refine V.iload_n hC (x := nI b) dX13_holdersOf_16 rfl ?_
        refine V.iload_n hC (x := nI k) dX13_holdersOf_17 rfl ?_
        refine V.callVr (n := 2) (As := [.int (nI b), .int (nI k)]) (rest := [.int (nI (fh (sSh s k) 8 b))]) hC (m_shareOf (kl K) G m nw bf sv hy tx li nmb iS rmb eA fA tyd ldd thr siz spt wrg tld σ s B hR hI hB (nI b) k hk) SFk0 SFgo0 gX13_holdersOf_X13_shareOf rfl ⟨rfl, rfl⟩ (by decide +kernel) ⟨by decide, by decide, by decide, by decide⟩ [0, 1] rfl (by decide) rfl rfl rfl rfl (Nat.le_of_ble_eq_true rfl) dX13_holdersOf_18 (fun r_18 u_18 hp_18 => ?_)
        have hq_18 := hp_18.trans (shK (by omega) hb8)
        subst hq_18
        show V G K 4 0 0 21 [some (.ref m), some (.int (nI k)), some (.int (nI (fh (sSh s k) 8 b))), some (.int (nI b))] [.int (sSh s k b), .int (nI (fh (sSh s k) 8 b))] [(m, .inr (13, [.ref nw, .ref bf, .ref sv, .ref hy, .int iS, .int rmb, .int eA, .int fA, .ref tx, .int tyd, .ref li, .int ldd, .int thr, .int siz, .int spt, .int wrg, .int tld, .ref nmb])), (nw, .inl (gI G, 72, .inl σ))]
        refine V.iconst hC (-1) dX13_holdersOf_21 rfl ?_
        refine V.icmp_ne hC 29 dX13_holdersOf_22 rfl (fun c_22 => ?_) (fun c_22 => ?_)
        · refine V.iconst hC 1 dX13_holdersOf_29 rfl ?_
          refine V.iload_n hC (x := nI b) dX13_holdersOf_30 rfl ?_
          refine V.ishl hC dX13_holdersOf_31 ?_
          refine V.ior hC dX13_holdersOf_32 ?_
          refine V.topeq (nI (fh (sSh s k) 8 (b + 1))) (by rw [fh_yes c_22 (by have := hc_le (sSh s k) b; omega)]; exact or_bit8 b (by omega) _ (fh_256 _ _ _ (by omega)) (fh_lt _ _ _)) ?_
          refine V.istore_n hC dX13_holdersOf_33 [some (.ref m), some (.int (nI k)), some (.int (nI (fh (sSh s k) 8 (b + 1)))), some (.int (nI b))] (Nat.le_of_ble_eq_true rfl) rfl ?_
          refine V.iincN hC b 1 dX13_holdersOf_34 rfl [some (.ref m), some (.int (nI k)), some (.int (nI (fh (sSh s k) 8 (b + 1)))), some (.int (nI (b + 1)))] (Nat.le_of_ble_eq_true rfl) rfl rfl rfl ?_
          refine V.goto hC 4 dX13_holdersOf_37 rfl ?_
          exact ih4 (b + 1) (by omega) (by omega)
        · refine V.iconst hC 0 dX13_holdersOf_25 rfl ?_
          refine V.goto hC 32 dX13_holdersOf_26 rfl ?_
          refine V.ior hC dX13_holdersOf_32 ?_
          refine V.topeq (nI (fh (sSh s k) 8 (b + 1))) (by rw [fh_no c_22]; exact Int32.or_zero) ?_
          refine V.istore_n hC dX13_holdersOf_33 [some (.ref m), some (.int (nI k)), some (.int (nI (fh (sSh s k) 8 (b + 1)))), some (.int (nI b))] (Nat.le_of_ble_eq_true rfl) rfl ?_
          refine V.iincN hC b 1 dX13_holdersOf_34 rfl [some (.ref m), some (.int (nI k)), some (.int (nI (fh (sSh s k) 8 (b + 1)))), some (.int (nI (b + 1)))] (Nat.le_of_ble_eq_true rfl) rfl rfl rfl ?_
          refine V.goto hC 4 dX13_holdersOf_37 rfl ?_
          exact ih4 (b + 1) (by omega) (by omega)
  exact loop4 _ 0 (Nat.lt_succ_self _) (by omega)

set_option maxHeartbeats 4000000 in
set_option maxRecDepth 100000 in
theorem m_sharesWith (l : Launch) (G : Gx) (m nw bf sv hy tx li nmb : Nat) (iS rmb eA fA tyd ldd thr siz spt wrg tld : Int32) (σ : Nat → Int32) (s : ASt) (B : Nat) (hR : Rel σ s) (hI : InvA B s) (hB : B < 2 ^ 30) (b : Nat) (hb : b < sNb s) : Ct l G SF0 yX13_sharesWith wsX13_sharesWith ({ frames := 3, cells := 0, slots := 0, locals := 65 }) [.ref m, .int (nI b)] [(m, .inr (13, [.ref nw, .ref bf, .ref sv, .ref hy, .int iS, .int rmb, .int eA, .int fA, .ref tx, .int tyd, .ref li, .int ldd, .int thr, .int siz, .int spt, .int wrg, .int tld, .ref nmb])), (nw, .inl (gI G, 72, .inl σ))] mkI (fun (r : Int32) (_ : Unit) => r = nI (ldn (sSh s) b (sNs s))) (fun _ : Unit => [(m, .inr (13, [.ref nw, .ref bf, .ref sv, .ref hy, .int iS, .int rmb, .int eA, .int fA, .ref tx, .int tyd, .ref li, .int ldd, .int thr, .int siz, .int spt, .int wrg, .int tld, .ref nmb])), (nw, .inl (gI G, 72, .inl σ))]) 0 0 := by
  have hb8 := hI.1
  have hs6 := hI.2.1
  refine Ct.ofI (cc := cX13_sharesWith) (maxL := 4) (by decide) rfl ⟨by simp [Value.category], Nat.le_of_ble_eq_true rfl⟩ ?_
  intro K hl hC hSF hnm hE
  subst hl
  have q0_ : ∀ w ∈ u_ws RX13 TX13 18, w ∈ wsX13_sharesWith := by decide +kernel
  have q1_ : Cond.fieldLink RX13 9 "FeatherSharesModel" "now" "[I" ∈ wsX13_sharesWith := by decide +kernel
  show V G K 4 0 0 0 [some (.ref m), some (.int (nI b)), none, none] [] [(m, .inr (13, [.ref nw, .ref bf, .ref sv, .ref hy, .int iS, .int rmb, .int eA, .int fA, .ref tx, .int tyd, .ref li, .int ldd, .int thr, .int siz, .int spt, .int wrg, .int tld, .ref nmb])), (nw, .inl (gI G, 72, .inl σ))]
  refine V.iconst hC 0 dX13_sharesWith_0 rfl ?_
  refine V.istore_n hC dX13_sharesWith_1 [some (.ref m), some (.int (nI b)), some (.int 0), none] (Nat.le_of_ble_eq_true rfl) rfl ?_
  refine V.iconst hC 0 dX13_sharesWith_2 rfl ?_
  refine V.istore_n hC dX13_sharesWith_3 [some (.ref m), some (.int (nI b)), some (.int 0), some (.int 0)] (Nat.le_of_ble_eq_true rfl) rfl ?_
  have loop4 : ∀ (n : Nat) (k : Nat), 6 - k < n → (k ≤ sNs s) → V G K 4 0 0 4 [some (.ref m), some (.int (nI b)), some (.int (nI (ldn (sSh s) b k))), some (.int (nI k))] [] [(m, .inr (13, [.ref nw, .ref bf, .ref sv, .ref hy, .int iS, .int rmb, .int eA, .int fA, .ref tx, .int tyd, .ref li, .int ldd, .int thr, .int siz, .int spt, .int wrg, .int tld, .ref nmb])), (nw, .inl (gI G, 72, .inl σ))] := by
    intro n
    induction n with
    | zero => intro k hlt; exact absurd hlt (Nat.not_lt_zero _)
    | succ n ih4 =>
      intro k hlt4 hk
      refine V.iload_n hC (x := nI k) dX13_sharesWith_4 rfl ?_
      refine V.aload_n hC (x := m) dX13_sharesWith_5 rfl ?_
      refine V.getf hC (T := TX13) q0_ 0 q1_ rfl (0) rfl rfl (by decide) (.ref nw) rfl dX13_sharesWith_6 ?_
      refine V.iconst hC 1 dX13_sharesWith_9 rfl ?_
      refine V.iald hC dX13_sharesWith_10 (1) rfl 1 rfl (by omega) (by decide) ?_
      refine V.topeq (nI (sNs s)) hR.2.1 ?_
      refine V.icmpN_ge hC k (sNs s) 38 dX13_sharesWith_11 rfl rfl rfl (by omega) (by omega) (fun c_11 => ?_) (fun c_11 => ?_)
      · refine V.iload_n hC (x := nI (ldn (sSh s) b k)) dX13_sharesWith_38 rfl ?_
        exact hE 39 _ (nI (ldn (sSh s) b k)) () dX13_sharesWith_39 rfl (by rw [show k = sNs s by omega])
      · refine V.iload_n hC (x := nI (ldn (sSh s) b k)) dX13_sharesWith_14 rfl ?_
        refine V.aload_n hC (x := m) dX13_sharesWith_15 rfl ?_
        refine V.iload_n hC (x := nI b) dX13_sharesWith_16 rfl ?_
        refine V.iload_n hC (x := nI k) dX13_sharesWith_17 rfl ?_
        refine V.callVr (n := 2) (As := [.int (nI b), .int (nI k)]) (rest := [.int (nI (ldn (sSh s) b k))]) hC (m_shareOf (kl K) G m nw bf sv hy tx li nmb iS rmb eA fA tyd ldd thr siz spt wrg tld σ s B hR hI hB (nI b) k c_11) SFk0 SFgo0 gX13_sharesWith_X13_shareOf rfl ⟨rfl, rfl⟩ (by decide +kernel) ⟨by decide, by decide, by decide, by decide⟩ [0, 1] rfl (by decide) rfl rfl rfl rfl (Nat.le_of_ble_eq_true rfl) dX13_sharesWith_18 (fun r_18 u_18 hp_18 => ?_)
        have hq_18 := hp_18.trans (shK hb hb8)
        subst hq_18
        show V G K 4 0 0 21 [some (.ref m), some (.int (nI b)), some (.int (nI (ldn (sSh s) b k))), some (.int (nI k))] [.int (sSh s k b), .int (nI (ldn (sSh s) b k))] [(m, .inr (13, [.ref nw, .ref bf, .ref sv, .ref hy, .int iS, .int rmb, .int eA, .int fA, .ref tx, .int tyd, .ref li, .int ldd, .int thr, .int siz, .int spt, .int wrg, .int tld, .ref nmb])), (nw, .inl (gI G, 72, .inl σ))]
        refine V.iconst hC (-1) dX13_sharesWith_21 rfl ?_
        refine V.icmp_ne hC 29 dX13_sharesWith_22 rfl (fun c_22 => ?_) (fun c_22 => ?_)
        · refine V.iconst hC 1 dX13_sharesWith_29 rfl ?_
          refine V.iaddN hC (ldn (sSh s) b k) 1 dX13_sharesWith_30 rfl rfl ?_
          refine V.topeq (nI (ldn (sSh s) b (k + 1))) (congrArg nI (ldn_n c_22)) ?_
          refine V.istore_n hC dX13_sharesWith_31 [some (.ref m), some (.int (nI b)), some (.int (nI (ldn (sSh s) b (k + 1)))), some (.int (nI k))] (Nat.le_of_ble_eq_true rfl) rfl ?_
          refine V.iincN hC k 1 dX13_sharesWith_32 rfl [some (.ref m), some (.int (nI b)), some (.int (nI (ldn (sSh s) b (k + 1)))), some (.int (nI (k + 1)))] (Nat.le_of_ble_eq_true rfl) rfl rfl rfl ?_
          refine V.goto hC 4 dX13_sharesWith_35 rfl ?_
          exact ih4 (k + 1) (by omega) (by omega)
        · refine V.iconst hC 0 dX13_sharesWith_25 rfl ?_
          refine V.goto hC 30 dX13_sharesWith_26 rfl ?_
          refine V.iaddN hC (ldn (sSh s) b k) 0 dX13_sharesWith_30 rfl rfl ?_
          refine V.topeq (nI (ldn (sSh s) b (k + 1))) (congrArg nI (ldn_y c_22)) ?_
          refine V.istore_n hC dX13_sharesWith_31 [some (.ref m), some (.int (nI b)), some (.int (nI (ldn (sSh s) b (k + 1)))), some (.int (nI k))] (Nat.le_of_ble_eq_true rfl) rfl ?_
          refine V.iincN hC k 1 dX13_sharesWith_32 rfl [some (.ref m), some (.int (nI b)), some (.int (nI (ldn (sSh s) b (k + 1)))), some (.int (nI (k + 1)))] (Nat.le_of_ble_eq_true rfl) rfl rfl rfl ?_
          refine V.goto hC 4 dX13_sharesWith_35 rfl ?_
          exact ih4 (k + 1) (by omega) (by omega)
  exact loop4 _ 0 (Nat.lt_succ_self _) (by omega)

set_option maxHeartbeats 4000000 in
set_option maxRecDepth 100000 in
theorem m_firstOf (l : Launch) (G : Gx) (f : Nat → Int32) (mo : Nat) (hmo : mo ≤ 8) : Ct l G SF0 yX13_firstOf wsX13_firstOf ({ frames := 1, cells := 0, slots := 0, locals := 20 }) [.int (nI (fh f 8 8)), .int (nI mo)] [] mkI (fun (r : Int32) (_ : Unit) => r = nI (fh f mo 8)) (fun _ : Unit => []) 0 0 := by
  refine Ct.ofI (cc := cX13_firstOf) (maxL := 4) (by decide) rfl ⟨by simp [Value.category], Nat.le_of_ble_eq_true rfl⟩ ?_
  intro K hl hC hSF hnm hE
  subst hl
  show V G K 4 0 0 0 [some (.int (nI (fh f 8 8))), some (.int (nI mo)), none, none] [] []
  refine V.iconst hC 0 dX13_firstOf_0 rfl ?_
  refine V.istore_n hC dX13_firstOf_1 [some (.int (nI (fh f 8 8))), some (.int (nI mo)), some (.int 0), none] (Nat.le_of_ble_eq_true rfl) rfl ?_
  refine V.iconst hC 0 dX13_firstOf_2 rfl ?_
  refine V.istore_n hC dX13_firstOf_3 [some (.int (nI (fh f 8 8))), some (.int (nI mo)), some (.int 0), some (.int 0)] (Nat.le_of_ble_eq_true rfl) rfl ?_
  have loop4 : ∀ (n : Nat) (b : Nat), 8 - b < n → (b ≤ 8) → V G K 4 0 0 4 [some (.int (nI (fh f 8 8))), some (.int (nI mo)), some (.int (nI (fh f mo b))), some (.int (nI b))] [] [] := by
    intro n
    induction n with
    | zero => intro b hlt; exact absurd hlt (Nat.not_lt_zero _)
    | succ n ih4 =>
      intro b hlt4 hb
      refine V.iload_n hC (x := nI b) dX13_firstOf_4 rfl ?_
      refine V.bipush hC 8 dX13_firstOf_5 rfl ?_
      refine V.icmpN_ge hC b 8 32 dX13_firstOf_7 rfl rfl rfl (by omega) (by omega) (fun c_7 => ?_) (fun c_7 => ?_)
      · refine V.iload_n hC (x := nI (fh f mo b)) dX13_firstOf_32 rfl ?_
        exact hE 33 _ (nI (fh f mo b)) () dX13_firstOf_33 rfl (by rw [show b = 8 by omega])
      · refine V.iload_n hC (x := nI (fh f mo b)) dX13_firstOf_10 rfl ?_
        refine V.callSr (n := 1) (As := [.int (nI (fh f mo b))]) (rest := []) hC (c_bitCount (kl K) G (fh f mo b) (fh_256 _ _ _ (by omega))) SFk0 SFgo0 gX13_firstOf_J6_bitCount_0f7a4 rfl ⟨rfl, rfl⟩ (by decide +kernel) ⟨by decide, by decide, by decide, by decide⟩ [] rfl (by decide) rfl rfl (Nat.le_of_ble_eq_true rfl) dX13_firstOf_11 (fun r_11 u_11 hp_11 => ?_)
        rw [pop_fhb f mo b (by omega)] at hp_11
        subst hp_11
        show V G K 4 0 0 14 [some (.int (nI (fh f 8 8))), some (.int (nI mo)), some (.int (nI (fh f mo b))), some (.int (nI b))] [.int (nI (min mo (hc f b)))] []
        refine V.iload_n hC (x := nI mo) dX13_firstOf_14 rfl ?_
        refine V.icmpN_ge hC (min mo (hc f b)) mo 32 dX13_firstOf_15 rfl rfl rfl (by omega) (by omega) (fun c_15 => ?_) (fun c_15 => ?_)
        · refine V.iload_n hC (x := nI (fh f mo b)) dX13_firstOf_32 rfl ?_
          exact hE 33 _ (nI (fh f mo b)) () dX13_firstOf_33 rfl (by rw [fh_end hb (by omega)])
        · refine V.iload_n hC (x := nI (fh f mo b)) dX13_firstOf_18 rfl ?_
          refine V.iload_n hC (x := nI (fh f 8 8)) dX13_firstOf_19 rfl ?_
          refine V.iconst hC 1 dX13_firstOf_20 rfl ?_
          refine V.iload_n hC (x := nI b) dX13_firstOf_21 rfl ?_
          refine V.ishl hC dX13_firstOf_22 ?_
          refine V.iand hC dX13_firstOf_23 ?_
          refine V.ior hC dX13_firstOf_24 ?_
          refine V.topeq (nI (fh f mo (b + 1))) (first_step (by omega) (by omega)) ?_
          refine V.istore_n hC dX13_firstOf_25 [some (.int (nI (fh f 8 8))), some (.int (nI mo)), some (.int (nI (fh f mo (b + 1)))), some (.int (nI b))] (Nat.le_of_ble_eq_true rfl) rfl ?_
          refine V.iincN hC b 1 dX13_firstOf_26 rfl [some (.int (nI (fh f 8 8))), some (.int (nI mo)), some (.int (nI (fh f mo (b + 1)))), some (.int (nI (b + 1)))] (Nat.le_of_ble_eq_true rfl) rfl rfl rfl ?_
          refine V.goto hC 4 dX13_firstOf_29 rfl ?_
          exact ih4 (b + 1) (by omega) (by omega)
  exact loop4 _ 0 (Nat.lt_succ_self _) (by omega)

set_option maxHeartbeats 4000000 in
set_option maxRecDepth 100000 in
theorem m_leading (l : Launch) (G : Gx) (m nw bf sv hy tx li nmb : Nat) (iS rmb eA fA tyd ldd thr siz spt wrg tld : Int32) (σ : Nat → Int32) (s : ASt) (B : Nat) (hR : Rel σ s) (hI : InvA B s) (hB : B < 2 ^ 30) (k : Nat) (hk : k < sNs s) : Ct l G SF0 yX13_leading wsX13_leading ({ frames := 4, cells := 0, slots := 0, locals := 88 }) [.ref m, .int (nI k)] [(m, .inr (13, [.ref nw, .ref bf, .ref sv, .ref hy, .int iS, .int rmb, .int eA, .int fA, .ref tx, .int tyd, .ref li, .int ldd, .int thr, .int siz, .int spt, .int wrg, .int tld, .ref nmb])), (nw, .inl (gI G, 72, .inl σ))] mkI (fun (r : Int32) (_ : Unit) => r = nI (fh (sSh s k) (sTn s k) 8)) (fun _ : Unit => [(m, .inr (13, [.ref nw, .ref bf, .ref sv, .ref hy, .int iS, .int rmb, .int eA, .int fA, .ref tx, .int tyd, .ref li, .int ldd, .int thr, .int siz, .int spt, .int wrg, .int tld, .ref nmb])), (nw, .inl (gI G, 72, .inl σ))]) 0 0 := by
  have hb8 := hI.1
  have hs6 := hI.2.1
  refine Ct.ofI (cc := cX13_leading) (maxL := 2) (by decide) rfl ⟨by simp [Value.category], Nat.le_of_ble_eq_true rfl⟩ ?_
  intro K hl hC hSF hnm hE
  subst hl
  show V G K 2 0 0 0 [some (.ref m), some (.int (nI k))] [] [(m, .inr (13, [.ref nw, .ref bf, .ref sv, .ref hy, .int iS, .int rmb, .int eA, .int fA, .ref tx, .int tyd, .ref li, .int ldd, .int thr, .int siz, .int spt, .int wrg, .int tld, .ref nmb])), (nw, .inl (gI G, 72, .inl σ))]
  refine V.aload_n hC (x := m) dX13_leading_0 rfl ?_
  refine V.iload_n hC (x := nI k) dX13_leading_1 rfl ?_
  refine V.callVr (n := 1) (As := [.int (nI k)]) (rest := []) hC (m_holdersOf (kl K) G m nw bf sv hy tx li nmb iS rmb eA fA tyd ldd thr siz spt wrg tld σ s B hR hI hB k hk) SFk0 SFgo0 gX13_leading_X13_holdersOf rfl ⟨rfl, rfl⟩ (by decide +kernel) ⟨by decide, by decide, by decide, by decide⟩ [0, 1] rfl (by decide) rfl rfl rfl rfl (Nat.le_of_ble_eq_true rfl) dX13_leading_2 (fun r_2 u_2 hp_2 => ?_)
  subst hp_2
  show V G K 2 0 0 5 [some (.ref m), some (.int (nI k))] [.int (nI (fh (sSh s k) 8 8))] [(m, .inr (13, [.ref nw, .ref bf, .ref sv, .ref hy, .int iS, .int rmb, .int eA, .int fA, .ref tx, .int tyd, .ref li, .int ldd, .int thr, .int siz, .int spt, .int wrg, .int tld, .ref nmb])), (nw, .inl (gI G, 72, .inl σ))]
  refine V.aload_n hC (x := m) dX13_leading_5 rfl ?_
  refine V.iload_n hC (x := nI k) dX13_leading_6 rfl ?_
  refine V.iconst hC 1 dX13_leading_7 rfl ?_
  refine V.callVr (n := 2) (As := [.int (nI k), .int 1]) (rest := [.int (nI (fh (sSh s k) 8 8))]) hC (m_of (kl K) G m nw bf sv hy tx li nmb iS rmb eA fA tyd ldd thr siz spt wrg tld σ k (by omega) 1 (by decide)) SFk0 SFgo0 gX13_leading_X13_of rfl ⟨rfl, rfl⟩ (by decide +kernel) ⟨by decide, by decide, by decide, by decide⟩ [0, 1] rfl (by decide) rfl rfl rfl rfl (Nat.le_of_ble_eq_true rfl) dX13_leading_8 (fun r_8 u_8 hp_8 => ?_)
  have hq_8 := hp_8.trans (show σ (12 + 10 * k + 1) = nI (sTn s k) by rw [show 12 + 10 * k + 1 = 13 + 10 * k by omega]; exact (hR.2.2.2.2.2 k hk).2.1)
  subst hq_8
  show V G K 2 0 0 11 [some (.ref m), some (.int (nI k))] [.int (nI (sTn s k)), .int (nI (fh (sSh s k) 8 8))] [(m, .inr (13, [.ref nw, .ref bf, .ref sv, .ref hy, .int iS, .int rmb, .int eA, .int fA, .ref tx, .int tyd, .ref li, .int ldd, .int thr, .int siz, .int spt, .int wrg, .int tld, .ref nmb])), (nw, .inl (gI G, 72, .inl σ))]
  refine V.callSr (n := 2) (As := [.int (nI (fh (sSh s k) 8 8)), .int (nI (sTn s k))]) (rest := []) hC (m_firstOf (kl K) G (sSh s k) (sTn s k) (by have := (hI.2.2.1 k hk).2.1; omega)) SFk0 SFgo0 gX13_leading_X13_firstOf rfl ⟨rfl, rfl⟩ (by decide +kernel) ⟨by decide, by decide, by decide, by decide⟩ [] rfl (by decide) rfl rfl (Nat.le_of_ble_eq_true rfl) dX13_leading_11 (fun r_11 u_11 hp_11 => ?_)
  subst hp_11
  show V G K 2 0 0 14 [some (.ref m), some (.int (nI k))] [.int (nI (fh (sSh s k) (sTn s k) 8))] [(m, .inr (13, [.ref nw, .ref bf, .ref sv, .ref hy, .int iS, .int rmb, .int eA, .int fA, .ref tx, .int tyd, .ref li, .int ldd, .int thr, .int siz, .int spt, .int wrg, .int tld, .ref nmb])), (nw, .inl (gI G, 72, .inl σ))]
  exact hE 14 _ (nI (fh (sSh s k) (sTn s k) 8)) () dX13_leading_14 rfl rfl

set_option maxHeartbeats 4000000 in
set_option maxRecDepth 100000 in
theorem m_isEnoughN (l : Launch) (G : Gx) (m nw bf sv hy tx li nmb : Nat) (iS rmb eA fA tyd ldd thr siz spt wrg tld : Int32) (σ : Nat → Int32) (s : ASt) (B : Nat) (hR : Rel σ s) (hI : InvA B s) (hB : B < 2 ^ 30) : Ct l G SF0 yX13_isEnough wsX13_isEnough ({ frames := 0, cells := 0, slots := 0, locals := 0 }) [.ref m, .int (-1)] [(m, .inr (13, [.ref nw, .ref bf, .ref sv, .ref hy, .int iS, .int rmb, .int eA, .int fA, .ref tx, .int tyd, .ref li, .int ldd, .int thr, .int siz, .int spt, .int wrg, .int tld, .ref nmb])), (nw, .inl (gI G, 72, .inl σ))] mkI (fun (r : Int32) (_ : Unit) => r = 0) (fun _ : Unit => [(m, .inr (13, [.ref nw, .ref bf, .ref sv, .ref hy, .int iS, .int rmb, .int eA, .int fA, .ref tx, .int tyd, .ref li, .int ldd, .int thr, .int siz, .int spt, .int wrg, .int tld, .ref nmb])), (nw, .inl (gI G, 72, .inl σ))]) 0 0 := by
  have hb8 := hI.1
  have hs6 := hI.2.1
  refine Ct.ofI (cc := cX13_isEnough) (maxL := 2) (by decide) rfl ⟨by simp [Value.category], Nat.le_of_ble_eq_true rfl⟩ ?_
  intro K hl hC hSF hnm hE
  subst hl
  show V G K 2 0 0 0 [some (.ref m), some (.int (-1))] [] [(m, .inr (13, [.ref nw, .ref bf, .ref sv, .ref hy, .int iS, .int rmb, .int eA, .int fA, .ref tx, .int tyd, .ref li, .int ldd, .int thr, .int siz, .int spt, .int wrg, .int tld, .ref nmb])), (nw, .inl (gI G, 72, .inl σ))]
  refine V.iload_n hC (x := -1) dX13_isEnough_0 rfl ?_
  refine V.iconst hC (-1) dX13_isEnough_1 rfl ?_
  refine V.icmp_eq hC 26 dX13_isEnough_2 rfl (fun c_2 => ?_) (fun c_2 => ?_)
  · refine V.iconst hC 0 dX13_isEnough_26 rfl ?_
    exact hE 27 _ 0 () dX13_isEnough_27 rfl rfl
  · exact absurd rfl c_2

set_option maxHeartbeats 4000000 in
set_option maxRecDepth 100000 in
theorem m_isEnough (l : Launch) (G : Gx) (m nw bf sv hy tx li nmb : Nat) (iS rmb eA fA tyd ldd thr siz spt wrg tld : Int32) (σ : Nat → Int32) (s : ASt) (B : Nat) (hR : Rel σ s) (hI : InvA B s) (hB : B < 2 ^ 30) (k : Nat) (hk : k < sNs s) : Ct l G SF0 yX13_isEnough wsX13_isEnough ({ frames := 4, cells := 0, slots := 0, locals := 88 }) [.ref m, .int (nI k)] [(m, .inr (13, [.ref nw, .ref bf, .ref sv, .ref hy, .int iS, .int rmb, .int eA, .int fA, .ref tx, .int tyd, .ref li, .int ldd, .int thr, .int siz, .int spt, .int wrg, .int tld, .ref nmb])), (nw, .inl (gI G, 72, .inl σ))] mkI (fun (r : Int32) (_ : Unit) => r = if sTn s k ≤ hc (sSh s k) 8 then 1 else 0) (fun _ : Unit => [(m, .inr (13, [.ref nw, .ref bf, .ref sv, .ref hy, .int iS, .int rmb, .int eA, .int fA, .ref tx, .int tyd, .ref li, .int ldd, .int thr, .int siz, .int spt, .int wrg, .int tld, .ref nmb])), (nw, .inl (gI G, 72, .inl σ))]) 0 0 := by
  have hb8 := hI.1
  have hs6 := hI.2.1
  have htn := (hI.2.2.1 k hk).2.1
  have hcl := hc_le (sSh s k) 8
  refine Ct.ofI (cc := cX13_isEnough) (maxL := 2) (by decide) rfl ⟨by simp [Value.category], Nat.le_of_ble_eq_true rfl⟩ ?_
  intro K hl hC hSF hnm hE
  subst hl
  show V G K 2 0 0 0 [some (.ref m), some (.int (nI k))] [] [(m, .inr (13, [.ref nw, .ref bf, .ref sv, .ref hy, .int iS, .int rmb, .int eA, .int fA, .ref tx, .int tyd, .ref li, .int ldd, .int thr, .int siz, .int spt, .int wrg, .int tld, .ref nmb])), (nw, .inl (gI G, 72, .inl σ))]
  refine V.iload_n hC (x := nI k) dX13_isEnough_0 rfl ?_
  refine V.iconst hC (-1) dX13_isEnough_1 rfl ?_
  refine V.icmp_eq hC 26 dX13_isEnough_2 rfl (fun c_2 => ?_) (fun c_2 => ?_)
  · exact absurd c_2 (nI_m1 (by omega))
  · refine V.aload_n hC (x := m) dX13_isEnough_5 rfl ?_
    refine V.iload_n hC (x := nI k) dX13_isEnough_6 rfl ?_
    refine V.callVr (n := 1) (As := [.int (nI k)]) (rest := []) hC (m_holdersOf (kl K) G m nw bf sv hy tx li nmb iS rmb eA fA tyd ldd thr siz spt wrg tld σ s B hR hI hB k hk) SFk0 SFgo0 gX13_isEnough_X13_holdersOf rfl ⟨rfl, rfl⟩ (by decide +kernel) ⟨by decide, by decide, by decide, by decide⟩ [0, 1] rfl (by decide) rfl rfl rfl rfl (Nat.le_of_ble_eq_true rfl) dX13_isEnough_7 (fun r_7 u_7 hp_7 => ?_)
    subst hp_7
    show V G K 2 0 0 10 [some (.ref m), some (.int (nI k))] [.int (nI (fh (sSh s k) 8 8))] [(m, .inr (13, [.ref nw, .ref bf, .ref sv, .ref hy, .int iS, .int rmb, .int eA, .int fA, .ref tx, .int tyd, .ref li, .int ldd, .int thr, .int siz, .int spt, .int wrg, .int tld, .ref nmb])), (nw, .inl (gI G, 72, .inl σ))]
    refine V.callSr (n := 1) (As := [.int (nI (fh (sSh s k) 8 8))]) (rest := []) hC (c_bitCount (kl K) G (fh (sSh s k) 8 8) (fh_256 _ _ _ (by decide))) SFk0 SFgo0 gX13_isEnough_J6_bitCount_0f7a4 rfl ⟨rfl, rfl⟩ (by decide +kernel) ⟨by decide, by decide, by decide, by decide⟩ [] rfl (by decide) rfl rfl (Nat.le_of_ble_eq_true rfl) dX13_isEnough_10 (fun r_10 u_10 hp_10 => ?_)
    rw [pop_fh8] at hp_10
    subst hp_10
    show V G K 2 0 0 13 [some (.ref m), some (.int (nI k))] [.int (nI (hc (sSh s k) 8))] [(m, .inr (13, [.ref nw, .ref bf, .ref sv, .ref hy, .int iS, .int rmb, .int eA, .int fA, .ref tx, .int tyd, .ref li, .int ldd, .int thr, .int siz, .int spt, .int wrg, .int tld, .ref nmb])), (nw, .inl (gI G, 72, .inl σ))]
    refine V.aload_n hC (x := m) dX13_isEnough_13 rfl ?_
    refine V.iload_n hC (x := nI k) dX13_isEnough_14 rfl ?_
    refine V.iconst hC 1 dX13_isEnough_15 rfl ?_
    refine V.callVr (n := 2) (As := [.int (nI k), .int 1]) (rest := [.int (nI (hc (sSh s k) 8))]) hC (m_of (kl K) G m nw bf sv hy tx li nmb iS rmb eA fA tyd ldd thr siz spt wrg tld σ k (by omega) 1 (by decide)) SFk0 SFgo0 gX13_isEnough_X13_of rfl ⟨rfl, rfl⟩ (by decide +kernel) ⟨by decide, by decide, by decide, by decide⟩ [0, 1] rfl (by decide) rfl rfl rfl rfl (Nat.le_of_ble_eq_true rfl) dX13_isEnough_16 (fun r_16 u_16 hp_16 => ?_)
    have hq_16 := hp_16.trans (show σ (12 + 10 * k + 1) = nI (sTn s k) by rw [show 12 + 10 * k + 1 = 13 + 10 * k by omega]; exact (hR.2.2.2.2.2 k hk).2.1)
    subst hq_16
    show V G K 2 0 0 19 [some (.ref m), some (.int (nI k))] [.int (nI (sTn s k)), .int (nI (hc (sSh s k) 8))] [(m, .inr (13, [.ref nw, .ref bf, .ref sv, .ref hy, .int iS, .int rmb, .int eA, .int fA, .ref tx, .int tyd, .ref li, .int ldd, .int thr, .int siz, .int spt, .int wrg, .int tld, .ref nmb])), (nw, .inl (gI G, 72, .inl σ))]
    refine V.icmpN_lt hC (hc (sSh s k) 8) (sTn s k) 26 dX13_isEnough_19 rfl rfl rfl (by omega) (by omega) (fun c_19 => ?_) (fun c_19 => ?_)
    · refine V.iconst hC 0 dX13_isEnough_26 rfl ?_
      exact hE 27 _ 0 () dX13_isEnough_27 rfl ((if_neg (by omega)).symm)
    · refine V.iconst hC 1 dX13_isEnough_22 rfl ?_
      refine V.goto hC 27 dX13_isEnough_23 rfl ?_
      exact hE 27 _ 1 () dX13_isEnough_27 rfl ((if_pos (by omega)).symm)
