/-! the document's model: the ranks, the means (printed by gen/s66.py) -/
/-- numbers below n that differ take every value below n -/
theorem php : ∀ (n : Nat) (f : Nat → Nat), (∀ i, i < n → f i < n) → (∀ i j, i < n → j < n → f i = f j → i = j) → ∀ r, r < n → ∃ i, i < n ∧ f i = r
  | 0, _, _, _, r, hr => absurd hr (Nat.not_lt_zero r)
  | n + 1, f, h1, h2, r, hr => by
    by_cases hv : f n = r
    · exact ⟨n, Nat.lt_succ_self n, hv⟩
    · have hne : ∀ i, i < n → f i ≠ f n := fun i hi z => by
        have := h2 i n (by omega) (by omega) z
        omega
      have g1 : ∀ i, i < n → (if f i = n then f n else f i) < n := by
        intro i hi
        have a := h1 i (by omega)
        have b := h1 n (by omega)
        have c := hne i hi
        split <;> omega
      have g2 : ∀ i j, i < n → j < n → (if f i = n then f n else f i) = (if f j = n then f n else f j) → i = j := by
        intro i j hi hj e
        have c1 := hne i hi
        have c2 := hne j hj
        by_cases q1 : f i = n
        · by_cases q2 : f j = n
          · exact h2 i j (by omega) (by omega) (q1.trans q2.symm)
          · rw [if_pos q1, if_neg q2] at e
            exact absurd e.symm c2
        · by_cases q2 : f j = n
          · rw [if_neg q1, if_pos q2] at e
            exact absurd e c1
          · rw [if_neg q1, if_neg q2] at e
            exact h2 i j (by omega) (by omega) e
      by_cases hrn : r = n
      · have hb := h1 n (by omega)
        obtain ⟨i, hi, e⟩ := php n (fun i => if f i = n then f n else f i) g1 g2 (f n) (by omega)
        by_cases q1 : f i = n
        · exact ⟨i, by omega, by omega⟩
        · exact absurd ((if_neg q1).symm.trans e) (hne i hi)
      · obtain ⟨i, hi, e⟩ := php n (fun i => if f i = n then f n else f i) g1 g2 r (by omega)
        by_cases q1 : f i = n
        · exact absurd ((if_pos q1).symm.trans e) hv
        · exact ⟨i, by omega, (if_neg q1).symm.trans e⟩
section RANKS
variable {ld : Nat → Nat} {hm : Nat → Int32}
theorem ahn_y {a b : Nat} (h : ahd ld hm b a) : ahn ld hm a b + 1 = ahn ld hm a (b + 1) := by
  rw [ahn]
  exact (congrArg (fun z => ahn ld hm a b + z) (if_pos h)).symm
theorem ahn_n {a b : Nat} (h : ¬ ahd ld hm b a) : ahn ld hm a b = ahn ld hm a (b + 1) := by
  rw [ahn, if_neg (show ¬ (ld a < ld b ∨ (ld b = ld a ∧ (hm b < hm a ∨ (hm b = hm a ∧ b < a)))) from h)]
  rfl
theorem ahd_tot {a b : Nat} (h : a ≠ b) : ahd ld hm a b ∨ ahd ld hm b a := by
  rcases Nat.lt_trichotomy (ld a) (ld b) with q | q | q
  · exact Or.inr (Or.inl q)
  · by_cases h1 : hm a < hm b
    · exact Or.inl (Or.inr ⟨q, Or.inl h1⟩)
    · by_cases h2 : hm b < hm a
      · exact Or.inr (Or.inr ⟨q.symm, Or.inl h2⟩)
      · have h3 : hm a = hm b := Int32.le_antisymm (Int32.not_lt.mp h2) (Int32.not_lt.mp h1)
        rcases Nat.lt_or_gt_of_ne h with q2 | q2
        · exact Or.inl (Or.inr ⟨q, Or.inr ⟨h3, q2⟩⟩)
        · exact Or.inr (Or.inr ⟨q.symm, Or.inr ⟨h3.symm, q2⟩⟩)
  · exact Or.inl (Or.inl q)
theorem ahd_trans {a b c : Nat} (h : ahd ld hm a b) (h2 : ahd ld hm b c) : ahd ld hm a c := by
  rcases h with h | ⟨e, h⟩
  · rcases h2 with h2 | ⟨e2, h2⟩
    · exact Or.inl (by omega)
    · exact Or.inl (by omega)
  · rcases h2 with h2 | ⟨e2, h2⟩
    · exact Or.inl (by omega)
    · refine Or.inr ⟨e.trans e2, ?_⟩
      rcases h with h | ⟨k, h⟩
      · rcases h2 with h2 | ⟨k2, h2⟩
        · exact Or.inl (Int32.lt_trans h h2)
        · exact Or.inl (by rw [← k2]; exact h)
      · rcases h2 with h2 | ⟨k2, h2⟩
        · exact Or.inl (by rw [k]; exact h2)
        · exact Or.inr ⟨k.trans k2, by omega⟩
/-- who stands ahead has a smaller rank -/
theorem ahn_mono {a b : Nat} (h : ahd ld hm a b) : ∀ n, ahn ld hm a n ≤ ahn ld hm b n ∧ (a < n → ahn ld hm a n < ahn ld hm b n)
  | 0 => ⟨Nat.le_refl _, fun z => absurd z (Nat.not_lt_zero _)⟩
  | n + 1 => by
    have ih := ahn_mono h n
    by_cases q : ahd ld hm n a
    · rw [← ahn_y q, ← ahn_y (ahd_trans q h)]
      refine ⟨by omega, fun z => ?_⟩
      by_cases e : a = n
      · subst e
        exact absurd q ahd_irr
      · have := ih.2 (by omega)
        omega
    · by_cases q2 : ahd ld hm n b
      · rw [← ahn_n q, ← ahn_y q2]
        exact ⟨by omega, fun z => by omega⟩
      · rw [← ahn_n q, ← ahn_n q2]
        refine ⟨ih.1, fun z => ?_⟩
        by_cases e : a = n
        · subst e
          exact absurd h q2
        · exact ih.2 (by omega)
theorem ahn_inj {a b n : Nat} (ha : a < n) (hb : b < n) (h : ahn ld hm a n = ahn ld hm b n) : a = b := by
  apply Decidable.byContradiction
  intro z
  rcases ahd_tot (ld := ld) (hm := hm) z with q | q
  · have := (ahn_mono q n).2 ha
    omega
  · have := (ahn_mono q n).2 hb
    omega
theorem ahn_lt {b n : Nat} (hb : b < n) : ahn ld hm b n < n := by
  have : ∀ m, ahn ld hm b m ≤ m ∧ (b < m → ahn ld hm b m < m) := by
    intro m
    induction m with
    | zero => exact ⟨Nat.le_refl _, fun z => absurd z (Nat.not_lt_zero _)⟩
    | succ m ih =>
      by_cases q : ahd ld hm m b
      · rw [← ahn_y q]
        refine ⟨by omega, fun z => ?_⟩
        by_cases e : b = m
        · subst e
          exact absurd q ahd_irr
        · have := ih.2 (by omega)
          omega
      · rw [← ahn_n q]
        exact ⟨by omega, fun z => by omega⟩
  exact (this n).2 hb
end RANKS
theorem dg0 {p q : Nat} (hp : p < 2 ^ 30) (hq : q < 2 ^ 30) : 0 < nI p - nI q ↔ q < p := by
  rw [Int32.lt_iff_toInt_lt, pk_sub_toInt hp hq, Int32.toInt_zero]
  omega
theorem de0 {p q : Nat} (hp : p < 2 ^ 30) (hq : q < 2 ^ 30) : nI p - nI q = 0 ↔ p = q := by
  rw [← Int32.toInt_inj, pk_sub_toInt hp hq, Int32.toInt_zero]
  omega
def hN (s : ASt) (b : Nat) : Nat := (sHm s b).toNatClampNeg
theorem hN_ok {B : Nat} {s : ASt} (hI : InvA B s) {b : Nat} (hb : b < sNb s) : sHm s b = nI (hN s b) ∧ hN s b < 4 := by
  obtain ⟨n, hn, e⟩ := hI.2.2.2.1 b hb
  have e2 : hN s b = n := by rw [hN, e, nI_clamp (by omega)]
  rw [e2]
  exact ⟨e, hn⟩
abbrev ldS (s : ASt) : Nat → Nat := fun z => ldn (sSh s) z (sNs s)
abbrev rkS (s : ASt) (z : Nat) : Nat := ahn (ldS s) (sHm s) z (sNb s)
/-- a rank stands but once -/
theorem rk_one {s : ASt} {x : Int32} {a : Nat} (h8 : sNb s ≤ 8) (ha : a < sNb s) (h : nI (rkS s a) = x) : fd (fun z => nI (rkS s z)) x a = none := by
  cases hf : fd (fun z => nI (rkS s z)) x a with
  | none => rfl
  | some j =>
    obtain ⟨hj, hx, -⟩ := fd_some hf
    have h1 : nI (rkS s j) = nI (rkS s a) := hx.trans h.symm
    have l1 : rkS s j < sNb s := ahn_lt (by omega)
    have l2 : rkS s a < sNb s := ahn_lt ha
    have h2 := (nI_eq (by omega) (by omega)).mp h1
    have := ahn_inj (by omega) ha h2
    omega
theorem rk_all {s : ASt} {x : Int32} (h8 : sNb s ≤ 8) (hx : ¬ x < 0 ∧ x < nI (sNb s)) : ∃ a, fd (fun z => nI (rkS s z)) x (sNb s) = some a := by
  obtain ⟨r, hr, rfl⟩ := i32_nat (by omega) hx
  obtain ⟨i, hi, e⟩ := php (sNb s) (fun z => rkS s z) (fun i hi => ahn_lt hi) (fun i j hi hj e => ahn_inj hi hj e) r hr
  exact ⟨i, fd_hit (rk_one h8 hi (congrArg nI e)) (congrArg nI e) hi⟩
theorem rk_no {s : ASt} {x : Int32} (h8 : sNb s ≤ 8) (hx : ¬ (¬ x < 0 ∧ x < nI (sNb s))) : fd (fun z => nI (rkS s z)) x (sNb s) = none := by
  cases hf : fd (fun z => nI (rkS s z)) x (sNb s) with
  | none => rfl
  | some j =>
    obtain ⟨hj, he, -⟩ := fd_some hf
    have l1 : rkS s j < sNb s := ahn_lt hj
    exact absurd ⟨by rw [← he]; exact nI_nn (by omega), by rw [← he]; exact nI_lt l1 (by omega)⟩ hx
set_option maxHeartbeats 4000000 in
set_option maxRecDepth 100000 in
theorem m_mean (l : Launch) (G : Gx) (m nw bf sv hy tx li nmb : Nat) (iS rmb eA fA tyd ldd thr siz spt wrg tld : Int32) (σ : Nat → Int32) (s : ASt) (B : Nat) (hR : Rel σ s) (hI : InvA B s) (hB : B < 2 ^ 30) : Ct l G SF0 yX13_meanShares wsX13_meanShares ({ frames := 5, cells := 0, slots := 0, locals := 110 }) [.ref m] [(m, .inr (13, [.ref nw, .ref bf, .ref sv, .ref hy, .int iS, .int rmb, .int eA, .int fA, .ref tx, .int tyd, .ref li, .int ldd, .int thr, .int siz, .int spt, .int wrg, .int tld, .ref nmb])), (nw, .inl (gI G, 72, .inl σ))] mkD (fun (r : UInt64) (_ : Unit) => 1 ≤ sNb s → r = mean s) (fun _ : Unit => [(m, .inr (13, [.ref nw, .ref bf, .ref sv, .ref hy, .int iS, .int rmb, .int eA, .int fA, .ref tx, .int tyd, .ref li, .int ldd, .int (nI (if 1 ≤ sNb s then 0 else 1)), .int siz, .int spt, .int wrg, .int tld, .ref nmb])), (nw, .inl (gI G, 72, .inl σ))]) 0 0 := by
  have hb8 := hI.1
  have hs6 := hI.2.1
  refine Ct.ofD (cc := cX13_meanShares) (maxL := 1) (by decide) rfl ⟨by simp [Value.category], Nat.le_of_ble_eq_true rfl⟩ ?_
  intro K hl hC hSF hnm hE
  subst hl
  have q0_ : ∀ w ∈ u_ws RX13 TX13 18, w ∈ wsX13_meanShares := by decide +kernel
  have q1_ : Cond.fieldLink RX13 9 "FeatherSharesModel" "now" "[I" ∈ wsX13_meanShares := by decide +kernel
  show V G K 1 0 0 0 [some (.ref m)] [] [(m, .inr (13, [.ref nw, .ref bf, .ref sv, .ref hy, .int iS, .int rmb, .int eA, .int fA, .ref tx, .int tyd, .ref li, .int ldd, .int thr, .int siz, .int spt, .int wrg, .int tld, .ref nmb])), (nw, .inl (gI G, 72, .inl σ))]
  refine V.aload_n hC (x := m) dX13_meanShares_0 rfl ?_
  refine V.aload_n hC (x := m) dX13_meanShares_1 rfl ?_
  refine V.getf hC (T := TX13) q0_ 0 q1_ rfl (0) rfl rfl (by decide) (.ref nw) rfl dX13_meanShares_2 ?_
  refine V.iconst hC 0 dX13_meanShares_5 rfl ?_
  refine V.iald hC dX13_meanShares_6 (1) rfl 0 rfl (by omega) (by decide) ?_
  refine V.topeq (nI (sNb s)) hR.1 ?_
  refine V.ifN_le hC (sNb s) 14 dX13_meanShares_7 rfl rfl (by omega) (fun c_7 => ?_) (fun c_7 => ?_)
  · refine V.iconst hC 0 dX13_meanShares_14 rfl ?_
    refine V.callV (n := 1) (As := [.int 0]) (rest := []) hC (m_goes (kl K) G m nw bf sv hy tx li nmb iS rmb eA fA tyd ldd thr siz spt wrg tld 0) SFk0 SFgo0 gX13_meanShares_X13_goes rfl ⟨rfl, rfl⟩ (by decide +kernel) ⟨by decide, by decide, by decide, by decide⟩ [0] rfl (by decide) (fun _ => rfl) rfl rfl rfl rfl (Nat.le_of_ble_eq_true rfl) dX13_meanShares_15 (fun r_15 u_15 hp_15 => ?_)
    subst hp_15
    show V G K 1 0 0 18 [some (.ref m)] [.int (if alw 0 1 1 1 = 0 then 1 else 0)] [(m, .inr (13, [.ref nw, .ref bf, .ref sv, .ref hy, .int iS, .int rmb, .int eA, .int fA, .ref tx, .int tyd, .ref li, .int ldd, .int (nI (alw 0 1 1 1)), .int siz, .int spt, .int wrg, .int tld, .ref nmb])), (nw, .inl (gI G, 72, .inl σ))]
    have ha_15 : alw 0 1 1 1 = 1 := by rfl
    refine V.topeq (nI 0) (by rw [ha_15]; rfl) ?_
    refine V.eqw (ws' := [(m, .inr (13, [.ref nw, .ref bf, .ref sv, .ref hy, .int iS, .int rmb, .int eA, .int fA, .ref tx, .int tyd, .ref li, .int ldd, .int (nI 1), .int siz, .int spt, .int wrg, .int tld, .ref nmb])), (nw, .inl (gI G, 72, .inl σ))]) (by rw [ha_15]) ?_
    refine V.ifN_eq hC 0 37 dX13_meanShares_18 rfl rfl (by omega) (fun c_18 => ?_) (fun c_18 => ?_)
    · refine V.dconst0 hC dX13_meanShares_37 ?_
      have hcd : (if 1 ≤ sNb s then 0 else 1) = 1 := if_neg (by omega)
      refine V.eqw (ws' := [(m, .inr (13, [.ref nw, .ref bf, .ref sv, .ref hy, .int iS, .int rmb, .int eA, .int fA, .ref tx, .int tyd, .ref li, .int ldd, .int (nI (if 1 ≤ sNb s then 0 else 1)), .int siz, .int spt, .int wrg, .int tld, .ref nmb])), (nw, .inl (gI G, 72, .inl σ))]) (by rw [hcd]) ?_
      exact hE 38 _ (FP.dconst0) () dX13_meanShares_38 (fun z => absurd z (by omega))
    · exact absurd c_18 (by decide)
  · refine V.iconst hC 1 dX13_meanShares_10 rfl ?_
    refine V.goto hC 15 dX13_meanShares_11 rfl ?_
    refine V.callV (n := 1) (As := [.int 1]) (rest := []) hC (m_goes (kl K) G m nw bf sv hy tx li nmb iS rmb eA fA tyd ldd thr siz spt wrg tld 1) SFk0 SFgo0 gX13_meanShares_X13_goes rfl ⟨rfl, rfl⟩ (by decide +kernel) ⟨by decide, by decide, by decide, by decide⟩ [0] rfl (by decide) (fun _ => rfl) rfl rfl rfl rfl (Nat.le_of_ble_eq_true rfl) dX13_meanShares_15 (fun r_15 u_15 hp_15 => ?_)
    subst hp_15
    show V G K 1 0 0 18 [some (.ref m)] [.int (if alw 1 1 1 1 = 0 then 1 else 0)] [(m, .inr (13, [.ref nw, .ref bf, .ref sv, .ref hy, .int iS, .int rmb, .int eA, .int fA, .ref tx, .int tyd, .ref li, .int ldd, .int (nI (alw 1 1 1 1)), .int siz, .int spt, .int wrg, .int tld, .ref nmb])), (nw, .inl (gI G, 72, .inl σ))]
    have ha_15 : alw 1 1 1 1 = 0 := by rfl
    refine V.topeq (nI 1) (by rw [ha_15]; rfl) ?_
    refine V.eqw (ws' := [(m, .inr (13, [.ref nw, .ref bf, .ref sv, .ref hy, .int iS, .int rmb, .int eA, .int fA, .ref tx, .int tyd, .ref li, .int ldd, .int (nI 0), .int siz, .int spt, .int wrg, .int tld, .ref nmb])), (nw, .inl (gI G, 72, .inl σ))]) (by rw [ha_15]) ?_
    refine V.ifN_eq hC 1 37 dX13_meanShares_18 rfl rfl (by omega) (fun c_18 => ?_) (fun c_18 => ?_)
    · exact absurd c_18 (by decide)
    · refine V.aload_n hC (x := m) dX13_meanShares_21 rfl ?_
      refine V.callVr (n := 0) (As := []) (rest := []) hC (m_allShares (kl K) G m nw bf sv hy tx li nmb iS rmb eA fA tyd ldd (nI 0) siz spt wrg tld σ s B hR hI hB) SFk0 SFgo0 gX13_meanShares_X13_allShares rfl ⟨rfl, rfl⟩ (by decide +kernel) ⟨by decide, by decide, by decide, by decide⟩ [0, 1] rfl (by decide) rfl rfl rfl rfl (Nat.le_of_ble_eq_true rfl) dX13_meanShares_22 (fun r_22 u_22 hp_22 => ?_)
      subst hp_22
      show V G K 1 0 0 25 [some (.ref m)] [.int (nI (als (fun z => ldn (sSh s) z (sNs s)) (sNb s)))] [(m, .inr (13, [.ref nw, .ref bf, .ref sv, .ref hy, .int iS, .int rmb, .int eA, .int fA, .ref tx, .int tyd, .ref li, .int ldd, .int (nI 0), .int siz, .int spt, .int wrg, .int tld, .ref nmb])), (nw, .inl (gI G, 72, .inl σ))]
      refine V.i2d hC dX13_meanShares_25 ?_
      refine V.aload_n hC (x := m) dX13_meanShares_26 rfl ?_
      refine V.getf hC (T := TX13) q0_ 0 q1_ rfl (0) rfl rfl (by decide) (.ref nw) rfl dX13_meanShares_27 ?_
      refine V.iconst hC 0 dX13_meanShares_30 rfl ?_
      refine V.iald hC dX13_meanShares_31 (1) rfl 0 rfl (by omega) (by decide) ?_
      refine V.topeq (nI (sNb s)) hR.1 ?_
      refine V.i2d hC dX13_meanShares_32 ?_
      refine V.ddiv hC dX13_meanShares_33 (mean_ok _ (by have := als_le48 s hs6 (sNb s); omega) _ (by omega) (by omega)) ?_
      refine V.goto hC 38 dX13_meanShares_34 rfl ?_
      have hcd : (if 1 ≤ sNb s then 0 else 1) = 0 := if_pos (by omega)
      refine V.eqw (ws' := [(m, .inr (13, [.ref nw, .ref bf, .ref sv, .ref hy, .int iS, .int rmb, .int eA, .int fA, .ref tx, .int tyd, .ref li, .int ldd, .int (nI (if 1 ≤ sNb s then 0 else 1)), .int siz, .int spt, .int wrg, .int tld, .ref nmb])), (nw, .inl (gI G, 72, .inl σ))]) (by rw [hcd]) ?_
      exact hE 38 _ (FP.ddiv (FP.i2d (nI (als (fun z => ldn (sSh s) z (sNs s)) (sNb s)))) (FP.i2d (nI (sNb s)))) () dX13_meanShares_38 (fun _ => rfl)

set_option maxHeartbeats 4000000 in
set_option maxRecDepth 100000 in
theorem m_birdAtRank (l : Launch) (G : Gx) (m nw bf sv hy tx li nmb : Nat) (iS rmb eA fA tyd ldd thr siz spt wrg tld : Int32) (σ : Nat → Int32) (s : ASt) (B : Nat) (hR : Rel σ s) (hI : InvA B s) (hB : B < 2 ^ 30) (x : Int32) : Ct l G SF0 yX13_birdAtRank wsX13_birdAtRank ({ frames := 4, cells := 0, slots := 0, locals := 88 }) [.ref m, .int x] [(m, .inr (13, [.ref nw, .ref bf, .ref sv, .ref hy, .int iS, .int rmb, .int eA, .int fA, .ref tx, .int tyd, .ref li, .int ldd, .int thr, .int siz, .int spt, .int wrg, .int tld, .ref nmb])), (nw, .inl (gI G, 72, .inl σ))] mkI (fun (r : Int32) (_ : Unit) => r = (qRank s x).2) (fun _ : Unit => [(m, .inr (13, [.ref nw, .ref bf, .ref sv, .ref hy, .int iS, .int rmb, .int eA, .int fA, .ref tx, .int tyd, .ref li, .int ldd, .int (nI (qRank s x).1), .int siz, .int spt, .int wrg, .int tld, .ref nmb])), (nw, .inl (gI G, 72, .inl σ))]) 0 0 := by
  have hb8 := hI.1
  have hs6 := hI.2.1
  refine Ct.ofI (cc := cX13_birdAtRank) (maxL := 8) (by decide) rfl ⟨by simp [Value.category], Nat.le_of_ble_eq_true rfl⟩ ?_
  intro K hl hC hSF hnm hE
  subst hl
  have q0_ : ∀ w ∈ u_ws RX13 TX13 18, w ∈ wsX13_birdAtRank := by decide +kernel
  have q1_ : Cond.fieldLink RX13 9 "FeatherSharesModel" "now" "[I" ∈ wsX13_birdAtRank := by decide +kernel
  show V G K 8 0 0 0 [some (.ref m), some (.int x), none, none, none, none, none, none] [] [(m, .inr (13, [.ref nw, .ref bf, .ref sv, .ref hy, .int iS, .int rmb, .int eA, .int fA, .ref tx, .int tyd, .ref li, .int ldd, .int thr, .int siz, .int spt, .int wrg, .int tld, .ref nmb])), (nw, .inl (gI G, 72, .inl σ))]
  refine V.iconst hC (-1) dX13_birdAtRank_0 rfl ?_
  refine V.istore_n hC dX13_birdAtRank_1 [some (.ref m), some (.int x), some (.int (-1)), none, none, none, none, none] (Nat.le_of_ble_eq_true rfl) rfl ?_
  refine V.iconst hC 0 dX13_birdAtRank_2 rfl ?_
  refine V.istore_n hC dX13_birdAtRank_3 [some (.ref m), some (.int x), some (.int (-1)), some (.int 0), none, none, none, none] (Nat.le_of_ble_eq_true rfl) rfl ?_
  have loop4 : ∀ (n : Nat) (a : Nat), 8 - a < n → (a ≤ sNb s) → V G K 8 0 0 4 [some (.ref m), some (.int x), some (.int (oI (fd (fun z => nI (rkS s z)) x a))), some (.int (nI a)), none, none, none, none] [] [(m, .inr (13, [.ref nw, .ref bf, .ref sv, .ref hy, .int iS, .int rmb, .int eA, .int fA, .ref tx, .int tyd, .ref li, .int ldd, .int thr, .int siz, .int spt, .int wrg, .int tld, .ref nmb])), (nw, .inl (gI G, 72, .inl σ))] := by
    intro n
    induction n with
    | zero => intro a hlt; exact absurd hlt (Nat.not_lt_zero _)
    | succ n ih4 =>
      intro a hlt4 ha
      refine V.iload_n hC (x := nI a) dX13_birdAtRank_4 rfl ?_
      refine V.aload_n hC (x := m) dX13_birdAtRank_5 rfl ?_
      refine V.getf hC (T := TX13) q0_ 0 q1_ rfl (0) rfl rfl (by decide) (.ref nw) rfl dX13_birdAtRank_6 ?_
      refine V.iconst hC 0 dX13_birdAtRank_9 rfl ?_
      refine V.iald hC dX13_birdAtRank_10 (1) rfl 0 rfl (by omega) (by decide) ?_
      refine V.topeq (nI (sNb s)) hR.1 ?_
      refine V.icmpN_ge hC a (sNb s) 125 dX13_birdAtRank_11 rfl rfl rfl (by omega) (by omega) (fun c_11 => ?_) (fun c_11 => ?_)
      · by_cases hx : ¬ x < 0 ∧ x < nI (sNb s)
        · obtain ⟨q, hq0⟩ := rk_all hb8 hx
          have hq8 := (fd_some hq0).1
          refine V.lset 2 (x := .int (oI (fd (fun z => nI (rkS s z)) x a))) (y := .int (nI q)) (congrArg Value.int (by rw [show a = sNb s by omega, hq0]; rfl)) rfl (lv' := [some (.ref m), some (.int x), some (.int (nI q)), some (.int (nI a)), none, none, none, none]) rfl ?_
          refine V.aload_n hC (x := m) dX13_birdAtRank_125 rfl ?_
          refine V.iload_n hC (x := nI q) dX13_birdAtRank_126 rfl ?_
          refine V.iconst hC (-1) dX13_birdAtRank_127 rfl ?_
          refine V.icmp_eq hC 135 dX13_birdAtRank_128 rfl (fun c_128 => ?_) (fun c_128 => ?_)
          · exact absurd c_128 (nI_m1 (by omega))
          · refine V.iconst hC 1 dX13_birdAtRank_131 rfl ?_
            refine V.goto hC 136 dX13_birdAtRank_132 rfl ?_
            refine V.callV (n := 1) (As := [.int 1]) (rest := []) hC (m_goes (kl K) G m nw bf sv hy tx li nmb iS rmb eA fA tyd ldd thr siz spt wrg tld 1) SFk0 SFgo0 gX13_birdAtRank_X13_goes rfl ⟨rfl, rfl⟩ (by decide +kernel) ⟨by decide, by decide, by decide, by decide⟩ [0] rfl (by decide) (fun _ => rfl) rfl rfl rfl rfl (Nat.le_of_ble_eq_true rfl) dX13_birdAtRank_136 (fun r_136 u_136 hp_136 => ?_)
            subst hp_136
            show V G K 8 0 0 139 [some (.ref m), some (.int x), some (.int (nI q)), some (.int (nI a)), none, none, none, none] [.int (if alw 1 1 1 1 = 0 then 1 else 0)] [(m, .inr (13, [.ref nw, .ref bf, .ref sv, .ref hy, .int iS, .int rmb, .int eA, .int fA, .ref tx, .int tyd, .ref li, .int ldd, .int (nI (alw 1 1 1 1)), .int siz, .int spt, .int wrg, .int tld, .ref nmb])), (nw, .inl (gI G, 72, .inl σ))]
            have ha_136 : alw 1 1 1 1 = 0 := by rfl
            refine V.topeq (nI 1) (by rw [ha_136]; rfl) ?_
            refine V.eqw (ws' := [(m, .inr (13, [.ref nw, .ref bf, .ref sv, .ref hy, .int iS, .int rmb, .int eA, .int fA, .ref tx, .int tyd, .ref li, .int ldd, .int (nI 0), .int siz, .int spt, .int wrg, .int tld, .ref nmb])), (nw, .inl (gI G, 72, .inl σ))]) (by rw [ha_136]) ?_
            refine V.ifN_eq hC 1 146 dX13_birdAtRank_139 rfl rfl (by omega) (fun c_139 => ?_) (fun c_139 => ?_)
            · exact absurd c_139 (by decide)
            · refine V.iload_n hC (x := nI q) dX13_birdAtRank_142 rfl ?_
              refine V.goto hC 147 dX13_birdAtRank_143 rfl ?_
              have hq : qRank s x = (0, nI q) := (qI_y hx).trans (congrArg (Prod.mk 0) (congrArg nI (show rnkd s x = q from congrArg (fun o : Option Nat => o.getD 0) hq0)))
              refine V.eqw (ws' := [(m, .inr (13, [.ref nw, .ref bf, .ref sv, .ref hy, .int iS, .int rmb, .int eA, .int fA, .ref tx, .int tyd, .ref li, .int ldd, .int (nI (qRank s x).1), .int siz, .int spt, .int wrg, .int tld, .ref nmb])), (nw, .inl (gI G, 72, .inl σ))]) (by rw [hq]) ?_
              exact hE 147 _ (nI q) () dX13_birdAtRank_147 rfl (by rw [hq])
        · refine V.lset 2 (x := .int (oI (fd (fun z => nI (rkS s z)) x a))) (y := .int (-1)) (congrArg Value.int (by rw [show a = sNb s by omega, rk_no hb8 hx]; rfl)) rfl (lv' := [some (.ref m), some (.int x), some (.int (-1)), some (.int (nI a)), none, none, none, none]) rfl ?_
          refine V.aload_n hC (x := m) dX13_birdAtRank_125 rfl ?_
          refine V.iload_n hC (x := -1) dX13_birdAtRank_126 rfl ?_
          refine V.iconst hC (-1) dX13_birdAtRank_127 rfl ?_
          refine V.icmp_eq hC 135 dX13_birdAtRank_128 rfl (fun c_128 => ?_) (fun c_128 => ?_)
          · refine V.iconst hC 0 dX13_birdAtRank_135 rfl ?_
            refine V.callV (n := 1) (As := [.int 0]) (rest := []) hC (m_goes (kl K) G m nw bf sv hy tx li nmb iS rmb eA fA tyd ldd thr siz spt wrg tld 0) SFk0 SFgo0 gX13_birdAtRank_X13_goes rfl ⟨rfl, rfl⟩ (by decide +kernel) ⟨by decide, by decide, by decide, by decide⟩ [0] rfl (by decide) (fun _ => rfl) rfl rfl rfl rfl (Nat.le_of_ble_eq_true rfl) dX13_birdAtRank_136 (fun r_136 u_136 hp_136 => ?_)
            subst hp_136
            show V G K 8 0 0 139 [some (.ref m), some (.int x), some (.int (-1)), some (.int (nI a)), none, none, none, none] [.int (if alw 0 1 1 1 = 0 then 1 else 0)] [(m, .inr (13, [.ref nw, .ref bf, .ref sv, .ref hy, .int iS, .int rmb, .int eA, .int fA, .ref tx, .int tyd, .ref li, .int ldd, .int (nI (alw 0 1 1 1)), .int siz, .int spt, .int wrg, .int tld, .ref nmb])), (nw, .inl (gI G, 72, .inl σ))]
            have ha_136 : alw 0 1 1 1 = 1 := by rfl
            refine V.topeq (nI 0) (by rw [ha_136]; rfl) ?_
            refine V.eqw (ws' := [(m, .inr (13, [.ref nw, .ref bf, .ref sv, .ref hy, .int iS, .int rmb, .int eA, .int fA, .ref tx, .int tyd, .ref li, .int ldd, .int (nI 1), .int siz, .int spt, .int wrg, .int tld, .ref nmb])), (nw, .inl (gI G, 72, .inl σ))]) (by rw [ha_136]) ?_
            refine V.ifN_eq hC 0 146 dX13_birdAtRank_139 rfl rfl (by omega) (fun c_139 => ?_) (fun c_139 => ?_)
            · refine V.iconst hC 0 dX13_birdAtRank_146 rfl ?_
              have hq : qRank s x = (1, 0) := qI_n hx
              refine V.eqw (ws' := [(m, .inr (13, [.ref nw, .ref bf, .ref sv, .ref hy, .int iS, .int rmb, .int eA, .int fA, .ref tx, .int tyd, .ref li, .int ldd, .int (nI (qRank s x).1), .int siz, .int spt, .int wrg, .int tld, .ref nmb])), (nw, .inl (gI G, 72, .inl σ))]) (by rw [hq]) ?_
              exact hE 147 _ 0 () dX13_birdAtRank_147 rfl (by rw [hq])
            · exact absurd c_139 (by decide)
          · exact absurd rfl c_128
      · refine V.iconst hC 0 dX13_birdAtRank_14 rfl ?_
        refine V.istore hC dX13_birdAtRank_15 [some (.ref m), some (.int x), some (.int (oI (fd (fun z => nI (rkS s z)) x a))), some (.int (nI a)), some (.int 0), none, none, none] (Nat.le_of_ble_eq_true rfl) rfl ?_
        refine V.iconst hC 0 dX13_birdAtRank_17 rfl ?_
        refine V.istore hC dX13_birdAtRank_18 [some (.ref m), some (.int x), some (.int (oI (fd (fun z => nI (rkS s z)) x a))), some (.int (nI a)), some (.int 0), some (.int 0), none, none] (Nat.le_of_ble_eq_true rfl) rfl ?_
        have loop20 : ∀ (n : Nat) (b : Nat), 8 - b < n → (b ≤ sNb s) → V G K 8 0 0 20 [some (.ref m), some (.int x), some (.int (oI (fd (fun z => nI (rkS s z)) x a))), some (.int (nI a)), some (.int (nI (ahn (ldS s) (sHm s) a b))), some (.int (nI b)), none, none] [] [(m, .inr (13, [.ref nw, .ref bf, .ref sv, .ref hy, .int iS, .int rmb, .int eA, .int fA, .ref tx, .int tyd, .ref li, .int ldd, .int thr, .int siz, .int spt, .int wrg, .int tld, .ref nmb])), (nw, .inl (gI G, 72, .inl σ))] := by
          intro n
          induction n with
          | zero => intro b hlt; exact absurd hlt (Nat.not_lt_zero _)
          | succ n ih20 =>
            intro b hlt20 hb
            have hal := ahn_le (ldS s) (sHm s) a b
            refine V.iload hC (x := nI b) dX13_birdAtRank_20 rfl ?_
            refine V.aload_n hC (x := m) dX13_birdAtRank_22 rfl ?_
            refine V.getf hC (T := TX13) q0_ 0 q1_ rfl (0) rfl rfl (by decide) (.ref nw) rfl dX13_birdAtRank_23 ?_
            refine V.iconst hC 0 dX13_birdAtRank_26 rfl ?_
            refine V.iald hC dX13_birdAtRank_27 (1) rfl 0 rfl (by omega) (by decide) ?_
            refine V.topeq (nI (sNb s)) hR.1 ?_
            refine V.icmpN_ge hC b (sNb s) 107 dX13_birdAtRank_28 rfl rfl rfl (by omega) (by omega) (fun c_28 => ?_) (fun c_28 => ?_)
            · refine V.lset 4 (x := .int (nI (ahn (ldS s) (sHm s) a b))) (y := .int (nI (rkS s a))) (congrArg Value.int (by rw [show b = sNb s by omega])) rfl (lv' := [some (.ref m), some (.int x), some (.int (oI (fd (fun z => nI (rkS s z)) x a))), some (.int (nI a)), some (.int (nI (rkS s a))), some (.int (nI b)), none, none]) rfl ?_
              refine V.iload hC (x := nI (rkS s a)) dX13_birdAtRank_107 rfl ?_
              refine V.iload_n hC (x := x) dX13_birdAtRank_109 rfl ?_
              refine V.icmp_ne hC 117 dX13_birdAtRank_110 rfl (fun c_110 => ?_) (fun c_110 => ?_)
              · refine V.iload_n hC (x := oI (fd (fun z => nI (rkS s z)) x a)) dX13_birdAtRank_117 rfl ?_
                refine V.istore_n hC dX13_birdAtRank_118 [some (.ref m), some (.int x), some (.int (oI (fd (fun z => nI (rkS s z)) x a))), some (.int (nI a)), some (.int (nI (rkS s a))), some (.int (nI b)), none, none] (Nat.le_of_ble_eq_true rfl) rfl ?_
                refine V.lset 2 (x := .int (oI (fd (fun z => nI (rkS s z)) x a))) (y := .int (oI (fd (fun z => nI (rkS s z)) x (a + 1)))) (congrArg Value.int (fd_s0 (f := fun z => nI (rkS s z)) c_110)) rfl (lv' := [some (.ref m), some (.int x), some (.int (oI (fd (fun z => nI (rkS s z)) x (a + 1)))), some (.int (nI a)), some (.int (nI (rkS s a))), some (.int (nI b)), none, none]) rfl ?_
                refine V.iincN hC a 1 dX13_birdAtRank_119 rfl [some (.ref m), some (.int x), some (.int (oI (fd (fun z => nI (rkS s z)) x (a + 1)))), some (.int (nI (a + 1))), some (.int (nI (rkS s a))), some (.int (nI b)), none, none] (Nat.le_of_ble_eq_true rfl) rfl rfl rfl ?_
                refine V.goto hC 4 dX13_birdAtRank_122 rfl ?_
                refine V.drop 4 (lv' := [some (.ref m), some (.int x), some (.int (oI (fd (fun z => nI (rkS s z)) x (a + 1)))), some (.int (nI (a + 1))), none, some (.int (nI b)), none, none]) rfl ?_
                refine V.drop 5 (lv' := [some (.ref m), some (.int x), some (.int (oI (fd (fun z => nI (rkS s z)) x (a + 1)))), some (.int (nI (a + 1))), none, none, none, none]) rfl ?_
                exact ih4 (a + 1) (by omega) (by omega)
              · refine V.iload_n hC (x := nI a) dX13_birdAtRank_113 rfl ?_
                refine V.goto hC 118 dX13_birdAtRank_114 rfl ?_
                refine V.istore_n hC dX13_birdAtRank_118 [some (.ref m), some (.int x), some (.int (nI a)), some (.int (nI a)), some (.int (nI (rkS s a))), some (.int (nI b)), none, none] (Nat.le_of_ble_eq_true rfl) rfl ?_
                refine V.lset 2 (x := .int (nI a)) (y := .int (oI (fd (fun z => nI (rkS s z)) x (a + 1)))) (congrArg Value.int (fd_s1 (f := fun z => nI (rkS s z)) (rk_one hb8 c_11 c_110) c_110)) rfl (lv' := [some (.ref m), some (.int x), some (.int (oI (fd (fun z => nI (rkS s z)) x (a + 1)))), some (.int (nI a)), some (.int (nI (rkS s a))), some (.int (nI b)), none, none]) rfl ?_
                refine V.iincN hC a 1 dX13_birdAtRank_119 rfl [some (.ref m), some (.int x), some (.int (oI (fd (fun z => nI (rkS s z)) x (a + 1)))), some (.int (nI (a + 1))), some (.int (nI (rkS s a))), some (.int (nI b)), none, none] (Nat.le_of_ble_eq_true rfl) rfl rfl rfl ?_
                refine V.goto hC 4 dX13_birdAtRank_122 rfl ?_
                refine V.drop 4 (lv' := [some (.ref m), some (.int x), some (.int (oI (fd (fun z => nI (rkS s z)) x (a + 1)))), some (.int (nI (a + 1))), none, some (.int (nI b)), none, none]) rfl ?_
                refine V.drop 5 (lv' := [some (.ref m), some (.int x), some (.int (oI (fd (fun z => nI (rkS s z)) x (a + 1)))), some (.int (nI (a + 1))), none, none, none, none]) rfl ?_
                exact ih4 (a + 1) (by omega) (by omega)
            · refine V.aload_n hC (x := m) dX13_birdAtRank_31 rfl ?_
              refine V.iload hC (x := nI b) dX13_birdAtRank_32 rfl ?_
              refine V.callVr (n := 1) (As := [.int (nI b)]) (rest := []) hC (m_sharesWith (kl K) G m nw bf sv hy tx li nmb iS rmb eA fA tyd ldd thr siz spt wrg tld σ s B hR hI hB b (by omega)) SFk0 SFgo0 gX13_birdAtRank_X13_sharesWith rfl ⟨rfl, rfl⟩ (by decide +kernel) ⟨by decide, by decide, by decide, by decide⟩ [0, 1] rfl (by decide) rfl rfl rfl rfl (Nat.le_of_ble_eq_true rfl) dX13_birdAtRank_34 (fun r_34 u_34 hp_34 => ?_)
              subst hp_34
              show V G K 8 0 0 37 [some (.ref m), some (.int x), some (.int (oI (fd (fun z => nI (rkS s z)) x a))), some (.int (nI a)), some (.int (nI (ahn (ldS s) (sHm s) a b))), some (.int (nI b)), none, none] [.int (nI (ldn (sSh s) b (sNs s)))] [(m, .inr (13, [.ref nw, .ref bf, .ref sv, .ref hy, .int iS, .int rmb, .int eA, .int fA, .ref tx, .int tyd, .ref li, .int ldd, .int thr, .int siz, .int spt, .int wrg, .int tld, .ref nmb])), (nw, .inl (gI G, 72, .inl σ))]
              refine V.aload_n hC (x := m) dX13_birdAtRank_37 rfl ?_
              refine V.iload_n hC (x := nI a) dX13_birdAtRank_38 rfl ?_
              refine V.callVr (n := 1) (As := [.int (nI a)]) (rest := [.int (nI (ldn (sSh s) b (sNs s)))]) hC (m_sharesWith (kl K) G m nw bf sv hy tx li nmb iS rmb eA fA tyd ldd thr siz spt wrg tld σ s B hR hI hB a (by omega)) SFk0 SFgo0 gX13_birdAtRank_X13_sharesWith rfl ⟨rfl, rfl⟩ (by decide +kernel) ⟨by decide, by decide, by decide, by decide⟩ [0, 1] rfl (by decide) rfl rfl rfl rfl (Nat.le_of_ble_eq_true rfl) dX13_birdAtRank_39 (fun r_39 u_39 hp_39 => ?_)
              subst hp_39
              show V G K 8 0 0 42 [some (.ref m), some (.int x), some (.int (oI (fd (fun z => nI (rkS s z)) x a))), some (.int (nI a)), some (.int (nI (ahn (ldS s) (sHm s) a b))), some (.int (nI b)), none, none] [.int (nI (ldn (sSh s) a (sNs s))), .int (nI (ldn (sSh s) b (sNs s)))] [(m, .inr (13, [.ref nw, .ref bf, .ref sv, .ref hy, .int iS, .int rmb, .int eA, .int fA, .ref tx, .int tyd, .ref li, .int ldd, .int thr, .int siz, .int spt, .int wrg, .int tld, .ref nmb])), (nw, .inl (gI G, 72, .inl σ))]
              refine V.isub hC dX13_birdAtRank_42 ?_
              refine V.istore hC dX13_birdAtRank_43 [some (.ref m), some (.int x), some (.int (oI (fd (fun z => nI (rkS s z)) x a))), some (.int (nI a)), some (.int (nI (ahn (ldS s) (sHm s) a b))), some (.int (nI b)), some (.int ((nI (ldn (sSh s) b (sNs s))) - (nI (ldn (sSh s) a (sNs s))))), none] (Nat.le_of_ble_eq_true rfl) rfl ?_
              have hla := ldn_le (sSh s) a (sNs s)
              have hlb := ldn_le (sSh s) b (sNs s)
              refine V.aload_n hC (x := m) dX13_birdAtRank_45 rfl ?_
              refine V.getf hC (T := TX13) q0_ 0 q1_ rfl (0) rfl rfl (by decide) (.ref nw) rfl dX13_birdAtRank_46 ?_
              refine V.iconst hC 4 dX13_birdAtRank_49 rfl ?_
              refine V.iload_n hC (x := nI a) dX13_birdAtRank_50 rfl ?_
              refine V.iaddN hC 4 a dX13_birdAtRank_51 rfl rfl ?_
              refine V.iald hC dX13_birdAtRank_52 (1) rfl (4 + a) rfl (by omega) (by decide) ?_
              refine V.topeq (nI (hN s a)) ((hR.2.2.2.2.1 a c_11).trans (hN_ok hI c_11).1) ?_
              refine V.aload_n hC (x := m) dX13_birdAtRank_53 rfl ?_
              refine V.getf hC (T := TX13) q0_ 0 q1_ rfl (0) rfl rfl (by decide) (.ref nw) rfl dX13_birdAtRank_54 ?_
              refine V.iconst hC 4 dX13_birdAtRank_57 rfl ?_
              refine V.iload hC (x := nI b) dX13_birdAtRank_58 rfl ?_
              refine V.iaddN hC 4 b dX13_birdAtRank_60 rfl rfl ?_
              refine V.iald hC dX13_birdAtRank_61 (1) rfl (4 + b) rfl (by omega) (by decide) ?_
              refine V.topeq (nI (hN s b)) ((hR.2.2.2.2.1 b c_28).trans (hN_ok hI c_28).1) ?_
              refine V.isub hC dX13_birdAtRank_62 ?_
              refine V.istore hC dX13_birdAtRank_63 [some (.ref m), some (.int x), some (.int (oI (fd (fun z => nI (rkS s z)) x a))), some (.int (nI a)), some (.int (nI (ahn (ldS s) (sHm s) a b))), some (.int (nI b)), some (.int ((nI (ldn (sSh s) b (sNs s))) - (nI (ldn (sSh s) a (sNs s))))), some (.int ((nI (hN s a)) - (nI (hN s b))))] (Nat.le_of_ble_eq_true rfl) rfl ?_
              have hha := hN_ok hI c_11
              have hhb := hN_ok hI c_28
              have hlt : sHm s b < sHm s a ↔ hN s b < hN s a := by rw [hha.1, hhb.1]; exact nI_ltI (by omega) (by omega)
              have heq : sHm s b = sHm s a ↔ hN s a = hN s b := by rw [hha.1, hhb.1]; exact ⟨fun z => ((nI_eq (by omega) (by omega)).mp z).symm, fun z => congrArg nI z.symm⟩
              have hg1 := dg0 (p := ldn (sSh s) b (sNs s)) (q := ldn (sSh s) a (sNs s)) (by omega) (by omega)
              have he1 := de0 (p := ldn (sSh s) b (sNs s)) (q := ldn (sSh s) a (sNs s)) (by omega) (by omega)
              have hg2 := dg0 (p := hN s a) (q := hN s b) (by omega) (by omega)
              have he2 := de0 (p := hN s a) (q := hN s b) (by omega) (by omega)
              refine V.iload hC (x := nI (ahn (ldS s) (sHm s) a b)) dX13_birdAtRank_65 rfl ?_
              refine V.iload hC (x := (nI (ldn (sSh s) b (sNs s))) - (nI (ldn (sSh s) a (sNs s)))) dX13_birdAtRank_67 rfl ?_
              refine V.if_gt hC 93 dX13_birdAtRank_69 rfl (fun c_69 => ?_) (fun c_69 => ?_)
              · refine V.iconst hC 1 dX13_birdAtRank_93 rfl ?_
                refine V.goto hC 98 dX13_birdAtRank_94 rfl ?_
                refine V.iaddN hC (ahn (ldS s) (sHm s) a b) 1 dX13_birdAtRank_98 rfl rfl ?_
                refine V.topeq (nI (ahn (ldS s) (sHm s) a (b + 1))) (congrArg nI (ahn_y (Or.inl (hg1.mp c_69)))) ?_
                refine V.istore hC dX13_birdAtRank_99 [some (.ref m), some (.int x), some (.int (oI (fd (fun z => nI (rkS s z)) x a))), some (.int (nI a)), some (.int (nI (ahn (ldS s) (sHm s) a (b + 1)))), some (.int (nI b)), some (.int ((nI (ldn (sSh s) b (sNs s))) - (nI (ldn (sSh s) a (sNs s))))), some (.int ((nI (hN s a)) - (nI (hN s b))))] (Nat.le_of_ble_eq_true rfl) rfl ?_
                refine V.iincN hC b 1 dX13_birdAtRank_101 rfl [some (.ref m), some (.int x), some (.int (oI (fd (fun z => nI (rkS s z)) x a))), some (.int (nI a)), some (.int (nI (ahn (ldS s) (sHm s) a (b + 1)))), some (.int (nI (b + 1))), some (.int ((nI (ldn (sSh s) b (sNs s))) - (nI (ldn (sSh s) a (sNs s))))), some (.int ((nI (hN s a)) - (nI (hN s b))))] (Nat.le_of_ble_eq_true rfl) rfl rfl rfl ?_
                refine V.goto hC 20 dX13_birdAtRank_104 rfl ?_
                refine V.drop 6 (lv' := [some (.ref m), some (.int x), some (.int (oI (fd (fun z => nI (rkS s z)) x a))), some (.int (nI a)), some (.int (nI (ahn (ldS s) (sHm s) a (b + 1)))), some (.int (nI (b + 1))), none, some (.int ((nI (hN s a)) - (nI (hN s b))))]) rfl ?_
                refine V.drop 7 (lv' := [some (.ref m), some (.int x), some (.int (oI (fd (fun z => nI (rkS s z)) x a))), some (.int (nI a)), some (.int (nI (ahn (ldS s) (sHm s) a (b + 1)))), some (.int (nI (b + 1))), none, none]) rfl ?_
                exact ih20 (b + 1) (by omega) (by omega)
              · refine V.iload hC (x := (nI (ldn (sSh s) b (sNs s))) - (nI (ldn (sSh s) a (sNs s)))) dX13_birdAtRank_72 rfl ?_
                refine V.if_ne hC 97 dX13_birdAtRank_74 rfl (fun c_74 => ?_) (fun c_74 => ?_)
                · refine V.iconst hC 0 dX13_birdAtRank_97 rfl ?_
                  refine V.iaddN hC (ahn (ldS s) (sHm s) a b) 0 dX13_birdAtRank_98 rfl rfl ?_
                  refine V.topeq (nI (ahn (ldS s) (sHm s) a (b + 1))) (congrArg nI (ahn_n (fun z => Or.elim z (fun q => c_69 (hg1.mpr q)) (fun q => c_74 (he1.mpr q.1))))) ?_
                  refine V.istore hC dX13_birdAtRank_99 [some (.ref m), some (.int x), some (.int (oI (fd (fun z => nI (rkS s z)) x a))), some (.int (nI a)), some (.int (nI (ahn (ldS s) (sHm s) a (b + 1)))), some (.int (nI b)), some (.int ((nI (ldn (sSh s) b (sNs s))) - (nI (ldn (sSh s) a (sNs s))))), some (.int ((nI (hN s a)) - (nI (hN s b))))] (Nat.le_of_ble_eq_true rfl) rfl ?_
                  refine V.iincN hC b 1 dX13_birdAtRank_101 rfl [some (.ref m), some (.int x), some (.int (oI (fd (fun z => nI (rkS s z)) x a))), some (.int (nI a)), some (.int (nI (ahn (ldS s) (sHm s) a (b + 1)))), some (.int (nI (b + 1))), some (.int ((nI (ldn (sSh s) b (sNs s))) - (nI (ldn (sSh s) a (sNs s))))), some (.int ((nI (hN s a)) - (nI (hN s b))))] (Nat.le_of_ble_eq_true rfl) rfl rfl rfl ?_
                  refine V.goto hC 20 dX13_birdAtRank_104 rfl ?_
                  refine V.drop 6 (lv' := [some (.ref m), some (.int x), some (.int (oI (fd (fun z => nI (rkS s z)) x a))), some (.int (nI a)), some (.int (nI (ahn (ldS s) (sHm s) a (b + 1)))), some (.int (nI (b + 1))), none, some (.int ((nI (hN s a)) - (nI (hN s b))))]) rfl ?_
                  refine V.drop 7 (lv' := [some (.ref m), some (.int x), some (.int (oI (fd (fun z => nI (rkS s z)) x a))), some (.int (nI a)), some (.int (nI (ahn (ldS s) (sHm s) a (b + 1)))), some (.int (nI (b + 1))), none, none]) rfl ?_
                  exact ih20 (b + 1) (by omega) (by omega)
                · refine V.iload hC (x := (nI (hN s a)) - (nI (hN s b))) dX13_birdAtRank_77 rfl ?_
                  refine V.if_gt hC 93 dX13_birdAtRank_79 rfl (fun c_79 => ?_) (fun c_79 => ?_)
                  · refine V.iconst hC 1 dX13_birdAtRank_93 rfl ?_
                    refine V.goto hC 98 dX13_birdAtRank_94 rfl ?_
                    refine V.iaddN hC (ahn (ldS s) (sHm s) a b) 1 dX13_birdAtRank_98 rfl rfl ?_
                    refine V.topeq (nI (ahn (ldS s) (sHm s) a (b + 1))) (congrArg nI (ahn_y (Or.inr ⟨he1.mp c_74, Or.inl (hlt.mpr (hg2.mp c_79))⟩))) ?_
                    refine V.istore hC dX13_birdAtRank_99 [some (.ref m), some (.int x), some (.int (oI (fd (fun z => nI (rkS s z)) x a))), some (.int (nI a)), some (.int (nI (ahn (ldS s) (sHm s) a (b + 1)))), some (.int (nI b)), some (.int ((nI (ldn (sSh s) b (sNs s))) - (nI (ldn (sSh s) a (sNs s))))), some (.int ((nI (hN s a)) - (nI (hN s b))))] (Nat.le_of_ble_eq_true rfl) rfl ?_
                    refine V.iincN hC b 1 dX13_birdAtRank_101 rfl [some (.ref m), some (.int x), some (.int (oI (fd (fun z => nI (rkS s z)) x a))), some (.int (nI a)), some (.int (nI (ahn (ldS s) (sHm s) a (b + 1)))), some (.int (nI (b + 1))), some (.int ((nI (ldn (sSh s) b (sNs s))) - (nI (ldn (sSh s) a (sNs s))))), some (.int ((nI (hN s a)) - (nI (hN s b))))] (Nat.le_of_ble_eq_true rfl) rfl rfl rfl ?_
                    refine V.goto hC 20 dX13_birdAtRank_104 rfl ?_
                    refine V.drop 6 (lv' := [some (.ref m), some (.int x), some (.int (oI (fd (fun z => nI (rkS s z)) x a))), some (.int (nI a)), some (.int (nI (ahn (ldS s) (sHm s) a (b + 1)))), some (.int (nI (b + 1))), none, some (.int ((nI (hN s a)) - (nI (hN s b))))]) rfl ?_
                    refine V.drop 7 (lv' := [some (.ref m), some (.int x), some (.int (oI (fd (fun z => nI (rkS s z)) x a))), some (.int (nI a)), some (.int (nI (ahn (ldS s) (sHm s) a (b + 1)))), some (.int (nI (b + 1))), none, none]) rfl ?_
                    exact ih20 (b + 1) (by omega) (by omega)
                  · refine V.iload hC (x := (nI (hN s a)) - (nI (hN s b))) dX13_birdAtRank_82 rfl ?_
                    refine V.if_ne hC 97 dX13_birdAtRank_84 rfl (fun c_84 => ?_) (fun c_84 => ?_)
                    · refine V.iconst hC 0 dX13_birdAtRank_97 rfl ?_
                      refine V.iaddN hC (ahn (ldS s) (sHm s) a b) 0 dX13_birdAtRank_98 rfl rfl ?_
                      refine V.topeq (nI (ahn (ldS s) (sHm s) a (b + 1))) (congrArg nI (ahn_n (fun z => Or.elim z (fun q => c_69 (hg1.mpr q)) (fun q => Or.elim q.2 (fun w => c_79 (hg2.mpr (hlt.mp w))) (fun w => c_84 (he2.mpr (heq.mp w.1))))))) ?_
                      refine V.istore hC dX13_birdAtRank_99 [some (.ref m), some (.int x), some (.int (oI (fd (fun z => nI (rkS s z)) x a))), some (.int (nI a)), some (.int (nI (ahn (ldS s) (sHm s) a (b + 1)))), some (.int (nI b)), some (.int ((nI (ldn (sSh s) b (sNs s))) - (nI (ldn (sSh s) a (sNs s))))), some (.int ((nI (hN s a)) - (nI (hN s b))))] (Nat.le_of_ble_eq_true rfl) rfl ?_
                      refine V.iincN hC b 1 dX13_birdAtRank_101 rfl [some (.ref m), some (.int x), some (.int (oI (fd (fun z => nI (rkS s z)) x a))), some (.int (nI a)), some (.int (nI (ahn (ldS s) (sHm s) a (b + 1)))), some (.int (nI (b + 1))), some (.int ((nI (ldn (sSh s) b (sNs s))) - (nI (ldn (sSh s) a (sNs s))))), some (.int ((nI (hN s a)) - (nI (hN s b))))] (Nat.le_of_ble_eq_true rfl) rfl rfl rfl ?_
                      refine V.goto hC 20 dX13_birdAtRank_104 rfl ?_
                      refine V.drop 6 (lv' := [some (.ref m), some (.int x), some (.int (oI (fd (fun z => nI (rkS s z)) x a))), some (.int (nI a)), some (.int (nI (ahn (ldS s) (sHm s) a (b + 1)))), some (.int (nI (b + 1))), none, some (.int ((nI (hN s a)) - (nI (hN s b))))]) rfl ?_
                      refine V.drop 7 (lv' := [some (.ref m), some (.int x), some (.int (oI (fd (fun z => nI (rkS s z)) x a))), some (.int (nI a)), some (.int (nI (ahn (ldS s) (sHm s) a (b + 1)))), some (.int (nI (b + 1))), none, none]) rfl ?_
                      exact ih20 (b + 1) (by omega) (by omega)
                    · refine V.iload hC (x := nI b) dX13_birdAtRank_87 rfl ?_
                      refine V.iload_n hC (x := nI a) dX13_birdAtRank_89 rfl ?_
                      refine V.icmpN_ge hC b a 97 dX13_birdAtRank_90 rfl rfl rfl (by omega) (by omega) (fun c_90 => ?_) (fun c_90 => ?_)
                      · refine V.iconst hC 0 dX13_birdAtRank_97 rfl ?_
                        refine V.iaddN hC (ahn (ldS s) (sHm s) a b) 0 dX13_birdAtRank_98 rfl rfl ?_
                        refine V.topeq (nI (ahn (ldS s) (sHm s) a (b + 1))) (congrArg nI (ahn_n (fun z => Or.elim z (fun q => c_69 (hg1.mpr q)) (fun q => Or.elim q.2 (fun w => c_79 (hg2.mpr (hlt.mp w))) (fun w => absurd w.2 (by omega)))))) ?_
                        refine V.istore hC dX13_birdAtRank_99 [some (.ref m), some (.int x), some (.int (oI (fd (fun z => nI (rkS s z)) x a))), some (.int (nI a)), some (.int (nI (ahn (ldS s) (sHm s) a (b + 1)))), some (.int (nI b)), some (.int ((nI (ldn (sSh s) b (sNs s))) - (nI (ldn (sSh s) a (sNs s))))), some (.int ((nI (hN s a)) - (nI (hN s b))))] (Nat.le_of_ble_eq_true rfl) rfl ?_
                        refine V.iincN hC b 1 dX13_birdAtRank_101 rfl [some (.ref m), some (.int x), some (.int (oI (fd (fun z => nI (rkS s z)) x a))), some (.int (nI a)), some (.int (nI (ahn (ldS s) (sHm s) a (b + 1)))), some (.int (nI (b + 1))), some (.int ((nI (ldn (sSh s) b (sNs s))) - (nI (ldn (sSh s) a (sNs s))))), some (.int ((nI (hN s a)) - (nI (hN s b))))] (Nat.le_of_ble_eq_true rfl) rfl rfl rfl ?_
                        refine V.goto hC 20 dX13_birdAtRank_104 rfl ?_
                        refine V.drop 6 (lv' := [some (.ref m), some (.int x), some (.int (oI (fd (fun z => nI (rkS s z)) x a))), some (.int (nI a)), some (.int (nI (ahn (ldS s) (sHm s) a (b + 1)))), some (.int (nI (b + 1))), none, some (.int ((nI (hN s a)) - (nI (hN s b))))]) rfl ?_
                        refine V.drop 7 (lv' := [some (.ref m), some (.int x), some (.int (oI (fd (fun z => nI (rkS s z)) x a))), some (.int (nI a)), some (.int (nI (ahn (ldS s) (sHm s) a (b + 1)))), some (.int (nI (b + 1))), none, none]) rfl ?_
                        exact ih20 (b + 1) (by omega) (by omega)
                      · refine V.iconst hC 1 dX13_birdAtRank_93 rfl ?_
                        refine V.goto hC 98 dX13_birdAtRank_94 rfl ?_
                        refine V.iaddN hC (ahn (ldS s) (sHm s) a b) 1 dX13_birdAtRank_98 rfl rfl ?_
                        refine V.topeq (nI (ahn (ldS s) (sHm s) a (b + 1))) (congrArg nI (ahn_y (Or.inr ⟨he1.mp c_74, Or.inr ⟨heq.mpr (he2.mp c_84), by omega⟩⟩))) ?_
                        refine V.istore hC dX13_birdAtRank_99 [some (.ref m), some (.int x), some (.int (oI (fd (fun z => nI (rkS s z)) x a))), some (.int (nI a)), some (.int (nI (ahn (ldS s) (sHm s) a (b + 1)))), some (.int (nI b)), some (.int ((nI (ldn (sSh s) b (sNs s))) - (nI (ldn (sSh s) a (sNs s))))), some (.int ((nI (hN s a)) - (nI (hN s b))))] (Nat.le_of_ble_eq_true rfl) rfl ?_
                        refine V.iincN hC b 1 dX13_birdAtRank_101 rfl [some (.ref m), some (.int x), some (.int (oI (fd (fun z => nI (rkS s z)) x a))), some (.int (nI a)), some (.int (nI (ahn (ldS s) (sHm s) a (b + 1)))), some (.int (nI (b + 1))), some (.int ((nI (ldn (sSh s) b (sNs s))) - (nI (ldn (sSh s) a (sNs s))))), some (.int ((nI (hN s a)) - (nI (hN s b))))] (Nat.le_of_ble_eq_true rfl) rfl rfl rfl ?_
                        refine V.goto hC 20 dX13_birdAtRank_104 rfl ?_
                        refine V.drop 6 (lv' := [some (.ref m), some (.int x), some (.int (oI (fd (fun z => nI (rkS s z)) x a))), some (.int (nI a)), some (.int (nI (ahn (ldS s) (sHm s) a (b + 1)))), some (.int (nI (b + 1))), none, some (.int ((nI (hN s a)) - (nI (hN s b))))]) rfl ?_
                        refine V.drop 7 (lv' := [some (.ref m), some (.int x), some (.int (oI (fd (fun z => nI (rkS s z)) x a))), some (.int (nI a)), some (.int (nI (ahn (ldS s) (sHm s) a (b + 1)))), some (.int (nI (b + 1))), none, none]) rfl ?_
                        exact ih20 (b + 1) (by omega) (by omega)
        exact loop20 _ 0 (Nat.lt_succ_self _) (by omega)
  exact loop4 _ 0 (Nat.lt_succ_self _) (by omega)
