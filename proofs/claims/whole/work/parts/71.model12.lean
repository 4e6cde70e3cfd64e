/-! the document's model: moves, spread (printed by gen/s71.py) -/
theorem rel_mv {σ : Nat → Int32} {s : ASt} (hR : Rel σ s) (h8 : sNb s ≤ 8) {b : Nat} (hb : b < sNb s) {x y : Int32} (hx : x.toNatClampNeg = b) : Rel (upd σ (4 + b) y) (cX 1 s x y 0) := by
  obtain ⟨r0, r1, r2, r3, r4, r5⟩ := hR
  show Rel _ (upd (sHm s) x.toNatClampNeg y, s.2)
  rw [hx]
  refine ⟨(pk_un (by omega)).trans r0, (pk_un (by omega)).trans r1, (pk_un (by omega)).trans r2, (pk_un (by omega)).trans r3, fun c hc => ?_, fun k hk => ⟨(pk_un (by omega)).trans (r5 k hk).1, (pk_un (by omega)).trans (r5 k hk).2.1, fun c hc => (pk_un (by omega)).trans ((r5 k hk).2.2 c hc)⟩⟩
  by_cases e : c = b
  · subst e
    exact pk_us.trans pk_us.symm
  · exact (pk_un (by omega)).trans ((r4 c hc).trans (pk_un e).symm)
set_option maxHeartbeats 4000000 in
set_option maxRecDepth 100000 in
theorem m_moves (l : Launch) (G : Gx) (m nw bf sv hy tx li nmb : Nat) (iS rmb eA fA tyd ldd thr siz spt wrg tld : Int32) (σ : Nat → Int32) (s : ASt) (B : Nat) (hR : Rel σ s) (hI : InvA B s) (hB : B < 2 ^ 30) (x y : Int32) : Ct l G SF0 yX13_moves wsX13_moves ({ frames := 2, cells := 0, slots := 0, locals := 43 }) [.ref m, .int x, .int y] [(m, .inr (13, [.ref nw, .ref bf, .ref sv, .ref hy, .int iS, .int rmb, .int eA, .int fA, .ref tx, .int tyd, .ref li, .int ldd, .int thr, .int siz, .int spt, .int wrg, .int tld, .ref nmb])), (nw, .inl (gI G, 72, .inl σ))] mkI (fun (r : Int32) (u : Nat → Int32) => (pwX 1 s x y 0 = 0 ∧ Rel u (cX 1 s x y 0) ∧ r = rX 1 s x y 0) ∨ (¬ pwX 1 s x y 0 = 0 ∧ u = σ ∧ r = 0)) (fun u : Nat → Int32 => [(m, .inr (13, [.ref nw, .ref bf, .ref sv, .ref hy, .int iS, .int rmb, .int eA, .int fA, .ref tx, .int tyd, .ref li, .int ldd, .int (nI (cd 1 (pwX 1 s x y 0))), .int siz, .int spt, .int wrg, .int tld, .ref nmb])), (nw, .inl (gI G, 72, .inl u))]) 0 0 := by
  have hb8 := hI.1
  have hs6 := hI.2.1
  refine Ct.ofI (cc := cX13_moves) (maxL := 4) (by decide) rfl ⟨by simp [Value.category], Nat.le_of_ble_eq_true rfl⟩ ?_
  intro K hl hC hSF hnm hE
  subst hl
  have q0_ : ∀ w ∈ u_ws RX13 TX13 18, w ∈ wsX13_moves := by decide +kernel
  have q1_ : Cond.fieldLink RX13 9 "FeatherSharesModel" "now" "[I" ∈ wsX13_moves := by decide +kernel
  show V G K 4 0 0 0 [some (.ref m), some (.int x), some (.int y), none] [] [(m, .inr (13, [.ref nw, .ref bf, .ref sv, .ref hy, .int iS, .int rmb, .int eA, .int fA, .ref tx, .int tyd, .ref li, .int ldd, .int thr, .int siz, .int spt, .int wrg, .int tld, .ref nmb])), (nw, .inl (gI G, 72, .inl σ))]
  refine V.aload_n hC (x := m) dX13_moves_0 rfl ?_
  refine V.aload_n hC (x := m) dX13_moves_1 rfl ?_
  refine V.iload_n hC (x := x) dX13_moves_2 rfl ?_
  refine V.callVr (n := 1) (As := [.int x]) (rest := [.ref m]) hC (m_isBird (kl K) G m nw bf sv hy tx li nmb iS rmb eA fA tyd ldd thr siz spt wrg tld σ s B hR hI hB x) SFk0 SFgo0 gX13_moves_X13_isBird rfl ⟨rfl, rfl⟩ (by decide +kernel) ⟨by decide, by decide, by decide, by decide⟩ [0, 1] rfl (by decide) rfl rfl rfl rfl (Nat.le_of_ble_eq_true rfl) dX13_moves_3 (fun r_3 u_3 hp_3 => ?_)
  subst hp_3
  show V G K 4 0 0 6 [some (.ref m), some (.int x), some (.int y), none] [.int (if ¬ x < 0 ∧ x < nI (sNb s) then 1 else 0), .ref m] [(m, .inr (13, [.ref nw, .ref bf, .ref sv, .ref hy, .int iS, .int rmb, .int eA, .int fA, .ref tx, .int tyd, .ref li, .int ldd, .int thr, .int siz, .int spt, .int wrg, .int tld, .ref nmb])), (nw, .inl (gI G, 72, .inl σ))]
  refine V.iload_n hC (x := y) dX13_moves_6 rfl ?_
  refine V.callSr (n := 1) (As := [.int y]) (rest := [.int (if ¬ x < 0 ∧ x < nI (sNb s) then 1 else 0), .ref m]) hC (m_isNest (kl K) G y) SFk0 SFgo0 gX13_moves_X13_isNest rfl ⟨rfl, rfl⟩ (by decide +kernel) ⟨by decide, by decide, by decide, by decide⟩ [] rfl (by decide) rfl rfl (Nat.le_of_ble_eq_true rfl) dX13_moves_7 (fun r_7 u_7 hp_7 => ?_)
  subst hp_7
  show V G K 4 0 0 10 [some (.ref m), some (.int x), some (.int y), none] [.int (if ¬ y < 0 ∧ y < 4 then 1 else 0), .int (if ¬ x < 0 ∧ x < nI (sNb s) then 1 else 0), .ref m] [(m, .inr (13, [.ref nw, .ref bf, .ref sv, .ref hy, .int iS, .int rmb, .int eA, .int fA, .ref tx, .int tyd, .ref li, .int ldd, .int thr, .int siz, .int spt, .int wrg, .int tld, .ref nmb])), (nw, .inl (gI G, 72, .inl σ))]
  refine V.iconst hC 1 dX13_moves_10 rfl ?_
  refine V.iconst hC 1 dX13_moves_11 rfl ?_
  refine V.callV (n := 4) (As := [.int (if ¬ x < 0 ∧ x < nI (sNb s) then 1 else 0), .int (if ¬ y < 0 ∧ y < 4 then 1 else 0), .int 1, .int 1]) (rest := []) hC (m_allows (kl K) G m nw bf sv hy tx li nmb iS rmb eA fA tyd ldd thr siz spt wrg tld (if ¬ x < 0 ∧ x < nI (sNb s) then 1 else 0) (if ¬ y < 0 ∧ y < 4 then 1 else 0) 1 1) SFk0 SFgo0 gX13_moves_X13_allows rfl ⟨rfl, rfl⟩ (by decide +kernel) ⟨by decide, by decide, by decide, by decide⟩ [0] rfl (by decide) (fun _ => rfl) rfl rfl rfl rfl (Nat.le_of_ble_eq_true rfl) dX13_moves_12 (fun r_12 u_12 hp_12 => ?_)
  subst hp_12
  show V G K 4 0 0 15 [some (.ref m), some (.int x), some (.int y), none] [.int (if alw (if ¬ x < 0 ∧ x < nI (sNb s) then 1 else 0) (if ¬ y < 0 ∧ y < 4 then 1 else 0) 1 1 = 0 then 1 else 0)] [(m, .inr (13, [.ref nw, .ref bf, .ref sv, .ref hy, .int iS, .int rmb, .int eA, .int fA, .ref tx, .int tyd, .ref li, .int ldd, .int (nI (alw (if ¬ x < 0 ∧ x < nI (sNb s) then 1 else 0) (if ¬ y < 0 ∧ y < 4 then 1 else 0) 1 1)), .int siz, .int spt, .int wrg, .int tld, .ref nmb])), (nw, .inl (gI G, 72, .inl σ))]
  by_cases hg0_12 : ¬ x < 0 ∧ x < nI (sNb s)
  · by_cases hg1_12 : ¬ y < 0 ∧ y < 4
    · have ha_12 : alw (if ¬ x < 0 ∧ x < nI (sNb s) then 1 else 0) (if ¬ y < 0 ∧ y < 4 then 1 else 0) 1 1 = 0 := by rw [if_pos hg0_12, if_pos hg1_12]; rfl
      refine V.topeq (nI 1) (by rw [ha_12]; rfl) ?_
      refine V.eqw (ws' := [(m, .inr (13, [.ref nw, .ref bf, .ref sv, .ref hy, .int iS, .int rmb, .int eA, .int fA, .ref tx, .int tyd, .ref li, .int ldd, .int (nI 0), .int siz, .int spt, .int wrg, .int tld, .ref nmb])), (nw, .inl (gI G, 72, .inl σ))]) (by rw [ha_12]) ?_
      refine V.ifN_ne hC 1 20 dX13_moves_15 rfl rfl (by omega) (fun c_15 => ?_) (fun c_15 => ?_)
      · obtain ⟨b, hb, hxb⟩ := i32_nat (by omega) hg0_12
        have hcb : x.toNatClampNeg = b := by rw [hxb, nI_clamp (by omega)]
        refine V.aload_n hC (x := m) dX13_moves_20 rfl ?_
        refine V.getf hC (T := TX13) q0_ 0 q1_ rfl (0) rfl rfl (by decide) (.ref nw) rfl dX13_moves_21 ?_
        refine V.iconst hC 4 dX13_moves_24 rfl ?_
        refine V.iload_n hC (x := x) dX13_moves_25 rfl ?_
        refine V.topeq (nI b) hxb ?_
        refine V.iaddN hC 4 b dX13_moves_26 rfl rfl ?_
        refine V.iald hC dX13_moves_27 (1) rfl (4 + b) rfl (by omega) (by decide) ?_
        refine V.istore_n hC dX13_moves_28 [some (.ref m), some (.int x), some (.int y), some (.int (σ (4 + b)))] (Nat.le_of_ble_eq_true rfl) rfl ?_
        refine V.aload_n hC (x := m) dX13_moves_29 rfl ?_
        refine V.getf hC (T := TX13) q0_ 0 q1_ rfl (0) rfl rfl (by decide) (.ref nw) rfl dX13_moves_30 ?_
        refine V.iconst hC 4 dX13_moves_33 rfl ?_
        refine V.iload_n hC (x := x) dX13_moves_34 rfl ?_
        refine V.topeq (nI b) hxb ?_
        refine V.iaddN hC 4 b dX13_moves_35 rfl rfl ?_
        refine V.iload_n hC (x := y) dX13_moves_36 rfl ?_
        refine V.iast hC dX13_moves_37 (1) rfl (4 + b) rfl (by omega) (by decide) [(m, .inr (13, [.ref nw, .ref bf, .ref sv, .ref hy, .int iS, .int rmb, .int eA, .int fA, .ref tx, .int tyd, .ref li, .int ldd, .int (nI 0), .int siz, .int spt, .int wrg, .int tld, .ref nmb])), (nw, .inl (gI G, 72, .inl (upd σ (4 + b) y)))] rfl ?_
        refine V.iload_n hC (x := σ (4 + b)) dX13_moves_38 rfl ?_
        have hpw : pwX 1 s x y 0 = 0 := (show pwM (sNb s) x y = 0 from (if_pos hg0_12).trans (if_pos hg1_12))
        refine V.eqw (ws' := [(m, .inr (13, [.ref nw, .ref bf, .ref sv, .ref hy, .int iS, .int rmb, .int eA, .int fA, .ref tx, .int tyd, .ref li, .int ldd, .int (nI (cd 1 (pwX 1 s x y 0))), .int siz, .int spt, .int wrg, .int tld, .ref nmb])), (nw, .inl (gI G, 72, .inl (upd σ (4 + b) y)))]) (by rw [hpw]; rfl) ?_
        exact hE 39 _ (σ (4 + b)) (upd σ (4 + b) y) dX13_moves_39 rfl (Or.inl ⟨hpw, rel_mv hR hb8 hb hcb, (by show σ (4 + b) = sHm s x.toNatClampNeg; rw [hcb]; exact hR.2.2.2.2.1 b hb)⟩)
      · exact absurd c_15 (by decide)
    · have ha_12 : alw (if ¬ x < 0 ∧ x < nI (sNb s) then 1 else 0) (if ¬ y < 0 ∧ y < 4 then 1 else 0) 1 1 = 2 := by rw [if_pos hg0_12, if_neg hg1_12]; rfl
      refine V.topeq (nI 0) (by rw [ha_12]; rfl) ?_
      refine V.eqw (ws' := [(m, .inr (13, [.ref nw, .ref bf, .ref sv, .ref hy, .int iS, .int rmb, .int eA, .int fA, .ref tx, .int tyd, .ref li, .int ldd, .int (nI 2), .int siz, .int spt, .int wrg, .int tld, .ref nmb])), (nw, .inl (gI G, 72, .inl σ))]) (by rw [ha_12]) ?_
      refine V.ifN_ne hC 0 20 dX13_moves_15 rfl rfl (by omega) (fun c_15 => ?_) (fun c_15 => ?_)
      · exact absurd c_15 (by decide)
      · refine V.iconst hC 0 dX13_moves_18 rfl ?_
        have hpw : pwX 1 s x y 0 = 1 := (show pwM (sNb s) x y = 1 from (if_pos hg0_12).trans (if_neg hg1_12))
        refine V.eqw (ws' := [(m, .inr (13, [.ref nw, .ref bf, .ref sv, .ref hy, .int iS, .int rmb, .int eA, .int fA, .ref tx, .int tyd, .ref li, .int ldd, .int (nI (cd 1 (pwX 1 s x y 0))), .int siz, .int spt, .int wrg, .int tld, .ref nmb])), (nw, .inl (gI G, 72, .inl σ))]) (by rw [hpw]; rfl) ?_
        exact hE 19 _ 0 σ dX13_moves_19 rfl (Or.inr ⟨by rw [hpw]; decide, rfl, rfl⟩)
  · have ha_12 : alw (if ¬ x < 0 ∧ x < nI (sNb s) then 1 else 0) (if ¬ y < 0 ∧ y < 4 then 1 else 0) 1 1 = 1 := by rw [if_neg hg0_12]; rfl
    refine V.topeq (nI 0) (by rw [ha_12]; rfl) ?_
    refine V.eqw (ws' := [(m, .inr (13, [.ref nw, .ref bf, .ref sv, .ref hy, .int iS, .int rmb, .int eA, .int fA, .ref tx, .int tyd, .ref li, .int ldd, .int (nI 1), .int siz, .int spt, .int wrg, .int tld, .ref nmb])), (nw, .inl (gI G, 72, .inl σ))]) (by rw [ha_12]) ?_
    refine V.ifN_ne hC 0 20 dX13_moves_15 rfl rfl (by omega) (fun c_15 => ?_) (fun c_15 => ?_)
    · exact absurd c_15 (by decide)
    · refine V.iconst hC 0 dX13_moves_18 rfl ?_
      have hpw : pwX 1 s x y 0 = 2 := (show pwM (sNb s) x y = 2 from if_neg hg0_12)
      refine V.eqw (ws' := [(m, .inr (13, [.ref nw, .ref bf, .ref sv, .ref hy, .int iS, .int rmb, .int eA, .int fA, .ref tx, .int tyd, .ref li, .int ldd, .int (nI (cd 1 (pwX 1 s x y 0))), .int siz, .int spt, .int wrg, .int tld, .ref nmb])), (nw, .inl (gI G, 72, .inl σ))]) (by rw [hpw]; rfl) ?_
      exact hE 19 _ 0 σ dX13_moves_19 rfl (Or.inr ⟨by rw [hpw]; decide, rfl, rfl⟩)

set_option maxHeartbeats 4000000 in
set_option maxRecDepth 100000 in
theorem m_spread (l : Launch) (G : Gx) (c seed off th place : Nat) (hc : c < 97) (hs : seed < 97) (ho : off < 1000) (ht1 : 1 ≤ th) (ht : th ≤ 4) (hp : place ≤ 8) : Ct l G SF0 yX13_spread wsX13_spread ({ frames := 0, cells := 0, slots := 0, locals := 0 }) [.int (nI c), .int (nI seed), .int (nI off), .int (nI th), .int (nI place)] [] mkI (fun (r : Int32) (_ : Unit) => r = nI (spr c seed off place (th - 1)).1) (fun _ : Unit => []) 0 0 := by
  refine Ct.ofI (cc := cX13_spread) (maxL := 8) (by decide) rfl ⟨by simp [Value.category], Nat.le_of_ble_eq_true rfl⟩ ?_
  intro K hl hC hSF hnm hE
  subst hl
  show V G K 8 0 0 0 [some (.int (nI c)), some (.int (nI seed)), some (.int (nI off)), some (.int (nI th)), some (.int (nI place)), none, none, none] [] []
  refine V.iload_n hC (x := nI c) dX13_spread_0 rfl ?_
  refine V.istore hC dX13_spread_1 [some (.int (nI c)), some (.int (nI seed)), some (.int (nI off)), some (.int (nI th)), some (.int (nI place)), some (.int (nI c)), none, none] (Nat.le_of_ble_eq_true rfl) rfl ?_
  refine V.iconst hC 1 dX13_spread_3 rfl ?_
  refine V.istore hC dX13_spread_4 [some (.int (nI c)), some (.int (nI seed)), some (.int (nI off)), some (.int (nI th)), some (.int (nI place)), some (.int (nI c)), some (.int 1), none] (Nat.le_of_ble_eq_true rfl) rfl ?_
  refine V.iconst hC 1 dX13_spread_6 rfl ?_
  refine V.istore hC dX13_spread_7 [some (.int (nI c)), some (.int (nI seed)), some (.int (nI off)), some (.int (nI th)), some (.int (nI place)), some (.int (nI c)), some (.int 1), some (.int 1)] (Nat.le_of_ble_eq_true rfl) rfl ?_
  have loop9 : ∀ (n : Nat) (k : Nat), 4 - k < n → (k + 1 ≤ th) → V G K 8 0 0 9 [some (.int (nI c)), some (.int (nI seed)), some (.int (nI off)), some (.int (nI th)), some (.int (nI place)), some (.int (nI ((spr c seed off place k).1))), some (.int (nI ((spr c seed off place k).2))), some (.int (nI (k + 1)))] [] [] := by
    intro n
    induction n with
    | zero => intro k hlt; exact absurd hlt (Nat.not_lt_zero _)
    | succ n ih9 =>
      intro k hlt9 hk
      have hl := spr_lt (seed := seed) (off := off) (place := place) hc k
      have hm1 : (spr c seed off place k).2 * place ≤ 96 * 8 := Nat.mul_le_mul (by omega) hp
      have hm2 : seed * (k + 1) ≤ 96 * 4 := Nat.mul_le_mul (by omega) (by omega)
      refine V.iload hC (x := nI (k + 1)) dX13_spread_9 rfl ?_
      refine V.iload_n hC (x := nI th) dX13_spread_11 rfl ?_
      refine V.icmpN_ge hC (k + 1) th 51 dX13_spread_12 rfl rfl rfl (by omega) (by omega) (fun c_12 => ?_) (fun c_12 => ?_)
      · refine V.iload hC (x := nI ((spr c seed off place k).1)) dX13_spread_51 rfl ?_
        exact hE 53 _ (nI ((spr c seed off place k).1)) () dX13_spread_53 rfl (by rw [show th - 1 = k by omega])
      · refine V.iload hC (x := nI ((spr c seed off place k).2)) dX13_spread_15 rfl ?_
        refine V.iload hC (x := nI place) dX13_spread_17 rfl ?_
        refine V.imulN hC ((spr c seed off place k).2) place dX13_spread_19 rfl rfl ?_
        refine V.bipush hC 97 dX13_spread_20 rfl ?_
        refine V.iremN hC (((spr c seed off place k).2) * place) 97 dX13_spread_22 rfl rfl (by omega) (by decide) (by decide) ?_
        refine V.istore hC dX13_spread_23 [some (.int (nI c)), some (.int (nI seed)), some (.int (nI off)), some (.int (nI th)), some (.int (nI place)), some (.int (nI ((spr c seed off place k).1))), some (.int (nI ((((spr c seed off place k).2) * place) % 97))), some (.int (nI (k + 1)))] (Nat.le_of_ble_eq_true rfl) rfl ?_
        refine V.iload hC (x := nI ((spr c seed off place k).1)) dX13_spread_25 rfl ?_
        refine V.iload_n hC (x := nI seed) dX13_spread_27 rfl ?_
        refine V.iload hC (x := nI (k + 1)) dX13_spread_28 rfl ?_
        refine V.imulN hC seed (k + 1) dX13_spread_30 rfl rfl ?_
        refine V.iload_n hC (x := nI off) dX13_spread_31 rfl ?_
        refine V.iaddN hC (seed * (k + 1)) off dX13_spread_32 rfl rfl ?_
        refine V.bipush hC 97 dX13_spread_33 rfl ?_
        refine V.iremN hC ((seed * (k + 1)) + off) 97 dX13_spread_35 rfl rfl (by omega) (by decide) (by decide) ?_
        refine V.iload hC (x := nI ((((spr c seed off place k).2) * place) % 97)) dX13_spread_36 rfl ?_
        have hm3 : (seed * (k + 1) + off) % 97 * ((spr c seed off place k).2 * place % 97) ≤ 96 * 96 := Nat.mul_le_mul (by omega) (by omega)
        refine V.imulN hC (((seed * (k + 1)) + off) % 97) ((((spr c seed off place k).2) * place) % 97) dX13_spread_38 rfl rfl ?_
        refine V.iaddN hC ((spr c seed off place k).1) ((((seed * (k + 1)) + off) % 97) * ((((spr c seed off place k).2) * place) % 97)) dX13_spread_39 rfl rfl ?_
        refine V.bipush hC 97 dX13_spread_40 rfl ?_
        refine V.iremN hC (((spr c seed off place k).1) + ((((seed * (k + 1)) + off) % 97) * ((((spr c seed off place k).2) * place) % 97))) 97 dX13_spread_42 rfl rfl (by omega) (by decide) (by decide) ?_
        refine V.istore hC dX13_spread_43 [some (.int (nI c)), some (.int (nI seed)), some (.int (nI off)), some (.int (nI th)), some (.int (nI place)), some (.int (nI ((((spr c seed off place k).1) + ((((seed * (k + 1)) + off) % 97) * ((((spr c seed off place k).2) * place) % 97))) % 97))), some (.int (nI ((((spr c seed off place k).2) * place) % 97))), some (.int (nI (k + 1)))] (Nat.le_of_ble_eq_true rfl) rfl ?_
        refine V.lset 5 (x := .int (nI ((((spr c seed off place k).1) + ((((seed * (k + 1)) + off) % 97) * ((((spr c seed off place k).2) * place) % 97))) % 97))) (y := .int (nI ((spr c seed off place (k + 1)).1))) (congrArg Value.int rfl) rfl (lv' := [some (.int (nI c)), some (.int (nI seed)), some (.int (nI off)), some (.int (nI th)), some (.int (nI place)), some (.int (nI ((spr c seed off place (k + 1)).1))), some (.int (nI ((((spr c seed off place k).2) * place) % 97))), some (.int (nI (k + 1)))]) rfl ?_
        refine V.lset 6 (x := .int (nI ((((spr c seed off place k).2) * place) % 97))) (y := .int (nI ((spr c seed off place (k + 1)).2))) (congrArg Value.int rfl) rfl (lv' := [some (.int (nI c)), some (.int (nI seed)), some (.int (nI off)), some (.int (nI th)), some (.int (nI place)), some (.int (nI ((spr c seed off place (k + 1)).1))), some (.int (nI ((spr c seed off place (k + 1)).2))), some (.int (nI (k + 1)))]) rfl ?_
        refine V.iincN hC (k + 1) 1 dX13_spread_45 rfl [some (.int (nI c)), some (.int (nI seed)), some (.int (nI off)), some (.int (nI th)), some (.int (nI place)), some (.int (nI ((spr c seed off place (k + 1)).1))), some (.int (nI ((spr c seed off place (k + 1)).2))), some (.int (nI (k + 1 + 1)))] (Nat.le_of_ble_eq_true rfl) rfl rfl rfl ?_
        refine V.goto hC 9 dX13_spread_48 rfl ?_
        exact ih9 (k + 1) (by omega) (by omega)
  exact loop9 _ 0 (Nat.lt_succ_self _) (by omega)
