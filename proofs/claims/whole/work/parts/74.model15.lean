/-! the document's model: forgets (printed by gen/s74.py) -/
/-- q places from a on said by those ten further -/
def shq (σ : Nat → Int32) (a q : Nat) : Nat → Int32 := fun j => if a ≤ j ∧ j < a + q then σ (j + 10) else σ j
theorem shq_0 (σ : Nat → Int32) (a : Nat) : σ = shq σ a 0 := by
  funext j
  exact (if_neg (by omega)).symm
theorem shq_s (σ : Nat → Int32) (a q : Nat) : upd (shq σ a q) (a + q) (shq σ a q (a + q + 10)) = shq σ a (q + 1) := by
  funext j
  by_cases e : j = a + q
  · subst e
    rw [pk_us, shq, if_neg (by omega), shq, if_pos (by omega)]
  · rw [pk_un e, shq, shq]
    by_cases h : a ≤ j ∧ j < a + q
    · rw [if_pos h, if_pos (by omega)]
    · rw [if_neg h, if_neg (by omega)]
theorem shq_lo {σ : Nat → Int32} {a q j : Nat} (h : j < a) : shq σ a q j = σ j := if_neg (by omega)
theorem shq_in {σ : Nat → Int32} {a q j : Nat} (h : a ≤ j) (h2 : j < a + q) : shq σ a q j = σ (j + 10) := if_pos ⟨h, h2⟩
theorem rel_fg {σ : Nat → Int32} {s : ASt} {B : Nat} (hR : Rel σ s) (hI : InvA B s) {x : Int32} {c : Nat} (hf : fd (sNu s) x (sNs s) = some c) : Rel (upd (shq σ (12 + 10 * c) (50 - 10 * c)) 1 (nI (sNs s - 1))) (cX 7 s x 0 0) := by
  obtain ⟨r0, r1, r2, r3, r4, r5⟩ := hR
  have h6 := hI.2.1
  have h8 := hI.1
  have hc := (fd_lt hf h6).1
  simp only [cX, hf]
  refine ⟨(pk_un (by decide)).trans ((shq_lo (by omega)).trans r0), pk_us, (pk_un (by decide)).trans ((shq_lo (by omega)).trans r2), (pk_un (by decide)).trans ((shq_lo (by omega)).trans r3), fun b hb => (pk_un (by omega)).trans ((shq_lo (by have hb' : b < sNb s := hb; omega)).trans (r4 b hb)), fun j hj => ?_⟩
  have hj' : j < sNs s - 1 := hj
  show _ = sNu s (pm c (sNs s) j) ∧ _ = nI (sTn s (pm c (sNs s) j)) ∧ ∀ b, b < 8 → _ = sSh s (pm c (sNs s) j) b
  by_cases q : c ≤ j
  · have hp : pm c (sNs s) j = j + 1 := if_pos ⟨q, by omega⟩
    rw [hp]
    have r := r5 (j + 1) (by omega)
    refine ⟨(pk_un (by omega)).trans ((shq_in (by omega) (by omega)).trans ?_), (pk_un (by omega)).trans ((shq_in (by omega) (by omega)).trans ?_), fun b hb => (pk_un (by omega)).trans ((shq_in (by omega) (by omega)).trans ?_)⟩
    · rw [show 12 + 10 * j + 10 = 12 + 10 * (j + 1) by omega]
      exact r.1
    · rw [show 13 + 10 * j + 10 = 13 + 10 * (j + 1) by omega]
      exact r.2.1
    · rw [show 14 + 10 * j + b + 10 = 14 + 10 * (j + 1) + b by omega]
      exact r.2.2 b hb
  · have hp : pm c (sNs s) j = j := by
      unfold pm
      rw [if_neg (by omega), if_neg (by omega)]
    rw [hp]
    have r := r5 j (by omega)
    exact ⟨(pk_un (by omega)).trans ((shq_lo (by omega)).trans r.1), (pk_un (by omega)).trans ((shq_lo (by omega)).trans r.2.1), fun b hb => (pk_un (by omega)).trans ((shq_lo (by omega)).trans (r.2.2 b hb))⟩
set_option maxHeartbeats 4000000 in
set_option maxRecDepth 100000 in
theorem m_forgets (l : Launch) (G : Gx) (m nw bf sv hy tx li nmb : Nat) (iS rmb eA fA tyd ldd thr siz spt wrg tld : Int32) (σ : Nat → Int32) (s : ASt) (B : Nat) (hR : Rel σ s) (hI : InvA B s) (hB : B < 2 ^ 30) (x : Int32) : Ct l G SF0 yX13_forgets wsX13_forgets ({ frames := 4, cells := 0, slots := 0, locals := 88 }) [.ref m, .int x] [(m, .inr (13, [.ref nw, .ref bf, .ref sv, .ref hy, .int iS, .int rmb, .int eA, .int fA, .ref tx, .int tyd, .ref li, .int ldd, .int thr, .int siz, .int spt, .int wrg, .int tld, .ref nmb])), (nw, .inl (gI G, 72, .inl σ))] mkI (fun (r : Int32) (u : Nat → Int32) => (pwX 7 s x 0 0 = 0 ∧ Rel u (cX 7 s x 0 0) ∧ r = rX 7 s x 0 0) ∨ (¬ pwX 7 s x 0 0 = 0 ∧ u = σ ∧ r = 0)) (fun u : Nat → Int32 => [(m, .inr (13, [.ref nw, .ref bf, .ref sv, .ref hy, .int iS, .int rmb, .int eA, .int fA, .ref tx, .int tyd, .ref li, .int ldd, .int (nI (cd 7 (pwX 7 s x 0 0))), .int siz, .int spt, .int wrg, .int tld, .ref nmb])), (nw, .inl (gI G, 72, .inl u))]) 0 0 := by
  have hb8 := hI.1
  have hs6 := hI.2.1
  refine Ct.ofI (cc := cX13_forgets) (maxL := 5) (by decide) rfl ⟨by simp [Value.category], Nat.le_of_ble_eq_true rfl⟩ ?_
  intro K hl hC hSF hnm hE
  subst hl
  have q0_ : ∀ w ∈ u_ws RX13 TX13 18, w ∈ wsX13_forgets := by decide +kernel
  have q1_ : Cond.fieldLink RX13 9 "FeatherSharesModel" "now" "[I" ∈ wsX13_forgets := by decide +kernel
  show V G K 5 0 0 0 [some (.ref m), some (.int x), none, none, none] [] [(m, .inr (13, [.ref nw, .ref bf, .ref sv, .ref hy, .int iS, .int rmb, .int eA, .int fA, .ref tx, .int tyd, .ref li, .int ldd, .int thr, .int siz, .int spt, .int wrg, .int tld, .ref nmb])), (nw, .inl (gI G, 72, .inl σ))]
  refine V.aload_n hC (x := m) dX13_forgets_0 rfl ?_
  refine V.iload_n hC (x := x) dX13_forgets_1 rfl ?_
  refine V.callVr (n := 1) (As := [.int x]) (rest := []) hC (m_find (kl K) G m nw bf sv hy tx li nmb iS rmb eA fA tyd ldd thr siz spt wrg tld σ s B hR hI hB x) SFk0 SFgo0 gX13_forgets_X13_find rfl ⟨rfl, rfl⟩ (by decide +kernel) ⟨by decide, by decide, by decide, by decide⟩ [0, 1] rfl (by decide) rfl rfl rfl rfl (Nat.le_of_ble_eq_true rfl) dX13_forgets_2 (fun r_2 u_2 hp_2 => ?_)
  rcases hf : fd (sNu s) x (sNs s) with _ | k
  · rw [hf] at hp_2
    subst hp_2
    show V G K 5 0 0 5 [some (.ref m), some (.int x), none, none, none] [.int (-1)] [(m, .inr (13, [.ref nw, .ref bf, .ref sv, .ref hy, .int iS, .int rmb, .int eA, .int fA, .ref tx, .int tyd, .ref li, .int ldd, .int thr, .int siz, .int spt, .int wrg, .int tld, .ref nmb])), (nw, .inl (gI G, 72, .inl σ))]
    refine V.istore_n hC dX13_forgets_5 [some (.ref m), some (.int x), some (.int (-1)), none, none] (Nat.le_of_ble_eq_true rfl) rfl ?_
    refine V.aload_n hC (x := m) dX13_forgets_6 rfl ?_
    refine V.iload_n hC (x := -1) dX13_forgets_7 rfl ?_
    refine V.iconst hC (-1) dX13_forgets_8 rfl ?_
    refine V.icmp_eq hC 16 dX13_forgets_9 rfl (fun c_9 => ?_) (fun c_9 => ?_)
    · refine V.iconst hC 0 dX13_forgets_16 rfl ?_
      refine V.callV (n := 1) (As := [.int 0]) (rest := []) hC (m_goes (kl K) G m nw bf sv hy tx li nmb iS rmb eA fA tyd ldd thr siz spt wrg tld 0) SFk0 SFgo0 gX13_forgets_X13_goes rfl ⟨rfl, rfl⟩ (by decide +kernel) ⟨by decide, by decide, by decide, by decide⟩ [0] rfl (by decide) (fun _ => rfl) rfl rfl rfl rfl (Nat.le_of_ble_eq_true rfl) dX13_forgets_17 (fun r_17 u_17 hp_17 => ?_)
      subst hp_17
      show V G K 5 0 0 20 [some (.ref m), some (.int x), some (.int (-1)), none, none] [.int (if alw 0 1 1 1 = 0 then 1 else 0)] [(m, .inr (13, [.ref nw, .ref bf, .ref sv, .ref hy, .int iS, .int rmb, .int eA, .int fA, .ref tx, .int tyd, .ref li, .int ldd, .int (nI (alw 0 1 1 1)), .int siz, .int spt, .int wrg, .int tld, .ref nmb])), (nw, .inl (gI G, 72, .inl σ))]
      have ha_17 : alw 0 1 1 1 = 1 := by rfl
      refine V.topeq (nI 0) (by rw [ha_17]; rfl) ?_
      refine V.eqw (ws' := [(m, .inr (13, [.ref nw, .ref bf, .ref sv, .ref hy, .int iS, .int rmb, .int eA, .int fA, .ref tx, .int tyd, .ref li, .int ldd, .int (nI 1), .int siz, .int spt, .int wrg, .int tld, .ref nmb])), (nw, .inl (gI G, 72, .inl σ))]) (by rw [ha_17]) ?_
      refine V.ifN_ne hC 0 25 dX13_forgets_20 rfl rfl (by omega) (fun c_20 => ?_) (fun c_20 => ?_)
      · exact absurd c_20 (by decide)
      · refine V.iconst hC 0 dX13_forgets_23 rfl ?_
        have hpw : pwX 7 s x 0 0 = 3 := (show pwF (fd (sNu s) x (sNs s)) = 3 by rw [hf]; rfl)
        refine V.eqw (ws' := [(m, .inr (13, [.ref nw, .ref bf, .ref sv, .ref hy, .int iS, .int rmb, .int eA, .int fA, .ref tx, .int tyd, .ref li, .int ldd, .int (nI (cd 7 (pwX 7 s x 0 0))), .int siz, .int spt, .int wrg, .int tld, .ref nmb])), (nw, .inl (gI G, 72, .inl σ))]) (by rw [hpw]; rfl) ?_
        exact hE 24 _ 0 σ dX13_forgets_24 rfl (Or.inr ⟨by rw [hpw]; decide, rfl, rfl⟩)
    · exact absurd rfl c_9
  · rw [hf] at hp_2
    subst hp_2
    have hkn := (fd_lt hf hs6).1
    have hk6 := (fd_lt hf hs6).2
    have ik := hI.2.2.1 k hkn
    show V G K 5 0 0 5 [some (.ref m), some (.int x), none, none, none] [.int (nI k)] [(m, .inr (13, [.ref nw, .ref bf, .ref sv, .ref hy, .int iS, .int rmb, .int eA, .int fA, .ref tx, .int tyd, .ref li, .int ldd, .int thr, .int siz, .int spt, .int wrg, .int tld, .ref nmb])), (nw, .inl (gI G, 72, .inl σ))]
    refine V.istore_n hC dX13_forgets_5 [some (.ref m), some (.int x), some (.int (nI k)), none, none] (Nat.le_of_ble_eq_true rfl) rfl ?_
    refine V.aload_n hC (x := m) dX13_forgets_6 rfl ?_
    refine V.iload_n hC (x := nI k) dX13_forgets_7 rfl ?_
    refine V.iconst hC (-1) dX13_forgets_8 rfl ?_
    refine V.icmp_eq hC 16 dX13_forgets_9 rfl (fun c_9 => ?_) (fun c_9 => ?_)
    · exact absurd c_9 (nI_m1 (by omega))
    · refine V.iconst hC 1 dX13_forgets_12 rfl ?_
      refine V.goto hC 17 dX13_forgets_13 rfl ?_
      refine V.callV (n := 1) (As := [.int 1]) (rest := []) hC (m_goes (kl K) G m nw bf sv hy tx li nmb iS rmb eA fA tyd ldd thr siz spt wrg tld 1) SFk0 SFgo0 gX13_forgets_X13_goes rfl ⟨rfl, rfl⟩ (by decide +kernel) ⟨by decide, by decide, by decide, by decide⟩ [0] rfl (by decide) (fun _ => rfl) rfl rfl rfl rfl (Nat.le_of_ble_eq_true rfl) dX13_forgets_17 (fun r_17 u_17 hp_17 => ?_)
      subst hp_17
      show V G K 5 0 0 20 [some (.ref m), some (.int x), some (.int (nI k)), none, none] [.int (if alw 1 1 1 1 = 0 then 1 else 0)] [(m, .inr (13, [.ref nw, .ref bf, .ref sv, .ref hy, .int iS, .int rmb, .int eA, .int fA, .ref tx, .int tyd, .ref li, .int ldd, .int (nI (alw 1 1 1 1)), .int siz, .int spt, .int wrg, .int tld, .ref nmb])), (nw, .inl (gI G, 72, .inl σ))]
      have ha_17 : alw 1 1 1 1 = 0 := by rfl
      refine V.topeq (nI 1) (by rw [ha_17]; rfl) ?_
      refine V.eqw (ws' := [(m, .inr (13, [.ref nw, .ref bf, .ref sv, .ref hy, .int iS, .int rmb, .int eA, .int fA, .ref tx, .int tyd, .ref li, .int ldd, .int (nI 0), .int siz, .int spt, .int wrg, .int tld, .ref nmb])), (nw, .inl (gI G, 72, .inl σ))]) (by rw [ha_17]) ?_
      refine V.ifN_ne hC 1 25 dX13_forgets_20 rfl rfl (by omega) (fun c_20 => ?_) (fun c_20 => ?_)
      · refine V.aload_n hC (x := m) dX13_forgets_25 rfl ?_
        refine V.iload_n hC (x := nI k) dX13_forgets_26 rfl ?_
        refine V.callVr (n := 1) (As := [.int (nI k)]) (rest := []) hC (m_holdersOf (kl K) G m nw bf sv hy tx li nmb iS rmb eA fA tyd ldd (nI 0) siz spt wrg tld σ s B hR hI hB k hkn) SFk0 SFgo0 gX13_forgets_X13_holdersOf rfl ⟨rfl, rfl⟩ (by decide +kernel) ⟨by decide, by decide, by decide, by decide⟩ [0, 1] rfl (by decide) rfl rfl rfl rfl (Nat.le_of_ble_eq_true rfl) dX13_forgets_27 (fun r_27 u_27 hp_27 => ?_)
        subst hp_27
        show V G K 5 0 0 30 [some (.ref m), some (.int x), some (.int (nI k)), none, none] [.int (nI (fh (sSh s k) 8 8))] [(m, .inr (13, [.ref nw, .ref bf, .ref sv, .ref hy, .int iS, .int rmb, .int eA, .int fA, .ref tx, .int tyd, .ref li, .int ldd, .int (nI 0), .int siz, .int spt, .int wrg, .int tld, .ref nmb])), (nw, .inl (gI G, 72, .inl σ))]
        refine V.callSr (n := 1) (As := [.int (nI (fh (sSh s k) 8 8))]) (rest := []) hC (c_bitCount (kl K) G (fh (sSh s k) 8 8) (fh_256 _ _ _ (by decide))) SFk0 SFgo0 gX13_forgets_J6_bitCount_0f7a4 rfl ⟨rfl, rfl⟩ (by decide +kernel) ⟨by decide, by decide, by decide, by decide⟩ [] rfl (by decide) rfl rfl (Nat.le_of_ble_eq_true rfl) dX13_forgets_30 (fun r_30 u_30 hp_30 => ?_)
        rw [pop_fh8] at hp_30
        subst hp_30
        have hcl := hc_le (sSh s k) 8
        show V G K 5 0 0 33 [some (.ref m), some (.int x), some (.int (nI k)), none, none] [.int (nI (hc (sSh s k) 8))] [(m, .inr (13, [.ref nw, .ref bf, .ref sv, .ref hy, .int iS, .int rmb, .int eA, .int fA, .ref tx, .int tyd, .ref li, .int ldd, .int (nI 0), .int siz, .int spt, .int wrg, .int tld, .ref nmb])), (nw, .inl (gI G, 72, .inl σ))]
        refine V.istore_n hC dX13_forgets_33 [some (.ref m), some (.int x), some (.int (nI k)), some (.int (nI (hc (sSh s k) 8))), none] (Nat.le_of_ble_eq_true rfl) rfl ?_
        refine V.bipush hC 12 dX13_forgets_34 rfl ?_
        refine V.bipush hC 10 dX13_forgets_36 rfl ?_
        refine V.iload_n hC (x := nI k) dX13_forgets_38 rfl ?_
        refine V.imulN hC 10 k dX13_forgets_39 rfl rfl ?_
        refine V.iaddN hC 12 (10 * k) dX13_forgets_40 rfl rfl ?_
        refine V.ext (1) (g := (shq σ (12 + 10 * k) 0)) rfl (fun z _ => congrFun (show σ = (shq σ (12 + 10 * k) 0) from shq_0 σ (12 + 10 * k)) z) (ws' := [(m, .inr (13, [.ref nw, .ref bf, .ref sv, .ref hy, .int iS, .int rmb, .int eA, .int fA, .ref tx, .int tyd, .ref li, .int ldd, .int (nI 0), .int siz, .int spt, .int wrg, .int tld, .ref nmb])), (nw, .inl (gI G, 72, .inl (shq σ (12 + 10 * k) 0)))]) rfl ?_
        refine V.istore hC dX13_forgets_41 [some (.ref m), some (.int x), some (.int (nI k)), some (.int (nI (hc (sSh s k) 8))), some (.int (nI (12 + (10 * k))))] (Nat.le_of_ble_eq_true rfl) rfl ?_
        have loop43 : ∀ (n : Nat) (q : Nat), 60 - q < n → (12 + 10 * k + q ≤ 62) → V G K 5 0 0 43 [some (.ref m), some (.int x), some (.int (nI k)), some (.int (nI (hc (sSh s k) 8))), some (.int (nI (12 + 10 * k + q)))] [] [(m, .inr (13, [.ref nw, .ref bf, .ref sv, .ref hy, .int iS, .int rmb, .int eA, .int fA, .ref tx, .int tyd, .ref li, .int ldd, .int (nI 0), .int siz, .int spt, .int wrg, .int tld, .ref nmb])), (nw, .inl (gI G, 72, .inl (shq σ (12 + 10 * k) q)))] := by
          intro n
          induction n with
          | zero => intro q hlt; exact absurd hlt (Nat.not_lt_zero _)
          | succ n ih43 =>
            intro q hlt43 hq
            refine V.iload hC (x := nI (12 + 10 * k + q)) dX13_forgets_43 rfl ?_
            refine V.bipush hC 62 dX13_forgets_45 rfl ?_
            refine V.icmpN_ge hC (12 + 10 * k + q) 62 73 dX13_forgets_47 rfl rfl rfl (by omega) (by omega) (fun c_47 => ?_) (fun c_47 => ?_)
            · refine V.ext (1) (g := (shq σ (12 + 10 * k) (50 - 10 * k))) rfl (fun z _ => congrFun (show (shq σ (12 + 10 * k) q) = (shq σ (12 + 10 * k) (50 - 10 * k)) from (by rw [show q = 50 - 10 * k by omega])) z) (ws' := [(m, .inr (13, [.ref nw, .ref bf, .ref sv, .ref hy, .int iS, .int rmb, .int eA, .int fA, .ref tx, .int tyd, .ref li, .int ldd, .int (nI 0), .int siz, .int spt, .int wrg, .int tld, .ref nmb])), (nw, .inl (gI G, 72, .inl (shq σ (12 + 10 * k) (50 - 10 * k))))]) rfl ?_
              refine V.aload_n hC (x := m) dX13_forgets_73 rfl ?_
              refine V.getf hC (T := TX13) q0_ 0 q1_ rfl (0) rfl rfl (by decide) (.ref nw) rfl dX13_forgets_74 ?_
              refine V.iconst hC 1 dX13_forgets_77 rfl ?_
              refine V.dup2 hC dX13_forgets_78 rfl rfl ?_
              refine V.iald hC dX13_forgets_79 (1) rfl 1 rfl (by omega) (by decide) ?_
              refine V.topeq (nI (sNs s)) ((shq_lo (by omega)).trans hR.2.1) ?_
              refine V.iconst hC 1 dX13_forgets_80 rfl ?_
              refine V.isub hC dX13_forgets_81 ?_
              refine V.topeq (nI (sNs s - 1)) (pk_sub (a := sNs s) (b := 1) (by omega)) ?_
              refine V.iast hC dX13_forgets_82 (1) rfl 1 rfl (by omega) (by decide) [(m, .inr (13, [.ref nw, .ref bf, .ref sv, .ref hy, .int iS, .int rmb, .int eA, .int fA, .ref tx, .int tyd, .ref li, .int ldd, .int (nI 0), .int siz, .int spt, .int wrg, .int tld, .ref nmb])), (nw, .inl (gI G, 72, .inl (upd (shq σ (12 + 10 * k) (50 - 10 * k)) 1 (nI (sNs s - 1)))))] rfl ?_
              refine V.iload_n hC (x := nI (hc (sSh s k) 8)) dX13_forgets_83 rfl ?_
              have hpw : pwX 7 s x 0 0 = 0 := (show pwF (fd (sNu s) x (sNs s)) = 0 by rw [hf]; rfl)
              refine V.eqw (ws' := [(m, .inr (13, [.ref nw, .ref bf, .ref sv, .ref hy, .int iS, .int rmb, .int eA, .int fA, .ref tx, .int tyd, .ref li, .int ldd, .int (nI (cd 7 (pwX 7 s x 0 0))), .int siz, .int spt, .int wrg, .int tld, .ref nmb])), (nw, .inl (gI G, 72, .inl (upd (shq σ (12 + 10 * k) (50 - 10 * k)) 1 (nI (sNs s - 1)))))]) (by rw [hpw]; rfl) ?_
              exact hE 84 _ (nI (hc (sSh s k) 8)) (upd (shq σ (12 + 10 * k) (50 - 10 * k)) 1 (nI (sNs s - 1))) dX13_forgets_84 rfl (Or.inl ⟨hpw, rel_fg hR hI hf, (by simp only [rX, hf])⟩)
            · refine V.aload_n hC (x := m) dX13_forgets_50 rfl ?_
              refine V.getf hC (T := TX13) q0_ 0 q1_ rfl (0) rfl rfl (by decide) (.ref nw) rfl dX13_forgets_51 ?_
              refine V.iload hC (x := nI (12 + 10 * k + q)) dX13_forgets_54 rfl ?_
              refine V.aload_n hC (x := m) dX13_forgets_56 rfl ?_
              refine V.getf hC (T := TX13) q0_ 0 q1_ rfl (0) rfl rfl (by decide) (.ref nw) rfl dX13_forgets_57 ?_
              refine V.iload hC (x := nI (12 + 10 * k + q)) dX13_forgets_60 rfl ?_
              refine V.bipush hC 10 dX13_forgets_62 rfl ?_
              refine V.iaddN hC (12 + 10 * k + q) 10 dX13_forgets_64 rfl rfl ?_
              refine V.iald hC dX13_forgets_65 (1) rfl ((12 + 10 * k + q) + 10) rfl (by omega) (by decide) ?_
              refine V.iast hC dX13_forgets_66 (1) rfl (12 + 10 * k + q) rfl (by omega) (by decide) [(m, .inr (13, [.ref nw, .ref bf, .ref sv, .ref hy, .int iS, .int rmb, .int eA, .int fA, .ref tx, .int tyd, .ref li, .int ldd, .int (nI 0), .int siz, .int spt, .int wrg, .int tld, .ref nmb])), (nw, .inl (gI G, 72, .inl (upd (shq σ (12 + 10 * k) q) (12 + 10 * k + q) ((shq σ (12 + 10 * k) q) ((12 + 10 * k + q) + 10)))))] rfl ?_
              refine V.ext (1) (g := (shq σ (12 + 10 * k) (q + 1))) rfl (fun z _ => congrFun (show upd (shq σ (12 + 10 * k) q) (12 + 10 * k + q) ((shq σ (12 + 10 * k) q) ((12 + 10 * k + q) + 10)) = (shq σ (12 + 10 * k) (q + 1)) from shq_s σ (12 + 10 * k) q) z) (ws' := [(m, .inr (13, [.ref nw, .ref bf, .ref sv, .ref hy, .int iS, .int rmb, .int eA, .int fA, .ref tx, .int tyd, .ref li, .int ldd, .int (nI 0), .int siz, .int spt, .int wrg, .int tld, .ref nmb])), (nw, .inl (gI G, 72, .inl (shq σ (12 + 10 * k) (q + 1))))]) rfl ?_
              refine V.iincN hC (12 + 10 * k + q) 1 dX13_forgets_67 rfl [some (.ref m), some (.int x), some (.int (nI k)), some (.int (nI (hc (sSh s k) 8))), some (.int (nI (12 + 10 * k + q + 1)))] (Nat.le_of_ble_eq_true rfl) rfl rfl rfl ?_
              refine V.goto hC 43 dX13_forgets_70 rfl ?_
              exact ih43 (q + 1) (by omega) (by omega)
        exact loop43 _ 0 (Nat.lt_succ_self _) (by omega)
      · exact absurd c_20 (by decide)
