/-! the document's model: splits (printed by gen/s79.py) -/
theorem pwS_1a {nb ns : Nat} {x y z : Int32} (h : ¬ isR x) : pwS nb ns x y z = 1 := if_pos h
theorem pwS_1b {nb ns : Nat} {x y z : Int32} (h : ¬ (¬ y < 1 ∧ ¬ 4 < y)) : pwS nb ns x y z = 1 := by
  unfold pwS
  by_cases h1 : isR x
  · rw [if_neg (fun q => q h1)]
    by_cases h2 : y < 1
    · rw [if_pos h2]
    · rw [if_neg h2]
      by_cases h3 : 4 < y
      · rw [if_pos h3]
      · exact absurd ⟨h2, h3⟩ h
  · rw [if_pos h1]
theorem pwS_1c {nb ns : Nat} {x y z : Int32} (h : ¬ isR z) : pwS nb ns x y z = 1 := by
  by_cases h1 : ¬ y < 1 ∧ ¬ 4 < y
  · unfold pwS
    by_cases h2 : isR x
    · rw [if_neg (fun q => q h2), if_neg h1.1, if_neg h1.2, if_pos h]
    · rw [if_pos h2]
  · exact pwS_1b h1
theorem pwS_r {nb ns : Nat} {x y z : Int32} (hx : isR x) (hy : ¬ y < 1 ∧ ¬ 4 < y) (hz : isR z) : pwS nb ns x y z = if 6 ≤ ns then 4 else if nI nb < y then 4 else 0 := by
  unfold pwS
  rw [if_neg (fun q => q hx), if_neg hy.1, if_neg hy.2, if_neg (fun q => q hz)]
/-- the row behind k shares dealt -/
def spq (σ : Nat → Int32) (ns : Nat) (L t : Int32) (g : Nat → Int32) : Nat → (Nat → Int32)
  | 0 => upd (upd (upd σ 2 L) (12 + 10 * ns) L) (13 + 10 * ns) t
  | k + 1 => upd (spq σ ns L t g k) (14 + 10 * ns + k) (g k)
theorem spq_out {σ : Nat → Int32} {ns : Nat} {L t : Int32} {g : Nat → Int32} {j : Nat} (h : j ≠ 2) (h2 : j < 12 + 10 * ns) : ∀ k, spq σ ns L t g k j = σ j
  | 0 => (pk_un (by omega)).trans ((pk_un (by omega)).trans (pk_un h))
  | k + 1 => (pk_un (by omega)).trans (spq_out h h2 k)
theorem spq_2 {σ : Nat → Int32} {ns : Nat} {L t : Int32} {g : Nat → Int32} : ∀ k, spq σ ns L t g k 2 = L
  | 0 => (pk_un (by omega)).trans ((pk_un (by omega)).trans pk_us)
  | k + 1 => (pk_un (by omega)).trans (spq_2 k)
theorem spq_nu {σ : Nat → Int32} {ns : Nat} {L t : Int32} {g : Nat → Int32} : ∀ k, spq σ ns L t g k (12 + 10 * ns) = L
  | 0 => (pk_un (by omega)).trans pk_us
  | k + 1 => (pk_un (by omega)).trans (spq_nu k)
theorem spq_th {σ : Nat → Int32} {ns : Nat} {L t : Int32} {g : Nat → Int32} : ∀ k, spq σ ns L t g k (13 + 10 * ns) = t
  | 0 => pk_us
  | k + 1 => (pk_un (by omega)).trans (spq_th k)
theorem spq_sh {σ : Nat → Int32} {ns : Nat} {L t : Int32} {g : Nat → Int32} {b : Nat} : ∀ k, b < k → spq σ ns L t g k (14 + 10 * ns + b) = g b
  | k + 1, h => by
    by_cases e : b = k
    · subst e
      exact pk_us
    · exact (pk_un (by omega)).trans (spq_sh k (by omega))
theorem spq_y {σ : Nat → Int32} {ns nb v sd t k : Nat} {L : Int32} (h : k < nb) : upd (spq σ ns L (nI t) (flf (dl v sd t) (fun _ => -1) nb) k) (12 + 10 * ns + 2 + k) (nI (spr v sd (7 * v + 13) (k + 1) (t - 1)).1) = spq σ ns L (nI t) (flf (dl v sd t) (fun _ => -1) nb) (k + 1) := by
  rw [show 12 + 10 * ns + 2 + k = 14 + 10 * ns + k by omega]
  show _ = upd _ (14 + 10 * ns + k) (flf (dl v sd t) (fun _ => -1) nb k)
  rw [flf_in h]
  rfl
theorem spq_n {σ : Nat → Int32} {ns nb v sd t k : Nat} {L : Int32} (h : ¬ k < nb) : upd (spq σ ns L (nI t) (flf (dl v sd t) (fun _ => -1) nb) k) (12 + 10 * ns + 2 + k) (-1) = spq σ ns L (nI t) (flf (dl v sd t) (fun _ => -1) nb) (k + 1) := by
  rw [show 12 + 10 * ns + 2 + k = 14 + 10 * ns + k by omega]
  show _ = upd _ (14 + 10 * ns + k) (flf (dl v sd t) (fun _ => -1) nb k)
  rw [show flf (dl v sd t) (fun _ => -1) nb k = -1 from if_neg h]
theorem rel_sp {σ : Nat → Int32} {s : ASt} (hR : Rel σ s) (h8 : sNb s ≤ 8) (t : Nat) (g : Nat → Int32) : Rel (upd (spq σ (sNs s) (sLa s + 1) (nI t) g 8) 1 (nI (sNs s + 1))) (sHm s, sNb s, sNs s + 1, sLa s + 1, sLo s, va_up (sNu s) (sNs s) (sLa s + 1), va_up (sTn s) (sNs s) t, va_up (sSh s) (sNs s) g) := by
  obtain ⟨r0, r1, r2, r3, r4, r5⟩ := hR
  refine ⟨(pk_un (by decide)).trans ((spq_out (by decide) (by omega) 8).trans r0), pk_us, (pk_un (by decide)).trans (spq_2 8), (pk_un (by decide)).trans ((spq_out (by decide) (by omega) 8).trans r3), fun c hc => (pk_un (by omega)).trans ((spq_out (by omega) (by have hc' : c < sNb s := hc; omega) 8).trans (r4 c hc)), fun j hj => ?_⟩
  have hj' : j < sNs s + 1 := hj
  show _ = va_up (sNu s) (sNs s) (sLa s + 1) j ∧ _ = nI (va_up (sTn s) (sNs s) t j) ∧ ∀ b, b < 8 → _ = va_up (sSh s) (sNs s) g j b
  by_cases e : j = sNs s
  · rw [e, va_up_self, va_up_self, va_up_self]
    exact ⟨(pk_un (by omega)).trans (spq_nu 8), (pk_un (by omega)).trans (spq_th 8), fun b hb => (pk_un (by omega)).trans (spq_sh 8 hb)⟩
  · rw [va_up_ne _ _ e, va_up_ne _ _ e, va_up_ne _ _ e]
    have r := r5 j (by omega)
    exact ⟨(pk_un (by omega)).trans ((spq_out (by omega) (by omega) 8).trans r.1), (pk_un (by omega)).trans ((spq_out (by omega) (by omega) 8).trans r.2.1), fun b hb => (pk_un (by omega)).trans ((spq_out (by omega) (by omega) 8).trans (r.2.2 b hb))⟩
/-- the old secrets stand while a new one is dealt -/
theorem rel_sq {σ : Nat → Int32} {s : ASt} (hR : Rel σ s) (h8 : sNb s ≤ 8) (t : Int32) (g : Nat → Int32) (k : Nat) : Rel (spq σ (sNs s) (sLa s + 1) t g k) (sHm s, sNb s, sNs s, sLa s + 1, sLo s, sNu s, sTn s, sSh s) := by
  obtain ⟨r0, r1, r2, r3, r4, r5⟩ := hR
  refine ⟨(spq_out (by decide) (by omega) k).trans r0, (spq_out (by decide) (by omega) k).trans r1, spq_2 k, (spq_out (by decide) (by omega) k).trans r3, fun c hc => (spq_out (by omega) (by have hc' : c < sNb s := hc; omega) k).trans (r4 c hc), fun j hj => ?_⟩
  have hj' : j < sNs s := hj
  have r := r5 j hj'
  exact ⟨(spq_out (by omega) (by omega) k).trans r.1, (spq_out (by omega) (by omega) k).trans r.2.1, fun b hb => (spq_out (by omega) (by omega) k).trans (r.2.2 b hb)⟩
theorem InvA.la {B : Nat} {s : ASt} (hI : InvA B s) : InvA (B + 1) (sHm s, sNb s, sNs s, sLa s + 1, sLo s, sNu s, sTn s, sSh s) := by
  obtain ⟨h1, h2, h3, h4, ⟨L, m, hL, hla, hnu, hmm⟩, m2, hm2, hlo⟩ := hI
  exact ⟨h1, h2, h3, h4, ⟨L + 1, m, by omega, by show sLa s + 1 = _; rw [hla, nI_1], fun k hk => ⟨(hnu k hk).1, (hnu k hk).2.1, Nat.le_succ_of_le (hnu k hk).2.2⟩, hmm⟩, m2, by omega, hlo⟩
set_option maxHeartbeats 4000000 in
set_option maxRecDepth 100000 in
theorem m_splits (l : Launch) (G : Gx) (m nw bf sv hy tx li nmb : Nat) (iS rmb eA fA tyd ldd thr siz spt wrg tld : Int32) (σ : Nat → Int32) (s : ASt) (B : Nat) (hR : Rel σ s) (hI : InvA B s) (hB : B < 2 ^ 30) (hB1 : B + 1 < 2 ^ 30) (x y z : Int32) : Ct l G SF0 yX13_splits wsX13_splits ({ frames := 2, cells := 0, slots := 0, locals := 43 }) [.ref m, .int x, .int y, .int z] [(m, .inr (13, [.ref nw, .ref bf, .ref sv, .ref hy, .int iS, .int rmb, .int eA, .int fA, .ref tx, .int tyd, .ref li, .int ldd, .int thr, .int siz, .int spt, .int wrg, .int tld, .ref nmb])), (nw, .inl (gI G, 72, .inl σ))] mkI (fun (r : Int32) (u : Nat → Int32) => (pwX 2 s x y z = 0 ∧ Rel u (cX 2 s x y z) ∧ r = rX 2 s x y z) ∨ (¬ pwX 2 s x y z = 0 ∧ u = σ ∧ r = 0)) (fun u : Nat → Int32 => [(m, .inr (13, [.ref nw, .ref bf, .ref sv, .ref hy, .int iS, .int rmb, .int eA, .int fA, .ref tx, .int tyd, .ref li, .int ldd, .int (nI (cd 2 (pwX 2 s x y z))), .int siz, .int spt, .int wrg, .int tld, .ref nmb])), (nw, .inl (gI G, 72, .inl u))]) 0 0 := by
  have hb8 := hI.1
  have hs6 := hI.2.1
  refine Ct.ofI (cc := cX13_splits) (maxL := 7) (by decide) rfl ⟨by simp [Value.category], Nat.le_of_ble_eq_true rfl⟩ ?_
  intro K hl hC hSF hnm hE
  subst hl
  have q0_ : ∀ w ∈ u_ws RX13 TX13 18, w ∈ wsX13_splits := by decide +kernel
  have q1_ : Cond.fieldLink RX13 9 "FeatherSharesModel" "now" "[I" ∈ wsX13_splits := by decide +kernel
  show V G K 7 0 0 0 [some (.ref m), some (.int x), some (.int y), some (.int z), none, none, none] [] [(m, .inr (13, [.ref nw, .ref bf, .ref sv, .ref hy, .int iS, .int rmb, .int eA, .int fA, .ref tx, .int tyd, .ref li, .int ldd, .int thr, .int siz, .int spt, .int wrg, .int tld, .ref nmb])), (nw, .inl (gI G, 72, .inl σ))]
  refine V.iload_n hC (x := x) dX13_splits_0 rfl ?_
  refine V.callSr (n := 1) (As := [.int x]) (rest := []) hC (m_isNumber (kl K) G x) SFk0 SFgo0 gX13_splits_X13_isNumber rfl ⟨rfl, rfl⟩ (by decide +kernel) ⟨by decide, by decide, by decide, by decide⟩ [] rfl (by decide) rfl rfl (Nat.le_of_ble_eq_true rfl) dX13_splits_1 (fun r_1 u_1 hp_1 => ?_)
  subst hp_1
  show V G K 7 0 0 4 [some (.ref m), some (.int x), some (.int y), some (.int z), none, none, none] [.int (if isR x then 1 else 0)] [(m, .inr (13, [.ref nw, .ref bf, .ref sv, .ref hy, .int iS, .int rmb, .int eA, .int fA, .ref tx, .int tyd, .ref li, .int ldd, .int thr, .int siz, .int spt, .int wrg, .int tld, .ref nmb])), (nw, .inl (gI G, 72, .inl σ))]
  refine V.if_eq hC 27 dX13_splits_4 rfl (fun c_4 => ?_) (fun c_4 => ?_)
  · refine V.iconst hC 0 dX13_splits_27 rfl ?_
    refine V.istore hC dX13_splits_28 [some (.ref m), some (.int x), some (.int y), some (.int z), some (.int 0), none, none] (Nat.le_of_ble_eq_true rfl) rfl ?_
    refine V.aload_n hC (x := m) dX13_splits_30 rfl ?_
    refine V.iload hC (x := 0) dX13_splits_31 rfl ?_
    refine V.aload_n hC (x := m) dX13_splits_33 rfl ?_
    refine V.getf hC (T := TX13) q0_ 0 q1_ rfl (0) rfl rfl (by decide) (.ref nw) rfl dX13_splits_34 ?_
    refine V.iconst hC 1 dX13_splits_37 rfl ?_
    refine V.iald hC dX13_splits_38 (1) rfl 1 rfl (by omega) (by decide) ?_
    refine V.topeq (nI (sNs s)) hR.2.1 ?_
    refine V.bipush hC 6 dX13_splits_39 rfl ?_
    refine V.icmpN_ge hC (sNs s) 6 58 dX13_splits_41 rfl rfl rfl (by omega) (by omega) (fun c_41 => ?_) (fun c_41 => ?_)
    · refine V.iconst hC 0 dX13_splits_58 rfl ?_
      refine V.iconst hC 1 dX13_splits_59 rfl ?_
      refine V.iconst hC 1 dX13_splits_60 rfl ?_
      refine V.callV (n := 4) (As := [.int 0, .int 0, .int 1, .int 1]) (rest := []) hC (m_allows (kl K) G m nw bf sv hy tx li nmb iS rmb eA fA tyd ldd thr siz spt wrg tld 0 0 1 1) SFk0 SFgo0 gX13_splits_X13_allows rfl ⟨rfl, rfl⟩ (by decide +kernel) ⟨by decide, by decide, by decide, by decide⟩ [0] rfl (by decide) (fun _ => rfl) rfl rfl rfl rfl (Nat.le_of_ble_eq_true rfl) dX13_splits_61 (fun r_61 u_61 hp_61 => ?_)
      subst hp_61
      show V G K 7 0 0 64 [some (.ref m), some (.int x), some (.int y), some (.int z), some (.int 0), none, none] [.int (if alw 0 0 1 1 = 0 then 1 else 0)] [(m, .inr (13, [.ref nw, .ref bf, .ref sv, .ref hy, .int iS, .int rmb, .int eA, .int fA, .ref tx, .int tyd, .ref li, .int ldd, .int (nI (alw 0 0 1 1)), .int siz, .int spt, .int wrg, .int tld, .ref nmb])), (nw, .inl (gI G, 72, .inl σ))]
      have ha_61 : alw 0 0 1 1 = 1 := by rfl
      refine V.topeq (nI 0) (by rw [ha_61]; rfl) ?_
      refine V.eqw (ws' := [(m, .inr (13, [.ref nw, .ref bf, .ref sv, .ref hy, .int iS, .int rmb, .int eA, .int fA, .ref tx, .int tyd, .ref li, .int ldd, .int (nI 1), .int siz, .int spt, .int wrg, .int tld, .ref nmb])), (nw, .inl (gI G, 72, .inl σ))]) (by rw [ha_61]) ?_
      refine V.ifN_ne hC 0 69 dX13_splits_64 rfl rfl (by omega) (fun c_64 => ?_) (fun c_64 => ?_)
      · exact absurd c_64 (by decide)
      · refine V.iconst hC 0 dX13_splits_67 rfl ?_
        have hpw : pwX 2 s x y z = 1 := (show pwS (sNb s) (sNs s) x y z = 1 from pwS_1a (if10 c_4))
        refine V.eqw (ws' := [(m, .inr (13, [.ref nw, .ref bf, .ref sv, .ref hy, .int iS, .int rmb, .int eA, .int fA, .ref tx, .int tyd, .ref li, .int ldd, .int (nI (cd 2 (pwX 2 s x y z))), .int siz, .int spt, .int wrg, .int tld, .ref nmb])), (nw, .inl (gI G, 72, .inl σ))]) (by rw [hpw]; rfl) ?_
        exact hE 68 _ 0 σ dX13_splits_68 rfl (Or.inr ⟨by rw [hpw]; decide, rfl, rfl⟩)
    · refine V.aload_n hC (x := m) dX13_splits_44 rfl ?_
      refine V.getf hC (T := TX13) q0_ 0 q1_ rfl (0) rfl rfl (by decide) (.ref nw) rfl dX13_splits_45 ?_
      refine V.iconst hC 0 dX13_splits_48 rfl ?_
      refine V.iald hC dX13_splits_49 (1) rfl 0 rfl (by omega) (by decide) ?_
      refine V.topeq (nI (sNb s)) hR.1 ?_
      refine V.iload_n hC (x := y) dX13_splits_50 rfl ?_
      refine V.icmp_lt hC 58 dX13_splits_51 rfl (fun c_51 => ?_) (fun c_51 => ?_)
      · refine V.iconst hC 0 dX13_splits_58 rfl ?_
        refine V.iconst hC 1 dX13_splits_59 rfl ?_
        refine V.iconst hC 1 dX13_splits_60 rfl ?_
        refine V.callV (n := 4) (As := [.int 0, .int 0, .int 1, .int 1]) (rest := []) hC (m_allows (kl K) G m nw bf sv hy tx li nmb iS rmb eA fA tyd ldd thr siz spt wrg tld 0 0 1 1) SFk0 SFgo0 gX13_splits_X13_allows rfl ⟨rfl, rfl⟩ (by decide +kernel) ⟨by decide, by decide, by decide, by decide⟩ [0] rfl (by decide) (fun _ => rfl) rfl rfl rfl rfl (Nat.le_of_ble_eq_true rfl) dX13_splits_61 (fun r_61 u_61 hp_61 => ?_)
        subst hp_61
        show V G K 7 0 0 64 [some (.ref m), some (.int x), some (.int y), some (.int z), some (.int 0), none, none] [.int (if alw 0 0 1 1 = 0 then 1 else 0)] [(m, .inr (13, [.ref nw, .ref bf, .ref sv, .ref hy, .int iS, .int rmb, .int eA, .int fA, .ref tx, .int tyd, .ref li, .int ldd, .int (nI (alw 0 0 1 1)), .int siz, .int spt, .int wrg, .int tld, .ref nmb])), (nw, .inl (gI G, 72, .inl σ))]
        have ha_61 : alw 0 0 1 1 = 1 := by rfl
        refine V.topeq (nI 0) (by rw [ha_61]; rfl) ?_
        refine V.eqw (ws' := [(m, .inr (13, [.ref nw, .ref bf, .ref sv, .ref hy, .int iS, .int rmb, .int eA, .int fA, .ref tx, .int tyd, .ref li, .int ldd, .int (nI 1), .int siz, .int spt, .int wrg, .int tld, .ref nmb])), (nw, .inl (gI G, 72, .inl σ))]) (by rw [ha_61]) ?_
        refine V.ifN_ne hC 0 69 dX13_splits_64 rfl rfl (by omega) (fun c_64 => ?_) (fun c_64 => ?_)
        · exact absurd c_64 (by decide)
        · refine V.iconst hC 0 dX13_splits_67 rfl ?_
          have hpw : pwX 2 s x y z = 1 := (show pwS (sNb s) (sNs s) x y z = 1 from pwS_1a (if10 c_4))
          refine V.eqw (ws' := [(m, .inr (13, [.ref nw, .ref bf, .ref sv, .ref hy, .int iS, .int rmb, .int eA, .int fA, .ref tx, .int tyd, .ref li, .int ldd, .int (nI (cd 2 (pwX 2 s x y z))), .int siz, .int spt, .int wrg, .int tld, .ref nmb])), (nw, .inl (gI G, 72, .inl σ))]) (by rw [hpw]; rfl) ?_
          exact hE 68 _ 0 σ dX13_splits_68 rfl (Or.inr ⟨by rw [hpw]; decide, rfl, rfl⟩)
      · refine V.iconst hC 1 dX13_splits_54 rfl ?_
        refine V.goto hC 59 dX13_splits_55 rfl ?_
        refine V.iconst hC 1 dX13_splits_59 rfl ?_
        refine V.iconst hC 1 dX13_splits_60 rfl ?_
        refine V.callV (n := 4) (As := [.int 0, .int 1, .int 1, .int 1]) (rest := []) hC (m_allows (kl K) G m nw bf sv hy tx li nmb iS rmb eA fA tyd ldd thr siz spt wrg tld 0 1 1 1) SFk0 SFgo0 gX13_splits_X13_allows rfl ⟨rfl, rfl⟩ (by decide +kernel) ⟨by decide, by decide, by decide, by decide⟩ [0] rfl (by decide) (fun _ => rfl) rfl rfl rfl rfl (Nat.le_of_ble_eq_true rfl) dX13_splits_61 (fun r_61 u_61 hp_61 => ?_)
        subst hp_61
        show V G K 7 0 0 64 [some (.ref m), some (.int x), some (.int y), some (.int z), some (.int 0), none, none] [.int (if alw 0 1 1 1 = 0 then 1 else 0)] [(m, .inr (13, [.ref nw, .ref bf, .ref sv, .ref hy, .int iS, .int rmb, .int eA, .int fA, .ref tx, .int tyd, .ref li, .int ldd, .int (nI (alw 0 1 1 1)), .int siz, .int spt, .int wrg, .int tld, .ref nmb])), (nw, .inl (gI G, 72, .inl σ))]
        have ha_61 : alw 0 1 1 1 = 1 := by rfl
        refine V.topeq (nI 0) (by rw [ha_61]; rfl) ?_
        refine V.eqw (ws' := [(m, .inr (13, [.ref nw, .ref bf, .ref sv, .ref hy, .int iS, .int rmb, .int eA, .int fA, .ref tx, .int tyd, .ref li, .int ldd, .int (nI 1), .int siz, .int spt, .int wrg, .int tld, .ref nmb])), (nw, .inl (gI G, 72, .inl σ))]) (by rw [ha_61]) ?_
        refine V.ifN_ne hC 0 69 dX13_splits_64 rfl rfl (by omega) (fun c_64 => ?_) (fun c_64 => ?_)
        · exact absurd c_64 (by decide)
        · refine V.iconst hC 0 dX13_splits_67 rfl ?_
          have hpw : pwX 2 s x y z = 1 := (show pwS (sNb s) (sNs s) x y z = 1 from pwS_1a (if10 c_4))
          refine V.eqw (ws' := [(m, .inr (13, [.ref nw, .ref bf, .ref sv, .ref hy, .int iS, .int rmb, .int eA, .int fA, .ref tx, .int tyd, .ref li, .int ldd, .int (nI (cd 2 (pwX 2 s x y z))), .int siz, .int spt, .int wrg, .int tld, .ref nmb])), (nw, .inl (gI G, 72, .inl σ))]) (by rw [hpw]; rfl) ?_
          exact hE 68 _ 0 σ dX13_splits_68 rfl (Or.inr ⟨by rw [hpw]; decide, rfl, rfl⟩)
  · refine V.iload_n hC (x := y) dX13_splits_7 rfl ?_
    refine V.iconst hC 1 dX13_splits_8 rfl ?_
    refine V.iconst hC 4 dX13_splits_9 rfl ?_
    refine V.callSr (n := 3) (As := [.int y, .int 1, .int 4]) (rest := []) hC (m_isIn (kl K) G y 1 4) SFk0 SFgo0 gX13_splits_X13_isIn rfl ⟨rfl, rfl⟩ (by decide +kernel) ⟨by decide, by decide, by decide, by decide⟩ [] rfl (by decide) rfl rfl (Nat.le_of_ble_eq_true rfl) dX13_splits_10 (fun r_10 u_10 hp_10 => ?_)
    subst hp_10
    show V G K 7 0 0 13 [some (.ref m), some (.int x), some (.int y), some (.int z), none, none, none] [.int (if ¬ y < 1 ∧ ¬ 4 < y then 1 else 0)] [(m, .inr (13, [.ref nw, .ref bf, .ref sv, .ref hy, .int iS, .int rmb, .int eA, .int fA, .ref tx, .int tyd, .ref li, .int ldd, .int thr, .int siz, .int spt, .int wrg, .int tld, .ref nmb])), (nw, .inl (gI G, 72, .inl σ))]
    refine V.if_eq hC 27 dX13_splits_13 rfl (fun c_13 => ?_) (fun c_13 => ?_)
    · refine V.iconst hC 0 dX13_splits_27 rfl ?_
      refine V.istore hC dX13_splits_28 [some (.ref m), some (.int x), some (.int y), some (.int z), some (.int 0), none, none] (Nat.le_of_ble_eq_true rfl) rfl ?_
      refine V.aload_n hC (x := m) dX13_splits_30 rfl ?_
      refine V.iload hC (x := 0) dX13_splits_31 rfl ?_
      refine V.aload_n hC (x := m) dX13_splits_33 rfl ?_
      refine V.getf hC (T := TX13) q0_ 0 q1_ rfl (0) rfl rfl (by decide) (.ref nw) rfl dX13_splits_34 ?_
      refine V.iconst hC 1 dX13_splits_37 rfl ?_
      refine V.iald hC dX13_splits_38 (1) rfl 1 rfl (by omega) (by decide) ?_
      refine V.topeq (nI (sNs s)) hR.2.1 ?_
      refine V.bipush hC 6 dX13_splits_39 rfl ?_
      refine V.icmpN_ge hC (sNs s) 6 58 dX13_splits_41 rfl rfl rfl (by omega) (by omega) (fun c_41 => ?_) (fun c_41 => ?_)
      · refine V.iconst hC 0 dX13_splits_58 rfl ?_
        refine V.iconst hC 1 dX13_splits_59 rfl ?_
        refine V.iconst hC 1 dX13_splits_60 rfl ?_
        refine V.callV (n := 4) (As := [.int 0, .int 0, .int 1, .int 1]) (rest := []) hC (m_allows (kl K) G m nw bf sv hy tx li nmb iS rmb eA fA tyd ldd thr siz spt wrg tld 0 0 1 1) SFk0 SFgo0 gX13_splits_X13_allows rfl ⟨rfl, rfl⟩ (by decide +kernel) ⟨by decide, by decide, by decide, by decide⟩ [0] rfl (by decide) (fun _ => rfl) rfl rfl rfl rfl (Nat.le_of_ble_eq_true rfl) dX13_splits_61 (fun r_61 u_61 hp_61 => ?_)
        subst hp_61
        show V G K 7 0 0 64 [some (.ref m), some (.int x), some (.int y), some (.int z), some (.int 0), none, none] [.int (if alw 0 0 1 1 = 0 then 1 else 0)] [(m, .inr (13, [.ref nw, .ref bf, .ref sv, .ref hy, .int iS, .int rmb, .int eA, .int fA, .ref tx, .int tyd, .ref li, .int ldd, .int (nI (alw 0 0 1 1)), .int siz, .int spt, .int wrg, .int tld, .ref nmb])), (nw, .inl (gI G, 72, .inl σ))]
        have ha_61 : alw 0 0 1 1 = 1 := by rfl
        refine V.topeq (nI 0) (by rw [ha_61]; rfl) ?_
        refine V.eqw (ws' := [(m, .inr (13, [.ref nw, .ref bf, .ref sv, .ref hy, .int iS, .int rmb, .int eA, .int fA, .ref tx, .int tyd, .ref li, .int ldd, .int (nI 1), .int siz, .int spt, .int wrg, .int tld, .ref nmb])), (nw, .inl (gI G, 72, .inl σ))]) (by rw [ha_61]) ?_
        refine V.ifN_ne hC 0 69 dX13_splits_64 rfl rfl (by omega) (fun c_64 => ?_) (fun c_64 => ?_)
        · exact absurd c_64 (by decide)
        · refine V.iconst hC 0 dX13_splits_67 rfl ?_
          have hpw : pwX 2 s x y z = 1 := (show pwS (sNb s) (sNs s) x y z = 1 from pwS_1b (if10 c_13))
          refine V.eqw (ws' := [(m, .inr (13, [.ref nw, .ref bf, .ref sv, .ref hy, .int iS, .int rmb, .int eA, .int fA, .ref tx, .int tyd, .ref li, .int ldd, .int (nI (cd 2 (pwX 2 s x y z))), .int siz, .int spt, .int wrg, .int tld, .ref nmb])), (nw, .inl (gI G, 72, .inl σ))]) (by rw [hpw]; rfl) ?_
          exact hE 68 _ 0 σ dX13_splits_68 rfl (Or.inr ⟨by rw [hpw]; decide, rfl, rfl⟩)
      · refine V.aload_n hC (x := m) dX13_splits_44 rfl ?_
        refine V.getf hC (T := TX13) q0_ 0 q1_ rfl (0) rfl rfl (by decide) (.ref nw) rfl dX13_splits_45 ?_
        refine V.iconst hC 0 dX13_splits_48 rfl ?_
        refine V.iald hC dX13_splits_49 (1) rfl 0 rfl (by omega) (by decide) ?_
        refine V.topeq (nI (sNb s)) hR.1 ?_
        refine V.iload_n hC (x := y) dX13_splits_50 rfl ?_
        refine V.icmp_lt hC 58 dX13_splits_51 rfl (fun c_51 => ?_) (fun c_51 => ?_)
        · refine V.iconst hC 0 dX13_splits_58 rfl ?_
          refine V.iconst hC 1 dX13_splits_59 rfl ?_
          refine V.iconst hC 1 dX13_splits_60 rfl ?_
          refine V.callV (n := 4) (As := [.int 0, .int 0, .int 1, .int 1]) (rest := []) hC (m_allows (kl K) G m nw bf sv hy tx li nmb iS rmb eA fA tyd ldd thr siz spt wrg tld 0 0 1 1) SFk0 SFgo0 gX13_splits_X13_allows rfl ⟨rfl, rfl⟩ (by decide +kernel) ⟨by decide, by decide, by decide, by decide⟩ [0] rfl (by decide) (fun _ => rfl) rfl rfl rfl rfl (Nat.le_of_ble_eq_true rfl) dX13_splits_61 (fun r_61 u_61 hp_61 => ?_)
          subst hp_61
          show V G K 7 0 0 64 [some (.ref m), some (.int x), some (.int y), some (.int z), some (.int 0), none, none] [.int (if alw 0 0 1 1 = 0 then 1 else 0)] [(m, .inr (13, [.ref nw, .ref bf, .ref sv, .ref hy, .int iS, .int rmb, .int eA, .int fA, .ref tx, .int tyd, .ref li, .int ldd, .int (nI (alw 0 0 1 1)), .int siz, .int spt, .int wrg, .int tld, .ref nmb])), (nw, .inl (gI G, 72, .inl σ))]
          have ha_61 : alw 0 0 1 1 = 1 := by rfl
          refine V.topeq (nI 0) (by rw [ha_61]; rfl) ?_
          refine V.eqw (ws' := [(m, .inr (13, [.ref nw, .ref bf, .ref sv, .ref hy, .int iS, .int rmb, .int eA, .int fA, .ref tx, .int tyd, .ref li, .int ldd, .int (nI 1), .int siz, .int spt, .int wrg, .int tld, .ref nmb])), (nw, .inl (gI G, 72, .inl σ))]) (by rw [ha_61]) ?_
          refine V.ifN_ne hC 0 69 dX13_splits_64 rfl rfl (by omega) (fun c_64 => ?_) (fun c_64 => ?_)
          · exact absurd c_64 (by decide)
          · refine V.iconst hC 0 dX13_splits_67 rfl ?_
            have hpw : pwX 2 s x y z = 1 := (show pwS (sNb s) (sNs s) x y z = 1 from pwS_1b (if10 c_13))
            refine V.eqw (ws' := [(m, .inr (13, [.ref nw, .ref bf, .ref sv, .ref hy, .int iS, .int rmb, .int eA, .int fA, .ref tx, .int tyd, .ref li, .int ldd, .int (nI (cd 2 (pwX 2 s x y z))), .int siz, .int spt, .int wrg, .int tld, .ref nmb])), (nw, .inl (gI G, 72, .inl σ))]) (by rw [hpw]; rfl) ?_
            exact hE 68 _ 0 σ dX13_splits_68 rfl (Or.inr ⟨by rw [hpw]; decide, rfl, rfl⟩)
        · refine V.iconst hC 1 dX13_splits_54 rfl ?_
          refine V.goto hC 59 dX13_splits_55 rfl ?_
          refine V.iconst hC 1 dX13_splits_59 rfl ?_
          refine V.iconst hC 1 dX13_splits_60 rfl ?_
          refine V.callV (n := 4) (As := [.int 0, .int 1, .int 1, .int 1]) (rest := []) hC (m_allows (kl K) G m nw bf sv hy tx li nmb iS rmb eA fA tyd ldd thr siz spt wrg tld 0 1 1 1) SFk0 SFgo0 gX13_splits_X13_allows rfl ⟨rfl, rfl⟩ (by decide +kernel) ⟨by decide, by decide, by decide, by decide⟩ [0] rfl (by decide) (fun _ => rfl) rfl rfl rfl rfl (Nat.le_of_ble_eq_true rfl) dX13_splits_61 (fun r_61 u_61 hp_61 => ?_)
          subst hp_61
          show V G K 7 0 0 64 [some (.ref m), some (.int x), some (.int y), some (.int z), some (.int 0), none, none] [.int (if alw 0 1 1 1 = 0 then 1 else 0)] [(m, .inr (13, [.ref nw, .ref bf, .ref sv, .ref hy, .int iS, .int rmb, .int eA, .int fA, .ref tx, .int tyd, .ref li, .int ldd, .int (nI (alw 0 1 1 1)), .int siz, .int spt, .int wrg, .int tld, .ref nmb])), (nw, .inl (gI G, 72, .inl σ))]
          have ha_61 : alw 0 1 1 1 = 1 := by rfl
          refine V.topeq (nI 0) (by rw [ha_61]; rfl) ?_
          refine V.eqw (ws' := [(m, .inr (13, [.ref nw, .ref bf, .ref sv, .ref hy, .int iS, .int rmb, .int eA, .int fA, .ref tx, .int tyd, .ref li, .int ldd, .int (nI 1), .int siz, .int spt, .int wrg, .int tld, .ref nmb])), (nw, .inl (gI G, 72, .inl σ))]) (by rw [ha_61]) ?_
          refine V.ifN_ne hC 0 69 dX13_splits_64 rfl rfl (by omega) (fun c_64 => ?_) (fun c_64 => ?_)
          · exact absurd c_64 (by decide)
          · refine V.iconst hC 0 dX13_splits_67 rfl ?_
            have hpw : pwX 2 s x y z = 1 := (show pwS (sNb s) (sNs s) x y z = 1 from pwS_1b (if10 c_13))
            refine V.eqw (ws' := [(m, .inr (13, [.ref nw, .ref bf, .ref sv, .ref hy, .int iS, .int rmb, .int eA, .int fA, .ref tx, .int tyd, .ref li, .int ldd, .int (nI (cd 2 (pwX 2 s x y z))), .int siz, .int spt, .int wrg, .int tld, .ref nmb])), (nw, .inl (gI G, 72, .inl σ))]) (by rw [hpw]; rfl) ?_
            exact hE 68 _ 0 σ dX13_splits_68 rfl (Or.inr ⟨by rw [hpw]; decide, rfl, rfl⟩)
    · refine V.iload_n hC (x := z) dX13_splits_16 rfl ?_
      refine V.callSr (n := 1) (As := [.int z]) (rest := []) hC (m_isNumber (kl K) G z) SFk0 SFgo0 gX13_splits_X13_isNumber rfl ⟨rfl, rfl⟩ (by decide +kernel) ⟨by decide, by decide, by decide, by decide⟩ [] rfl (by decide) rfl rfl (Nat.le_of_ble_eq_true rfl) dX13_splits_17 (fun r_17 u_17 hp_17 => ?_)
      subst hp_17
      show V G K 7 0 0 20 [some (.ref m), some (.int x), some (.int y), some (.int z), none, none, none] [.int (if isR z then 1 else 0)] [(m, .inr (13, [.ref nw, .ref bf, .ref sv, .ref hy, .int iS, .int rmb, .int eA, .int fA, .ref tx, .int tyd, .ref li, .int ldd, .int thr, .int siz, .int spt, .int wrg, .int tld, .ref nmb])), (nw, .inl (gI G, 72, .inl σ))]
      refine V.if_eq hC 27 dX13_splits_20 rfl (fun c_20 => ?_) (fun c_20 => ?_)
      · refine V.iconst hC 0 dX13_splits_27 rfl ?_
        refine V.istore hC dX13_splits_28 [some (.ref m), some (.int x), some (.int y), some (.int z), some (.int 0), none, none] (Nat.le_of_ble_eq_true rfl) rfl ?_
        refine V.aload_n hC (x := m) dX13_splits_30 rfl ?_
        refine V.iload hC (x := 0) dX13_splits_31 rfl ?_
        refine V.aload_n hC (x := m) dX13_splits_33 rfl ?_
        refine V.getf hC (T := TX13) q0_ 0 q1_ rfl (0) rfl rfl (by decide) (.ref nw) rfl dX13_splits_34 ?_
        refine V.iconst hC 1 dX13_splits_37 rfl ?_
        refine V.iald hC dX13_splits_38 (1) rfl 1 rfl (by omega) (by decide) ?_
        refine V.topeq (nI (sNs s)) hR.2.1 ?_
        refine V.bipush hC 6 dX13_splits_39 rfl ?_
        refine V.icmpN_ge hC (sNs s) 6 58 dX13_splits_41 rfl rfl rfl (by omega) (by omega) (fun c_41 => ?_) (fun c_41 => ?_)
        · refine V.iconst hC 0 dX13_splits_58 rfl ?_
          refine V.iconst hC 1 dX13_splits_59 rfl ?_
          refine V.iconst hC 1 dX13_splits_60 rfl ?_
          refine V.callV (n := 4) (As := [.int 0, .int 0, .int 1, .int 1]) (rest := []) hC (m_allows (kl K) G m nw bf sv hy tx li nmb iS rmb eA fA tyd ldd thr siz spt wrg tld 0 0 1 1) SFk0 SFgo0 gX13_splits_X13_allows rfl ⟨rfl, rfl⟩ (by decide +kernel) ⟨by decide, by decide, by decide, by decide⟩ [0] rfl (by decide) (fun _ => rfl) rfl rfl rfl rfl (Nat.le_of_ble_eq_true rfl) dX13_splits_61 (fun r_61 u_61 hp_61 => ?_)
          subst hp_61
          show V G K 7 0 0 64 [some (.ref m), some (.int x), some (.int y), some (.int z), some (.int 0), none, none] [.int (if alw 0 0 1 1 = 0 then 1 else 0)] [(m, .inr (13, [.ref nw, .ref bf, .ref sv, .ref hy, .int iS, .int rmb, .int eA, .int fA, .ref tx, .int tyd, .ref li, .int ldd, .int (nI (alw 0 0 1 1)), .int siz, .int spt, .int wrg, .int tld, .ref nmb])), (nw, .inl (gI G, 72, .inl σ))]
          have ha_61 : alw 0 0 1 1 = 1 := by rfl
          refine V.topeq (nI 0) (by rw [ha_61]; rfl) ?_
          refine V.eqw (ws' := [(m, .inr (13, [.ref nw, .ref bf, .ref sv, .ref hy, .int iS, .int rmb, .int eA, .int fA, .ref tx, .int tyd, .ref li, .int ldd, .int (nI 1), .int siz, .int spt, .int wrg, .int tld, .ref nmb])), (nw, .inl (gI G, 72, .inl σ))]) (by rw [ha_61]) ?_
          refine V.ifN_ne hC 0 69 dX13_splits_64 rfl rfl (by omega) (fun c_64 => ?_) (fun c_64 => ?_)
          · exact absurd c_64 (by decide)
          · refine V.iconst hC 0 dX13_splits_67 rfl ?_
            have hpw : pwX 2 s x y z = 1 := (show pwS (sNb s) (sNs s) x y z = 1 from pwS_1c (if10 c_20))
            refine V.eqw (ws' := [(m, .inr (13, [.ref nw, .ref bf, .ref sv, .ref hy, .int iS, .int rmb, .int eA, .int fA, .ref tx, .int tyd, .ref li, .int ldd, .int (nI (cd 2 (pwX 2 s x y z))), .int siz, .int spt, .int wrg, .int tld, .ref nmb])), (nw, .inl (gI G, 72, .inl σ))]) (by rw [hpw]; rfl) ?_
            exact hE 68 _ 0 σ dX13_splits_68 rfl (Or.inr ⟨by rw [hpw]; decide, rfl, rfl⟩)
        · refine V.aload_n hC (x := m) dX13_splits_44 rfl ?_
          refine V.getf hC (T := TX13) q0_ 0 q1_ rfl (0) rfl rfl (by decide) (.ref nw) rfl dX13_splits_45 ?_
          refine V.iconst hC 0 dX13_splits_48 rfl ?_
          refine V.iald hC dX13_splits_49 (1) rfl 0 rfl (by omega) (by decide) ?_
          refine V.topeq (nI (sNb s)) hR.1 ?_
          refine V.iload_n hC (x := y) dX13_splits_50 rfl ?_
          refine V.icmp_lt hC 58 dX13_splits_51 rfl (fun c_51 => ?_) (fun c_51 => ?_)
          · refine V.iconst hC 0 dX13_splits_58 rfl ?_
            refine V.iconst hC 1 dX13_splits_59 rfl ?_
            refine V.iconst hC 1 dX13_splits_60 rfl ?_
            refine V.callV (n := 4) (As := [.int 0, .int 0, .int 1, .int 1]) (rest := []) hC (m_allows (kl K) G m nw bf sv hy tx li nmb iS rmb eA fA tyd ldd thr siz spt wrg tld 0 0 1 1) SFk0 SFgo0 gX13_splits_X13_allows rfl ⟨rfl, rfl⟩ (by decide +kernel) ⟨by decide, by decide, by decide, by decide⟩ [0] rfl (by decide) (fun _ => rfl) rfl rfl rfl rfl (Nat.le_of_ble_eq_true rfl) dX13_splits_61 (fun r_61 u_61 hp_61 => ?_)
            subst hp_61
            show V G K 7 0 0 64 [some (.ref m), some (.int x), some (.int y), some (.int z), some (.int 0), none, none] [.int (if alw 0 0 1 1 = 0 then 1 else 0)] [(m, .inr (13, [.ref nw, .ref bf, .ref sv, .ref hy, .int iS, .int rmb, .int eA, .int fA, .ref tx, .int tyd, .ref li, .int ldd, .int (nI (alw 0 0 1 1)), .int siz, .int spt, .int wrg, .int tld, .ref nmb])), (nw, .inl (gI G, 72, .inl σ))]
            have ha_61 : alw 0 0 1 1 = 1 := by rfl
            refine V.topeq (nI 0) (by rw [ha_61]; rfl) ?_
            refine V.eqw (ws' := [(m, .inr (13, [.ref nw, .ref bf, .ref sv, .ref hy, .int iS, .int rmb, .int eA, .int fA, .ref tx, .int tyd, .ref li, .int ldd, .int (nI 1), .int siz, .int spt, .int wrg, .int tld, .ref nmb])), (nw, .inl (gI G, 72, .inl σ))]) (by rw [ha_61]) ?_
            refine V.ifN_ne hC 0 69 dX13_splits_64 rfl rfl (by omega) (fun c_64 => ?_) (fun c_64 => ?_)
            · exact absurd c_64 (by decide)
            · refine V.iconst hC 0 dX13_splits_67 rfl ?_
              have hpw : pwX 2 s x y z = 1 := (show pwS (sNb s) (sNs s) x y z = 1 from pwS_1c (if10 c_20))
              refine V.eqw (ws' := [(m, .inr (13, [.ref nw, .ref bf, .ref sv, .ref hy, .int iS, .int rmb, .int eA, .int fA, .ref tx, .int tyd, .ref li, .int ldd, .int (nI (cd 2 (pwX 2 s x y z))), .int siz, .int spt, .int wrg, .int tld, .ref nmb])), (nw, .inl (gI G, 72, .inl σ))]) (by rw [hpw]; rfl) ?_
              exact hE 68 _ 0 σ dX13_splits_68 rfl (Or.inr ⟨by rw [hpw]; decide, rfl, rfl⟩)
          · refine V.iconst hC 1 dX13_splits_54 rfl ?_
            refine V.goto hC 59 dX13_splits_55 rfl ?_
            refine V.iconst hC 1 dX13_splits_59 rfl ?_
            refine V.iconst hC 1 dX13_splits_60 rfl ?_
            refine V.callV (n := 4) (As := [.int 0, .int 1, .int 1, .int 1]) (rest := []) hC (m_allows (kl K) G m nw bf sv hy tx li nmb iS rmb eA fA tyd ldd thr siz spt wrg tld 0 1 1 1) SFk0 SFgo0 gX13_splits_X13_allows rfl ⟨rfl, rfl⟩ (by decide +kernel) ⟨by decide, by decide, by decide, by decide⟩ [0] rfl (by decide) (fun _ => rfl) rfl rfl rfl rfl (Nat.le_of_ble_eq_true rfl) dX13_splits_61 (fun r_61 u_61 hp_61 => ?_)
            subst hp_61
            show V G K 7 0 0 64 [some (.ref m), some (.int x), some (.int y), some (.int z), some (.int 0), none, none] [.int (if alw 0 1 1 1 = 0 then 1 else 0)] [(m, .inr (13, [.ref nw, .ref bf, .ref sv, .ref hy, .int iS, .int rmb, .int eA, .int fA, .ref tx, .int tyd, .ref li, .int ldd, .int (nI (alw 0 1 1 1)), .int siz, .int spt, .int wrg, .int tld, .ref nmb])), (nw, .inl (gI G, 72, .inl σ))]
            have ha_61 : alw 0 1 1 1 = 1 := by rfl
            refine V.topeq (nI 0) (by rw [ha_61]; rfl) ?_
            refine V.eqw (ws' := [(m, .inr (13, [.ref nw, .ref bf, .ref sv, .ref hy, .int iS, .int rmb, .int eA, .int fA, .ref tx, .int tyd, .ref li, .int ldd, .int (nI 1), .int siz, .int spt, .int wrg, .int tld, .ref nmb])), (nw, .inl (gI G, 72, .inl σ))]) (by rw [ha_61]) ?_
            refine V.ifN_ne hC 0 69 dX13_splits_64 rfl rfl (by omega) (fun c_64 => ?_) (fun c_64 => ?_)
            · exact absurd c_64 (by decide)
            · refine V.iconst hC 0 dX13_splits_67 rfl ?_
              have hpw : pwX 2 s x y z = 1 := (show pwS (sNb s) (sNs s) x y z = 1 from pwS_1c (if10 c_20))
              refine V.eqw (ws' := [(m, .inr (13, [.ref nw, .ref bf, .ref sv, .ref hy, .int iS, .int rmb, .int eA, .int fA, .ref tx, .int tyd, .ref li, .int ldd, .int (nI (cd 2 (pwX 2 s x y z))), .int siz, .int spt, .int wrg, .int tld, .ref nmb])), (nw, .inl (gI G, 72, .inl σ))]) (by rw [hpw]; rfl) ?_
              exact hE 68 _ 0 σ dX13_splits_68 rfl (Or.inr ⟨by rw [hpw]; decide, rfl, rfl⟩)
      · refine V.iconst hC 1 dX13_splits_23 rfl ?_
        refine V.goto hC 28 dX13_splits_24 rfl ?_
        refine V.istore hC dX13_splits_28 [some (.ref m), some (.int x), some (.int y), some (.int z), some (.int 1), none, none] (Nat.le_of_ble_eq_true rfl) rfl ?_
        refine V.aload_n hC (x := m) dX13_splits_30 rfl ?_
        refine V.iload hC (x := 1) dX13_splits_31 rfl ?_
        refine V.aload_n hC (x := m) dX13_splits_33 rfl ?_
        refine V.getf hC (T := TX13) q0_ 0 q1_ rfl (0) rfl rfl (by decide) (.ref nw) rfl dX13_splits_34 ?_
        refine V.iconst hC 1 dX13_splits_37 rfl ?_
        refine V.iald hC dX13_splits_38 (1) rfl 1 rfl (by omega) (by decide) ?_
        refine V.topeq (nI (sNs s)) hR.2.1 ?_
        refine V.bipush hC 6 dX13_splits_39 rfl ?_
        refine V.icmpN_ge hC (sNs s) 6 58 dX13_splits_41 rfl rfl rfl (by omega) (by omega) (fun c_41 => ?_) (fun c_41 => ?_)
        · refine V.iconst hC 0 dX13_splits_58 rfl ?_
          refine V.iconst hC 1 dX13_splits_59 rfl ?_
          refine V.iconst hC 1 dX13_splits_60 rfl ?_
          refine V.callV (n := 4) (As := [.int 1, .int 0, .int 1, .int 1]) (rest := []) hC (m_allows (kl K) G m nw bf sv hy tx li nmb iS rmb eA fA tyd ldd thr siz spt wrg tld 1 0 1 1) SFk0 SFgo0 gX13_splits_X13_allows rfl ⟨rfl, rfl⟩ (by decide +kernel) ⟨by decide, by decide, by decide, by decide⟩ [0] rfl (by decide) (fun _ => rfl) rfl rfl rfl rfl (Nat.le_of_ble_eq_true rfl) dX13_splits_61 (fun r_61 u_61 hp_61 => ?_)
          subst hp_61
          show V G K 7 0 0 64 [some (.ref m), some (.int x), some (.int y), some (.int z), some (.int 1), none, none] [.int (if alw 1 0 1 1 = 0 then 1 else 0)] [(m, .inr (13, [.ref nw, .ref bf, .ref sv, .ref hy, .int iS, .int rmb, .int eA, .int fA, .ref tx, .int tyd, .ref li, .int ldd, .int (nI (alw 1 0 1 1)), .int siz, .int spt, .int wrg, .int tld, .ref nmb])), (nw, .inl (gI G, 72, .inl σ))]
          have ha_61 : alw 1 0 1 1 = 2 := by rfl
          refine V.topeq (nI 0) (by rw [ha_61]; rfl) ?_
          refine V.eqw (ws' := [(m, .inr (13, [.ref nw, .ref bf, .ref sv, .ref hy, .int iS, .int rmb, .int eA, .int fA, .ref tx, .int tyd, .ref li, .int ldd, .int (nI 2), .int siz, .int spt, .int wrg, .int tld, .ref nmb])), (nw, .inl (gI G, 72, .inl σ))]) (by rw [ha_61]) ?_
          refine V.ifN_ne hC 0 69 dX13_splits_64 rfl rfl (by omega) (fun c_64 => ?_) (fun c_64 => ?_)
          · exact absurd c_64 (by decide)
          · refine V.iconst hC 0 dX13_splits_67 rfl ?_
            have hpw : pwX 2 s x y z = 4 := (show pwS (sNb s) (sNs s) x y z = 4 from (pwS_r (if10n c_4) (if10n c_13) (if10n c_20)).trans (if_pos c_41))
            refine V.eqw (ws' := [(m, .inr (13, [.ref nw, .ref bf, .ref sv, .ref hy, .int iS, .int rmb, .int eA, .int fA, .ref tx, .int tyd, .ref li, .int ldd, .int (nI (cd 2 (pwX 2 s x y z))), .int siz, .int spt, .int wrg, .int tld, .ref nmb])), (nw, .inl (gI G, 72, .inl σ))]) (by rw [hpw]; rfl) ?_
            exact hE 68 _ 0 σ dX13_splits_68 rfl (Or.inr ⟨by rw [hpw]; decide, rfl, rfl⟩)
        · refine V.aload_n hC (x := m) dX13_splits_44 rfl ?_
          refine V.getf hC (T := TX13) q0_ 0 q1_ rfl (0) rfl rfl (by decide) (.ref nw) rfl dX13_splits_45 ?_
          refine V.iconst hC 0 dX13_splits_48 rfl ?_
          refine V.iald hC dX13_splits_49 (1) rfl 0 rfl (by omega) (by decide) ?_
          refine V.topeq (nI (sNb s)) hR.1 ?_
          refine V.iload_n hC (x := y) dX13_splits_50 rfl ?_
          refine V.icmp_lt hC 58 dX13_splits_51 rfl (fun c_51 => ?_) (fun c_51 => ?_)
          · refine V.iconst hC 0 dX13_splits_58 rfl ?_
            refine V.iconst hC 1 dX13_splits_59 rfl ?_
            refine V.iconst hC 1 dX13_splits_60 rfl ?_
            refine V.callV (n := 4) (As := [.int 1, .int 0, .int 1, .int 1]) (rest := []) hC (m_allows (kl K) G m nw bf sv hy tx li nmb iS rmb eA fA tyd ldd thr siz spt wrg tld 1 0 1 1) SFk0 SFgo0 gX13_splits_X13_allows rfl ⟨rfl, rfl⟩ (by decide +kernel) ⟨by decide, by decide, by decide, by decide⟩ [0] rfl (by decide) (fun _ => rfl) rfl rfl rfl rfl (Nat.le_of_ble_eq_true rfl) dX13_splits_61 (fun r_61 u_61 hp_61 => ?_)
            subst hp_61
            show V G K 7 0 0 64 [some (.ref m), some (.int x), some (.int y), some (.int z), some (.int 1), none, none] [.int (if alw 1 0 1 1 = 0 then 1 else 0)] [(m, .inr (13, [.ref nw, .ref bf, .ref sv, .ref hy, .int iS, .int rmb, .int eA, .int fA, .ref tx, .int tyd, .ref li, .int ldd, .int (nI (alw 1 0 1 1)), .int siz, .int spt, .int wrg, .int tld, .ref nmb])), (nw, .inl (gI G, 72, .inl σ))]
            have ha_61 : alw 1 0 1 1 = 2 := by rfl
            refine V.topeq (nI 0) (by rw [ha_61]; rfl) ?_
            refine V.eqw (ws' := [(m, .inr (13, [.ref nw, .ref bf, .ref sv, .ref hy, .int iS, .int rmb, .int eA, .int fA, .ref tx, .int tyd, .ref li, .int ldd, .int (nI 2), .int siz, .int spt, .int wrg, .int tld, .ref nmb])), (nw, .inl (gI G, 72, .inl σ))]) (by rw [ha_61]) ?_
            refine V.ifN_ne hC 0 69 dX13_splits_64 rfl rfl (by omega) (fun c_64 => ?_) (fun c_64 => ?_)
            · exact absurd c_64 (by decide)
            · refine V.iconst hC 0 dX13_splits_67 rfl ?_
              have hpw : pwX 2 s x y z = 4 := (show pwS (sNb s) (sNs s) x y z = 4 from (pwS_r (if10n c_4) (if10n c_13) (if10n c_20)).trans ((if_neg (by omega)).trans (if_pos c_51)))
              refine V.eqw (ws' := [(m, .inr (13, [.ref nw, .ref bf, .ref sv, .ref hy, .int iS, .int rmb, .int eA, .int fA, .ref tx, .int tyd, .ref li, .int ldd, .int (nI (cd 2 (pwX 2 s x y z))), .int siz, .int spt, .int wrg, .int tld, .ref nmb])), (nw, .inl (gI G, 72, .inl σ))]) (by rw [hpw]; rfl) ?_
              exact hE 68 _ 0 σ dX13_splits_68 rfl (Or.inr ⟨by rw [hpw]; decide, rfl, rfl⟩)
          · refine V.iconst hC 1 dX13_splits_54 rfl ?_
            refine V.goto hC 59 dX13_splits_55 rfl ?_
            refine V.iconst hC 1 dX13_splits_59 rfl ?_
            refine V.iconst hC 1 dX13_splits_60 rfl ?_
            refine V.callV (n := 4) (As := [.int 1, .int 1, .int 1, .int 1]) (rest := []) hC (m_allows (kl K) G m nw bf sv hy tx li nmb iS rmb eA fA tyd ldd thr siz spt wrg tld 1 1 1 1) SFk0 SFgo0 gX13_splits_X13_allows rfl ⟨rfl, rfl⟩ (by decide +kernel) ⟨by decide, by decide, by decide, by decide⟩ [0] rfl (by decide) (fun _ => rfl) rfl rfl rfl rfl (Nat.le_of_ble_eq_true rfl) dX13_splits_61 (fun r_61 u_61 hp_61 => ?_)
            subst hp_61
            show V G K 7 0 0 64 [some (.ref m), some (.int x), some (.int y), some (.int z), some (.int 1), none, none] [.int (if alw 1 1 1 1 = 0 then 1 else 0)] [(m, .inr (13, [.ref nw, .ref bf, .ref sv, .ref hy, .int iS, .int rmb, .int eA, .int fA, .ref tx, .int tyd, .ref li, .int ldd, .int (nI (alw 1 1 1 1)), .int siz, .int spt, .int wrg, .int tld, .ref nmb])), (nw, .inl (gI G, 72, .inl σ))]
            have ha_61 : alw 1 1 1 1 = 0 := by rfl
            refine V.topeq (nI 1) (by rw [ha_61]; rfl) ?_
            refine V.eqw (ws' := [(m, .inr (13, [.ref nw, .ref bf, .ref sv, .ref hy, .int iS, .int rmb, .int eA, .int fA, .ref tx, .int tyd, .ref li, .int ldd, .int (nI 0), .int siz, .int spt, .int wrg, .int tld, .ref nmb])), (nw, .inl (gI G, 72, .inl σ))]) (by rw [ha_61]) ?_
            refine V.ifN_ne hC 1 69 dX13_splits_64 rfl rfl (by omega) (fun c_64 => ?_) (fun c_64 => ?_)
            · obtain ⟨v, hv, hxv⟩ := isR_nat (if10n c_4)
              obtain ⟨sd, hsd, hzsd⟩ := isR_nat (if10n c_20)
              obtain ⟨t, ht, hyt⟩ := i32_nat (n := 5) (x := y) (by decide) ⟨fun q => (if10n c_13).1 (Int32.lt_trans q (by decide)), Int32.lt_of_le_of_lt (Int32.not_lt.mp (if10n c_13).2) (by decide)⟩
              have ht1 : 1 ≤ t := Nat.le_of_not_lt (fun q => (if10n c_13).1 (by rw [hyt]; exact nI_lt (a := t) (b := 1) q (by decide)))
              have hcx : x.toNatClampNeg = v := by rw [hxv, nI_clamp (by omega)]
              have hcz : z.toNatClampNeg = sd := by rw [hzsd, nI_clamp (by omega)]
              have hcy : y.toNatClampNeg = t := by rw [hyt, nI_clamp (by omega)]
              refine V.lset 1 (x := .int x) (y := .int (nI v)) (congrArg Value.int hxv) rfl (lv' := [some (.ref m), some (.int (nI v)), some (.int y), some (.int z), some (.int 1), none, none]) rfl ?_
              refine V.lset 2 (x := .int y) (y := .int (nI t)) (congrArg Value.int hyt) rfl (lv' := [some (.ref m), some (.int (nI v)), some (.int (nI t)), some (.int z), some (.int 1), none, none]) rfl ?_
              refine V.lset 3 (x := .int z) (y := .int (nI sd)) (congrArg Value.int hzsd) rfl (lv' := [some (.ref m), some (.int (nI v)), some (.int (nI t)), some (.int (nI sd)), some (.int 1), none, none]) rfl ?_
              refine V.bipush hC 12 dX13_splits_69 rfl ?_
              refine V.bipush hC 10 dX13_splits_71 rfl ?_
              refine V.aload_n hC (x := m) dX13_splits_73 rfl ?_
              refine V.getf hC (T := TX13) q0_ 0 q1_ rfl (0) rfl rfl (by decide) (.ref nw) rfl dX13_splits_74 ?_
              refine V.iconst hC 1 dX13_splits_77 rfl ?_
              refine V.iald hC dX13_splits_78 (1) rfl 1 rfl (by omega) (by decide) ?_
              refine V.topeq (nI (sNs s)) hR.2.1 ?_
              refine V.imulN hC 10 (sNs s) dX13_splits_79 rfl rfl ?_
              refine V.iaddN hC 12 (10 * (sNs s)) dX13_splits_80 rfl rfl ?_
              refine V.istore hC dX13_splits_81 [some (.ref m), some (.int (nI v)), some (.int (nI t)), some (.int (nI sd)), some (.int 1), some (.int (nI (12 + (10 * (sNs s))))), none] (Nat.le_of_ble_eq_true rfl) rfl ?_
              refine V.aload_n hC (x := m) dX13_splits_83 rfl ?_
              refine V.getf hC (T := TX13) q0_ 0 q1_ rfl (0) rfl rfl (by decide) (.ref nw) rfl dX13_splits_84 ?_
              refine V.iconst hC 2 dX13_splits_87 rfl ?_
              refine V.dup2 hC dX13_splits_88 rfl rfl ?_
              refine V.iald hC dX13_splits_89 (1) rfl 2 rfl (by omega) (by decide) ?_
              refine V.iconst hC 1 dX13_splits_90 rfl ?_
              refine V.iadd hC dX13_splits_91 ?_
              refine V.topeq (sLa s + 1) (by rw [hR.2.2.1]) ?_
              refine V.iast hC dX13_splits_92 (1) rfl 2 rfl (by omega) (by decide) [(m, .inr (13, [.ref nw, .ref bf, .ref sv, .ref hy, .int iS, .int rmb, .int eA, .int fA, .ref tx, .int tyd, .ref li, .int ldd, .int (nI 0), .int siz, .int spt, .int wrg, .int tld, .ref nmb])), (nw, .inl (gI G, 72, .inl (upd σ 2 (sLa s + 1))))] rfl ?_
              refine V.aload_n hC (x := m) dX13_splits_93 rfl ?_
              refine V.getf hC (T := TX13) q0_ 0 q1_ rfl (0) rfl rfl (by decide) (.ref nw) rfl dX13_splits_94 ?_
              refine V.iload hC (x := nI (12 + (10 * (sNs s)))) dX13_splits_97 rfl ?_
              refine V.iconst hC 0 dX13_splits_99 rfl ?_
              refine V.iaddN hC (12 + (10 * (sNs s))) 0 dX13_splits_100 rfl rfl ?_
              refine V.aload_n hC (x := m) dX13_splits_101 rfl ?_
              refine V.getf hC (T := TX13) q0_ 0 q1_ rfl (0) rfl rfl (by decide) (.ref nw) rfl dX13_splits_102 ?_
              refine V.iconst hC 2 dX13_splits_105 rfl ?_
              refine V.iald hC dX13_splits_106 (1) rfl 2 rfl (by omega) (by decide) ?_
              refine V.topeq (sLa s + 1) pk_us ?_
              refine V.iast hC dX13_splits_107 (1) rfl ((12 + (10 * (sNs s))) + 0) rfl (by omega) (by decide) [(m, .inr (13, [.ref nw, .ref bf, .ref sv, .ref hy, .int iS, .int rmb, .int eA, .int fA, .ref tx, .int tyd, .ref li, .int ldd, .int (nI 0), .int siz, .int spt, .int wrg, .int tld, .ref nmb])), (nw, .inl (gI G, 72, .inl (upd (upd σ 2 (sLa s + 1)) ((12 + (10 * (sNs s))) + 0) (sLa s + 1))))] rfl ?_
              refine V.aload_n hC (x := m) dX13_splits_108 rfl ?_
              refine V.getf hC (T := TX13) q0_ 0 q1_ rfl (0) rfl rfl (by decide) (.ref nw) rfl dX13_splits_109 ?_
              refine V.iload hC (x := nI (12 + (10 * (sNs s)))) dX13_splits_112 rfl ?_
              refine V.iconst hC 1 dX13_splits_114 rfl ?_
              refine V.iaddN hC (12 + (10 * (sNs s))) 1 dX13_splits_115 rfl rfl ?_
              refine V.iload_n hC (x := nI t) dX13_splits_116 rfl ?_
              refine V.iast hC dX13_splits_117 (1) rfl ((12 + (10 * (sNs s))) + 1) rfl (by omega) (by decide) [(m, .inr (13, [.ref nw, .ref bf, .ref sv, .ref hy, .int iS, .int rmb, .int eA, .int fA, .ref tx, .int tyd, .ref li, .int ldd, .int (nI 0), .int siz, .int spt, .int wrg, .int tld, .ref nmb])), (nw, .inl (gI G, 72, .inl (upd (upd (upd σ 2 (sLa s + 1)) ((12 + (10 * (sNs s))) + 0) (sLa s + 1)) ((12 + (10 * (sNs s))) + 1) (nI t))))] rfl ?_
              refine V.ext (1) (g := (spq σ (sNs s) (sLa s + 1) (nI t) (flf (dl v sd t) (fun _ => -1) (sNb s)) 0)) rfl (fun z _ => congrFun (show upd (upd (upd σ 2 (sLa s + 1)) ((12 + (10 * (sNs s))) + 0) (sLa s + 1)) ((12 + (10 * (sNs s))) + 1) (nI t) = (spq σ (sNs s) (sLa s + 1) (nI t) (flf (dl v sd t) (fun _ => -1) (sNb s)) 0) from (by rw [show 12 + 10 * sNs s + 1 = 13 + 10 * sNs s by omega]; rfl)) z) (ws' := [(m, .inr (13, [.ref nw, .ref bf, .ref sv, .ref hy, .int iS, .int rmb, .int eA, .int fA, .ref tx, .int tyd, .ref li, .int ldd, .int (nI 0), .int siz, .int spt, .int wrg, .int tld, .ref nmb])), (nw, .inl (gI G, 72, .inl (spq σ (sNs s) (sLa s + 1) (nI t) (flf (dl v sd t) (fun _ => -1) (sNb s)) 0)))]) rfl ?_
              refine V.iconst hC 0 dX13_splits_118 rfl ?_
              refine V.istore hC dX13_splits_119 [some (.ref m), some (.int (nI v)), some (.int (nI t)), some (.int (nI sd)), some (.int 1), some (.int (nI (12 + (10 * (sNs s))))), some (.int 0)] (Nat.le_of_ble_eq_true rfl) rfl ?_
              have loop121 : ∀ (n : Nat) (b : Nat), 8 - b < n → (b ≤ 8) → V G K 7 0 0 121 [some (.ref m), some (.int (nI v)), some (.int (nI t)), some (.int (nI sd)), some (.int (nI 1)), some (.int (nI (12 + 10 * sNs s))), some (.int (nI b))] [] [(m, .inr (13, [.ref nw, .ref bf, .ref sv, .ref hy, .int iS, .int rmb, .int eA, .int fA, .ref tx, .int tyd, .ref li, .int ldd, .int (nI 0), .int siz, .int spt, .int wrg, .int tld, .ref nmb])), (nw, .inl (gI G, 72, .inl (spq σ (sNs s) (sLa s + 1) (nI t) (flf (dl v sd t) (fun _ => -1) (sNb s)) b)))] := by
                intro n
                induction n with
                | zero => intro b hlt; exact absurd hlt (Nat.not_lt_zero _)
                | succ n ih121 =>
                  intro b hlt121 hb
                  refine V.iload hC (x := nI b) dX13_splits_121 rfl ?_
                  refine V.bipush hC 8 dX13_splits_123 rfl ?_
                  refine V.icmpN_ge hC b 8 176 dX13_splits_125 rfl rfl rfl (by omega) (by omega) (fun c_125 => ?_) (fun c_125 => ?_)
                  · refine V.ext (1) (g := (spq σ (sNs s) (sLa s + 1) (nI t) (flf (dl v sd t) (fun _ => -1) (sNb s)) 8)) rfl (fun z _ => congrFun (show (spq σ (sNs s) (sLa s + 1) (nI t) (flf (dl v sd t) (fun _ => -1) (sNb s)) b) = (spq σ (sNs s) (sLa s + 1) (nI t) (flf (dl v sd t) (fun _ => -1) (sNb s)) 8) from (by rw [show b = 8 by omega])) z) (ws' := [(m, .inr (13, [.ref nw, .ref bf, .ref sv, .ref hy, .int iS, .int rmb, .int eA, .int fA, .ref tx, .int tyd, .ref li, .int ldd, .int (nI 0), .int siz, .int spt, .int wrg, .int tld, .ref nmb])), (nw, .inl (gI G, 72, .inl (spq σ (sNs s) (sLa s + 1) (nI t) (flf (dl v sd t) (fun _ => -1) (sNb s)) 8)))]) rfl ?_
                    refine V.aload_n hC (x := m) dX13_splits_176 rfl ?_
                    refine V.getf hC (T := TX13) q0_ 0 q1_ rfl (0) rfl rfl (by decide) (.ref nw) rfl dX13_splits_177 ?_
                    refine V.iconst hC 1 dX13_splits_180 rfl ?_
                    refine V.dup2 hC dX13_splits_181 rfl rfl ?_
                    refine V.iald hC dX13_splits_182 (1) rfl 1 rfl (by omega) (by decide) ?_
                    refine V.topeq (nI (sNs s)) ((spq_out (by decide) (by omega) 8).trans hR.2.1) ?_
                    refine V.iconst hC 1 dX13_splits_183 rfl ?_
                    refine V.iaddN hC (sNs s) 1 dX13_splits_184 rfl rfl ?_
                    refine V.iast hC dX13_splits_185 (1) rfl 1 rfl (by omega) (by decide) [(m, .inr (13, [.ref nw, .ref bf, .ref sv, .ref hy, .int iS, .int rmb, .int eA, .int fA, .ref tx, .int tyd, .ref li, .int ldd, .int (nI 0), .int siz, .int spt, .int wrg, .int tld, .ref nmb])), (nw, .inl (gI G, 72, .inl (upd (spq σ (sNs s) (sLa s + 1) (nI t) (flf (dl v sd t) (fun _ => -1) (sNb s)) 8) 1 (nI ((sNs s) + 1)))))] rfl ?_
                    refine V.aload_n hC (x := m) dX13_splits_186 rfl ?_
                    refine V.getf hC (T := TX13) q0_ 0 q1_ rfl (0) rfl rfl (by decide) (.ref nw) rfl dX13_splits_187 ?_
                    refine V.iconst hC 2 dX13_splits_190 rfl ?_
                    refine V.iald hC dX13_splits_191 (1) rfl 2 rfl (by omega) (by decide) ?_
                    refine V.topeq (sLa s + 1) ((pk_un (by decide)).trans (spq_2 8)) ?_
                    have hpw : pwX 2 s x y z = 0 := (show pwS (sNb s) (sNs s) x y z = 0 from (pwS_r (if10n c_4) (if10n c_13) (if10n c_20)).trans ((if_neg (by omega)).trans (if_neg c_51)))
                    refine V.eqw (ws' := [(m, .inr (13, [.ref nw, .ref bf, .ref sv, .ref hy, .int iS, .int rmb, .int eA, .int fA, .ref tx, .int tyd, .ref li, .int ldd, .int (nI (cd 2 (pwX 2 s x y z))), .int siz, .int spt, .int wrg, .int tld, .ref nmb])), (nw, .inl (gI G, 72, .inl (upd (spq σ (sNs s) (sLa s + 1) (nI t) (flf (dl v sd t) (fun _ => -1) (sNb s)) 8) 1 (nI ((sNs s) + 1)))))]) (by rw [hpw]; rfl) ?_
                    exact hE 192 _ (sLa s + 1) (upd (spq σ (sNs s) (sLa s + 1) (nI t) (flf (dl v sd t) (fun _ => -1) (sNb s)) 8) 1 (nI (sNs s + 1))) dX13_splits_192 rfl (Or.inl ⟨hpw, (by simp only [cX, hcx, hcy, hcz]; exact rel_sp hR hb8 _ _), rfl⟩)
                  · refine V.aload_n hC (x := m) dX13_splits_128 rfl ?_
                    refine V.getf hC (T := TX13) q0_ 0 q1_ rfl (0) rfl rfl (by decide) (.ref nw) rfl dX13_splits_129 ?_
                    refine V.iload hC (x := nI (12 + 10 * sNs s)) dX13_splits_132 rfl ?_
                    refine V.iconst hC 2 dX13_splits_134 rfl ?_
                    refine V.iaddN hC (12 + 10 * sNs s) 2 dX13_splits_135 rfl rfl ?_
                    refine V.iload hC (x := nI b) dX13_splits_136 rfl ?_
                    refine V.iaddN hC ((12 + 10 * sNs s) + 2) b dX13_splits_138 rfl rfl ?_
                    refine V.aload_n hC (x := m) dX13_splits_139 rfl ?_
                    refine V.iload hC (x := nI b) dX13_splits_140 rfl ?_
                    refine V.callVr (n := 1) (As := [.int (nI b)]) (rest := [.int (nI (((12 + 10 * sNs s) + 2) + b)), .ref nw]) hC (m_isBird (kl K) G m nw bf sv hy tx li nmb iS rmb eA fA tyd ldd (nI 0) siz spt wrg tld (spq σ (sNs s) (sLa s + 1) (nI t) (flf (dl v sd t) (fun _ => -1) (sNb s)) b) (sHm s, sNb s, sNs s, sLa s + 1, sLo s, sNu s, sTn s, sSh s) (B + 1) (rel_sq hR hb8 _ _ _) (InvA.la hI) hB1 (nI b)) SFk0 SFgo0 gX13_splits_X13_isBird rfl ⟨rfl, rfl⟩ (by decide +kernel) ⟨by decide, by decide, by decide, by decide⟩ [0, 1] rfl (by decide) rfl rfl rfl rfl (Nat.le_of_ble_eq_true rfl) dX13_splits_142 (fun r_142 u_142 hp_142 => ?_)
                    subst hp_142
                    show V G K 7 0 0 145 [some (.ref m), some (.int (nI v)), some (.int (nI t)), some (.int (nI sd)), some (.int (nI 1)), some (.int (nI (12 + 10 * sNs s))), some (.int (nI b))] [.int (if ¬ nI b < 0 ∧ nI b < nI (sNb s) then 1 else 0), .int (nI (((12 + 10 * sNs s) + 2) + b)), .ref nw] [(m, .inr (13, [.ref nw, .ref bf, .ref sv, .ref hy, .int iS, .int rmb, .int eA, .int fA, .ref tx, .int tyd, .ref li, .int ldd, .int (nI 0), .int siz, .int spt, .int wrg, .int tld, .ref nmb])), (nw, .inl (gI G, 72, .inl (spq σ (sNs s) (sLa s + 1) (nI t) (flf (dl v sd t) (fun _ => -1) (sNb s)) b)))]
                    refine V.if_eq hC 168 dX13_splits_145 rfl (fun c_145 => ?_) (fun c_145 => ?_)
                    · have hbb : ¬ b < sNb s := fun q => if10 c_145 ⟨nI_nn (by omega), nI_lt q (by omega)⟩
                      refine V.iconst hC (-1) dX13_splits_168 rfl ?_
                      refine V.iast hC dX13_splits_169 (1) rfl (((12 + 10 * sNs s) + 2) + b) rfl (by omega) (by decide) [(m, .inr (13, [.ref nw, .ref bf, .ref sv, .ref hy, .int iS, .int rmb, .int eA, .int fA, .ref tx, .int tyd, .ref li, .int ldd, .int (nI 0), .int siz, .int spt, .int wrg, .int tld, .ref nmb])), (nw, .inl (gI G, 72, .inl (upd (spq σ (sNs s) (sLa s + 1) (nI t) (flf (dl v sd t) (fun _ => -1) (sNb s)) b) (((12 + 10 * sNs s) + 2) + b) (-1))))] rfl ?_
                      refine V.ext (1) (g := (spq σ (sNs s) (sLa s + 1) (nI t) (flf (dl v sd t) (fun _ => -1) (sNb s)) (b + 1))) rfl (fun z _ => congrFun (show upd (spq σ (sNs s) (sLa s + 1) (nI t) (flf (dl v sd t) (fun _ => -1) (sNb s)) b) (((12 + 10 * sNs s) + 2) + b) (-1) = (spq σ (sNs s) (sLa s + 1) (nI t) (flf (dl v sd t) (fun _ => -1) (sNb s)) (b + 1)) from spq_n hbb) z) (ws' := [(m, .inr (13, [.ref nw, .ref bf, .ref sv, .ref hy, .int iS, .int rmb, .int eA, .int fA, .ref tx, .int tyd, .ref li, .int ldd, .int (nI 0), .int siz, .int spt, .int wrg, .int tld, .ref nmb])), (nw, .inl (gI G, 72, .inl (spq σ (sNs s) (sLa s + 1) (nI t) (flf (dl v sd t) (fun _ => -1) (sNb s)) (b + 1))))]) rfl ?_
                      refine V.iincN hC b 1 dX13_splits_170 rfl [some (.ref m), some (.int (nI v)), some (.int (nI t)), some (.int (nI sd)), some (.int (nI 1)), some (.int (nI (12 + 10 * sNs s))), some (.int (nI (b + 1)))] (Nat.le_of_ble_eq_true rfl) rfl rfl rfl ?_
                      refine V.goto hC 121 dX13_splits_173 rfl ?_
                      exact ih121 (b + 1) (by omega) (by omega)
                    · have hbn := (if10n c_145).2
                      have hbb : b < sNb s := (nI_ltI (by omega) (by omega)).mp hbn
                      refine V.iload_n hC (x := nI v) dX13_splits_148 rfl ?_
                      refine V.iload_n hC (x := nI sd) dX13_splits_149 rfl ?_
                      refine V.bipush hC 7 dX13_splits_150 rfl ?_
                      refine V.iload_n hC (x := nI v) dX13_splits_152 rfl ?_
                      refine V.imulN hC 7 v dX13_splits_153 rfl rfl ?_
                      refine V.bipush hC 13 dX13_splits_154 rfl ?_
                      refine V.iaddN hC (7 * v) 13 dX13_splits_156 rfl rfl ?_
                      refine V.iload_n hC (x := nI t) dX13_splits_157 rfl ?_
                      refine V.iload hC (x := nI b) dX13_splits_158 rfl ?_
                      refine V.iconst hC 1 dX13_splits_160 rfl ?_
                      refine V.iaddN hC b 1 dX13_splits_161 rfl rfl ?_
                      refine V.callSr (n := 5) (As := [.int (nI v), .int (nI sd), .int (nI ((7 * v) + 13)), .int (nI t), .int (nI (b + 1))]) (rest := [.int (nI (((12 + 10 * sNs s) + 2) + b)), .ref nw]) hC (m_spread (kl K) G v sd (7 * v + 13) t (b + 1) hv hsd (by omega) ht1 (by omega) (by omega)) SFk0 SFgo0 gX13_splits_X13_spread rfl ⟨rfl, rfl⟩ (by decide +kernel) ⟨by decide, by decide, by decide, by decide⟩ [] rfl (by decide) rfl rfl (Nat.le_of_ble_eq_true rfl) dX13_splits_162 (fun r_162 u_162 hp_162 => ?_)
                      subst hp_162
                      show V G K 7 0 0 165 [some (.ref m), some (.int (nI v)), some (.int (nI t)), some (.int (nI sd)), some (.int (nI 1)), some (.int (nI (12 + 10 * sNs s))), some (.int (nI b))] [.int (nI ((spr v sd (7 * v + 13) (b + 1) (t - 1)).1)), .int (nI (((12 + 10 * sNs s) + 2) + b)), .ref nw] [(m, .inr (13, [.ref nw, .ref bf, .ref sv, .ref hy, .int iS, .int rmb, .int eA, .int fA, .ref tx, .int tyd, .ref li, .int ldd, .int (nI 0), .int siz, .int spt, .int wrg, .int tld, .ref nmb])), (nw, .inl (gI G, 72, .inl (spq σ (sNs s) (sLa s + 1) (nI t) (flf (dl v sd t) (fun _ => -1) (sNb s)) b)))]
                      refine V.goto hC 169 dX13_splits_165 rfl ?_
                      refine V.iast hC dX13_splits_169 (1) rfl (((12 + 10 * sNs s) + 2) + b) rfl (by omega) (by decide) [(m, .inr (13, [.ref nw, .ref bf, .ref sv, .ref hy, .int iS, .int rmb, .int eA, .int fA, .ref tx, .int tyd, .ref li, .int ldd, .int (nI 0), .int siz, .int spt, .int wrg, .int tld, .ref nmb])), (nw, .inl (gI G, 72, .inl (upd (spq σ (sNs s) (sLa s + 1) (nI t) (flf (dl v sd t) (fun _ => -1) (sNb s)) b) (((12 + 10 * sNs s) + 2) + b) (nI ((spr v sd (7 * v + 13) (b + 1) (t - 1)).1)))))] rfl ?_
                      refine V.ext (1) (g := (spq σ (sNs s) (sLa s + 1) (nI t) (flf (dl v sd t) (fun _ => -1) (sNb s)) (b + 1))) rfl (fun z _ => congrFun (show upd (spq σ (sNs s) (sLa s + 1) (nI t) (flf (dl v sd t) (fun _ => -1) (sNb s)) b) (((12 + 10 * sNs s) + 2) + b) (nI ((spr v sd (7 * v + 13) (b + 1) (t - 1)).1)) = (spq σ (sNs s) (sLa s + 1) (nI t) (flf (dl v sd t) (fun _ => -1) (sNb s)) (b + 1)) from spq_y hbb) z) (ws' := [(m, .inr (13, [.ref nw, .ref bf, .ref sv, .ref hy, .int iS, .int rmb, .int eA, .int fA, .ref tx, .int tyd, .ref li, .int ldd, .int (nI 0), .int siz, .int spt, .int wrg, .int tld, .ref nmb])), (nw, .inl (gI G, 72, .inl (spq σ (sNs s) (sLa s + 1) (nI t) (flf (dl v sd t) (fun _ => -1) (sNb s)) (b + 1))))]) rfl ?_
                      refine V.iincN hC b 1 dX13_splits_170 rfl [some (.ref m), some (.int (nI v)), some (.int (nI t)), some (.int (nI sd)), some (.int (nI 1)), some (.int (nI (12 + 10 * sNs s))), some (.int (nI (b + 1)))] (Nat.le_of_ble_eq_true rfl) rfl rfl rfl ?_
                      refine V.goto hC 121 dX13_splits_173 rfl ?_
                      exact ih121 (b + 1) (by omega) (by omega)
              exact loop121 _ 0 (Nat.lt_succ_self _) (by omega)
            · exact absurd c_64 (by decide)
