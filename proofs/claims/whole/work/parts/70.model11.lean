/-! the document's model: adds (printed by gen/s70.py) -/
/-- which exception of change i problem p is, counted from 1 -/
def cd (i p : Nat) : Nat := (([[0, 1, 0, 0, 2, 0], [0, 2, 1, 0, 0, 0], [0, 1, 0, 0, 2, 0], [0, 0, 1, 2, 3, 0], [0, 3, 1, 2, 4, 0], [0, 0, 1, 2, 3, 4], [0, 2, 0, 1, 0, 0], [0, 0, 0, 1, 0, 0]] : List (List Nat)).getD i []).getD p 0
def adq (σ : Nat → Int32) (nb : Nat) (x : Int32) : Nat → (Nat → Int32)
  | 0 => upd σ (4 + nb) x
  | k + 1 => upd (adq σ nb x k) (12 + 10 * k + 2 + nb) (-1)
theorem adq_out {σ : Nat → Int32} {nb : Nat} {x : Int32} {j : Nat} (h : j ≠ 4 + nb) : ∀ k, (∀ i, i < k → j ≠ 12 + 10 * i + 2 + nb) → adq σ nb x k j = σ j
  | 0, _ => pk_un h
  | k + 1, h2 => (pk_un (h2 k (Nat.lt_succ_self k))).trans (adq_out h k (fun i hi => h2 i (Nat.lt_succ_of_lt hi)))
theorem adq_lo {σ : Nat → Int32} {nb : Nat} {x : Int32} {j k : Nat} (h : j < 4) : adq σ nb x k j = σ j := adq_out (by omega) k (fun i _ => by omega)
theorem adq_home {σ : Nat → Int32} {nb : Nat} {x : Int32} (hnb : nb < 8) : ∀ k, adq σ nb x k (4 + nb) = x
  | 0 => pk_us
  | k + 1 => (pk_un (by omega)).trans (adq_home hnb k)
theorem adq_sh {σ : Nat → Int32} {nb : Nat} {x : Int32} {i : Nat} : ∀ k, i < k → adq σ nb x k (12 + 10 * i + 2 + nb) = -1
  | k + 1, h => by
    by_cases e : i = k
    · subst e
      exact pk_us
    · exact (pk_un (by omega)).trans (adq_sh k (by omega))
theorem rel_add {σ : Nat → Int32} {s : ASt} {B : Nat} (hR : Rel σ s) (hI : InvA B s) (hnb : sNb s < 8) (x : Int32) : Rel (upd (adq σ (sNb s) x (sNs s)) 0 (nI (sNb s + 1))) (cX 0 s x 0 0) := by
  obtain ⟨r0, r1, r2, r3, r4, r5⟩ := hR
  show Rel _ (upd (sHm s) (sNb s) x, sNb s + 1, s.2.2)
  refine ⟨pk_us, (pk_un (by decide)).trans ((adq_lo (by decide)).trans r1), (pk_un (by decide)).trans ((adq_lo (by decide)).trans r2), (pk_un (by decide)).trans ((adq_lo (by decide)).trans r3), fun b hb => ?_, fun k hk => ⟨?_, ?_, fun b hb => ?_⟩⟩
  · have hb' : b < sNb s + 1 := hb
    refine (pk_un (by omega)).trans ?_
    by_cases e : b = sNb s
    · subst e
      exact (adq_home hnb _).trans pk_us.symm
    · exact (adq_out (by omega) _ (fun i _ => by omega)).trans ((r4 b (by omega)).trans (pk_un e).symm)
  · exact (pk_un (by omega)).trans ((adq_out (by omega) _ (fun i _ => by omega)).trans (r5 k hk).1)
  · exact (pk_un (by omega)).trans ((adq_out (by omega) _ (fun i _ => by omega)).trans (r5 k hk).2.1)
  · have hk' : k < sNs s := hk
    refine (pk_un (by omega)).trans ?_
    by_cases e : b = sNb s
    · rw [e, show 14 + 10 * k + sNb s = 12 + 10 * k + 2 + sNb s by omega, adq_sh _ hk']
      exact ((hI.2.2.1 k hk).2.2.2 (sNb s) (Nat.le_refl _) hnb).symm
    · exact (adq_out (by omega) _ (fun i _ => by omega)).trans ((r5 k hk).2.2 b hb)
set_option maxHeartbeats 4000000 in
set_option maxRecDepth 100000 in
theorem m_adds (l : Launch) (G : Gx) (m nw bf sv hy tx li nmb : Nat) (iS rmb eA fA tyd ldd thr siz spt wrg tld : Int32) (σ : Nat → Int32) (s : ASt) (B : Nat) (hR : Rel σ s) (hI : InvA B s) (hB : B < 2 ^ 30) (x : Int32) : Ct l G SF0 yX13_adds wsX13_adds ({ frames := 2, cells := 0, slots := 0, locals := 42 }) [.ref m, .int x] [(m, .inr (13, [.ref nw, .ref bf, .ref sv, .ref hy, .int iS, .int rmb, .int eA, .int fA, .ref tx, .int tyd, .ref li, .int ldd, .int thr, .int siz, .int spt, .int wrg, .int tld, .ref nmb])), (nw, .inl (gI G, 72, .inl σ))] mkI (fun (r : Int32) (u : Nat → Int32) => (pwX 0 s x 0 0 = 0 ∧ Rel u (cX 0 s x 0 0) ∧ r = rX 0 s x 0 0) ∨ (¬ pwX 0 s x 0 0 = 0 ∧ u = σ ∧ r = 0)) (fun u : Nat → Int32 => [(m, .inr (13, [.ref nw, .ref bf, .ref sv, .ref hy, .int iS, .int rmb, .int eA, .int fA, .ref tx, .int tyd, .ref li, .int ldd, .int (nI (cd 0 (pwX 0 s x 0 0))), .int siz, .int spt, .int wrg, .int tld, .ref nmb])), (nw, .inl (gI G, 72, .inl u))]) 0 0 := by
  have hb8 := hI.1
  have hs6 := hI.2.1
  refine Ct.ofI (cc := cX13_adds) (maxL := 3) (by decide) rfl ⟨by simp [Value.category], Nat.le_of_ble_eq_true rfl⟩ ?_
  intro K hl hC hSF hnm hE
  subst hl
  have q0_ : ∀ w ∈ u_ws RX13 TX13 18, w ∈ wsX13_adds := by decide +kernel
  have q1_ : Cond.fieldLink RX13 9 "FeatherSharesModel" "now" "[I" ∈ wsX13_adds := by decide +kernel
  show V G K 3 0 0 0 [some (.ref m), some (.int x), none] [] [(m, .inr (13, [.ref nw, .ref bf, .ref sv, .ref hy, .int iS, .int rmb, .int eA, .int fA, .ref tx, .int tyd, .ref li, .int ldd, .int thr, .int siz, .int spt, .int wrg, .int tld, .ref nmb])), (nw, .inl (gI G, 72, .inl σ))]
  refine V.aload_n hC (x := m) dX13_adds_0 rfl ?_
  refine V.iload_n hC (x := x) dX13_adds_1 rfl ?_
  refine V.callSr (n := 1) (As := [.int x]) (rest := [.ref m]) hC (m_isNest (kl K) G x) SFk0 SFgo0 gX13_adds_X13_isNest rfl ⟨rfl, rfl⟩ (by decide +kernel) ⟨by decide, by decide, by decide, by decide⟩ [] rfl (by decide) rfl rfl (Nat.le_of_ble_eq_true rfl) dX13_adds_2 (fun r_2 u_2 hp_2 => ?_)
  subst hp_2
  show V G K 3 0 0 5 [some (.ref m), some (.int x), none] [.int (if ¬ x < 0 ∧ x < 4 then 1 else 0), .ref m] [(m, .inr (13, [.ref nw, .ref bf, .ref sv, .ref hy, .int iS, .int rmb, .int eA, .int fA, .ref tx, .int tyd, .ref li, .int ldd, .int thr, .int siz, .int spt, .int wrg, .int tld, .ref nmb])), (nw, .inl (gI G, 72, .inl σ))]
  refine V.aload_n hC (x := m) dX13_adds_5 rfl ?_
  refine V.getf hC (T := TX13) q0_ 0 q1_ rfl (0) rfl rfl (by decide) (.ref nw) rfl dX13_adds_6 ?_
  refine V.iconst hC 0 dX13_adds_9 rfl ?_
  refine V.iald hC dX13_adds_10 (1) rfl 0 rfl (by omega) (by decide) ?_
  refine V.topeq (nI (sNb s)) hR.1 ?_
  refine V.bipush hC 8 dX13_adds_11 rfl ?_
  refine V.icmpN_ge hC (sNb s) 8 20 dX13_adds_13 rfl rfl rfl (by omega) (by omega) (fun c_13 => ?_) (fun c_13 => ?_)
  · refine V.iconst hC 0 dX13_adds_20 rfl ?_
    refine V.iconst hC 1 dX13_adds_21 rfl ?_
    refine V.iconst hC 1 dX13_adds_22 rfl ?_
    refine V.callV (n := 4) (As := [.int (if ¬ x < 0 ∧ x < 4 then 1 else 0), .int 0, .int 1, .int 1]) (rest := []) hC (m_allows (kl K) G m nw bf sv hy tx li nmb iS rmb eA fA tyd ldd thr siz spt wrg tld (if ¬ x < 0 ∧ x < 4 then 1 else 0) 0 1 1) SFk0 SFgo0 gX13_adds_X13_allows rfl ⟨rfl, rfl⟩ (by decide +kernel) ⟨by decide, by decide, by decide, by decide⟩ [0] rfl (by decide) (fun _ => rfl) rfl rfl rfl rfl (Nat.le_of_ble_eq_true rfl) dX13_adds_23 (fun r_23 u_23 hp_23 => ?_)
    subst hp_23
    show V G K 3 0 0 26 [some (.ref m), some (.int x), none] [.int (if alw (if ¬ x < 0 ∧ x < 4 then 1 else 0) 0 1 1 = 0 then 1 else 0)] [(m, .inr (13, [.ref nw, .ref bf, .ref sv, .ref hy, .int iS, .int rmb, .int eA, .int fA, .ref tx, .int tyd, .ref li, .int ldd, .int (nI (alw (if ¬ x < 0 ∧ x < 4 then 1 else 0) 0 1 1)), .int siz, .int spt, .int wrg, .int tld, .ref nmb])), (nw, .inl (gI G, 72, .inl σ))]
    by_cases hg0_23 : ¬ x < 0 ∧ x < 4
    · have ha_23 : alw (if ¬ x < 0 ∧ x < 4 then 1 else 0) 0 1 1 = 2 := by rw [if_pos hg0_23]; rfl
      refine V.topeq (nI 0) (by rw [ha_23]; rfl) ?_
      refine V.eqw (ws' := [(m, .inr (13, [.ref nw, .ref bf, .ref sv, .ref hy, .int iS, .int rmb, .int eA, .int fA, .ref tx, .int tyd, .ref li, .int ldd, .int (nI 2), .int siz, .int spt, .int wrg, .int tld, .ref nmb])), (nw, .inl (gI G, 72, .inl σ))]) (by rw [ha_23]) ?_
      refine V.ifN_ne hC 0 31 dX13_adds_26 rfl rfl (by omega) (fun c_26 => ?_) (fun c_26 => ?_)
      · exact absurd c_26 (by decide)
      · refine V.iconst hC 0 dX13_adds_29 rfl ?_
        have hpw : pwX 0 s x 0 0 = 4 := (show pwB (sNb s) x = 4 from (if_pos hg0_23).trans (if_pos c_13))
        refine V.eqw (ws' := [(m, .inr (13, [.ref nw, .ref bf, .ref sv, .ref hy, .int iS, .int rmb, .int eA, .int fA, .ref tx, .int tyd, .ref li, .int ldd, .int (nI (cd 0 (pwX 0 s x 0 0))), .int siz, .int spt, .int wrg, .int tld, .ref nmb])), (nw, .inl (gI G, 72, .inl σ))]) (by rw [hpw]; rfl) ?_
        exact hE 30 _ 0 σ dX13_adds_30 rfl (Or.inr ⟨by rw [hpw]; decide, rfl, rfl⟩)
    · have ha_23 : alw (if ¬ x < 0 ∧ x < 4 then 1 else 0) 0 1 1 = 1 := by rw [if_neg hg0_23]; rfl
      refine V.topeq (nI 0) (by rw [ha_23]; rfl) ?_
      refine V.eqw (ws' := [(m, .inr (13, [.ref nw, .ref bf, .ref sv, .ref hy, .int iS, .int rmb, .int eA, .int fA, .ref tx, .int tyd, .ref li, .int ldd, .int (nI 1), .int siz, .int spt, .int wrg, .int tld, .ref nmb])), (nw, .inl (gI G, 72, .inl σ))]) (by rw [ha_23]) ?_
      refine V.ifN_ne hC 0 31 dX13_adds_26 rfl rfl (by omega) (fun c_26 => ?_) (fun c_26 => ?_)
      · exact absurd c_26 (by decide)
      · refine V.iconst hC 0 dX13_adds_29 rfl ?_
        have hpw : pwX 0 s x 0 0 = 1 := (show pwB (sNb s) x = 1 from if_neg hg0_23)
        refine V.eqw (ws' := [(m, .inr (13, [.ref nw, .ref bf, .ref sv, .ref hy, .int iS, .int rmb, .int eA, .int fA, .ref tx, .int tyd, .ref li, .int ldd, .int (nI (cd 0 (pwX 0 s x 0 0))), .int siz, .int spt, .int wrg, .int tld, .ref nmb])), (nw, .inl (gI G, 72, .inl σ))]) (by rw [hpw]; rfl) ?_
        exact hE 30 _ 0 σ dX13_adds_30 rfl (Or.inr ⟨by rw [hpw]; decide, rfl, rfl⟩)
  · refine V.iconst hC 1 dX13_adds_16 rfl ?_
    refine V.goto hC 21 dX13_adds_17 rfl ?_
    refine V.iconst hC 1 dX13_adds_21 rfl ?_
    refine V.iconst hC 1 dX13_adds_22 rfl ?_
    refine V.callV (n := 4) (As := [.int (if ¬ x < 0 ∧ x < 4 then 1 else 0), .int 1, .int 1, .int 1]) (rest := []) hC (m_allows (kl K) G m nw bf sv hy tx li nmb iS rmb eA fA tyd ldd thr siz spt wrg tld (if ¬ x < 0 ∧ x < 4 then 1 else 0) 1 1 1) SFk0 SFgo0 gX13_adds_X13_allows rfl ⟨rfl, rfl⟩ (by decide +kernel) ⟨by decide, by decide, by decide, by decide⟩ [0] rfl (by decide) (fun _ => rfl) rfl rfl rfl rfl (Nat.le_of_ble_eq_true rfl) dX13_adds_23 (fun r_23 u_23 hp_23 => ?_)
    subst hp_23
    show V G K 3 0 0 26 [some (.ref m), some (.int x), none] [.int (if alw (if ¬ x < 0 ∧ x < 4 then 1 else 0) 1 1 1 = 0 then 1 else 0)] [(m, .inr (13, [.ref nw, .ref bf, .ref sv, .ref hy, .int iS, .int rmb, .int eA, .int fA, .ref tx, .int tyd, .ref li, .int ldd, .int (nI (alw (if ¬ x < 0 ∧ x < 4 then 1 else 0) 1 1 1)), .int siz, .int spt, .int wrg, .int tld, .ref nmb])), (nw, .inl (gI G, 72, .inl σ))]
    by_cases hg0_23 : ¬ x < 0 ∧ x < 4
    · have ha_23 : alw (if ¬ x < 0 ∧ x < 4 then 1 else 0) 1 1 1 = 0 := by rw [if_pos hg0_23]; rfl
      refine V.topeq (nI 1) (by rw [ha_23]; rfl) ?_
      refine V.eqw (ws' := [(m, .inr (13, [.ref nw, .ref bf, .ref sv, .ref hy, .int iS, .int rmb, .int eA, .int fA, .ref tx, .int tyd, .ref li, .int ldd, .int (nI 0), .int siz, .int spt, .int wrg, .int tld, .ref nmb])), (nw, .inl (gI G, 72, .inl σ))]) (by rw [ha_23]) ?_
      refine V.ifN_ne hC 1 31 dX13_adds_26 rfl rfl (by omega) (fun c_26 => ?_) (fun c_26 => ?_)
      · refine V.aload_n hC (x := m) dX13_adds_31 rfl ?_
        refine V.getf hC (T := TX13) q0_ 0 q1_ rfl (0) rfl rfl (by decide) (.ref nw) rfl dX13_adds_32 ?_
        refine V.iconst hC 4 dX13_adds_35 rfl ?_
        refine V.aload_n hC (x := m) dX13_adds_36 rfl ?_
        refine V.getf hC (T := TX13) q0_ 0 q1_ rfl (0) rfl rfl (by decide) (.ref nw) rfl dX13_adds_37 ?_
        refine V.iconst hC 0 dX13_adds_40 rfl ?_
        refine V.iald hC dX13_adds_41 (1) rfl 0 rfl (by omega) (by decide) ?_
        refine V.topeq (nI (sNb s)) hR.1 ?_
        refine V.iaddN hC 4 (sNb s) dX13_adds_42 rfl rfl ?_
        refine V.iload_n hC (x := x) dX13_adds_43 rfl ?_
        refine V.iast hC dX13_adds_44 (1) rfl (4 + (sNb s)) rfl (by omega) (by decide) [(m, .inr (13, [.ref nw, .ref bf, .ref sv, .ref hy, .int iS, .int rmb, .int eA, .int fA, .ref tx, .int tyd, .ref li, .int ldd, .int (nI 0), .int siz, .int spt, .int wrg, .int tld, .ref nmb])), (nw, .inl (gI G, 72, .inl (upd σ (4 + (sNb s)) x)))] rfl ?_
        refine V.ext (1) (g := (adq σ (sNb s) x 0)) rfl (fun z _ => congrFun (show upd σ (4 + (sNb s)) x = (adq σ (sNb s) x 0) from rfl) z) (ws' := [(m, .inr (13, [.ref nw, .ref bf, .ref sv, .ref hy, .int iS, .int rmb, .int eA, .int fA, .ref tx, .int tyd, .ref li, .int ldd, .int (nI 0), .int siz, .int spt, .int wrg, .int tld, .ref nmb])), (nw, .inl (gI G, 72, .inl (adq σ (sNb s) x 0)))]) rfl ?_
        refine V.iconst hC 0 dX13_adds_45 rfl ?_
        refine V.istore_n hC dX13_adds_46 [some (.ref m), some (.int x), some (.int 0)] (Nat.le_of_ble_eq_true rfl) rfl ?_
        have loop47 : ∀ (n : Nat) (k : Nat), 6 - k < n → (k ≤ sNs s) → V G K 3 0 0 47 [some (.ref m), some (.int x), some (.int (nI k))] [] [(m, .inr (13, [.ref nw, .ref bf, .ref sv, .ref hy, .int iS, .int rmb, .int eA, .int fA, .ref tx, .int tyd, .ref li, .int ldd, .int (nI 0), .int siz, .int spt, .int wrg, .int tld, .ref nmb])), (nw, .inl (gI G, 72, .inl (adq σ (sNb s) x k)))] := by
          intro n
          induction n with
          | zero => intro k hlt; exact absurd hlt (Nat.not_lt_zero _)
          | succ n ih47 =>
            intro k hlt47 hk
            refine V.iload_n hC (x := nI k) dX13_adds_47 rfl ?_
            refine V.aload_n hC (x := m) dX13_adds_48 rfl ?_
            refine V.getf hC (T := TX13) q0_ 0 q1_ rfl (0) rfl rfl (by decide) (.ref nw) rfl dX13_adds_49 ?_
            refine V.iconst hC 1 dX13_adds_52 rfl ?_
            refine V.iald hC dX13_adds_53 (1) rfl 1 rfl (by omega) (by decide) ?_
            refine V.topeq (nI (sNs s)) ((adq_lo (by decide)).trans hR.2.1) ?_
            refine V.icmpN_ge hC k (sNs s) 85 dX13_adds_54 rfl rfl rfl (by omega) (by omega) (fun c_54 => ?_) (fun c_54 => ?_)
            · refine V.ext (1) (g := (adq σ (sNb s) x (sNs s))) rfl (fun z _ => congrFun (show (adq σ (sNb s) x k) = (adq σ (sNb s) x (sNs s)) from (by rw [show k = sNs s by omega])) z) (ws' := [(m, .inr (13, [.ref nw, .ref bf, .ref sv, .ref hy, .int iS, .int rmb, .int eA, .int fA, .ref tx, .int tyd, .ref li, .int ldd, .int (nI 0), .int siz, .int spt, .int wrg, .int tld, .ref nmb])), (nw, .inl (gI G, 72, .inl (adq σ (sNb s) x (sNs s))))]) rfl ?_
              refine V.aload_n hC (x := m) dX13_adds_85 rfl ?_
              refine V.getf hC (T := TX13) q0_ 0 q1_ rfl (0) rfl rfl (by decide) (.ref nw) rfl dX13_adds_86 ?_
              refine V.iconst hC 0 dX13_adds_89 rfl ?_
              refine V.dup2 hC dX13_adds_90 rfl rfl ?_
              refine V.iald hC dX13_adds_91 (1) rfl 0 rfl (by omega) (by decide) ?_
              refine V.topeq (nI (sNb s)) ((adq_lo (by decide)).trans hR.1) ?_
              refine V.iconst hC 1 dX13_adds_92 rfl ?_
              refine V.iaddN hC (sNb s) 1 dX13_adds_93 rfl rfl ?_
              refine V.iast hC dX13_adds_94 (1) rfl 0 rfl (by omega) (by decide) [(m, .inr (13, [.ref nw, .ref bf, .ref sv, .ref hy, .int iS, .int rmb, .int eA, .int fA, .ref tx, .int tyd, .ref li, .int ldd, .int (nI 0), .int siz, .int spt, .int wrg, .int tld, .ref nmb])), (nw, .inl (gI G, 72, .inl (upd (adq σ (sNb s) x (sNs s)) 0 (nI ((sNb s) + 1)))))] rfl ?_
              refine V.aload_n hC (x := m) dX13_adds_95 rfl ?_
              refine V.getf hC (T := TX13) q0_ 0 q1_ rfl (0) rfl rfl (by decide) (.ref nw) rfl dX13_adds_96 ?_
              refine V.iconst hC 0 dX13_adds_99 rfl ?_
              refine V.iald hC dX13_adds_100 (1) rfl 0 rfl (by omega) (by decide) ?_
              refine V.topeq (nI (sNb s + 1)) pk_us ?_
              refine V.iconst hC 1 dX13_adds_101 rfl ?_
              refine V.isub hC dX13_adds_102 ?_
              refine V.topeq (nI (sNb s)) (pk_sub (a := sNb s + 1) (b := 1) (by omega)) ?_
              have hpw : pwX 0 s x 0 0 = 0 := (show pwB (sNb s) x = 0 from (if_pos hg0_23).trans (if_neg (by omega)))
              refine V.eqw (ws' := [(m, .inr (13, [.ref nw, .ref bf, .ref sv, .ref hy, .int iS, .int rmb, .int eA, .int fA, .ref tx, .int tyd, .ref li, .int ldd, .int (nI (cd 0 (pwX 0 s x 0 0))), .int siz, .int spt, .int wrg, .int tld, .ref nmb])), (nw, .inl (gI G, 72, .inl (upd (adq σ (sNb s) x (sNs s)) 0 (nI ((sNb s) + 1)))))]) (by rw [hpw]; rfl) ?_
              exact hE 103 _ (nI (sNb s)) (upd (adq σ (sNb s) x (sNs s)) 0 (nI (sNb s + 1))) dX13_adds_103 rfl (Or.inl ⟨hpw, rel_add hR hI (by omega) x, rfl⟩)
            · refine V.aload_n hC (x := m) dX13_adds_57 rfl ?_
              refine V.getf hC (T := TX13) q0_ 0 q1_ rfl (0) rfl rfl (by decide) (.ref nw) rfl dX13_adds_58 ?_
              refine V.bipush hC 12 dX13_adds_61 rfl ?_
              refine V.bipush hC 10 dX13_adds_63 rfl ?_
              refine V.iload_n hC (x := nI k) dX13_adds_65 rfl ?_
              refine V.imulN hC 10 k dX13_adds_66 rfl rfl ?_
              refine V.iaddN hC 12 (10 * k) dX13_adds_67 rfl rfl ?_
              refine V.iconst hC 2 dX13_adds_68 rfl ?_
              refine V.iaddN hC (12 + (10 * k)) 2 dX13_adds_69 rfl rfl ?_
              refine V.aload_n hC (x := m) dX13_adds_70 rfl ?_
              refine V.getf hC (T := TX13) q0_ 0 q1_ rfl (0) rfl rfl (by decide) (.ref nw) rfl dX13_adds_71 ?_
              refine V.iconst hC 0 dX13_adds_74 rfl ?_
              refine V.iald hC dX13_adds_75 (1) rfl 0 rfl (by omega) (by decide) ?_
              refine V.topeq (nI (sNb s)) ((adq_lo (by decide)).trans hR.1) ?_
              refine V.iaddN hC ((12 + (10 * k)) + 2) (sNb s) dX13_adds_76 rfl rfl ?_
              refine V.iconst hC (-1) dX13_adds_77 rfl ?_
              refine V.iast hC dX13_adds_78 (1) rfl (((12 + (10 * k)) + 2) + (sNb s)) rfl (by omega) (by decide) [(m, .inr (13, [.ref nw, .ref bf, .ref sv, .ref hy, .int iS, .int rmb, .int eA, .int fA, .ref tx, .int tyd, .ref li, .int ldd, .int (nI 0), .int siz, .int spt, .int wrg, .int tld, .ref nmb])), (nw, .inl (gI G, 72, .inl (upd (adq σ (sNb s) x k) (((12 + (10 * k)) + 2) + (sNb s)) (-1))))] rfl ?_
              refine V.ext (1) (g := (adq σ (sNb s) x (k + 1))) rfl (fun z _ => congrFun (show upd (adq σ (sNb s) x k) (((12 + (10 * k)) + 2) + (sNb s)) (-1) = (adq σ (sNb s) x (k + 1)) from rfl) z) (ws' := [(m, .inr (13, [.ref nw, .ref bf, .ref sv, .ref hy, .int iS, .int rmb, .int eA, .int fA, .ref tx, .int tyd, .ref li, .int ldd, .int (nI 0), .int siz, .int spt, .int wrg, .int tld, .ref nmb])), (nw, .inl (gI G, 72, .inl (adq σ (sNb s) x (k + 1))))]) rfl ?_
              refine V.iincN hC k 1 dX13_adds_79 rfl [some (.ref m), some (.int x), some (.int (nI (k + 1)))] (Nat.le_of_ble_eq_true rfl) rfl rfl rfl ?_
              refine V.goto hC 47 dX13_adds_82 rfl ?_
              exact ih47 (k + 1) (by omega) (by omega)
        exact loop47 _ 0 (Nat.lt_succ_self _) (by omega)
      · exact absurd c_26 (by decide)
    · have ha_23 : alw (if ¬ x < 0 ∧ x < 4 then 1 else 0) 1 1 1 = 1 := by rw [if_neg hg0_23]; rfl
      refine V.topeq (nI 0) (by rw [ha_23]; rfl) ?_
      refine V.eqw (ws' := [(m, .inr (13, [.ref nw, .ref bf, .ref sv, .ref hy, .int iS, .int rmb, .int eA, .int fA, .ref tx, .int tyd, .ref li, .int ldd, .int (nI 1), .int siz, .int spt, .int wrg, .int tld, .ref nmb])), (nw, .inl (gI G, 72, .inl σ))]) (by rw [ha_23]) ?_
      refine V.ifN_ne hC 0 31 dX13_adds_26 rfl rfl (by omega) (fun c_26 => ?_) (fun c_26 => ?_)
      · exact absurd c_26 (by decide)
      · refine V.iconst hC 0 dX13_adds_29 rfl ?_
        have hpw : pwX 0 s x 0 0 = 1 := (show pwB (sNb s) x = 1 from if_neg hg0_23)
        refine V.eqw (ws' := [(m, .inr (13, [.ref nw, .ref bf, .ref sv, .ref hy, .int iS, .int rmb, .int eA, .int fA, .ref tx, .int tyd, .ref li, .int ldd, .int (nI (cd 0 (pwX 0 s x 0 0))), .int siz, .int spt, .int wrg, .int tld, .ref nmb])), (nw, .inl (gI G, 72, .inl σ))]) (by rw [hpw]; rfl) ?_
        exact hE 30 _ 0 σ dX13_adds_30 rfl (Or.inr ⟨by rw [hpw]; decide, rfl, rfl⟩)
