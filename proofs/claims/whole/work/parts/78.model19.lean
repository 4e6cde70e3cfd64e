/-! the document's model: refreshes (printed by gen/s78.py) -/
/-- the state behind b steps of a refreshing -/
def rfS (s : ASt) (k : Nat) (ad : Nat → Nat) (b : Nat) : ASt := (sHm s, sNb s, sNs s, sLa s, sLo s, sNu s, sTn s, va_up (sSh s) k (flf (rfs (sSh s k) ad) (sSh s k) b))
theorem rfS_at {s : ASt} {k : Nat} {ad : Nat → Nat} {b : Nat} : sSh (rfS s k ad b) k b = sSh s k b := by
  show va_up (sSh s) k (flf (rfs (sSh s k) ad) (sSh s k) b) k b = _
  rw [va_up_self, flf_at]
theorem va_up_up {α : Type} (f : Nat → α) (k : Nat) (v w : α) : va_up (va_up f k v) k w = va_up f k w := by
  funext j
  by_cases e : j = k
  · subst e
    rw [va_up_self, va_up_self]
  · rw [va_up_ne _ _ e, va_up_ne _ _ e, va_up_ne _ _ e]
theorem rel_rf0 {σ : Nat → Int32} {s : ASt} (hR : Rel σ s) (k : Nat) (ad : Nat → Nat) : Rel σ (rfS s k ad 0) := by
  have e : va_up (sSh s) k (flf (rfs (sSh s k) ad) (sSh s k) 0) = sSh s := by
    funext j
    by_cases e : j = k
    · subst e
      rw [va_up_self, flf_0]
    · rw [va_up_ne _ _ e]
  show Rel σ (sHm s, sNb s, sNs s, sLa s, sLo s, sNu s, sTn s, va_up (sSh s) k (flf (rfs (sSh s k) ad) (sSh s k) 0))
  rw [e]
  exact hR
theorem rel_rf {ω : Nat → Int32} {s : ASt} {k b : Nat} {ad : Nat → Nat} (hω : Rel ω (rfS s k ad b)) (h8 : sNb s ≤ 8) (hb : b < 8) (hk : k < sNs s) {v : Int32} (hv : v = rfs (sSh s k) ad b) : Rel (upd ω (12 + 10 * k + 2 + b) v) (rfS s k ad (b + 1)) := by
  have h := rel_sh hω h8 hb hk v
  have e : va_up (sSh (rfS s k ad b)) k (upd (sSh (rfS s k ad b) k) b v) = va_up (sSh s) k (flf (rfs (sSh s k) ad) (sSh s k) (b + 1)) := by
    show va_up (va_up (sSh s) k (flf (rfs (sSh s k) ad) (sSh s k) b)) k (upd (va_up (sSh s) k (flf (rfs (sSh s k) ad) (sSh s k) b) k) b v) = _
    rw [va_up_up, va_up_self, hv, flf_succ]
  rw [e] at h
  exact h
theorem rel_rfE {ω : Nat → Int32} {s : ASt} {B k b : Nat} {ad : Nat → Nat} (hω : Rel ω (rfS s k ad b)) (hI : InvA B s) (hk : k < sNs s) (hb : b = sNb s) : Rel ω (sHm s, sNb s, sNs s, sLa s, sLo s, sNu s, sTn s, va_up (sSh s) k (rfs (sSh s k) ad)) := by
  subst hb
  obtain ⟨r0, r1, r2, r3, r4, r5⟩ := hω
  refine ⟨r0, r1, r2, r3, r4, fun j hj => ⟨(r5 j hj).1, (r5 j hj).2.1, fun c hc => ((r5 j hj).2.2 c hc).trans ?_⟩⟩
  show va_up (sSh s) k (flf (rfs (sSh s k) ad) (sSh s k) (sNb s)) j c = va_up (sSh s) k (rfs (sSh s k) ad) j c
  by_cases e : j = k
  · subst e
    rw [va_up_self, va_up_self]
    by_cases h : c < sNb s
    · rw [flf_in h]
    · rw [rfs_y (Or.inl ((hI.2.2.1 j hk).2.2.2 c (by omega) hc))]
      exact if_neg h
  · rw [va_up_ne _ _ e, va_up_ne _ _ e]
theorem InvA.rf {B : Nat} {s : ASt} (hI : InvA B s) {k : Nat} (hk : k < sNs s) (sd t b : Nat) : InvA (B + 1) (rfS s k (rfa sd t) b) := by
  have a := hI.2.2.1 k hk
  have hl := hI.2.2.2.2.2
  refine InvA.sh hI hk (fun j hj hn => ?_) (fun j h1 h2 => ?_) (Exists.elim hl (fun m h => ⟨m, Nat.le_succ_of_le h.1, h.2⟩))
  · have hr := SHok.ref a.2.2.1 (rfa_lt sd t)
    by_cases h : j < b
    · have e : flf (rfs (sSh s k) (rfa sd t)) (sSh s k) b j = rfs (sSh s k) (rfa sd t) j := flf_in h
      unfold svn
      rw [e] at hn ⊢
      exact hr j hj hn
    · have e : flf (rfs (sSh s k) (rfa sd t)) (sSh s k) b j = sSh s k j := if_neg h
      unfold svn
      rw [e] at hn ⊢
      exact a.2.2.1 j hj hn
  · have e1 := a.2.2.2 j h1 h2
    unfold flf
    split
    · exact (rfs_y (Or.inl e1)).trans e1
    · exact e1
theorem rct_tail {sh : Nat → Int32} {ad : Nat → Nat} {a : Nat} : ∀ n, (∀ b, a ≤ b → b < a + n → sh b = -1) → rct sh ad (a + n) = rct sh ad a
  | 0, _ => rfl
  | n + 1, h => by
    rw [← Nat.add_assoc, ← rct_y (Or.inl (h (a + n) (by omega) (by omega)))]
    exact rct_tail n (fun b h1 h2 => h b h1 (by omega))
theorem rct_nb {B : Nat} {s : ASt} (hI : InvA B s) {k : Nat} (hk : k < sNs s) (ad : Nat → Nat) : rct (sSh s k) ad (sNb s) = rct (sSh s k) ad 8 := by
  have h8 := hI.1
  have := rct_tail (sh := sSh s k) (ad := ad) (a := sNb s) (8 - sNb s) (fun b h1 h2 => (hI.2.2.1 k hk).2.2.2 b h1 (by omega))
  rw [show sNb s + (8 - sNb s) = 8 by omega] at this
  exact this.symm
set_option maxHeartbeats 4000000 in
set_option maxRecDepth 100000 in
theorem m_refreshes (l : Launch) (G : Gx) (m nw bf sv hy tx li nmb : Nat) (iS rmb eA fA tyd ldd thr siz spt wrg tld : Int32) (σ : Nat → Int32) (s : ASt) (B : Nat) (hR : Rel σ s) (hI : InvA B s) (hB : B < 2 ^ 30) (hB1 : B + 1 < 2 ^ 30) (x y : Int32) : Ct l G SF0 yX13_refreshes wsX13_refreshes ({ frames := 3, cells := 0, slots := 0, locals := 65 }) [.ref m, .int x, .int y] [(m, .inr (13, [.ref nw, .ref bf, .ref sv, .ref hy, .int iS, .int rmb, .int eA, .int fA, .ref tx, .int tyd, .ref li, .int ldd, .int thr, .int siz, .int spt, .int wrg, .int tld, .ref nmb])), (nw, .inl (gI G, 72, .inl σ))] mkI (fun (r : Int32) (u : Nat → Int32) => (pwX 6 s x y 0 = 0 ∧ Rel u (cX 6 s x y 0) ∧ r = rX 6 s x y 0) ∨ (¬ pwX 6 s x y 0 = 0 ∧ u = σ ∧ r = 0)) (fun u : Nat → Int32 => [(m, .inr (13, [.ref nw, .ref bf, .ref sv, .ref hy, .int iS, .int rmb, .int eA, .int fA, .ref tx, .int tyd, .ref li, .int ldd, .int (nI (cd 6 (pwX 6 s x y 0))), .int siz, .int spt, .int wrg, .int tld, .ref nmb])), (nw, .inl (gI G, 72, .inl u))]) 0 0 := by
  have hb8 := hI.1
  have hs6 := hI.2.1
  refine Ct.ofI (cc := cX13_refreshes) (maxL := 8) (by decide) rfl ⟨by simp [Value.category], Nat.le_of_ble_eq_true rfl⟩ ?_
  intro K hl hC hSF hnm hE
  subst hl
  have q0_ : ∀ w ∈ u_ws RX13 TX13 18, w ∈ wsX13_refreshes := by decide +kernel
  have q1_ : Cond.fieldLink RX13 9 "FeatherSharesModel" "now" "[I" ∈ wsX13_refreshes := by decide +kernel
  show V G K 8 0 0 0 [some (.ref m), some (.int x), some (.int y), none, none, none, none, none] [] [(m, .inr (13, [.ref nw, .ref bf, .ref sv, .ref hy, .int iS, .int rmb, .int eA, .int fA, .ref tx, .int tyd, .ref li, .int ldd, .int thr, .int siz, .int spt, .int wrg, .int tld, .ref nmb])), (nw, .inl (gI G, 72, .inl σ))]
  refine V.aload_n hC (x := m) dX13_refreshes_0 rfl ?_
  refine V.iload_n hC (x := x) dX13_refreshes_1 rfl ?_
  refine V.callVr (n := 1) (As := [.int x]) (rest := []) hC (m_find (kl K) G m nw bf sv hy tx li nmb iS rmb eA fA tyd ldd thr siz spt wrg tld σ s B hR hI hB x) SFk0 SFgo0 gX13_refreshes_X13_find rfl ⟨rfl, rfl⟩ (by decide +kernel) ⟨by decide, by decide, by decide, by decide⟩ [0, 1] rfl (by decide) rfl rfl rfl rfl (Nat.le_of_ble_eq_true rfl) dX13_refreshes_2 (fun r_2 u_2 hp_2 => ?_)
  rcases hf : fd (sNu s) x (sNs s) with _ | k
  · rw [hf] at hp_2
    subst hp_2
    show V G K 8 0 0 5 [some (.ref m), some (.int x), some (.int y), none, none, none, none, none] [.int (-1)] [(m, .inr (13, [.ref nw, .ref bf, .ref sv, .ref hy, .int iS, .int rmb, .int eA, .int fA, .ref tx, .int tyd, .ref li, .int ldd, .int thr, .int siz, .int spt, .int wrg, .int tld, .ref nmb])), (nw, .inl (gI G, 72, .inl σ))]
    refine V.istore_n hC dX13_refreshes_5 [some (.ref m), some (.int x), some (.int y), some (.int (-1)), none, none, none, none] (Nat.le_of_ble_eq_true rfl) rfl ?_
    refine V.aload_n hC (x := m) dX13_refreshes_6 rfl ?_
    refine V.iload_n hC (x := -1) dX13_refreshes_7 rfl ?_
    refine V.iconst hC (-1) dX13_refreshes_8 rfl ?_
    refine V.icmp_eq hC 16 dX13_refreshes_9 rfl (fun c_9 => ?_) (fun c_9 => ?_)
    · refine V.iconst hC 0 dX13_refreshes_16 rfl ?_
      refine V.iload_n hC (x := y) dX13_refreshes_17 rfl ?_
      refine V.callSr (n := 1) (As := [.int y]) (rest := [.int 0, .ref m]) hC (m_isNumber (kl K) G y) SFk0 SFgo0 gX13_refreshes_X13_isNumber rfl ⟨rfl, rfl⟩ (by decide +kernel) ⟨by decide, by decide, by decide, by decide⟩ [] rfl (by decide) rfl rfl (Nat.le_of_ble_eq_true rfl) dX13_refreshes_18 (fun r_18 u_18 hp_18 => ?_)
      subst hp_18
      show V G K 8 0 0 21 [some (.ref m), some (.int x), some (.int y), some (.int (-1)), none, none, none, none] [.int (if isR y then 1 else 0), .int 0, .ref m] [(m, .inr (13, [.ref nw, .ref bf, .ref sv, .ref hy, .int iS, .int rmb, .int eA, .int fA, .ref tx, .int tyd, .ref li, .int ldd, .int thr, .int siz, .int spt, .int wrg, .int tld, .ref nmb])), (nw, .inl (gI G, 72, .inl σ))]
      refine V.iconst hC 1 dX13_refreshes_21 rfl ?_
      refine V.iconst hC 1 dX13_refreshes_22 rfl ?_
      refine V.callV (n := 4) (As := [.int 0, .int (if isR y then 1 else 0), .int 1, .int 1]) (rest := []) hC (m_allows (kl K) G m nw bf sv hy tx li nmb iS rmb eA fA tyd ldd thr siz spt wrg tld 0 (if isR y then 1 else 0) 1 1) SFk0 SFgo0 gX13_refreshes_X13_allows rfl ⟨rfl, rfl⟩ (by decide +kernel) ⟨by decide, by decide, by decide, by decide⟩ [0] rfl (by decide) (fun _ => rfl) rfl rfl rfl rfl (Nat.le_of_ble_eq_true rfl) dX13_refreshes_23 (fun r_23 u_23 hp_23 => ?_)
      subst hp_23
      show V G K 8 0 0 26 [some (.ref m), some (.int x), some (.int y), some (.int (-1)), none, none, none, none] [.int (if alw 0 (if isR y then 1 else 0) 1 1 = 0 then 1 else 0)] [(m, .inr (13, [.ref nw, .ref bf, .ref sv, .ref hy, .int iS, .int rmb, .int eA, .int fA, .ref tx, .int tyd, .ref li, .int ldd, .int (nI (alw 0 (if isR y then 1 else 0) 1 1)), .int siz, .int spt, .int wrg, .int tld, .ref nmb])), (nw, .inl (gI G, 72, .inl σ))]
      have ha_23 : alw 0 (if isR y then 1 else 0) 1 1 = 1 := by rfl
      refine V.topeq (nI 0) (by rw [ha_23]; rfl) ?_
      refine V.eqw (ws' := [(m, .inr (13, [.ref nw, .ref bf, .ref sv, .ref hy, .int iS, .int rmb, .int eA, .int fA, .ref tx, .int tyd, .ref li, .int ldd, .int (nI 1), .int siz, .int spt, .int wrg, .int tld, .ref nmb])), (nw, .inl (gI G, 72, .inl σ))]) (by rw [ha_23]) ?_
      refine V.ifN_ne hC 0 31 dX13_refreshes_26 rfl rfl (by omega) (fun c_26 => ?_) (fun c_26 => ?_)
      · exact absurd c_26 (by decide)
      · refine V.iconst hC 0 dX13_refreshes_29 rfl ?_
        have hpw : pwX 6 s x y 0 = 3 := (show pwR (fd (sNu s) x (sNs s)) y = 3 by rw [hf]; rfl)
        refine V.eqw (ws' := [(m, .inr (13, [.ref nw, .ref bf, .ref sv, .ref hy, .int iS, .int rmb, .int eA, .int fA, .ref tx, .int tyd, .ref li, .int ldd, .int (nI (cd 6 (pwX 6 s x y 0))), .int siz, .int spt, .int wrg, .int tld, .ref nmb])), (nw, .inl (gI G, 72, .inl σ))]) (by rw [hpw]; rfl) ?_
        exact hE 30 _ 0 σ dX13_refreshes_30 rfl (Or.inr ⟨by rw [hpw]; decide, rfl, rfl⟩)
    · exact absurd rfl c_9
  · rw [hf] at hp_2
    subst hp_2
    have hkn := (fd_lt hf hs6).1
    have hk6 := (fd_lt hf hs6).2
    have ik := hI.2.2.1 k hkn
    show V G K 8 0 0 5 [some (.ref m), some (.int x), some (.int y), none, none, none, none, none] [.int (nI k)] [(m, .inr (13, [.ref nw, .ref bf, .ref sv, .ref hy, .int iS, .int rmb, .int eA, .int fA, .ref tx, .int tyd, .ref li, .int ldd, .int thr, .int siz, .int spt, .int wrg, .int tld, .ref nmb])), (nw, .inl (gI G, 72, .inl σ))]
    refine V.istore_n hC dX13_refreshes_5 [some (.ref m), some (.int x), some (.int y), some (.int (nI k)), none, none, none, none] (Nat.le_of_ble_eq_true rfl) rfl ?_
    refine V.aload_n hC (x := m) dX13_refreshes_6 rfl ?_
    refine V.iload_n hC (x := nI k) dX13_refreshes_7 rfl ?_
    refine V.iconst hC (-1) dX13_refreshes_8 rfl ?_
    refine V.icmp_eq hC 16 dX13_refreshes_9 rfl (fun c_9 => ?_) (fun c_9 => ?_)
    · exact absurd c_9 (nI_m1 (by omega))
    · refine V.iconst hC 1 dX13_refreshes_12 rfl ?_
      refine V.goto hC 17 dX13_refreshes_13 rfl ?_
      refine V.iload_n hC (x := y) dX13_refreshes_17 rfl ?_
      refine V.callSr (n := 1) (As := [.int y]) (rest := [.int 1, .ref m]) hC (m_isNumber (kl K) G y) SFk0 SFgo0 gX13_refreshes_X13_isNumber rfl ⟨rfl, rfl⟩ (by decide +kernel) ⟨by decide, by decide, by decide, by decide⟩ [] rfl (by decide) rfl rfl (Nat.le_of_ble_eq_true rfl) dX13_refreshes_18 (fun r_18 u_18 hp_18 => ?_)
      subst hp_18
      show V G K 8 0 0 21 [some (.ref m), some (.int x), some (.int y), some (.int (nI k)), none, none, none, none] [.int (if isR y then 1 else 0), .int 1, .ref m] [(m, .inr (13, [.ref nw, .ref bf, .ref sv, .ref hy, .int iS, .int rmb, .int eA, .int fA, .ref tx, .int tyd, .ref li, .int ldd, .int thr, .int siz, .int spt, .int wrg, .int tld, .ref nmb])), (nw, .inl (gI G, 72, .inl σ))]
      refine V.iconst hC 1 dX13_refreshes_21 rfl ?_
      refine V.iconst hC 1 dX13_refreshes_22 rfl ?_
      refine V.callV (n := 4) (As := [.int 1, .int (if isR y then 1 else 0), .int 1, .int 1]) (rest := []) hC (m_allows (kl K) G m nw bf sv hy tx li nmb iS rmb eA fA tyd ldd thr siz spt wrg tld 1 (if isR y then 1 else 0) 1 1) SFk0 SFgo0 gX13_refreshes_X13_allows rfl ⟨rfl, rfl⟩ (by decide +kernel) ⟨by decide, by decide, by decide, by decide⟩ [0] rfl (by decide) (fun _ => rfl) rfl rfl rfl rfl (Nat.le_of_ble_eq_true rfl) dX13_refreshes_23 (fun r_23 u_23 hp_23 => ?_)
      subst hp_23
      show V G K 8 0 0 26 [some (.ref m), some (.int x), some (.int y), some (.int (nI k)), none, none, none, none] [.int (if alw 1 (if isR y then 1 else 0) 1 1 = 0 then 1 else 0)] [(m, .inr (13, [.ref nw, .ref bf, .ref sv, .ref hy, .int iS, .int rmb, .int eA, .int fA, .ref tx, .int tyd, .ref li, .int ldd, .int (nI (alw 1 (if isR y then 1 else 0) 1 1)), .int siz, .int spt, .int wrg, .int tld, .ref nmb])), (nw, .inl (gI G, 72, .inl σ))]
      by_cases hg1_23 : isR y
      · have ha_23 : alw 1 (if isR y then 1 else 0) 1 1 = 0 := by rw [if_pos hg1_23]; rfl
        refine V.topeq (nI 1) (by rw [ha_23]; rfl) ?_
        refine V.eqw (ws' := [(m, .inr (13, [.ref nw, .ref bf, .ref sv, .ref hy, .int iS, .int rmb, .int eA, .int fA, .ref tx, .int tyd, .ref li, .int ldd, .int (nI 0), .int siz, .int spt, .int wrg, .int tld, .ref nmb])), (nw, .inl (gI G, 72, .inl σ))]) (by rw [ha_23]) ?_
        refine V.ifN_ne hC 1 31 dX13_refreshes_26 rfl rfl (by omega) (fun c_26 => ?_) (fun c_26 => ?_)
        · obtain ⟨sd, hsd, hysd⟩ := isR_nat hg1_23
          have hcy : y.toNatClampNeg = sd := by rw [hysd, nI_clamp (by omega)]
          refine V.lset 2 (x := .int y) (y := .int (nI sd)) (congrArg Value.int hysd) rfl (lv' := [some (.ref m), some (.int x), some (.int (nI sd)), some (.int (nI k)), none, none, none, none]) rfl ?_
          refine V.iconst hC 0 dX13_refreshes_31 rfl ?_
          refine V.istore hC dX13_refreshes_32 [some (.ref m), some (.int x), some (.int (nI sd)), some (.int (nI k)), some (.int 0), none, none, none] (Nat.le_of_ble_eq_true rfl) rfl ?_
          refine V.iconst hC 0 dX13_refreshes_34 rfl ?_
          refine V.istore hC dX13_refreshes_35 [some (.ref m), some (.int x), some (.int (nI sd)), some (.int (nI k)), some (.int 0), some (.int 0), none, none] (Nat.le_of_ble_eq_true rfl) rfl ?_
          have loop37 : ∀ (n : Nat) (b : Nat) (ω : Nat → Int32), 8 - b < n → (b ≤ sNb s) → (Rel ω (rfS s k (rfa sd (sTn s k)) b)) → V G K 8 0 0 37 [some (.ref m), some (.int x), some (.int (nI sd)), some (.int (nI k)), some (.int (nI (rct (sSh s k) (rfa sd (sTn s k)) b))), some (.int (nI b)), none, none] [] [(m, .inr (13, [.ref nw, .ref bf, .ref sv, .ref hy, .int iS, .int rmb, .int eA, .int fA, .ref tx, .int tyd, .ref li, .int ldd, .int (nI 0), .int siz, .int spt, .int wrg, .int tld, .ref nmb])), (nw, .inl (gI G, 72, .inl ω))] := by
            intro n
            induction n with
            | zero => intro b ω hlt; exact absurd hlt (Nat.not_lt_zero _)
            | succ n ih37 =>
              intro b ω hlt37 hb hω
              have hrc := rct_le (sSh s k) (rfa sd (sTn s k)) b
              refine V.iload hC (x := nI b) dX13_refreshes_37 rfl ?_
              refine V.aload_n hC (x := m) dX13_refreshes_39 rfl ?_
              refine V.getf hC (T := TX13) q0_ 0 q1_ rfl (0) rfl rfl (by decide) (.ref nw) rfl dX13_refreshes_40 ?_
              refine V.iconst hC 0 dX13_refreshes_43 rfl ?_
              refine V.iald hC dX13_refreshes_44 (1) rfl 0 rfl (by omega) (by decide) ?_
              refine V.topeq (nI (sNb s)) hω.1 ?_
              refine V.icmpN_ge hC b (sNb s) 141 dX13_refreshes_45 rfl rfl rfl (by omega) (by omega) (fun c_45 => ?_) (fun c_45 => ?_)
              · refine V.iload hC (x := nI (rct (sSh s k) (rfa sd (sTn s k)) b)) dX13_refreshes_141 rfl ?_
                have hpw : pwX 6 s x y 0 = 0 := (show pwR (fd (sNu s) x (sNs s)) y = 0 by rw [hf]; exact (if_neg (fun z => by cases z)).trans (if_pos hg1_23))
                refine V.eqw (ws' := [(m, .inr (13, [.ref nw, .ref bf, .ref sv, .ref hy, .int iS, .int rmb, .int eA, .int fA, .ref tx, .int tyd, .ref li, .int ldd, .int (nI (cd 6 (pwX 6 s x y 0))), .int siz, .int spt, .int wrg, .int tld, .ref nmb])), (nw, .inl (gI G, 72, .inl ω))]) (by rw [hpw]; rfl) ?_
                exact hE 143 _ (nI (rct (sSh s k) (rfa sd (sTn s k)) b)) ω dX13_refreshes_143 rfl (Or.inl ⟨hpw, (by simp only [cX, hf, hcy]; exact rel_rfE hω hI hkn (by omega)), (by simp only [rX, hf, hcy]; rw [show b = sNb s by omega, rct_nb hI hkn])⟩)
              · have hIw := InvA.rf hI hkn sd (sTn s k) b
                refine V.aload_n hC (x := m) dX13_refreshes_48 rfl ?_
                refine V.iload hC (x := nI b) dX13_refreshes_49 rfl ?_
                refine V.iload_n hC (x := nI k) dX13_refreshes_51 rfl ?_
                refine V.callVr (n := 2) (As := [.int (nI b), .int (nI k)]) (rest := []) hC (m_shareOf (kl K) G m nw bf sv hy tx li nmb iS rmb eA fA tyd ldd (nI 0) siz spt wrg tld ω (rfS s k (rfa sd (sTn s k)) b) (B + 1) hω hIw hB1 (nI b) k hkn) SFk0 SFgo0 gX13_refreshes_X13_shareOf rfl ⟨rfl, rfl⟩ (by decide +kernel) ⟨by decide, by decide, by decide, by decide⟩ [0, 1] rfl (by decide) rfl rfl rfl rfl (Nat.le_of_ble_eq_true rfl) dX13_refreshes_52 (fun r_52 u_52 hp_52 => ?_)
                have hq_52 := hp_52.trans ((shK (s := (rfS s k (rfa sd (sTn s k)) b)) (show b < sNb s by omega) hb8).trans rfS_at)
                subst hq_52
                show V G K 8 0 0 55 [some (.ref m), some (.int x), some (.int (nI sd)), some (.int (nI k)), some (.int (nI (rct (sSh s k) (rfa sd (sTn s k)) b))), some (.int (nI b)), none, none] [.int (sSh s k b)] [(m, .inr (13, [.ref nw, .ref bf, .ref sv, .ref hy, .int iS, .int rmb, .int eA, .int fA, .ref tx, .int tyd, .ref li, .int ldd, .int (nI 0), .int siz, .int spt, .int wrg, .int tld, .ref nmb])), (nw, .inl (gI G, 72, .inl ω))]
                refine V.istore hC dX13_refreshes_55 [some (.ref m), some (.int x), some (.int (nI sd)), some (.int (nI k)), some (.int (nI (rct (sSh s k) (rfa sd (sTn s k)) b))), some (.int (nI b)), some (.int (sSh s k b)), none] (Nat.le_of_ble_eq_true rfl) rfl ?_
                refine V.iload hC (x := sSh s k b) dX13_refreshes_57 rfl ?_
                refine V.iconst hC (-1) dX13_refreshes_59 rfl ?_
                refine V.icmp_ne hC 67 dX13_refreshes_60 rfl (fun c_60 => ?_) (fun c_60 => ?_)
                · have hv := ik.2.2.1 b (by omega) c_60
                  have hrl := rfa_lt sd (sTn s k) b
                  refine V.lset 6 (x := .int (sSh s k b)) (y := .int (nI (svn (sSh s k) b))) (congrArg Value.int hv.1) rfl (lv' := [some (.ref m), some (.int x), some (.int (nI sd)), some (.int (nI k)), some (.int (nI (rct (sSh s k) (rfa sd (sTn s k)) b))), some (.int (nI b)), some (.int (nI (svn (sSh s k) b))), none]) rfl ?_
                  refine V.iconst hC 0 dX13_refreshes_67 rfl ?_
                  refine V.iload_n hC (x := nI sd) dX13_refreshes_68 rfl ?_
                  refine V.iconst hC 5 dX13_refreshes_69 rfl ?_
                  refine V.aload_n hC (x := m) dX13_refreshes_70 rfl ?_
                  refine V.iload_n hC (x := nI k) dX13_refreshes_71 rfl ?_
                  refine V.iconst hC 1 dX13_refreshes_72 rfl ?_
                  refine V.callVr (n := 2) (As := [.int (nI k), .int 1]) (rest := [.int 5, .int (nI sd), .int 0]) hC (m_of (kl K) G m nw bf sv hy tx li nmb iS rmb eA fA tyd ldd (nI 0) siz spt wrg tld ω k hk6 1 (by decide)) SFk0 SFgo0 gX13_refreshes_X13_of rfl ⟨rfl, rfl⟩ (by decide +kernel) ⟨by decide, by decide, by decide, by decide⟩ [0, 1] rfl (by decide) rfl rfl rfl rfl (Nat.le_of_ble_eq_true rfl) dX13_refreshes_73 (fun r_73 u_73 hp_73 => ?_)
                  have hq_73 := hp_73.trans (show ω (12 + 10 * k + 1) = nI (sTn s k) by rw [show 12 + 10 * k + 1 = 13 + 10 * k by omega]; exact (hω.2.2.2.2.2 k hkn).2.1)
                  subst hq_73
                  show V G K 8 0 0 76 [some (.ref m), some (.int x), some (.int (nI sd)), some (.int (nI k)), some (.int (nI (rct (sSh s k) (rfa sd (sTn s k)) b))), some (.int (nI b)), some (.int (nI (svn (sSh s k) b))), none] [.int (nI (sTn s k)), .int 5, .int (nI sd), .int 0] [(m, .inr (13, [.ref nw, .ref bf, .ref sv, .ref hy, .int iS, .int rmb, .int eA, .int fA, .ref tx, .int tyd, .ref li, .int ldd, .int (nI 0), .int siz, .int spt, .int wrg, .int tld, .ref nmb])), (nw, .inl (gI G, 72, .inl ω))]
                  refine V.iload hC (x := nI b) dX13_refreshes_76 rfl ?_
                  refine V.iconst hC 1 dX13_refreshes_78 rfl ?_
                  refine V.iaddN hC b 1 dX13_refreshes_79 rfl rfl ?_
                  refine V.callSr (n := 5) (As := [.int 0, .int (nI sd), .int 5, .int (nI (sTn s k)), .int (nI (b + 1))]) (rest := []) hC (m_spread (kl K) G 0 sd 5 (sTn s k) (b + 1) (by decide) hsd (by decide) ik.1 ik.2.1 (by omega)) SFk0 SFgo0 gX13_refreshes_X13_spread rfl ⟨rfl, rfl⟩ (by decide +kernel) ⟨by decide, by decide, by decide, by decide⟩ [] rfl (by decide) rfl rfl (Nat.le_of_ble_eq_true rfl) dX13_refreshes_80 (fun r_80 u_80 hp_80 => ?_)
                  subst hp_80
                  show V G K 8 0 0 83 [some (.ref m), some (.int x), some (.int (nI sd)), some (.int (nI k)), some (.int (nI (rct (sSh s k) (rfa sd (sTn s k)) b))), some (.int (nI b)), some (.int (nI (svn (sSh s k) b))), none] [.int (nI (rfa sd (sTn s k) b))] [(m, .inr (13, [.ref nw, .ref bf, .ref sv, .ref hy, .int iS, .int rmb, .int eA, .int fA, .ref tx, .int tyd, .ref li, .int ldd, .int (nI 0), .int siz, .int spt, .int wrg, .int tld, .ref nmb])), (nw, .inl (gI G, 72, .inl ω))]
                  refine V.istore hC dX13_refreshes_83 [some (.ref m), some (.int x), some (.int (nI sd)), some (.int (nI k)), some (.int (nI (rct (sSh s k) (rfa sd (sTn s k)) b))), some (.int (nI b)), some (.int (nI (svn (sSh s k) b))), some (.int (nI (rfa sd (sTn s k) b)))] (Nat.le_of_ble_eq_true rfl) rfl ?_
                  refine V.iload hC (x := nI (rct (sSh s k) (rfa sd (sTn s k)) b)) dX13_refreshes_85 rfl ?_
                  refine V.iload hC (x := nI (rfa sd (sTn s k) b)) dX13_refreshes_87 rfl ?_
                  refine V.ifN_ne hC (rfa sd (sTn s k) b) 96 dX13_refreshes_89 rfl rfl (by omega) (fun c_89 => ?_) (fun c_89 => ?_)
                  · refine V.iconst hC 1 dX13_refreshes_96 rfl ?_
                    refine V.iaddN hC (rct (sSh s k) (rfa sd (sTn s k)) b) 1 dX13_refreshes_97 rfl rfl ?_
                    refine V.istore hC dX13_refreshes_98 [some (.ref m), some (.int x), some (.int (nI sd)), some (.int (nI k)), some (.int (nI ((rct (sSh s k) (rfa sd (sTn s k)) b) + 1))), some (.int (nI b)), some (.int (nI (svn (sSh s k) b))), some (.int (nI (rfa sd (sTn s k) b)))] (Nat.le_of_ble_eq_true rfl) rfl ?_
                    refine V.aload_n hC (x := m) dX13_refreshes_100 rfl ?_
                    refine V.getf hC (T := TX13) q0_ 0 q1_ rfl (0) rfl rfl (by decide) (.ref nw) rfl dX13_refreshes_101 ?_
                    refine V.bipush hC 12 dX13_refreshes_104 rfl ?_
                    refine V.bipush hC 10 dX13_refreshes_106 rfl ?_
                    refine V.iload_n hC (x := nI k) dX13_refreshes_108 rfl ?_
                    refine V.imulN hC 10 k dX13_refreshes_109 rfl rfl ?_
                    refine V.iaddN hC 12 (10 * k) dX13_refreshes_110 rfl rfl ?_
                    refine V.iconst hC 2 dX13_refreshes_111 rfl ?_
                    refine V.iaddN hC (12 + (10 * k)) 2 dX13_refreshes_112 rfl rfl ?_
                    refine V.iload hC (x := nI b) dX13_refreshes_113 rfl ?_
                    refine V.iaddN hC ((12 + (10 * k)) + 2) b dX13_refreshes_115 rfl rfl ?_
                    refine V.iload hC (x := nI (svn (sSh s k) b)) dX13_refreshes_116 rfl ?_
                    refine V.iconst hC (-1) dX13_refreshes_118 rfl ?_
                    refine V.icmp_ne hC 126 dX13_refreshes_119 rfl (fun c_119 => ?_) (fun c_119 => ?_)
                    · refine V.iload hC (x := nI (svn (sSh s k) b)) dX13_refreshes_126 rfl ?_
                      refine V.iload hC (x := nI (rfa sd (sTn s k) b)) dX13_refreshes_128 rfl ?_
                      refine V.iaddN hC (svn (sSh s k) b) (rfa sd (sTn s k) b) dX13_refreshes_130 rfl rfl ?_
                      refine V.bipush hC 97 dX13_refreshes_131 rfl ?_
                      refine V.iremN hC ((svn (sSh s k) b) + (rfa sd (sTn s k) b)) 97 dX13_refreshes_133 rfl rfl (by omega) (by decide) (by decide) ?_
                      refine V.iast hC dX13_refreshes_134 (1) rfl (((12 + (10 * k)) + 2) + b) rfl (by omega) (by decide) [(m, .inr (13, [.ref nw, .ref bf, .ref sv, .ref hy, .int iS, .int rmb, .int eA, .int fA, .ref tx, .int tyd, .ref li, .int ldd, .int (nI 0), .int siz, .int spt, .int wrg, .int tld, .ref nmb])), (nw, .inl (gI G, 72, .inl (upd ω (((12 + (10 * k)) + 2) + b) (nI (((svn (sSh s k) b) + (rfa sd (sTn s k) b)) % 97)))))] rfl ?_
                      refine V.lset 4 (x := .int (nI ((rct (sSh s k) (rfa sd (sTn s k)) b) + 1))) (y := .int (nI (rct (sSh s k) (rfa sd (sTn s k)) (b + 1)))) (congrArg Value.int (congrArg nI (rct_n (fun z => z.elim c_60 c_89)))) rfl (lv' := [some (.ref m), some (.int x), some (.int (nI sd)), some (.int (nI k)), some (.int (nI (rct (sSh s k) (rfa sd (sTn s k)) (b + 1)))), some (.int (nI b)), some (.int (nI (svn (sSh s k) b))), some (.int (nI (rfa sd (sTn s k) b)))]) rfl ?_
                      refine V.iincN hC b 1 dX13_refreshes_135 rfl [some (.ref m), some (.int x), some (.int (nI sd)), some (.int (nI k)), some (.int (nI (rct (sSh s k) (rfa sd (sTn s k)) (b + 1)))), some (.int (nI (b + 1))), some (.int (nI (svn (sSh s k) b))), some (.int (nI (rfa sd (sTn s k) b)))] (Nat.le_of_ble_eq_true rfl) rfl rfl rfl ?_
                      refine V.goto hC 37 dX13_refreshes_138 rfl ?_
                      refine V.drop 6 (lv' := [some (.ref m), some (.int x), some (.int (nI sd)), some (.int (nI k)), some (.int (nI (rct (sSh s k) (rfa sd (sTn s k)) (b + 1)))), some (.int (nI (b + 1))), none, some (.int (nI (rfa sd (sTn s k) b)))]) rfl ?_
                      refine V.drop 7 (lv' := [some (.ref m), some (.int x), some (.int (nI sd)), some (.int (nI k)), some (.int (nI (rct (sSh s k) (rfa sd (sTn s k)) (b + 1)))), some (.int (nI (b + 1))), none, none]) rfl ?_
                      exact ih37 (b + 1) (upd ω (((12 + (10 * k)) + 2) + b) (nI (((svn (sSh s k) b) + (rfa sd (sTn s k) b)) % 97))) (by omega) (by omega) (rel_rf hω hb8 (by omega) hkn ((sp97 hv.1 hv.2 hrl).symm.trans (rfs_n (fun z => z.elim c_60 c_89))))
                    · exact absurd c_119 (nI_m1 (by omega))
                  · refine V.iconst hC 0 dX13_refreshes_92 rfl ?_
                    refine V.goto hC 97 dX13_refreshes_93 rfl ?_
                    refine V.iaddN hC (rct (sSh s k) (rfa sd (sTn s k)) b) 0 dX13_refreshes_97 rfl rfl ?_
                    refine V.istore hC dX13_refreshes_98 [some (.ref m), some (.int x), some (.int (nI sd)), some (.int (nI k)), some (.int (nI ((rct (sSh s k) (rfa sd (sTn s k)) b) + 0))), some (.int (nI b)), some (.int (nI (svn (sSh s k) b))), some (.int (nI (rfa sd (sTn s k) b)))] (Nat.le_of_ble_eq_true rfl) rfl ?_
                    refine V.aload_n hC (x := m) dX13_refreshes_100 rfl ?_
                    refine V.getf hC (T := TX13) q0_ 0 q1_ rfl (0) rfl rfl (by decide) (.ref nw) rfl dX13_refreshes_101 ?_
                    refine V.bipush hC 12 dX13_refreshes_104 rfl ?_
                    refine V.bipush hC 10 dX13_refreshes_106 rfl ?_
                    refine V.iload_n hC (x := nI k) dX13_refreshes_108 rfl ?_
                    refine V.imulN hC 10 k dX13_refreshes_109 rfl rfl ?_
                    refine V.iaddN hC 12 (10 * k) dX13_refreshes_110 rfl rfl ?_
                    refine V.iconst hC 2 dX13_refreshes_111 rfl ?_
                    refine V.iaddN hC (12 + (10 * k)) 2 dX13_refreshes_112 rfl rfl ?_
                    refine V.iload hC (x := nI b) dX13_refreshes_113 rfl ?_
                    refine V.iaddN hC ((12 + (10 * k)) + 2) b dX13_refreshes_115 rfl rfl ?_
                    refine V.iload hC (x := nI (svn (sSh s k) b)) dX13_refreshes_116 rfl ?_
                    refine V.iconst hC (-1) dX13_refreshes_118 rfl ?_
                    refine V.icmp_ne hC 126 dX13_refreshes_119 rfl (fun c_119 => ?_) (fun c_119 => ?_)
                    · refine V.iload hC (x := nI (svn (sSh s k) b)) dX13_refreshes_126 rfl ?_
                      refine V.iload hC (x := nI (rfa sd (sTn s k) b)) dX13_refreshes_128 rfl ?_
                      refine V.iaddN hC (svn (sSh s k) b) (rfa sd (sTn s k) b) dX13_refreshes_130 rfl rfl ?_
                      refine V.bipush hC 97 dX13_refreshes_131 rfl ?_
                      refine V.iremN hC ((svn (sSh s k) b) + (rfa sd (sTn s k) b)) 97 dX13_refreshes_133 rfl rfl (by omega) (by decide) (by decide) ?_
                      refine V.iast hC dX13_refreshes_134 (1) rfl (((12 + (10 * k)) + 2) + b) rfl (by omega) (by decide) [(m, .inr (13, [.ref nw, .ref bf, .ref sv, .ref hy, .int iS, .int rmb, .int eA, .int fA, .ref tx, .int tyd, .ref li, .int ldd, .int (nI 0), .int siz, .int spt, .int wrg, .int tld, .ref nmb])), (nw, .inl (gI G, 72, .inl (upd ω (((12 + (10 * k)) + 2) + b) (nI (((svn (sSh s k) b) + (rfa sd (sTn s k) b)) % 97)))))] rfl ?_
                      refine V.lset 4 (x := .int (nI ((rct (sSh s k) (rfa sd (sTn s k)) b) + 0))) (y := .int (nI (rct (sSh s k) (rfa sd (sTn s k)) (b + 1)))) (congrArg Value.int (congrArg nI (rct_y (Or.inr c_89)))) rfl (lv' := [some (.ref m), some (.int x), some (.int (nI sd)), some (.int (nI k)), some (.int (nI (rct (sSh s k) (rfa sd (sTn s k)) (b + 1)))), some (.int (nI b)), some (.int (nI (svn (sSh s k) b))), some (.int (nI (rfa sd (sTn s k) b)))]) rfl ?_
                      refine V.iincN hC b 1 dX13_refreshes_135 rfl [some (.ref m), some (.int x), some (.int (nI sd)), some (.int (nI k)), some (.int (nI (rct (sSh s k) (rfa sd (sTn s k)) (b + 1)))), some (.int (nI (b + 1))), some (.int (nI (svn (sSh s k) b))), some (.int (nI (rfa sd (sTn s k) b)))] (Nat.le_of_ble_eq_true rfl) rfl rfl rfl ?_
                      refine V.goto hC 37 dX13_refreshes_138 rfl ?_
                      refine V.drop 6 (lv' := [some (.ref m), some (.int x), some (.int (nI sd)), some (.int (nI k)), some (.int (nI (rct (sSh s k) (rfa sd (sTn s k)) (b + 1)))), some (.int (nI (b + 1))), none, some (.int (nI (rfa sd (sTn s k) b)))]) rfl ?_
                      refine V.drop 7 (lv' := [some (.ref m), some (.int x), some (.int (nI sd)), some (.int (nI k)), some (.int (nI (rct (sSh s k) (rfa sd (sTn s k)) (b + 1)))), some (.int (nI (b + 1))), none, none]) rfl ?_
                      exact ih37 (b + 1) (upd ω (((12 + (10 * k)) + 2) + b) (nI (((svn (sSh s k) b) + (rfa sd (sTn s k) b)) % 97))) (by omega) (by omega) (rel_rf hω hb8 (by omega) hkn ((congrArg nI (by rw [c_89, Nat.add_zero]; exact Nat.mod_eq_of_lt hv.2)).trans (hv.1.symm.trans (rfs_y (Or.inr c_89)).symm)))
                    · exact absurd c_119 (nI_m1 (by omega))
                · refine V.lset 6 (x := .int (sSh s k b)) (y := .int (-1)) (congrArg Value.int c_60) rfl (lv' := [some (.ref m), some (.int x), some (.int (nI sd)), some (.int (nI k)), some (.int (nI (rct (sSh s k) (rfa sd (sTn s k)) b))), some (.int (nI b)), some (.int (-1)), none]) rfl ?_
                  refine V.iconst hC 0 dX13_refreshes_63 rfl ?_
                  refine V.goto hC 83 dX13_refreshes_64 rfl ?_
                  refine V.istore hC dX13_refreshes_83 [some (.ref m), some (.int x), some (.int (nI sd)), some (.int (nI k)), some (.int (nI (rct (sSh s k) (rfa sd (sTn s k)) b))), some (.int (nI b)), some (.int (-1)), some (.int 0)] (Nat.le_of_ble_eq_true rfl) rfl ?_
                  refine V.iload hC (x := nI (rct (sSh s k) (rfa sd (sTn s k)) b)) dX13_refreshes_85 rfl ?_
                  refine V.iload hC (x := 0) dX13_refreshes_87 rfl ?_
                  refine V.ifN_ne hC 0 96 dX13_refreshes_89 rfl rfl (by omega) (fun c_89 => ?_) (fun c_89 => ?_)
                  · exact absurd c_89 (by decide)
                  · refine V.iconst hC 0 dX13_refreshes_92 rfl ?_
                    refine V.goto hC 97 dX13_refreshes_93 rfl ?_
                    refine V.iaddN hC (rct (sSh s k) (rfa sd (sTn s k)) b) 0 dX13_refreshes_97 rfl rfl ?_
                    refine V.istore hC dX13_refreshes_98 [some (.ref m), some (.int x), some (.int (nI sd)), some (.int (nI k)), some (.int (nI ((rct (sSh s k) (rfa sd (sTn s k)) b) + 0))), some (.int (nI b)), some (.int (-1)), some (.int 0)] (Nat.le_of_ble_eq_true rfl) rfl ?_
                    refine V.aload_n hC (x := m) dX13_refreshes_100 rfl ?_
                    refine V.getf hC (T := TX13) q0_ 0 q1_ rfl (0) rfl rfl (by decide) (.ref nw) rfl dX13_refreshes_101 ?_
                    refine V.bipush hC 12 dX13_refreshes_104 rfl ?_
                    refine V.bipush hC 10 dX13_refreshes_106 rfl ?_
                    refine V.iload_n hC (x := nI k) dX13_refreshes_108 rfl ?_
                    refine V.imulN hC 10 k dX13_refreshes_109 rfl rfl ?_
                    refine V.iaddN hC 12 (10 * k) dX13_refreshes_110 rfl rfl ?_
                    refine V.iconst hC 2 dX13_refreshes_111 rfl ?_
                    refine V.iaddN hC (12 + (10 * k)) 2 dX13_refreshes_112 rfl rfl ?_
                    refine V.iload hC (x := nI b) dX13_refreshes_113 rfl ?_
                    refine V.iaddN hC ((12 + (10 * k)) + 2) b dX13_refreshes_115 rfl rfl ?_
                    refine V.iload hC (x := -1) dX13_refreshes_116 rfl ?_
                    refine V.iconst hC (-1) dX13_refreshes_118 rfl ?_
                    refine V.icmp_ne hC 126 dX13_refreshes_119 rfl (fun c_119 => ?_) (fun c_119 => ?_)
                    · exact absurd rfl c_119
                    · refine V.iconst hC (-1) dX13_refreshes_122 rfl ?_
                      refine V.goto hC 134 dX13_refreshes_123 rfl ?_
                      refine V.iast hC dX13_refreshes_134 (1) rfl (((12 + (10 * k)) + 2) + b) rfl (by omega) (by decide) [(m, .inr (13, [.ref nw, .ref bf, .ref sv, .ref hy, .int iS, .int rmb, .int eA, .int fA, .ref tx, .int tyd, .ref li, .int ldd, .int (nI 0), .int siz, .int spt, .int wrg, .int tld, .ref nmb])), (nw, .inl (gI G, 72, .inl (upd ω (((12 + (10 * k)) + 2) + b) (-1))))] rfl ?_
                      refine V.lset 4 (x := .int (nI ((rct (sSh s k) (rfa sd (sTn s k)) b) + 0))) (y := .int (nI (rct (sSh s k) (rfa sd (sTn s k)) (b + 1)))) (congrArg Value.int (congrArg nI (rct_y (Or.inl c_60)))) rfl (lv' := [some (.ref m), some (.int x), some (.int (nI sd)), some (.int (nI k)), some (.int (nI (rct (sSh s k) (rfa sd (sTn s k)) (b + 1)))), some (.int (nI b)), some (.int (-1)), some (.int 0)]) rfl ?_
                      refine V.iincN hC b 1 dX13_refreshes_135 rfl [some (.ref m), some (.int x), some (.int (nI sd)), some (.int (nI k)), some (.int (nI (rct (sSh s k) (rfa sd (sTn s k)) (b + 1)))), some (.int (nI (b + 1))), some (.int (-1)), some (.int 0)] (Nat.le_of_ble_eq_true rfl) rfl rfl rfl ?_
                      refine V.goto hC 37 dX13_refreshes_138 rfl ?_
                      refine V.drop 6 (lv' := [some (.ref m), some (.int x), some (.int (nI sd)), some (.int (nI k)), some (.int (nI (rct (sSh s k) (rfa sd (sTn s k)) (b + 1)))), some (.int (nI (b + 1))), none, some (.int 0)]) rfl ?_
                      refine V.drop 7 (lv' := [some (.ref m), some (.int x), some (.int (nI sd)), some (.int (nI k)), some (.int (nI (rct (sSh s k) (rfa sd (sTn s k)) (b + 1)))), some (.int (nI (b + 1))), none, none]) rfl ?_
                      exact ih37 (b + 1) (upd ω (((12 + (10 * k)) + 2) + b) (-1)) (by omega) (by omega) (rel_rf hω hb8 (by omega) hkn ((rfs_y (Or.inl c_60)).trans c_60).symm)
          exact loop37 _ 0 σ (Nat.lt_succ_self _) (by omega) (rel_rf0 hR k _)
        · exact absurd c_26 (by decide)
      · have ha_23 : alw 1 (if isR y then 1 else 0) 1 1 = 2 := by rw [if_neg hg1_23]; rfl
        refine V.topeq (nI 0) (by rw [ha_23]; rfl) ?_
        refine V.eqw (ws' := [(m, .inr (13, [.ref nw, .ref bf, .ref sv, .ref hy, .int iS, .int rmb, .int eA, .int fA, .ref tx, .int tyd, .ref li, .int ldd, .int (nI 2), .int siz, .int spt, .int wrg, .int tld, .ref nmb])), (nw, .inl (gI G, 72, .inl σ))]) (by rw [ha_23]) ?_
        refine V.ifN_ne hC 0 31 dX13_refreshes_26 rfl rfl (by omega) (fun c_26 => ?_) (fun c_26 => ?_)
        · exact absurd c_26 (by decide)
        · refine V.iconst hC 0 dX13_refreshes_29 rfl ?_
          have hpw : pwX 6 s x y 0 = 1 := (show pwR (fd (sNu s) x (sNs s)) y = 1 by rw [hf]; exact (if_neg (fun z => by cases z)).trans (if_neg hg1_23))
          refine V.eqw (ws' := [(m, .inr (13, [.ref nw, .ref bf, .ref sv, .ref hy, .int iS, .int rmb, .int eA, .int fA, .ref tx, .int tyd, .ref li, .int ldd, .int (nI (cd 6 (pwX 6 s x y 0))), .int siz, .int spt, .int wrg, .int tld, .ref nmb])), (nw, .inl (gI G, 72, .inl σ))]) (by rw [hpw]; rfl) ?_
          exact hE 30 _ 0 σ dX13_refreshes_30 rfl (Or.inr ⟨by rw [hpw]; decide, rfl, rfl⟩)
