/-! the document's model: a program read (printed by gen/s85.py) -/
/-- where command c begins -/
def cpB (p : Nat) (g : Nat → Nat) : Option Nat → Nat
  | none => p
  | some i => g i + 1
def cps (tf : Nat → Int32) (ln : Nat) : Nat → Nat
  | 0 => 0
  | c + 1 => cpB (cps tf ln c) (fun i => (hk tf ln (cps tf ln c) i).2.1) (kf tf ln (cps tf ln c) 8)
theorem cps_e (tf : Nat → Int32) (ln c : Nat) : cps tf ln (c + 1) = cpB (cps tf ln c) (fun i => (hk tf ln (cps tf ln c) i).2.1) (kf tf ln (cps tf ln c) 8) := by rw [cps]
theorem cps_s {tf : Nat → Int32} {ln c i : Nat} (h : kf tf ln (cps tf ln c) 8 = some i) : cps tf ln (c + 1) = (hk tf ln (cps tf ln c) i).2.1 + 1 := by
  rw [cps_e, h]
  exact rfl
/-- the first n commands stand in the numbers -/
def GA (tf : Nat → Int32) (ln : Nat) (μ : Nat → Int32) (n : Nat) : Prop := ∀ c, c < n → cps tf ln c ≤ ln ∧ ∃ i, kf tf ln (cps tf ln c) 8 = some i ∧ Gd tf ln (cps tf ln c) i μ (4 * c)
theorem nar_3 : ∀ i, i < 8 → nar i ≤ 3 := by decide
theorem Gd.low {tf : Nat → Int32} {ln sr i b : Nat} {μ ν : Nat → Int32} (hi : i < 8) (h : Gd tf ln sr i μ b) (hl : ∀ z, z < b + 4 → ν z = μ z) : Gd tf ln sr i ν b := by
  have h3 := nar_3 i hi
  exact ⟨(hl b (by omega)).trans h.1, fun j hj => (hl (b + 1 + j) (by omega)).trans (h.2.1 j hj), h.2.2⟩
theorem GA.low {tf : Nat → Int32} {ln n : Nat} {μ ν : Nat → Int32} (h : GA tf ln μ n) (hl : ∀ z, z < 4 * n → ν z = μ z) : GA tf ln ν n := by
  intro c hc
  obtain ⟨h1, i, h2, h3⟩ := h c hc
  exact ⟨h1, i, h2, h3.low (kf_lt h2).1 (fun z hz => hl z (by omega))⟩
/-- what stands behind command c -/
def RH (tf : Nat → Int32) (ln c sp : Nat) (wg : Int32) (μ : Nat → Int32) : Prop := (wg = -1 ∧ ∃ sr i, kf tf ln sr 8 = some i ∧ sp = (hk tf ln sr i).2.1 ∧ cps tf ln c = sr ∧ sr ≤ ln ∧ 7 * c ≤ sr ∧ prs tf ln (61 - c) sr = prs tf ln 61 0 ∧ GA tf ln μ (c + 1)) ∨ (¬ wg = -1 ∧ wg = oI (prs tf ln 61 0))
theorem rdH {tf : Nat → Int32} {ln c sr u : Nat} {wg : Int32} {μ ν : Nat → Int32} (hln : ln ≤ 60) (hcp : cps tf ln c = sr) (hsr : sr ≤ ln) (h7 : 7 * c ≤ sr) (hpr : prs tf ln (61 - c) sr = prs tf ln 61 0) (hG : GA tf ln μ c)
    (h : (∃ i, kf tf ln sr 8 = some i ∧ u = (hk tf ln sr i).2.1 ∧ wg = -1 ∧ Gd tf ln sr i ν (4 * c) ∧ ∀ z, z < 4 * c → ν z = μ z) ∨ (kf tf ln sr 8 = none ∧ wg = nI (kr tf ln sr 8) ∧ u ≤ 60 ∧ ∀ z, z < 4 * c → ν z = μ z)) : RH tf ln c u wg ν := by
  rcases h with ⟨i, h1, h2, h3, h4, h5⟩ | ⟨h1, h2, h3, h4⟩
  · refine Or.inl ⟨h3, sr, i, h1, h2, hcp, hsr, h7, hpr, fun d hd => ?_⟩
    by_cases e : d = c
    · rw [e, hcp]
      exact ⟨hsr, i, h1, h4⟩
    · exact (hG.low h5) d (by omega)
  · have hk := kr_ln (tf := tf) hsr
    refine Or.inr ⟨by rw [h2]; exact nI_m1 (by omega), ?_⟩
    rw [h2, ← hpr, show 61 - c = (60 - c) + 1 by omega, prs_none h1]
    rfl
theorem sg59 {x : Int32} : (¬ x < 59 ∧ ¬ 59 < x) ↔ x = nI 59 := by
  rw [← Int32.toInt_inj, Int32.lt_iff_toInt_lt, Int32.lt_iff_toInt_lt, show (59 : Int32).toInt = 59 by decide, show (nI 59).toInt = 59 by decide]
  omega
set_option maxHeartbeats 8000000 in
set_option maxRecDepth 100000 in
theorem m_readsAll (l : Launch) (G : Gx) (m nw bf sv hy tx li nmb : Nat) (iS rmb eA fA ldd thr siz spt wrg tld : Int32) (ln : Nat) (hln : ln ≤ 60) (τ μ : Nat → Int32) : Ct l G (SFt G) yX13_readsAll wsX13_readsAll ({ frames := 6, cells := 0, slots := 0, locals := 133 }) [.ref m] [(m, .inr (13, [.ref nw, .ref bf, .ref sv, .ref hy, .int iS, .int rmb, .int eA, .int fA, .ref tx, .int (nI ln), .ref li, .int ldd, .int thr, .int siz, .int spt, .int wrg, .int tld, .ref nmb])), (tx, .inl (gI G, 60, .inl τ)), (nmb, .inl (gI G, 120, .inl μ))] mkV (fun (_ : Unit) (u : Nat × Nat × Int32 × (Nat → Int32)) => (u.2.2.1 = -1 ∧ prs τ ln 61 0 = none ∧ GA τ ln u.2.2.2 (u.2.1 + 1) ∧ u.2.1 ≤ 8 ∧ ln < cps τ ln (u.2.1 + 1)) ∨ (¬ u.2.2.1 = -1 ∧ u.2.2.1 = oI (prs τ ln 61 0))) (fun u : Nat × Nat × Int32 × (Nat → Int32) => [(m, .inr (13, [.ref nw, .ref bf, .ref sv, .ref hy, .int iS, .int rmb, .int eA, .int fA, .ref tx, .int 0, .ref li, .int ldd, .int thr, .int (nI ln), .int (nI (u.1)), .int (u.2.2.1), .int (nI (u.2.1 + 1)), .ref nmb])), (tx, .inl (gI G, 60, .inl τ)), (nmb, .inl (gI G, 120, .inl (u.2.2.2)))]) 0 0 := by
  refine Ct.ofV (cc := cX13_readsAll) (maxL := 2) (by decide) rfl ⟨by simp [Value.category], Nat.le_of_ble_eq_true rfl⟩ ?_
  intro K hl hC hSF hnm hE
  subst hl
  have hgot := SFgoS (SFt.k G) hSF
  have hgo := SFgo.x hgot
  have hSFt := hSF
  replace hSF := hSF.1
  have q0_ : ∀ w ∈ u_ws RX13 TX13 18, w ∈ wsX13_readsAll := by decide +kernel
  have q1_ : Cond.fieldLink RX13 185 "FeatherSharesModel" "typed" "I" ∈ wsX13_readsAll := by decide +kernel
  have q2_ : Cond.fieldLink RX13 191 "FeatherSharesModel" "size" "I" ∈ wsX13_readsAll := by decide +kernel
  have q3_ : Cond.fieldLink RX13 188 "FeatherSharesModel" "spot" "I" ∈ wsX13_readsAll := by decide +kernel
  have q4_ : Cond.fieldLink RX13 194 "FeatherSharesModel" "wrong" "I" ∈ wsX13_readsAll := by decide +kernel
  have q5_ : Cond.fieldLink RX13 217 "FeatherSharesModel" "told" "I" ∈ wsX13_readsAll := by decide +kernel
  show V G K 2 0 0 0 [some (.ref m), none] [] [(m, .inr (13, [.ref nw, .ref bf, .ref sv, .ref hy, .int iS, .int rmb, .int eA, .int fA, .ref tx, .int (nI ln), .ref li, .int ldd, .int thr, .int siz, .int spt, .int wrg, .int tld, .ref nmb])), (tx, .inl (gI G, 60, .inl τ)), (nmb, .inl (gI G, 120, .inl μ))]
  refine V.aload_n hC (x := m) dX13_readsAll_0 rfl ?_
  refine V.aload_n hC (x := m) dX13_readsAll_1 rfl ?_
  refine V.getf hC (T := TX13) q0_ 9 q1_ rfl (0) rfl rfl (by decide) (.int (nI ln)) rfl dX13_readsAll_2 ?_
  refine V.putf hC (T := TX13) q0_ tyX13 tyX13_ok nmX13 13 q2_ rfl rfl (0) rfl rfl (by decide) (by simp) rfl rfl dX13_readsAll_5 [(m, .inr (13, [.ref nw, .ref bf, .ref sv, .ref hy, .int iS, .int rmb, .int eA, .int fA, .ref tx, .int (nI ln), .ref li, .int ldd, .int thr, .int (nI ln), .int spt, .int wrg, .int tld, .ref nmb])), (tx, .inl (gI G, 60, .inl τ)), (nmb, .inl (gI G, 120, .inl μ))] rfl ?_
  refine V.aload_n hC (x := m) dX13_readsAll_8 rfl ?_
  refine V.iconst hC 0 dX13_readsAll_9 rfl ?_
  refine V.putf hC (T := TX13) q0_ tyX13 tyX13_ok nmX13 9 q1_ rfl rfl (0) rfl rfl (by decide) (by simp) rfl rfl dX13_readsAll_10 [(m, .inr (13, [.ref nw, .ref bf, .ref sv, .ref hy, .int iS, .int rmb, .int eA, .int fA, .ref tx, .int 0, .ref li, .int ldd, .int thr, .int (nI ln), .int spt, .int wrg, .int tld, .ref nmb])), (tx, .inl (gI G, 60, .inl τ)), (nmb, .inl (gI G, 120, .inl μ))] rfl ?_
  refine V.aload_n hC (x := m) dX13_readsAll_13 rfl ?_
  refine V.iconst hC 0 dX13_readsAll_14 rfl ?_
  refine V.putf hC (T := TX13) q0_ tyX13 tyX13_ok nmX13 14 q3_ rfl rfl (0) rfl rfl (by decide) (by simp) rfl rfl dX13_readsAll_15 [(m, .inr (13, [.ref nw, .ref bf, .ref sv, .ref hy, .int iS, .int rmb, .int eA, .int fA, .ref tx, .int 0, .ref li, .int ldd, .int thr, .int (nI ln), .int 0, .int wrg, .int tld, .ref nmb])), (tx, .inl (gI G, 60, .inl τ)), (nmb, .inl (gI G, 120, .inl μ))] rfl ?_
  refine V.aload_n hC (x := m) dX13_readsAll_18 rfl ?_
  refine V.iconst hC (-1) dX13_readsAll_19 rfl ?_
  refine V.putf hC (T := TX13) q0_ tyX13 tyX13_ok nmX13 15 q4_ rfl rfl (0) rfl rfl (by decide) (by simp) rfl rfl dX13_readsAll_20 [(m, .inr (13, [.ref nw, .ref bf, .ref sv, .ref hy, .int iS, .int rmb, .int eA, .int fA, .ref tx, .int 0, .ref li, .int ldd, .int thr, .int (nI ln), .int 0, .int (-1), .int tld, .ref nmb])), (tx, .inl (gI G, 60, .inl τ)), (nmb, .inl (gI G, 120, .inl μ))] rfl ?_
  refine V.aload_n hC (x := m) dX13_readsAll_23 rfl ?_
  refine V.iconst hC 0 dX13_readsAll_24 rfl ?_
  refine V.putf hC (T := TX13) q0_ tyX13 tyX13_ok nmX13 16 q5_ rfl rfl (0) rfl rfl (by decide) (by simp) rfl rfl dX13_readsAll_25 [(m, .inr (13, [.ref nw, .ref bf, .ref sv, .ref hy, .int iS, .int rmb, .int eA, .int fA, .ref tx, .int 0, .ref li, .int ldd, .int thr, .int (nI ln), .int 0, .int (-1), .int 0, .ref nmb])), (tx, .inl (gI G, 60, .inl τ)), (nmb, .inl (gI G, 120, .inl μ))] rfl ?_
  refine V.aload_n hC (x := m) dX13_readsAll_28 rfl ?_
  refine V.callV (n := 0) (As := []) (rest := []) hC (m_readsCommand (kl K) G m nw bf sv hy tx li nmb iS rmb eA fA 0 ldd thr ln 0 0 hln (by omega) (by omega) τ μ) (SFt.k G) hgot gX13_readsAll_X13_readsCommand rfl ⟨rfl, rfl⟩ (by decide +kernel) ⟨by decide, by decide, by decide, by decide⟩ [0, 1, 2] rfl (by decide) (fun _ => rfl) rfl rfl rfl rfl (Nat.le_of_ble_eq_true rfl) dX13_readsAll_29 (fun r_29 u_29 hp_29 => ?_)
  show V G K 2 0 0 32 [some (.ref m), none] [] [(m, .inr (13, [.ref nw, .ref bf, .ref sv, .ref hy, .int iS, .int rmb, .int eA, .int fA, .ref tx, .int 0, .ref li, .int ldd, .int thr, .int (nI ln), .int (nI (u_29.1)), .int (u_29.2.1), .int (nI (0 + 1)), .ref nmb])), (tx, .inl (gI G, 60, .inl τ)), (nmb, .inl (gI G, 120, .inl (u_29.2.2)))]
  have loop32 : ∀ (n : Nat) (q : Nat) (c : Nat) (sp : Nat) (wg : Int32) (μ1 : Nat → Int32), q < n → (RH τ ln c sp wg μ1) → (wg = -1 → 63 - c ≤ q) → V G K 2 0 0 32 [some (.ref m), none] [] [(m, .inr (13, [.ref nw, .ref bf, .ref sv, .ref hy, .int iS, .int rmb, .int eA, .int fA, .ref tx, .int 0, .ref li, .int ldd, .int thr, .int (nI ln), .int (nI sp), .int wg, .int (nI (c + 1)), .ref nmb])), (tx, .inl (gI G, 60, .inl τ)), (nmb, .inl (gI G, 120, .inl μ1))] := by
    intro n
    induction n with
    | zero => intro q c sp wg μ1 hlt; exact absurd hlt (Nat.not_lt_zero _)
    | succ n ih32 =>
      intro q c sp wg μ1 hlt32 hH hq
      refine V.aload_n hC (x := m) dX13_readsAll_32 rfl ?_
      refine V.getf hC (T := TX13) q0_ 15 q4_ rfl (0) rfl rfl (by decide) (.int wg) rfl dX13_readsAll_33 ?_
      refine V.iconst hC (-1) dX13_readsAll_36 rfl ?_
      refine V.icmp_ne hC 75 dX13_readsAll_37 rfl (fun c_37 => ?_) (fun c_37 => ?_)
      · exact hE 75 _ (sp, c, wg, μ1) dX13_readsAll_75 (Or.inr ⟨c_37, (Or.resolve_left hH (fun z => c_37 z.1)).2⟩)
      · obtain ⟨-, sr, i, hkf, hsp, hcp, hsr, h7, hpr, hGA⟩ := Or.resolve_right hH (fun z => z.1 c_37)
        have hrl : sp ≤ ln := by rw [hsp]; exact hk_ln (kf_lt hkf).1 hsr
        have had := hk_adv hkf
        rw [← hsp] at had
        have hqc : 63 - c ≤ q := hq c_37
        refine V.eqw (ws' := [(m, .inr (13, [.ref nw, .ref bf, .ref sv, .ref hy, .int iS, .int rmb, .int eA, .int fA, .ref tx, .int 0, .ref li, .int ldd, .int thr, .int (nI ln), .int (nI sp), .int (-1), .int (nI (c + 1)), .ref nmb])), (tx, .inl (gI G, 60, .inl τ)), (nmb, .inl (gI G, 120, .inl μ1))]) (by rw [c_37]) ?_
        refine V.aload_n hC (x := m) dX13_readsAll_40 rfl ?_
        refine V.getf hC (T := TX13) q0_ 14 q3_ rfl (0) rfl rfl (by decide) (.int (nI sp)) rfl dX13_readsAll_41 ?_
        refine V.aload_n hC (x := m) dX13_readsAll_44 rfl ?_
        refine V.getf hC (T := TX13) q0_ 13 q2_ rfl (0) rfl rfl (by decide) (.int (nI ln)) rfl dX13_readsAll_45 ?_
        refine V.icmpN_ge hC sp ln 75 dX13_readsAll_48 rfl rfl rfl (by omega) (by omega) (fun c_48 => ?_) (fun c_48 => ?_)
        · have hcs : cps τ ln (c + 1) = sp + 1 := by rw [cps_s (i := i) (by rw [hcp]; exact hkf), hcp, hsp]
          exact hE 75 _ (sp, c, -1, μ1) dX13_readsAll_75 (Or.inl ⟨rfl, (by rw [← hpr, show 61 - c = (60 - c) + 1 by omega]; exact prs_end hkf (by omega)), hGA, (by show c ≤ 8; omega), (by show ln < cps τ ln (c + 1); rw [hcs]; omega)⟩)
        · have hcs : cps τ ln (c + 1) = sp + 1 := by rw [cps_s (i := i) (by rw [hcp]; exact hkf), hcp, hsp]
          have hps : sgn τ ln sp = nI 59 → prs τ ln (61 - (c + 1)) (sp + 1) = prs τ ln 61 0 := fun z => by rw [← hpr, show 61 - c = (60 - c) + 1 by omega, prs_semi hkf (by omega) (by rw [sgn_in (by omega), hsp] at z; exact z), ← hsp, show 61 - (c + 1) = 60 - c by omega]
          refine V.aload_n hC (x := m) dX13_readsAll_51 rfl ?_
          refine V.bipush hC 59 dX13_readsAll_52 rfl ?_
          refine V.bipush hC 59 dX13_readsAll_54 rfl ?_
          by_cases hd_56 : sgn τ ln sp = nI 59
          · refine V.callV (n := 2) (As := [.int 59, .int 59]) (rest := []) hC (m_readsY (kl K) G m nw bf sv hy tx li nmb iS rmb eA fA 0 ldd thr (nI (c + 1)) ln sp hln (by omega) τ 59 59 (sg59.mpr hd_56) (by omega)) SFk0 SFgo0 gX13_readsAll_X13_reads rfl ⟨rfl, rfl⟩ (by decide +kernel) ⟨by decide, by decide, by decide, by decide⟩ [0, 1] rfl (by decide) (fun _ => rfl) rfl rfl rfl rfl (Nat.le_of_ble_eq_true rfl) dX13_readsAll_56 (fun r_56 u_56 hp_56 => ?_)
            show V G K 2 0 0 59 [some (.ref m), none] [.int r_56] [(m, .inr (13, [.ref nw, .ref bf, .ref sv, .ref hy, .int iS, .int rmb, .int eA, .int fA, .ref tx, .int 0, .ref li, .int ldd, .int thr, .int (nI ln), .int (nI (sp + 1)), .int (-1), .int (nI (c + 1)), .ref nmb])), (tx, .inl (gI G, 60, .inl τ)), (nmb, .inl (gI G, 120, .inl μ1))]
            refine V.istore_n hC dX13_readsAll_59 [some (.ref m), some (.int r_56)] (Nat.le_of_ble_eq_true rfl) rfl ?_
            refine V.aload_n hC (x := m) dX13_readsAll_60 rfl ?_
            refine V.getf hC (T := TX13) q0_ 15 q4_ rfl (0) rfl rfl (by decide) (.int (-1)) rfl dX13_readsAll_61 ?_
            refine V.iconst hC (-1) dX13_readsAll_64 rfl ?_
            refine V.icmp_ne hC 72 dX13_readsAll_65 rfl (fun c_65 => ?_) (fun c_65 => ?_)
            · exact absurd rfl c_65
            · have hps := hps hd_56
              have hq1 : 63 - (c + 1) ≤ q - 1 := by omega
              refine V.aload_n hC (x := m) dX13_readsAll_68 rfl ?_
              refine V.callV (n := 0) (As := []) (rest := []) hC (m_readsCommand (kl K) G m nw bf sv hy tx li nmb iS rmb eA fA 0 ldd thr ln (sp + 1) (c + 1) hln (by omega) (by omega) τ μ1) (SFt.k G) hgot gX13_readsAll_X13_readsCommand rfl ⟨rfl, rfl⟩ (by decide +kernel) ⟨by decide, by decide, by decide, by decide⟩ [0, 1, 2] rfl (by decide) (fun _ => rfl) rfl rfl rfl rfl (Nat.le_of_ble_eq_true rfl) dX13_readsAll_69 (fun r_69 u_69 hp_69 => ?_)
              show V G K 2 0 0 72 [some (.ref m), some (.int r_56)] [] [(m, .inr (13, [.ref nw, .ref bf, .ref sv, .ref hy, .int iS, .int rmb, .int eA, .int fA, .ref tx, .int 0, .ref li, .int ldd, .int thr, .int (nI ln), .int (nI (u_69.1)), .int (u_69.2.1), .int (nI (c + 1 + 1)), .ref nmb])), (tx, .inl (gI G, 60, .inl τ)), (nmb, .inl (gI G, 120, .inl (u_69.2.2)))]
              refine V.goto hC 32 dX13_readsAll_72 rfl ?_
              refine V.drop 1 (lv' := [some (.ref m), none]) rfl ?_
              exact ih32 (q - 1) (c + 1) (u_69.1) (u_69.2.1) (u_69.2.2) (by omega) (rdH hln hcs (by omega) (by omega) hps hGA hp_69) (fun _ => hq1)
          · refine V.callV (n := 2) (As := [.int 59, .int 59]) (rest := []) hC (m_readsN (kl K) G m nw bf sv hy tx li nmb iS rmb eA fA 0 ldd thr (nI (c + 1)) ln sp hln (by omega) τ 59 59 (fun q => hd_56 (sg59.mp q))) SFk0 SFgo0 gX13_readsAll_X13_reads rfl ⟨rfl, rfl⟩ (by decide +kernel) ⟨by decide, by decide, by decide, by decide⟩ [0, 1] rfl (by decide) (fun _ => rfl) rfl rfl rfl rfl (Nat.le_of_ble_eq_true rfl) dX13_readsAll_56 (fun r_56 u_56 hp_56 => ?_)
            show V G K 2 0 0 59 [some (.ref m), none] [.int r_56] [(m, .inr (13, [.ref nw, .ref bf, .ref sv, .ref hy, .int iS, .int rmb, .int eA, .int fA, .ref tx, .int 0, .ref li, .int ldd, .int thr, .int (nI ln), .int (nI sp), .int (nI sp), .int (nI (c + 1)), .ref nmb])), (tx, .inl (gI G, 60, .inl τ)), (nmb, .inl (gI G, 120, .inl μ1))]
            refine V.istore_n hC dX13_readsAll_59 [some (.ref m), some (.int r_56)] (Nat.le_of_ble_eq_true rfl) rfl ?_
            refine V.aload_n hC (x := m) dX13_readsAll_60 rfl ?_
            refine V.getf hC (T := TX13) q0_ 15 q4_ rfl (0) rfl rfl (by decide) (.int (nI sp)) rfl dX13_readsAll_61 ?_
            refine V.iconst hC (-1) dX13_readsAll_64 rfl ?_
            refine V.icmp_ne hC 72 dX13_readsAll_65 rfl (fun c_65 => ?_) (fun c_65 => ?_)
            · refine V.goto hC 32 dX13_readsAll_72 rfl ?_
              refine V.drop 1 (lv' := [some (.ref m), none]) rfl ?_
              exact ih32 (q - 1) c sp (nI sp) μ1 (by omega) (Or.inr ⟨nI_m1 (by omega), (by rw [← hpr, show 61 - c = (60 - c) + 1 by omega, prs_bad hkf (by omega) (fun z => hd_56 (by rw [sgn_in (by omega), hsp]; exact z)), ← hsp]; rfl)⟩) (fun z => absurd z (nI_m1 (by omega)))
            · exact absurd c_65 (nI_m1 (by omega))
  exact loop32 _ 63 0 (u_29.1) (u_29.2.1) (u_29.2.2) (Nat.lt_succ_self _) (rdH (sr := 0) hln rfl (Nat.zero_le _) (Nat.le_refl 0) rfl (fun c hc => absurd hc (Nat.not_lt_zero c)) hp_29) (fun _ => by omega)
