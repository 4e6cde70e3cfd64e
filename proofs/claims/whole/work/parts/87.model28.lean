/-! the document's model: run (printed by gen/s87.py) -/
set_option maxHeartbeats 4000000 in
set_option maxRecDepth 100000 in
theorem m_runE (l : Launch) (G : Gx) (m nw bf sv hy tx li nmb : Nat) (iS rmb eA fA ldd thr siz spt wrg tld : Int32) (ln : Nat) (hln : ln ≤ 60) (τ μ : Nat → Int32) (p : Nat) (hpe : prs τ ln 61 0 = some p) (hp6 : p ≤ 60) : Ct l G (SFt G) yX13_run wsX13_run ({ frames := 7, cells := 0, slots := 0, locals := 154 }) [.ref m] [(m, .inr (13, [.ref nw, .ref bf, .ref sv, .ref hy, .int iS, .int rmb, .int eA, .int fA, .ref tx, .int (nI ln), .ref li, .int ldd, .int thr, .int siz, .int spt, .int wrg, .int tld, .ref nmb])), (tx, .inl (gI G, 60, .inl τ)), (nmb, .inl (gI G, 120, .inl μ))] mkI (fun (r : Int32) (_ : Nat × Nat × (Nat → Int32)) => r = 0) (fun u : Nat × Nat × (Nat → Int32) => [(m, .inr (13, [.ref nw, .ref bf, .ref sv, .ref hy, .int iS, .int rmb, .int (nI p), .int fA, .ref tx, .int 0, .ref li, .int ldd, .int 1, .int (nI ln), .int (nI (u.1)), .int (nI p), .int (nI (u.2.1 + 1)), .ref nmb])), (tx, .inl (gI G, 60, .inl τ)), (nmb, .inl (gI G, 120, .inl (u.2.2)))]) 0 0 := by
  refine Ct.ofI (cc := cX13_run) (maxL := 3) (by decide) rfl ⟨by simp [Value.category], Nat.le_of_ble_eq_true rfl⟩ ?_
  intro K hl hC hSF hnm hE
  subst hl
  have hgot := SFgoS (SFt.k G) hSF
  have hgo := SFgo.x hgot
  have hSFt := hSF
  replace hSF := hSF.1
  have q0_ : ∀ w ∈ u_ws RX13 TX13 18, w ∈ wsX13_run := by decide +kernel
  have q1_ : Cond.fieldLink RX13 194 "FeatherSharesModel" "wrong" "I" ∈ wsX13_run := by decide +kernel
  have q2_ : Cond.fieldLink RX13 22 "FeatherSharesModel" "errorAt" "I" ∈ wsX13_run := by decide +kernel
  have q3_ : Cond.fieldLink RX13 38 "FeatherSharesModel" "thrown" "I" ∈ wsX13_run := by decide +kernel
  show V G K 3 0 0 0 [some (.ref m), none, none] [] [(m, .inr (13, [.ref nw, .ref bf, .ref sv, .ref hy, .int iS, .int rmb, .int eA, .int fA, .ref tx, .int (nI ln), .ref li, .int ldd, .int thr, .int siz, .int spt, .int wrg, .int tld, .ref nmb])), (tx, .inl (gI G, 60, .inl τ)), (nmb, .inl (gI G, 120, .inl μ))]
  refine V.aload_n hC (x := m) dX13_run_0 rfl ?_
  refine V.callV (n := 0) (As := []) (rest := []) hC (m_readsAll (kl K) G m nw bf sv hy tx li nmb iS rmb eA fA ldd thr siz spt wrg tld ln hln τ μ) (SFt.k G) hgot gX13_run_X13_readsAll rfl ⟨rfl, rfl⟩ (by decide +kernel) ⟨by decide, by decide, by decide, by decide⟩ [0, 1, 2] rfl (by decide) (fun _ => rfl) rfl rfl rfl rfl (Nat.le_of_ble_eq_true rfl) dX13_run_1 (fun r_1 u_1 hp_1 => ?_)
  have hw : u_1.2.2.1 = nI p := Or.elim hp_1 (fun z => by have z2 := z.2.1; rw [hpe] at z2; cases z2) (fun z => by rw [z.2, hpe]; rfl)
  show V G K 3 0 0 4 [some (.ref m), none, none] [] [(m, .inr (13, [.ref nw, .ref bf, .ref sv, .ref hy, .int iS, .int rmb, .int eA, .int fA, .ref tx, .int 0, .ref li, .int ldd, .int thr, .int (nI ln), .int (nI (u_1.1)), .int (u_1.2.2.1), .int (nI (u_1.2.1 + 1)), .ref nmb])), (tx, .inl (gI G, 60, .inl τ)), (nmb, .inl (gI G, 120, .inl (u_1.2.2.2)))]
  refine V.eqw (ws' := [(m, .inr (13, [.ref nw, .ref bf, .ref sv, .ref hy, .int iS, .int rmb, .int eA, .int fA, .ref tx, .int 0, .ref li, .int ldd, .int thr, .int (nI ln), .int (nI (u_1.1)), .int (nI p), .int (nI (u_1.2.1 + 1)), .ref nmb])), (tx, .inl (gI G, 60, .inl τ)), (nmb, .inl (gI G, 120, .inl (u_1.2.2.2)))]) (by rw [hw]) ?_
  refine V.aload_n hC (x := m) dX13_run_4 rfl ?_
  refine V.getf hC (T := TX13) q0_ 15 q1_ rfl (0) rfl rfl (by decide) (.int (nI p)) rfl dX13_run_5 ?_
  refine V.iconst hC (-1) dX13_run_8 rfl ?_
  refine V.icmp_eq hC 27 dX13_run_9 rfl (fun c_9 => ?_) (fun c_9 => ?_)
  · exact absurd c_9 (nI_m1 (by omega))
  · refine V.aload_n hC (x := m) dX13_run_12 rfl ?_
    refine V.aload_n hC (x := m) dX13_run_13 rfl ?_
    refine V.getf hC (T := TX13) q0_ 15 q1_ rfl (0) rfl rfl (by decide) (.int (nI p)) rfl dX13_run_14 ?_
    refine V.putf hC (T := TX13) q0_ tyX13 tyX13_ok nmX13 6 q2_ rfl rfl (0) rfl rfl (by decide) (by simp) rfl rfl dX13_run_17 [(m, .inr (13, [.ref nw, .ref bf, .ref sv, .ref hy, .int iS, .int rmb, .int (nI p), .int fA, .ref tx, .int 0, .ref li, .int ldd, .int thr, .int (nI ln), .int (nI (u_1.1)), .int (nI p), .int (nI (u_1.2.1 + 1)), .ref nmb])), (tx, .inl (gI G, 60, .inl τ)), (nmb, .inl (gI G, 120, .inl (u_1.2.2.2)))] rfl ?_
    refine V.aload_n hC (x := m) dX13_run_20 rfl ?_
    refine V.iconst hC 1 dX13_run_21 rfl ?_
    refine V.putf hC (T := TX13) q0_ tyX13 tyX13_ok nmX13 12 q3_ rfl rfl (0) rfl rfl (by decide) (by simp) rfl rfl dX13_run_22 [(m, .inr (13, [.ref nw, .ref bf, .ref sv, .ref hy, .int iS, .int rmb, .int (nI p), .int fA, .ref tx, .int 0, .ref li, .int ldd, .int 1, .int (nI ln), .int (nI (u_1.1)), .int (nI p), .int (nI (u_1.2.1 + 1)), .ref nmb])), (tx, .inl (gI G, 60, .inl τ)), (nmb, .inl (gI G, 120, .inl (u_1.2.2.2)))] rfl ?_
    refine V.iconst hC 0 dX13_run_25 rfl ?_
    exact hE 26 _ 0 (u_1.1, u_1.2.1, u_1.2.2.2) dX13_run_26 rfl rfl

theorem cd_00 : ∀ {i : Nat}, i < 8 → cd i 0 = 0 := by
  intro i hi
  obtain rfl | rfl | rfl | rfl | rfl | rfl | rfl | rfl := lt8 hi
  all_goals rfl
set_option maxHeartbeats 8000000 in
set_option maxRecDepth 100000 in
theorem m_runV (l : Launch) (G : Gx) (m nw bf sv hy tx li nmb : Nat) (iS eA fA ldd thr siz spt wrg tld : Int32) (p : Nat) (hp8 : p ≤ 8) (β η : Nat → Int32) (σ : Nat → Int32) (s : ASt) (B : Nat) (hR : Rel σ s) (hI : InvA B s) (hB : B < 2 ^ 30) (hB9 : B + 10 < 2 ^ 30) (ln : Nat) (hln : ln ≤ 60) (τ μ : Nat → Int32) (hval : prs τ ln 61 0 = none) (X : Nat × Bool × ASt) (hX0 : exA τ ln 60 0 0 s = X) : Ct l G (SFt G) yX13_run wsX13_run ({ frames := 7, cells := 0, slots := 0, locals := 157 }) [.ref m] [(m, .inr (13, [.ref nw, .ref bf, .ref sv, .ref hy, .int iS, .int (nI p), .int eA, .int fA, .ref tx, .int (nI ln), .ref li, .int ldd, .int thr, .int siz, .int spt, .int wrg, .int tld, .ref nmb])), (nw, .inl (gI G, 72, .inl σ)), (bf, .inl (gI G, 72, .inl β)), (hy, .inl (gI G, 576, .inl η)), (tx, .inl (gI G, 60, .inl τ)), (nmb, .inl (gI G, 120, .inl μ))] mkI (fun (r : Int32) (u : Nat × Nat × (Nat → Int32) × (Nat → Int32) × Nat × (Nat → Int32) × Int32 × Int32) => (X.2.1 = true ∧ Rel u.2.2.2.1 X.2.2 ∧ r = nI X.1 ∧ u.2.2.2.2.1 = min (p + 1) 8 ∧ u.2.2.2.2.2.1 = rmh σ η p ∧ u.2.2.2.2.2.2.1 = nI 0 ∧ u.2.2.2.2.2.2.2 = fA) ∨ (X.2.1 = false ∧ u.2.2.2.1 = σ ∧ r = 0 ∧ u.2.2.2.2.2.2.1 = 2 ∧ u.2.2.2.2.2.2.2 = nI X.1 ∧ u.2.2.2.2.1 = p ∧ u.2.2.2.2.2.1 = η)) (fun u : Nat × Nat × (Nat → Int32) × (Nat → Int32) × Nat × (Nat → Int32) × Int32 × Int32 => [(m, .inr (13, [.ref nw, .ref bf, .ref sv, .ref hy, .int iS, .int (nI (u.2.2.2.2.1)), .int eA, .int (u.2.2.2.2.2.2.2), .ref tx, .int 0, .ref li, .int ldd, .int (u.2.2.2.2.2.2.1), .int (nI ln), .int (nI (u.1)), .int (-1), .int (nI (u.2.1 + 1)), .ref nmb])), (nw, .inl (gI G, 72, .inl (u.2.2.2.1))), (bf, .inl (gI G, 72, .inl σ)), (hy, .inl (gI G, 576, .inl (u.2.2.2.2.2.1))), (tx, .inl (gI G, 60, .inl τ)), (nmb, .inl (gI G, 120, .inl (u.2.2.1)))]) 0 0 := by
  have hb8 := hI.1
  have hs6 := hI.2.1
  refine Ct.ofI (cc := cX13_run) (maxL := 3) (by decide) rfl ⟨by simp [Value.category], Nat.le_of_ble_eq_true rfl⟩ ?_
  intro K hl hC hSF hnm hE
  subst hl
  have hgot := SFgoS (SFt.k G) hSF
  have hgo := SFgo.x hgot
  have hSFt := hSF
  replace hSF := hSF.1
  have q0_ : ∀ w ∈ u_ws RX13 TX13 18, w ∈ wsX13_run := by decide +kernel
  have q1_ : Cond.fieldLink RX13 194 "FeatherSharesModel" "wrong" "I" ∈ wsX13_run := by decide +kernel
  have q2_ : Cond.fieldLink RX13 38 "FeatherSharesModel" "thrown" "I" ∈ wsX13_run := by decide +kernel
  have q3_ : Cond.fieldLink RX13 217 "FeatherSharesModel" "told" "I" ∈ wsX13_run := by decide +kernel
  have q4_ : Cond.fieldLink RX13 26 "FeatherSharesModel" "failedAt" "I" ∈ wsX13_run := by decide +kernel
  have q5_ : Cond.fieldLink RX13 13 "FeatherSharesModel" "before" "[I" ∈ wsX13_run := by decide +kernel
  have q6_ : Cond.fieldLink RX13 9 "FeatherSharesModel" "now" "[I" ∈ wsX13_run := by decide +kernel
  show V G K 3 0 0 0 [some (.ref m), none, none] [] [(m, .inr (13, [.ref nw, .ref bf, .ref sv, .ref hy, .int iS, .int (nI p), .int eA, .int fA, .ref tx, .int (nI ln), .ref li, .int ldd, .int thr, .int siz, .int spt, .int wrg, .int tld, .ref nmb])), (nw, .inl (gI G, 72, .inl σ)), (bf, .inl (gI G, 72, .inl β)), (hy, .inl (gI G, 576, .inl η)), (tx, .inl (gI G, 60, .inl τ)), (nmb, .inl (gI G, 120, .inl μ))]
  refine V.aload_n hC (x := m) dX13_run_0 rfl ?_
  refine V.callV (n := 0) (As := []) (rest := []) hC (m_readsAll (kl K) G m nw bf sv hy tx li nmb iS (nI p) eA fA ldd thr siz spt wrg tld ln hln τ μ) (SFt.k G) hgot gX13_run_X13_readsAll rfl ⟨rfl, rfl⟩ (by decide +kernel) ⟨by decide, by decide, by decide, by decide⟩ [0, 4, 5] rfl (by decide) (fun _ => rfl) rfl rfl rfl rfl (Nat.le_of_ble_eq_true rfl) dX13_run_1 (fun r_1 u_1 hp_1 => ?_)
  obtain ⟨hw, -, hGA, hc8, hcl⟩ := Or.resolve_right hp_1 (fun z => z.1 (by rw [z.2, hval]; rfl))
  show V G K 3 0 0 4 [some (.ref m), none, none] [] [(m, .inr (13, [.ref nw, .ref bf, .ref sv, .ref hy, .int iS, .int (nI p), .int eA, .int fA, .ref tx, .int 0, .ref li, .int ldd, .int thr, .int (nI ln), .int (nI (u_1.1)), .int (u_1.2.2.1), .int (nI (u_1.2.1 + 1)), .ref nmb])), (nw, .inl (gI G, 72, .inl σ)), (bf, .inl (gI G, 72, .inl β)), (hy, .inl (gI G, 576, .inl η)), (tx, .inl (gI G, 60, .inl τ)), (nmb, .inl (gI G, 120, .inl (u_1.2.2.2)))]
  refine V.eqw (ws' := [(m, .inr (13, [.ref nw, .ref bf, .ref sv, .ref hy, .int iS, .int (nI p), .int eA, .int fA, .ref tx, .int 0, .ref li, .int ldd, .int thr, .int (nI ln), .int (nI (u_1.1)), .int (-1), .int (nI (u_1.2.1 + 1)), .ref nmb])), (nw, .inl (gI G, 72, .inl σ)), (bf, .inl (gI G, 72, .inl β)), (hy, .inl (gI G, 576, .inl η)), (tx, .inl (gI G, 60, .inl τ)), (nmb, .inl (gI G, 120, .inl (u_1.2.2.2)))]) (by rw [hw]) ?_
  refine V.aload_n hC (x := m) dX13_run_4 rfl ?_
  refine V.getf hC (T := TX13) q0_ 15 q1_ rfl (0) rfl rfl (by decide) (.int (-1)) rfl dX13_run_5 ?_
  refine V.iconst hC (-1) dX13_run_8 rfl ?_
  refine V.icmp_eq hC 27 dX13_run_9 rfl (fun c_9 => ?_) (fun c_9 => ?_)
  · refine V.aload_n hC (x := m) dX13_run_27 rfl ?_
    refine V.callV (n := 0) (As := []) (rest := []) hC (m_begins (kl K) G m nw bf sv hy tx li nmb iS (nI p) eA fA 0 ldd thr (nI ln) (nI (u_1.1)) (-1) (nI (u_1.2.1 + 1)) σ β) SFk0 SFgo0 gX13_run_X13_begins rfl ⟨rfl, rfl⟩ (by decide +kernel) ⟨by decide, by decide, by decide, by decide⟩ [0, 1, 2] rfl (by decide) (fun _ => rfl) rfl rfl rfl rfl (Nat.le_of_ble_eq_true rfl) dX13_run_28 (fun r_28 u_28 hp_28 => ?_)
    show V G K 3 0 0 31 [some (.ref m), none, none] [] [(m, .inr (13, [.ref nw, .ref bf, .ref sv, .ref hy, .int iS, .int (nI p), .int eA, .int fA, .ref tx, .int 0, .ref li, .int ldd, .int thr, .int (nI ln), .int (nI (u_1.1)), .int (-1), .int (nI (u_1.2.1 + 1)), .ref nmb])), (nw, .inl (gI G, 72, .inl σ)), (bf, .inl (gI G, 72, .inl σ)), (hy, .inl (gI G, 576, .inl η)), (tx, .inl (gI G, 60, .inl τ)), (nmb, .inl (gI G, 120, .inl (u_1.2.2.2)))]
    refine V.aload_n hC (x := m) dX13_run_31 rfl ?_
    refine V.iconst hC 0 dX13_run_32 rfl ?_
    refine V.putf hC (T := TX13) q0_ tyX13 tyX13_ok nmX13 12 q2_ rfl rfl (0) rfl rfl (by decide) (by simp) rfl rfl dX13_run_33 [(m, .inr (13, [.ref nw, .ref bf, .ref sv, .ref hy, .int iS, .int (nI p), .int eA, .int fA, .ref tx, .int 0, .ref li, .int ldd, .int 0, .int (nI ln), .int (nI (u_1.1)), .int (-1), .int (nI (u_1.2.1 + 1)), .ref nmb])), (nw, .inl (gI G, 72, .inl σ)), (bf, .inl (gI G, 72, .inl σ)), (hy, .inl (gI G, 576, .inl η)), (tx, .inl (gI G, 60, .inl τ)), (nmb, .inl (gI G, 120, .inl (u_1.2.2.2)))] rfl ?_
    refine V.eqw (ws' := [(m, .inr (13, [.ref nw, .ref bf, .ref sv, .ref hy, .int iS, .int (nI p), .int eA, .int fA, .ref tx, .int 0, .ref li, .int ldd, .int (nI 0), .int (nI ln), .int (nI (u_1.1)), .int (-1), .int (nI (u_1.2.1 + 1)), .ref nmb])), (nw, .inl (gI G, 72, .inl σ)), (bf, .inl (gI G, 72, .inl σ)), (hy, .inl (gI G, 576, .inl η)), (tx, .inl (gI G, 60, .inl τ)), (nmb, .inl (gI G, 120, .inl (u_1.2.2.2)))]) rfl ?_
    refine V.iconst hC 0 dX13_run_36 rfl ?_
    refine V.istore_n hC dX13_run_37 [some (.ref m), some (.int 0), none] (Nat.le_of_ble_eq_true rfl) rfl ?_
    have loop38 : ∀ (n : Nat) (k : Nat) (ω : Nat → Int32) (sk : ASt), 10 - k < n → (k ≤ u_1.2.1 + 1) → (Rel ω sk) → (InvA (B + k) sk) → (exA τ ln (60 - k) (cps τ ln k) k sk = X) → V G K 3 0 0 38 [some (.ref m), some (.int (nI k)), none] [] [(m, .inr (13, [.ref nw, .ref bf, .ref sv, .ref hy, .int iS, .int (nI p), .int eA, .int fA, .ref tx, .int 0, .ref li, .int ldd, .int (nI 0), .int (nI ln), .int (nI (u_1.1)), .int (-1), .int (nI (u_1.2.1 + 1)), .ref nmb])), (nw, .inl (gI G, 72, .inl ω)), (bf, .inl (gI G, 72, .inl σ)), (hy, .inl (gI G, 576, .inl η)), (tx, .inl (gI G, 60, .inl τ)), (nmb, .inl (gI G, 120, .inl (u_1.2.2.2)))] := by
      intro n
      induction n with
      | zero => intro k ω sk hlt; exact absurd hlt (Nat.not_lt_zero _)
      | succ n ih38 =>
        intro k ω sk hlt38 hk hω hIk hX
        refine V.iload_n hC (x := nI k) dX13_run_38 rfl ?_
        refine V.aload_n hC (x := m) dX13_run_39 rfl ?_
        refine V.getf hC (T := TX13) q0_ 16 q3_ rfl (0) rfl rfl (by decide) (.int (nI (u_1.2.1 + 1))) rfl dX13_run_40 ?_
        refine V.icmpN_ge hC k (u_1.2.1 + 1) 92 dX13_run_43 rfl rfl rfl (by omega) (by omega) (fun c_43 => ?_) (fun c_43 => ?_)
        · have hke : k = u_1.2.1 + 1 := by omega
          have hle : ln ≤ cps τ ln k := by rw [hke]; exact Nat.le_of_lt hcl
          have hXe : X = (k, true, sk) := by rw [← hX, exA_end hle, decide_eq_true hle]
          refine V.aload_n hC (x := m) dX13_run_92 rfl ?_
          refine V.aload_n hC (x := m) dX13_run_93 rfl ?_
          refine V.getf hC (T := TX13) q0_ 16 q3_ rfl (0) rfl rfl (by decide) (.int (nI (u_1.2.1 + 1))) rfl dX13_run_94 ?_
          refine V.callV (n := 1) (As := [.int (nI (u_1.2.1 + 1))]) (rest := []) hC (m_endsY (kl K) G m nw bf sv hy tx li nmb iS eA fA 0 ldd (nI ln) (nI u_1.1) (-1) (nI (u_1.2.1 + 1)) p hp8 σ η (nI (u_1.2.1 + 1))) SFk0 SFgo0 gX13_run_X13_ends rfl ⟨rfl, rfl⟩ (by decide +kernel) ⟨by decide, by decide, by decide, by decide⟩ [0, 2, 3] rfl (by decide) (fun _ => rfl) rfl rfl rfl rfl (Nat.le_of_ble_eq_true rfl) dX13_run_97 (fun r_97 u_97 hp_97 => ?_)
          subst hp_97
          show V G K 3 0 0 100 [some (.ref m), some (.int (nI k)), none] [.int (nI (u_1.2.1 + 1))] [(m, .inr (13, [.ref nw, .ref bf, .ref sv, .ref hy, .int iS, .int (nI (min (p + 1) 8)), .int eA, .int fA, .ref tx, .int 0, .ref li, .int ldd, .int (nI 0), .int (nI ln), .int (nI (u_1.1)), .int (-1), .int (nI (u_1.2.1 + 1)), .ref nmb])), (nw, .inl (gI G, 72, .inl ω)), (bf, .inl (gI G, 72, .inl σ)), (hy, .inl (gI G, 576, .inl (rmh σ η p))), (tx, .inl (gI G, 60, .inl τ)), (nmb, .inl (gI G, 120, .inl (u_1.2.2.2)))]
          exact hE 100 _ (nI (u_1.2.1 + 1)) (u_1.1, u_1.2.1, u_1.2.2.2, ω, min (p + 1) 8, rmh σ η p, nI 0, fA) dX13_run_100 rfl (Or.inl ⟨congrArg (fun z : Nat × Bool × ASt => z.2.1) hXe, (by rw [hXe]; exact hω), congrArg nI (hke.symm.trans (congrArg (fun z : Nat × Bool × ASt => z.1) hXe).symm), rfl, rfl, rfl, rfl⟩)
        · obtain ⟨hck, i, hkf, hGd⟩ := hGA k (by omega)
          have had := hk_adv hkf
          have hrl := hk_ln (tf := τ) (kf_lt hkf).1 hck
          have hlt : ¬ ln ≤ cps τ ln k := by omega
          refine V.aload_n hC (x := m) dX13_run_46 rfl ?_
          refine V.iconst hC 4 dX13_run_47 rfl ?_
          refine V.iload_n hC (x := nI k) dX13_run_48 rfl ?_
          refine V.imulN hC 4 k dX13_run_49 rfl rfl ?_
          refine V.callV (n := 1) (As := [.int (nI (4 * k))]) (rest := []) hC (m_does (kl K) G m nw bf sv hy tx li nmb iS (nI p) eA fA 0 ldd (nI 0) (nI ln) (nI (u_1.1)) (-1) (nI (u_1.2.1 + 1)) ω sk (B + k) hω hIk (by omega) (by omega) u_1.2.2.2 (4 * k) (by omega) τ ln (cps τ ln k) i (kf_lt hkf).1 hGd) SFk0 SFgo0 gX13_run_X13_does rfl ⟨rfl, rfl⟩ (by decide +kernel) ⟨by decide, by decide, by decide, by decide⟩ [0, 1, 5] rfl (by decide) (fun _ => rfl) rfl rfl rfl rfl (Nat.le_of_ble_eq_true rfl) dX13_run_50 (fun r_50 u_50 hp_50 => ?_)
          rcases hp_50 with ⟨h0, hRel, hr⟩ | ⟨hn, hu, hr⟩
          · show V G K 3 0 0 53 [some (.ref m), some (.int (nI k)), none] [.int r_50] [(m, .inr (13, [.ref nw, .ref bf, .ref sv, .ref hy, .int iS, .int (nI p), .int eA, .int fA, .ref tx, .int 0, .ref li, .int ldd, .int (nI (cd i (pwX i sk (agx τ ln (cps τ ln k) i 0) (agx τ ln (cps τ ln k) i 1) (agx τ ln (cps τ ln k) i 2)))), .int (nI ln), .int (nI (u_1.1)), .int (-1), .int (nI (u_1.2.1 + 1)), .ref nmb])), (nw, .inl (gI G, 72, .inl u_50)), (bf, .inl (gI G, 72, .inl σ)), (hy, .inl (gI G, 576, .inl η)), (tx, .inl (gI G, 60, .inl τ)), (nmb, .inl (gI G, 120, .inl (u_1.2.2.2)))]
            refine V.eqw (ws' := [(m, .inr (13, [.ref nw, .ref bf, .ref sv, .ref hy, .int iS, .int (nI p), .int eA, .int fA, .ref tx, .int 0, .ref li, .int ldd, .int (nI 0), .int (nI ln), .int (nI (u_1.1)), .int (-1), .int (nI (u_1.2.1 + 1)), .ref nmb])), (nw, .inl (gI G, 72, .inl u_50)), (bf, .inl (gI G, 72, .inl σ)), (hy, .inl (gI G, 576, .inl η)), (tx, .inl (gI G, 60, .inl τ)), (nmb, .inl (gI G, 120, .inl (u_1.2.2.2)))]) (by rw [h0, cd_00 (kf_lt hkf).1]) ?_
            refine V.istore_n hC dX13_run_53 [some (.ref m), some (.int (nI k)), some (.int r_50)] (Nat.le_of_ble_eq_true rfl) rfl ?_
            refine V.aload_n hC (x := m) dX13_run_54 rfl ?_
            refine V.getf hC (T := TX13) q0_ 12 q2_ rfl (0) rfl rfl (by decide) (.int (nI 0)) rfl dX13_run_55 ?_
            refine V.ifN_eq hC 0 86 dX13_run_58 rfl rfl (by omega) (fun c_58 => ?_) (fun c_58 => ?_)
            · refine V.iincN hC k 1 dX13_run_86 rfl [some (.ref m), some (.int (nI (k + 1))), some (.int r_50)] (Nat.le_of_ble_eq_true rfl) rfl rfl rfl ?_
              refine V.goto hC 38 dX13_run_89 rfl ?_
              refine V.drop 2 (lv' := [some (.ref m), some (.int (nI (k + 1))), none]) rfl ?_
              exact ih38 (k + 1) u_50 (cX i sk (agx τ ln (cps τ ln k) i 0) (agx τ ln (cps τ ln k) i 1) (agx τ ln (cps τ ln k) i 2)) (by omega) (by omega) hRel (InvA.step hIk (kf_lt hkf).1 h0) (by rw [← hX, show 60 - k = (59 - k) + 1 by omega, exA_go hlt hkf h0, cps_s hkf, show 60 - (k + 1) = 59 - k by omega])
            · exact absurd c_58 (by decide)
          · show V G K 3 0 0 53 [some (.ref m), some (.int (nI k)), none] [.int r_50] [(m, .inr (13, [.ref nw, .ref bf, .ref sv, .ref hy, .int iS, .int (nI p), .int eA, .int fA, .ref tx, .int 0, .ref li, .int ldd, .int (nI (cd i (pwX i sk (agx τ ln (cps τ ln k) i 0) (agx τ ln (cps τ ln k) i 1) (agx τ ln (cps τ ln k) i 2)))), .int (nI ln), .int (nI (u_1.1)), .int (-1), .int (nI (u_1.2.1 + 1)), .ref nmb])), (nw, .inl (gI G, 72, .inl u_50)), (bf, .inl (gI G, 72, .inl σ)), (hy, .inl (gI G, 576, .inl η)), (tx, .inl (gI G, 60, .inl τ)), (nmb, .inl (gI G, 120, .inl (u_1.2.2.2)))]
            have hcd := cd_pos (kf_lt hkf).1 hn
            refine V.eqw (ws' := [(m, .inr (13, [.ref nw, .ref bf, .ref sv, .ref hy, .int iS, .int (nI p), .int eA, .int fA, .ref tx, .int 0, .ref li, .int ldd, .int (nI (cd i (pwX i sk (agx τ ln (cps τ ln k) i 0) (agx τ ln (cps τ ln k) i 1) (agx τ ln (cps τ ln k) i 2)))), .int (nI ln), .int (nI (u_1.1)), .int (-1), .int (nI (u_1.2.1 + 1)), .ref nmb])), (nw, .inl (gI G, 72, .inl ω)), (bf, .inl (gI G, 72, .inl σ)), (hy, .inl (gI G, 576, .inl η)), (tx, .inl (gI G, 60, .inl τ)), (nmb, .inl (gI G, 120, .inl (u_1.2.2.2)))]) (by rw [hu]) ?_
            refine V.istore_n hC dX13_run_53 [some (.ref m), some (.int (nI k)), some (.int r_50)] (Nat.le_of_ble_eq_true rfl) rfl ?_
            refine V.aload_n hC (x := m) dX13_run_54 rfl ?_
            refine V.getf hC (T := TX13) q0_ 12 q2_ rfl (0) rfl rfl (by decide) (.int (nI (cd i (pwX i sk (agx τ ln (cps τ ln k) i 0) (agx τ ln (cps τ ln k) i 1) (agx τ ln (cps τ ln k) i 2))))) rfl dX13_run_55 ?_
            refine V.ifN_eq hC (cd i (pwX i sk (agx τ ln (cps τ ln k) i 0) (agx τ ln (cps τ ln k) i 1) (agx τ ln (cps τ ln k) i 2))) 86 dX13_run_58 rfl rfl (by omega) (fun c_58 => ?_) (fun c_58 => ?_)
            · exact absurd c_58 (by omega)
            · refine V.aload_n hC (x := m) dX13_run_61 rfl ?_
              refine V.iload_n hC (x := nI k) dX13_run_62 rfl ?_
              refine V.putf hC (T := TX13) q0_ tyX13 tyX13_ok nmX13 7 q4_ rfl rfl (0) rfl rfl (by decide) (by simp) rfl rfl dX13_run_63 [(m, .inr (13, [.ref nw, .ref bf, .ref sv, .ref hy, .int iS, .int (nI p), .int eA, .int (nI k), .ref tx, .int 0, .ref li, .int ldd, .int (nI (cd i (pwX i sk (agx τ ln (cps τ ln k) i 0) (agx τ ln (cps τ ln k) i 1) (agx τ ln (cps τ ln k) i 2)))), .int (nI ln), .int (nI (u_1.1)), .int (-1), .int (nI (u_1.2.1 + 1)), .ref nmb])), (nw, .inl (gI G, 72, .inl ω)), (bf, .inl (gI G, 72, .inl σ)), (hy, .inl (gI G, 576, .inl η)), (tx, .inl (gI G, 60, .inl τ)), (nmb, .inl (gI G, 120, .inl (u_1.2.2.2)))] rfl ?_
              refine V.aload_n hC (x := m) dX13_run_66 rfl ?_
              refine V.iconst hC 2 dX13_run_67 rfl ?_
              refine V.putf hC (T := TX13) q0_ tyX13 tyX13_ok nmX13 12 q2_ rfl rfl (0) rfl rfl (by decide) (by simp) rfl rfl dX13_run_68 [(m, .inr (13, [.ref nw, .ref bf, .ref sv, .ref hy, .int iS, .int (nI p), .int eA, .int (nI k), .ref tx, .int 0, .ref li, .int ldd, .int 2, .int (nI ln), .int (nI (u_1.1)), .int (-1), .int (nI (u_1.2.1 + 1)), .ref nmb])), (nw, .inl (gI G, 72, .inl ω)), (bf, .inl (gI G, 72, .inl σ)), (hy, .inl (gI G, 576, .inl η)), (tx, .inl (gI G, 60, .inl τ)), (nmb, .inl (gI G, 120, .inl (u_1.2.2.2)))] rfl ?_
              refine V.aload_n hC (x := m) dX13_run_71 rfl ?_
              refine V.getf hC (T := TX13) q0_ 1 q5_ rfl (0) rfl rfl (by decide) (.ref bf) rfl dX13_run_72 ?_
              refine V.iconst hC 0 dX13_run_75 rfl ?_
              refine V.aload_n hC (x := m) dX13_run_76 rfl ?_
              refine V.getf hC (T := TX13) q0_ 0 q6_ rfl (0) rfl rfl (by decide) (.ref nw) rfl dX13_run_77 ?_
              refine V.iconst hC 0 dX13_run_80 rfl ?_
              refine V.callS (n := 4) (As := [.ref bf, .int 0, .ref nw, .int 0]) (rest := []) hC (m_copies (kl K) G bf nw σ ω 72 72 0 0 (by decide) (by decide) (by decide) (by decide)) SFk0 SFgo0 gX13_run_X13_copies rfl ⟨rfl, rfl⟩ (by decide +kernel) ⟨by decide, by decide, by decide, by decide⟩ [2, 1] rfl (by decide) (fun _ => rfl) rfl rfl (Nat.le_of_ble_eq_true rfl) dX13_run_81 (fun r_81 u_81 hp_81 => ?_)
              show V G K 3 0 0 84 [some (.ref m), some (.int (nI k)), some (.int r_50)] [] [(m, .inr (13, [.ref nw, .ref bf, .ref sv, .ref hy, .int iS, .int (nI p), .int eA, .int (nI k), .ref tx, .int 0, .ref li, .int ldd, .int 2, .int (nI ln), .int (nI (u_1.1)), .int (-1), .int (nI (u_1.2.1 + 1)), .ref nmb])), (nw, .inl (gI G, 72, .inl (cpN σ ω 0 0 72))), (bf, .inl (gI G, 72, .inl σ)), (hy, .inl (gI G, 576, .inl η)), (tx, .inl (gI G, 60, .inl τ)), (nmb, .inl (gI G, 120, .inl (u_1.2.2.2)))]
              refine V.ext (1) (g := σ) rfl ((fun z hz => cpN_72 _ _ hz)) (ws' := [(m, .inr (13, [.ref nw, .ref bf, .ref sv, .ref hy, .int iS, .int (nI p), .int eA, .int (nI k), .ref tx, .int 0, .ref li, .int ldd, .int 2, .int (nI ln), .int (nI (u_1.1)), .int (-1), .int (nI (u_1.2.1 + 1)), .ref nmb])), (nw, .inl (gI G, 72, .inl σ)), (bf, .inl (gI G, 72, .inl σ)), (hy, .inl (gI G, 576, .inl η)), (tx, .inl (gI G, 60, .inl τ)), (nmb, .inl (gI G, 120, .inl (u_1.2.2.2)))]) rfl ?_
              have hXb : X = (k, false, sk) := by rw [← hX, show 60 - k = (59 - k) + 1 by omega, exA_bad hlt hkf hn, decide_eq_false hlt]
              refine V.iconst hC 0 dX13_run_84 rfl ?_
              exact hE 85 _ 0 (u_1.1, u_1.2.1, u_1.2.2.2, σ, p, η, 2, nI k) dX13_run_85 rfl (Or.inr ⟨congrArg (fun z : Nat × Bool × ASt => z.2.1) hXb, rfl, rfl, rfl, (congrArg (fun z : Nat × Bool × ASt => nI z.1) hXb).symm, rfl, rfl⟩)
    exact loop38 _ 0 σ s (Nat.lt_succ_self _) (by omega) hR hI hX0
  · exact absurd rfl c_9
