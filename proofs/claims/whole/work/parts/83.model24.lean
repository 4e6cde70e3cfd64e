/-! the document's model: signs read (printed by gen/s83.py) -/
theorem sgn_in {tf : Nat → Int32} {ln p : Nat} (h : p < ln) : sgn tf ln p = tf p := if_pos h
theorem dct1 {tf : Nat → Int32} {ln p : Nat} (h : ¬ dct tf ln p 1 = 0) : isD (sgn tf ln p) ∧ dct tf ln p 1 = 1 := by
  have e : dct tf ln p 1 = if dct tf ln p 0 = 0 ∧ isD (sgn tf ln (p + 0)) then 0 + 1 else dct tf ln p 0 := rfl
  by_cases q : dct tf ln p 0 = 0 ∧ isD (sgn tf ln (p + 0))
  · rw [if_pos q] at e
    exact ⟨q.2, e⟩
  · rw [if_neg q] at e
    exact absurd e h
theorem dct1n {tf : Nat → Int32} {ln p : Nat} (h : dct tf ln p 1 = 0) : ¬ isD (sgn tf ln p) := fun q => by
  have : dct tf ln p 1 = 0 + 1 := dct_go (j := 0) rfl q
  omega
theorem dct1y {tf : Nat → Int32} {ln p : Nat} (h : isD (sgn tf ln p)) : dct tf ln p 1 = 1 := dct_go (j := 0) rfl h
theorem nmv1 (tf : Nat → Int32) (ln p : Nat) : nmv tf ln p 1 = sgn tf ln p - 48 := by
  show 0 * 10 + sgn tf ln (p + 0) - 48 = _
  rw [Int32.zero_mul, Int32.zero_add, Nat.add_zero]
theorem dct2_0 {tf : Nat → Int32} {ln p : Nat} : dct tf ln p 2 = 0 ↔ dct tf ln p 1 = 0 := by
  have e : dct tf ln p 2 = if dct tf ln p 1 = 1 ∧ isD (sgn tf ln (p + 1)) then 1 + 1 else dct tf ln p 1 := rfl
  rw [e]
  split
  · rename_i q
    rw [q.1]
    omega
  · exact Iff.rfl
theorem dct2y {tf : Nat → Int32} {ln p : Nat} (h : isD (sgn tf ln p)) (h2 : isD (sgn tf ln (p + 1))) : dct tf ln p 2 = 2 := dct_go (j := 1) (dct1y h) h2
theorem dct2n {tf : Nat → Int32} {ln p : Nat} (h : isD (sgn tf ln p)) (h2 : ¬ isD (sgn tf ln (p + 1))) : dct tf ln p 2 = 1 := by
  have e : dct tf ln p 2 = if dct tf ln p 1 = 1 ∧ isD (sgn tf ln (p + 1)) then 1 + 1 else dct tf ln p 1 := rfl
  rw [e, if_neg (fun q => h2 q.2), dct1y h]
theorem nmv2 (tf : Nat → Int32) (ln p : Nat) : nmv tf ln p 2 = 10 * (sgn tf ln p - 48) + (sgn tf ln (p + 1) - 48) := by
  show nmv tf ln p 1 * 10 + sgn tf ln (p + 1) - 48 = _
  rw [nmv1, Int32.mul_comm, Int32.sub_eq_add_neg, Int32.sub_eq_add_neg (a := sgn tf ln (p + 1)), Int32.add_assoc]
theorem sgn_D {tf : Nat → Int32} {ln p : Nat} (h : isD (sgn tf ln p)) : p < ln := sgn_lt (fun z => by rw [z] at h; exact absurd h (by decide))
theorem sub_add1 {p : Nat} : p + 1 - 1 = p := by omega
/-- one sign of a form more -/
theorem hs_d {tf : Nat → Int32} {ln sr w j p a u : Nat} {af g : Nat → Int32} {r : Int32} (h : hfm tf ln sr af w j = (1, p, a, g)) (c : chr w j = 35) (hd : ¬ dct tf ln p 1 = 0) (hr : r = nmv tf ln p 1) (hu : u = p + dct tf ln p 1) : hfm tf ln sr af w (j + 1) = (1, u, a + 1, upd g a r) := by
  have h0 : ¬ (hfm tf ln sr af w j).1 = 0 := by rw [h]; exact Nat.one_ne_zero
  rw [hfm_1 h0 c, h, hr, hu]
  simp only
  rw [if_neg hd, (dct1 hd).2]
theorem hs_n {tf : Nat → Int32} {ln sr w j p a u : Nat} {af g : Nat → Int32} {r : Int32} (h : hfm tf ln sr af w j = (1, p, a, g)) (c : chr w j = 37) (hd : ¬ dct tf ln p 2 = 0) (hr : r = nmv tf ln p (dct tf ln p 2)) (hu : u = p + dct tf ln p 2) : hfm tf ln sr af w (j + 1) = (1, u, a + 1, upd g a r) := by
  have h0 : ¬ (hfm tf ln sr af w j).1 = 0 := by rw [h]; exact Nat.one_ne_zero
  rw [hfm_2 h0 (by rw [c]; decide) c, h, hr, hu]
  simp only
  rw [if_neg hd]
theorem hs_c {tf : Nat → Int32} {ln sr w j p a : Nat} {af g : Nat → Int32} {c : Nat} (h : hfm tf ln sr af w j = (1, p, a, g)) (hc : chr w j = c) (c1 : ¬ c = 35) (c2 : ¬ c = 37) (hs : sgn tf ln p = nI c) : hfm tf ln sr af w (j + 1) = (1, p + 1, a, g) := by
  have h0 : ¬ (hfm tf ln sr af w j).1 = 0 := by rw [h]; exact Nat.one_ne_zero
  rw [hfm_3 h0 (by rw [hc]; exact c1) (by rw [hc]; exact c2) (by rw [h, hc]; exact hs), h]
theorem hf_d {tf : Nat → Int32} {ln sr w j p a : Nat} {af g : Nat → Int32} (h : hfm tf ln sr af w j = (1, p, a, g)) (c : chr w j = 35) (hd : dct tf ln p 1 = 0) {n : Nat} (hn : j + 1 ≤ n) : (hfm tf ln sr af w n).1 = 0 ∧ (hfm tf ln sr af w n).2.1 = p := by
  have h0 : ¬ (hfm tf ln sr af w j).1 = 0 := by rw [h]; exact Nat.one_ne_zero
  have e := hfm_1 h0 c
  rw [h] at e
  simp only at e
  rw [if_pos hd, hd] at e
  rw [← hfm_end (by rw [e]) hn, e]
  exact ⟨rfl, rfl⟩
theorem hf_n {tf : Nat → Int32} {ln sr w j p a : Nat} {af g : Nat → Int32} (h : hfm tf ln sr af w j = (1, p, a, g)) (c : chr w j = 37) (hd : dct tf ln p 2 = 0) {n : Nat} (hn : j + 1 ≤ n) : (hfm tf ln sr af w n).1 = 0 ∧ (hfm tf ln sr af w n).2.1 = p := by
  have h0 : ¬ (hfm tf ln sr af w j).1 = 0 := by rw [h]; exact Nat.one_ne_zero
  have e := hfm_2 h0 (by rw [c]; decide) c
  rw [h] at e
  simp only at e
  rw [if_pos hd, hd] at e
  rw [← hfm_end (by rw [e]) hn, e]
  exact ⟨rfl, rfl⟩
theorem hf_c {tf : Nat → Int32} {ln sr w j p a : Nat} {af g : Nat → Int32} {c : Nat} (h : hfm tf ln sr af w j = (1, p, a, g)) (hc : chr w j = c) (c1 : ¬ c = 35) (c2 : ¬ c = 37) (hs : ¬ sgn tf ln p = nI c) {n : Nat} (hn : j + 1 ≤ n) : (hfm tf ln sr af w n).1 = 0 ∧ (hfm tf ln sr af w n).2.1 = p := by
  have h0 : ¬ (hfm tf ln sr af w j).1 = 0 := by rw [h]; exact Nat.one_ne_zero
  have e := hfm_4 h0 (by rw [hc]; exact c1) (by rw [hc]; exact c2) (by rw [h, hc]; exact hs)
  rw [h] at e
  rw [← hfm_end (by rw [e]) hn, e]
  exact ⟨rfl, rfl⟩
/-- a form's word -/
theorem hfm_pfx {tf : Nat → Int32} {ln sr w : Nat} {af : Nat → Int32} (hw : w < 8) : ∀ j, j ≤ wl w → hfm tf ln sr af w j = (if pfx tf ln sr w j = j then 1 else 0, sr + pfx tf ln sr w j, 0, af)
  | 0, _ => rfl
  | j + 1, h => by
    have ih := hfm_pfx (tf := tf) (ln := ln) (sr := sr) (af := af) hw j (by omega)
    have hcw := chr_w w hw j (by omega)
    have hle := pfx_le tf ln sr w j
    by_cases e : pfx tf ln sr w j = j
    · rw [if_pos e, e] at ih
      by_cases q : sgn tf ln (sr + j) = nI (chr w j)
      · rw [hs_c ih rfl hcw.1 hcw.2 q, pfx_go e q, if_pos rfl]
        rfl
      · have h0 : ¬ (hfm tf ln sr af w j).1 = 0 := by rw [ih]; exact Nat.one_ne_zero
        rw [hfm_4 h0 hcw.1 hcw.2 (by rw [ih]; exact q), ih, pfx_end e q (Nat.le_succ j), if_neg (by omega)]
    · rw [if_neg e] at ih
      have e2 : pfx tf ln sr w (j + 1) = pfx tf ln sr w j := by rw [pfx, if_neg (fun z => e z.1)]
      rw [hfm, ih, if_pos rfl, e2, if_neg (by omega)]
theorem fln : ∀ w, w < 8 → wl w ≤ fLen.getD w 0 := by decide
/-- a form whose word does not stand -/
theorem hk_no {tf : Nat → Int32} {ln sr w : Nat} (hw : w < 8) (h : ¬ pfx tf ln sr w (wl w) = wl w) : (hk tf ln sr w).1 = 0 ∧ (hk tf ln sr w).2.1 = sr + pfx tf ln sr w (wl w) := by
  have e := hfm_pfx (tf := tf) (ln := ln) (sr := sr) (af := fun _ => 0) hw (wl w) (Nat.le_refl _)
  rw [if_neg h] at e
  have := hfm_end (n := fLen.getD w 0) (tf := tf) (ln := ln) (sr := sr) (af := fun _ => 0) (i := w) (j := wl w) (by rw [e]) (fln w hw)
  show (hfm tf ln sr (fun _ => 0) w (fLen.getD w 0)).1 = 0 ∧ (hfm tf ln sr (fun _ => 0) w (fLen.getD w 0)).2.1 = _
  rw [← this, e]
  exact ⟨rfl, rfl⟩
/-- a form whose word stands -/
theorem hk_yes {tf : Nat → Int32} {ln sr w : Nat} (hw : w < 8) (h : pfx tf ln sr w (wl w) = wl w) : hfm tf ln sr (fun _ => 0) w (wl w) = (1, sr + wl w, 0, fun _ => 0) := by
  have e := hfm_pfx (tf := tf) (ln := ln) (sr := sr) (af := fun _ => 0) hw (wl w) (Nat.le_refl _)
  rw [if_pos h, h] at e
  exact e
theorem pfx_oth {tf : Nat → Int32} {ln sr w i : Nat} (hw : w < 8) (hi : i < 8) (h : pfx tf ln sr w (wl w) = wl w) (hiw : i ≠ w) : pfx tf ln sr i (wl i) ≤ 2 := by
  obtain ⟨k, hk, hne⟩ := chr_ne w hw i hi hiw
  have hwl := wl_le w hw
  have hc := pfx_ch h k (by omega)
  have := pfx_lt (tf := tf) (ln := ln) (sr := sr) (w := i) (k := k) (fun z => by
    rw [hc] at z
    have h1 : chr w k < 127 := chr_127 w hw k (by omega)
    have h2 : chr i k < 127 := chr_127 i hi k (by omega)
    exact hne ((nI_eq (by omega) (by omega)).mp z.symm)) (wl i)
  omega
theorem hk_oth {tf : Nat → Int32} {ln sr w i : Nat} (hw : w < 8) (hi : i < 8) (h : pfx tf ln sr w (wl w) = wl w) (hiw : i ≠ w) : (hk tf ln sr i).1 = 0 ∧ (hk tf ln sr i).2.1 ≤ sr + 2 := by
  have h1 := pfx_oth hw hi h hiw
  have h2 := wl_le i hi
  have h3 := hk_no (tf := tf) (ln := ln) (sr := sr) hi (by omega)
  exact ⟨h3.1, by rw [h3.2]; omega⟩
theorem kf_none {tf : Nat → Int32} {ln sr : Nat} : ∀ n, (∀ i, i < n → (hk tf ln sr i).1 = 0) → kf tf ln sr n = none
  | 0, _ => rfl
  | n + 1, h => by
    rw [kf, kf_none n (fun i hi => h i (by omega))]
    exact if_pos (h n (Nat.lt_succ_self n))
theorem kf_some {tf : Nat → Int32} {ln sr w : Nat} (hw : ¬ (hk tf ln sr w).1 = 0) (h : ∀ i, i < w → (hk tf ln sr i).1 = 0) : ∀ n, w < n → kf tf ln sr n = some w
  | n + 1, hn => by
    by_cases e : w = n
    · subst e
      rw [kf, kf_none w h]
      exact if_neg hw
    · rw [kf, kf_some hw h n (by omega)]
theorem kr_le {tf : Nat → Int32} {ln sr X : Nat} (hs : sr ≤ X) : ∀ n, (∀ i, i < n → (hk tf ln sr i).2.1 ≤ X) → kr tf ln sr n ≤ X
  | 0, _ => hs
  | n + 1, h => by
    have ih := kr_le hs n (fun i hi => h i (by omega))
    have := h n (Nat.lt_succ_self n)
    rw [kr]
    omega
theorem kr_ge {tf : Nat → Int32} {ln sr w : Nat} : ∀ n, w < n → (hk tf ln sr w).2.1 ≤ kr tf ln sr n
  | n + 1, hn => by
    rw [kr]
    by_cases e : w = n
    · subst e
      omega
    · have := kr_ge (tf := tf) (ln := ln) (sr := sr) (w := w) n (by omega)
      omega
theorem kr_wkr {tf : Nat → Int32} {ln sr : Nat} : ∀ n, n ≤ 8 → (∀ i, i < n → ¬ pfx tf ln sr i (wl i) = wl i) → kr tf ln sr n = wkr tf ln sr n
  | 0, _, _ => rfl
  | n + 1, h8, h => by
    rw [kr, wkr, kr_wkr n (by omega) (fun i hi => h i (by omega)), (hk_no (by omega) (h n (Nat.lt_succ_self n))).2]
/-- no word stands: no command, and how far one would -/
theorem rd_none {tf : Nat → Int32} {ln sr : Nat} (h : wkf tf ln sr 8 = none) : kf tf ln sr 8 = none ∧ kr tf ln sr 8 = wkr tf ln sr 8 := by
  have hn := wkf_none h
  exact ⟨kf_none 8 (fun i hi => (hk_no hi (hn i hi)).1), kr_wkr 8 (Nat.le_refl 8) hn⟩
theorem rd_yes {tf : Nat → Int32} {ln sr w : Nat} (h : wkf tf ln sr 8 = some w) (h2 : ¬ (hk tf ln sr w).1 = 0) : kf tf ln sr 8 = some w := by
  have hw := wkf_some h
  exact kf_some h2 (fun i hi => (hk_oth hw.1 (by omega) hw.2 (by omega)).1) 8 hw.1
theorem rd_no {tf : Nat → Int32} {ln sr w p : Nat} (h : wkf tf ln sr 8 = some w) (h2 : (hk tf ln sr w).1 = 0 ∧ (hk tf ln sr w).2.1 = p) (hp : sr + 5 ≤ p) : kf tf ln sr 8 = none ∧ kr tf ln sr 8 = p := by
  have hw := wkf_some h
  refine ⟨kf_none 8 (fun i hi => ?_), Nat.le_antisymm (kr_le (by omega) 8 (fun i hi => ?_)) ?_⟩
  · by_cases e : i = w
    · rw [e]; exact h2.1
    · exact (hk_oth hw.1 hi hw.2 e).1
  · by_cases e : i = w
    · rw [e, h2.2]; exact Nat.le_refl p
    · have := (hk_oth hw.1 hi hw.2 e).2
      omega
  · rw [← h2.2]
    exact kr_ge 8 hw.1
set_option maxHeartbeats 4000000 in
set_option maxRecDepth 100000 in
theorem m_letterHere (l : Launch) (G : Gx) (m nw bf sv hy tx li nmb : Nat) (iS rmb eA fA tyd ldd thr wrg tld : Int32) (ln p : Nat) (hln : ln ≤ 60) (hp : p ≤ ln) (τ : Nat → Int32) : Ct l G SF0 yX13_letterHere wsX13_letterHere ({ frames := 0, cells := 0, slots := 0, locals := 0 }) [.ref m] [(m, .inr (13, [.ref nw, .ref bf, .ref sv, .ref hy, .int iS, .int rmb, .int eA, .int fA, .ref tx, .int tyd, .ref li, .int ldd, .int thr, .int (nI ln), .int (nI p), .int wrg, .int tld, .ref nmb])), (tx, .inl (gI G, 60, .inl τ))] mkI (fun (r : Int32) (_ : Unit) => r = sgn τ ln p) (fun _ : Unit => [(m, .inr (13, [.ref nw, .ref bf, .ref sv, .ref hy, .int iS, .int rmb, .int eA, .int fA, .ref tx, .int tyd, .ref li, .int ldd, .int thr, .int (nI ln), .int (nI p), .int wrg, .int tld, .ref nmb])), (tx, .inl (gI G, 60, .inl τ))]) 0 0 := by
  refine Ct.ofI (cc := cX13_letterHere) (maxL := 1) (by decide) rfl ⟨by simp [Value.category], Nat.le_of_ble_eq_true rfl⟩ ?_
  intro K hl hC hSF hnm hE
  subst hl
  have q0_ : ∀ w ∈ u_ws RX13 TX13 18, w ∈ wsX13_letterHere := by decide +kernel
  have q1_ : Cond.fieldLink RX13 188 "FeatherSharesModel" "spot" "I" ∈ wsX13_letterHere := by decide +kernel
  have q2_ : Cond.fieldLink RX13 191 "FeatherSharesModel" "size" "I" ∈ wsX13_letterHere := by decide +kernel
  have q3_ : Cond.fieldLink RX13 29 "FeatherSharesModel" "text" "[I" ∈ wsX13_letterHere := by decide +kernel
  show V G K 1 0 0 0 [some (.ref m)] [] [(m, .inr (13, [.ref nw, .ref bf, .ref sv, .ref hy, .int iS, .int rmb, .int eA, .int fA, .ref tx, .int tyd, .ref li, .int ldd, .int thr, .int (nI ln), .int (nI p), .int wrg, .int tld, .ref nmb])), (tx, .inl (gI G, 60, .inl τ))]
  refine V.aload_n hC (x := m) dX13_letterHere_0 rfl ?_
  refine V.getf hC (T := TX13) q0_ 14 q1_ rfl (0) rfl rfl (by decide) (.int (nI p)) rfl dX13_letterHere_1 ?_
  refine V.aload_n hC (x := m) dX13_letterHere_4 rfl ?_
  refine V.getf hC (T := TX13) q0_ 13 q2_ rfl (0) rfl rfl (by decide) (.int (nI ln)) rfl dX13_letterHere_5 ?_
  refine V.icmpN_ge hC p ln 23 dX13_letterHere_8 rfl rfl rfl (by omega) (by omega) (fun c_8 => ?_) (fun c_8 => ?_)
  · refine V.iconst hC (-1) dX13_letterHere_23 rfl ?_
    exact hE 24 _ (-1) () dX13_letterHere_24 rfl ((if_neg (by omega)).symm)
  · refine V.aload_n hC (x := m) dX13_letterHere_11 rfl ?_
    refine V.getf hC (T := TX13) q0_ 8 q3_ rfl (0) rfl rfl (by decide) (.ref tx) rfl dX13_letterHere_12 ?_
    refine V.aload_n hC (x := m) dX13_letterHere_15 rfl ?_
    refine V.getf hC (T := TX13) q0_ 14 q1_ rfl (0) rfl rfl (by decide) (.int (nI p)) rfl dX13_letterHere_16 ?_
    refine V.iald hC dX13_letterHere_19 (1) rfl p rfl (by omega) (by decide) ?_
    refine V.goto hC 24 dX13_letterHere_20 rfl ?_
    exact hE 24 _ (τ p) () dX13_letterHere_24 rfl ((if_pos (by omega)).symm)

set_option maxHeartbeats 4000000 in
set_option maxRecDepth 100000 in
theorem m_readsY (l : Launch) (G : Gx) (m nw bf sv hy tx li nmb : Nat) (iS rmb eA fA tyd ldd thr tld : Int32) (ln p : Nat) (hln : ln ≤ 60) (hp : p ≤ ln) (τ : Nat → Int32) (x y : Int32) (h : ¬ sgn τ ln p < x ∧ ¬ y < sgn τ ln p) (h1 : p < ln) : Ct l G SF0 yX13_reads wsX13_reads ({ frames := 1, cells := 0, slots := 0, locals := 22 }) [.ref m, .int x, .int y] [(m, .inr (13, [.ref nw, .ref bf, .ref sv, .ref hy, .int iS, .int rmb, .int eA, .int fA, .ref tx, .int tyd, .ref li, .int ldd, .int thr, .int (nI ln), .int (nI p), .int (-1), .int tld, .ref nmb])), (tx, .inl (gI G, 60, .inl τ))] mkI (fun (r : Int32) (_ : Unit) => r = sgn τ ln p - x) (fun _ : Unit => [(m, .inr (13, [.ref nw, .ref bf, .ref sv, .ref hy, .int iS, .int rmb, .int eA, .int fA, .ref tx, .int tyd, .ref li, .int ldd, .int thr, .int (nI ln), .int (nI (p + 1)), .int (-1), .int tld, .ref nmb])), (tx, .inl (gI G, 60, .inl τ))]) 0 0 := by
  refine Ct.ofI (cc := cX13_reads) (maxL := 3) (by decide) rfl ⟨by simp [Value.category], Nat.le_of_ble_eq_true rfl⟩ ?_
  intro K hl hC hSF hnm hE
  subst hl
  have q0_ : ∀ w ∈ u_ws RX13 TX13 18, w ∈ wsX13_reads := by decide +kernel
  have q1_ : Cond.fieldLink RX13 194 "FeatherSharesModel" "wrong" "I" ∈ wsX13_reads := by decide +kernel
  have q2_ : Cond.fieldLink RX13 188 "FeatherSharesModel" "spot" "I" ∈ wsX13_reads := by decide +kernel
  have q3_ : Cond.fieldLink RX13 29 "FeatherSharesModel" "text" "[I" ∈ wsX13_reads := by decide +kernel
  show V G K 3 0 0 0 [some (.ref m), some (.int x), some (.int y)] [] [(m, .inr (13, [.ref nw, .ref bf, .ref sv, .ref hy, .int iS, .int rmb, .int eA, .int fA, .ref tx, .int tyd, .ref li, .int ldd, .int thr, .int (nI ln), .int (nI p), .int (-1), .int tld, .ref nmb])), (tx, .inl (gI G, 60, .inl τ))]
  refine V.aload_n hC (x := m) dX13_reads_0 rfl ?_
  refine V.getf hC (T := TX13) q0_ 15 q1_ rfl (0) rfl rfl (by decide) (.int (-1)) rfl dX13_reads_1 ?_
  refine V.iconst hC (-1) dX13_reads_4 rfl ?_
  refine V.icmp_ne hC 44 dX13_reads_5 rfl (fun c_5 => ?_) (fun c_5 => ?_)
  · exact absurd rfl c_5
  · refine V.aload_n hC (x := m) dX13_reads_8 rfl ?_
    refine V.callVr (n := 0) (As := []) (rest := []) hC (m_letterHere (kl K) G m nw bf sv hy tx li nmb iS rmb eA fA tyd ldd thr (-1) tld ln p hln hp τ) SFk0 SFgo0 gX13_reads_X13_letterHere rfl ⟨rfl, rfl⟩ (by decide +kernel) ⟨by decide, by decide, by decide, by decide⟩ [0, 1] rfl (by decide) rfl rfl rfl rfl (Nat.le_of_ble_eq_true rfl) dX13_reads_9 (fun r_9 u_9 hp_9 => ?_)
    subst hp_9
    show V G K 3 0 0 12 [some (.ref m), some (.int x), some (.int y)] [.int (sgn τ ln p)] [(m, .inr (13, [.ref nw, .ref bf, .ref sv, .ref hy, .int iS, .int rmb, .int eA, .int fA, .ref tx, .int tyd, .ref li, .int ldd, .int thr, .int (nI ln), .int (nI p), .int (-1), .int tld, .ref nmb])), (tx, .inl (gI G, 60, .inl τ))]
    refine V.iload_n hC (x := x) dX13_reads_12 rfl ?_
    refine V.iload_n hC (x := y) dX13_reads_13 rfl ?_
    refine V.callSr (n := 3) (As := [.int (sgn τ ln p), .int x, .int y]) (rest := []) hC (m_isIn (kl K) G (sgn τ ln p) x y) SFk0 SFgo0 gX13_reads_X13_isIn rfl ⟨rfl, rfl⟩ (by decide +kernel) ⟨by decide, by decide, by decide, by decide⟩ [] rfl (by decide) rfl rfl (Nat.le_of_ble_eq_true rfl) dX13_reads_14 (fun r_14 u_14 hp_14 => ?_)
    subst hp_14
    show V G K 3 0 0 17 [some (.ref m), some (.int x), some (.int y)] [.int (if ¬ sgn τ ln p < x ∧ ¬ y < sgn τ ln p then 1 else 0)] [(m, .inr (13, [.ref nw, .ref bf, .ref sv, .ref hy, .int iS, .int rmb, .int eA, .int fA, .ref tx, .int tyd, .ref li, .int ldd, .int thr, .int (nI ln), .int (nI p), .int (-1), .int tld, .ref nmb])), (tx, .inl (gI G, 60, .inl τ))]
    refine V.topeq (nI 1) (if_pos h) ?_
    refine V.ifN_eq hC 1 44 dX13_reads_17 rfl rfl (by omega) (fun c_17 => ?_) (fun c_17 => ?_)
    · exact absurd c_17 (by decide)
    · refine V.aload_n hC (x := m) dX13_reads_20 rfl ?_
      refine V.dup hC dX13_reads_21 rfl ?_
      refine V.getf hC (T := TX13) q0_ 14 q2_ rfl (0) rfl rfl (by decide) (.int (nI p)) rfl dX13_reads_22 ?_
      refine V.iconst hC 1 dX13_reads_25 rfl ?_
      refine V.iaddN hC p 1 dX13_reads_26 rfl rfl ?_
      refine V.putf hC (T := TX13) q0_ tyX13 tyX13_ok nmX13 14 q2_ rfl rfl (0) rfl rfl (by decide) (by simp) rfl rfl dX13_reads_27 [(m, .inr (13, [.ref nw, .ref bf, .ref sv, .ref hy, .int iS, .int rmb, .int eA, .int fA, .ref tx, .int tyd, .ref li, .int ldd, .int thr, .int (nI ln), .int (nI (p + 1)), .int (-1), .int tld, .ref nmb])), (tx, .inl (gI G, 60, .inl τ))] rfl ?_
      refine V.aload_n hC (x := m) dX13_reads_30 rfl ?_
      refine V.getf hC (T := TX13) q0_ 8 q3_ rfl (0) rfl rfl (by decide) (.ref tx) rfl dX13_reads_31 ?_
      refine V.aload_n hC (x := m) dX13_reads_34 rfl ?_
      refine V.getf hC (T := TX13) q0_ 14 q2_ rfl (0) rfl rfl (by decide) (.int (nI (p + 1))) rfl dX13_reads_35 ?_
      refine V.iconst hC 1 dX13_reads_38 rfl ?_
      refine V.isubN hC (p + 1) 1 dX13_reads_39 rfl rfl (by omega) ?_
      refine V.topeq (nI p) (congrArg nI sub_add1) ?_
      refine V.iald hC dX13_reads_40 (1) rfl p rfl (by omega) (by decide) ?_
      refine V.topeq (sgn τ ln p) ((sgn_in h1).symm) ?_
      refine V.iload_n hC (x := x) dX13_reads_41 rfl ?_
      refine V.isub hC dX13_reads_42 ?_
      exact hE 43 _ ((sgn τ ln p) - x) () dX13_reads_43 rfl rfl

set_option maxHeartbeats 4000000 in
set_option maxRecDepth 100000 in
theorem m_readsN (l : Launch) (G : Gx) (m nw bf sv hy tx li nmb : Nat) (iS rmb eA fA tyd ldd thr tld : Int32) (ln p : Nat) (hln : ln ≤ 60) (hp : p ≤ ln) (τ : Nat → Int32) (x y : Int32) (h : ¬ (¬ sgn τ ln p < x ∧ ¬ y < sgn τ ln p)) : Ct l G SF0 yX13_reads wsX13_reads ({ frames := 1, cells := 0, slots := 0, locals := 22 }) [.ref m, .int x, .int y] [(m, .inr (13, [.ref nw, .ref bf, .ref sv, .ref hy, .int iS, .int rmb, .int eA, .int fA, .ref tx, .int tyd, .ref li, .int ldd, .int thr, .int (nI ln), .int (nI p), .int (-1), .int tld, .ref nmb])), (tx, .inl (gI G, 60, .inl τ))] mkI (fun (r : Int32) (_ : Unit) => r = 0) (fun _ : Unit => [(m, .inr (13, [.ref nw, .ref bf, .ref sv, .ref hy, .int iS, .int rmb, .int eA, .int fA, .ref tx, .int tyd, .ref li, .int ldd, .int thr, .int (nI ln), .int (nI p), .int (nI p), .int tld, .ref nmb])), (tx, .inl (gI G, 60, .inl τ))]) 0 0 := by
  refine Ct.ofI (cc := cX13_reads) (maxL := 3) (by decide) rfl ⟨by simp [Value.category], Nat.le_of_ble_eq_true rfl⟩ ?_
  intro K hl hC hSF hnm hE
  subst hl
  have q0_ : ∀ w ∈ u_ws RX13 TX13 18, w ∈ wsX13_reads := by decide +kernel
  have q1_ : Cond.fieldLink RX13 194 "FeatherSharesModel" "wrong" "I" ∈ wsX13_reads := by decide +kernel
  have q2_ : Cond.fieldLink RX13 188 "FeatherSharesModel" "spot" "I" ∈ wsX13_reads := by decide +kernel
  show V G K 3 0 0 0 [some (.ref m), some (.int x), some (.int y)] [] [(m, .inr (13, [.ref nw, .ref bf, .ref sv, .ref hy, .int iS, .int rmb, .int eA, .int fA, .ref tx, .int tyd, .ref li, .int ldd, .int thr, .int (nI ln), .int (nI p), .int (-1), .int tld, .ref nmb])), (tx, .inl (gI G, 60, .inl τ))]
  refine V.aload_n hC (x := m) dX13_reads_0 rfl ?_
  refine V.getf hC (T := TX13) q0_ 15 q1_ rfl (0) rfl rfl (by decide) (.int (-1)) rfl dX13_reads_1 ?_
  refine V.iconst hC (-1) dX13_reads_4 rfl ?_
  refine V.icmp_ne hC 44 dX13_reads_5 rfl (fun c_5 => ?_) (fun c_5 => ?_)
  · exact absurd rfl c_5
  · refine V.aload_n hC (x := m) dX13_reads_8 rfl ?_
    refine V.callVr (n := 0) (As := []) (rest := []) hC (m_letterHere (kl K) G m nw bf sv hy tx li nmb iS rmb eA fA tyd ldd thr (-1) tld ln p hln hp τ) SFk0 SFgo0 gX13_reads_X13_letterHere rfl ⟨rfl, rfl⟩ (by decide +kernel) ⟨by decide, by decide, by decide, by decide⟩ [0, 1] rfl (by decide) rfl rfl rfl rfl (Nat.le_of_ble_eq_true rfl) dX13_reads_9 (fun r_9 u_9 hp_9 => ?_)
    subst hp_9
    show V G K 3 0 0 12 [some (.ref m), some (.int x), some (.int y)] [.int (sgn τ ln p)] [(m, .inr (13, [.ref nw, .ref bf, .ref sv, .ref hy, .int iS, .int rmb, .int eA, .int fA, .ref tx, .int tyd, .ref li, .int ldd, .int thr, .int (nI ln), .int (nI p), .int (-1), .int tld, .ref nmb])), (tx, .inl (gI G, 60, .inl τ))]
    refine V.iload_n hC (x := x) dX13_reads_12 rfl ?_
    refine V.iload_n hC (x := y) dX13_reads_13 rfl ?_
    refine V.callSr (n := 3) (As := [.int (sgn τ ln p), .int x, .int y]) (rest := []) hC (m_isIn (kl K) G (sgn τ ln p) x y) SFk0 SFgo0 gX13_reads_X13_isIn rfl ⟨rfl, rfl⟩ (by decide +kernel) ⟨by decide, by decide, by decide, by decide⟩ [] rfl (by decide) rfl rfl (Nat.le_of_ble_eq_true rfl) dX13_reads_14 (fun r_14 u_14 hp_14 => ?_)
    subst hp_14
    show V G K 3 0 0 17 [some (.ref m), some (.int x), some (.int y)] [.int (if ¬ sgn τ ln p < x ∧ ¬ y < sgn τ ln p then 1 else 0)] [(m, .inr (13, [.ref nw, .ref bf, .ref sv, .ref hy, .int iS, .int rmb, .int eA, .int fA, .ref tx, .int tyd, .ref li, .int ldd, .int thr, .int (nI ln), .int (nI p), .int (-1), .int tld, .ref nmb])), (tx, .inl (gI G, 60, .inl τ))]
    refine V.topeq (nI 0) (if_neg h) ?_
    refine V.ifN_eq hC 0 44 dX13_reads_17 rfl rfl (by omega) (fun c_17 => ?_) (fun c_17 => ?_)
    · refine V.aload_n hC (x := m) dX13_reads_44 rfl ?_
      refine V.aload_n hC (x := m) dX13_reads_45 rfl ?_
      refine V.getf hC (T := TX13) q0_ 15 q1_ rfl (0) rfl rfl (by decide) (.int (-1)) rfl dX13_reads_46 ?_
      refine V.iconst hC (-1) dX13_reads_49 rfl ?_
      refine V.icmp_ne hC 60 dX13_reads_50 rfl (fun c_50 => ?_) (fun c_50 => ?_)
      · exact absurd rfl c_50
      · refine V.aload_n hC (x := m) dX13_reads_53 rfl ?_
        refine V.getf hC (T := TX13) q0_ 14 q2_ rfl (0) rfl rfl (by decide) (.int (nI p)) rfl dX13_reads_54 ?_
        refine V.goto hC 64 dX13_reads_57 rfl ?_
        refine V.putf hC (T := TX13) q0_ tyX13 tyX13_ok nmX13 15 q1_ rfl rfl (0) rfl rfl (by decide) (by simp) rfl rfl dX13_reads_64 [(m, .inr (13, [.ref nw, .ref bf, .ref sv, .ref hy, .int iS, .int rmb, .int eA, .int fA, .ref tx, .int tyd, .ref li, .int ldd, .int thr, .int (nI ln), .int (nI p), .int (nI p), .int tld, .ref nmb])), (tx, .inl (gI G, 60, .inl τ))] rfl ?_
        refine V.iconst hC 0 dX13_reads_67 rfl ?_
        exact hE 68 _ 0 () dX13_reads_68 rfl rfl
    · exact absurd c_17 (by decide)

set_option maxHeartbeats 4000000 in
set_option maxRecDepth 100000 in
theorem m_readsW (l : Launch) (G : Gx) (m nw bf sv hy tx li nmb : Nat) (iS rmb eA fA tyd ldd thr tld : Int32) (ln p : Nat) (hln : ln ≤ 60) (hp : p ≤ ln) (τ : Nat → Int32) (q : Nat) (hq : q ≤ 60) (x y : Int32) : Ct l G SF0 yX13_reads wsX13_reads ({ frames := 0, cells := 0, slots := 0, locals := 0 }) [.ref m, .int x, .int y] [(m, .inr (13, [.ref nw, .ref bf, .ref sv, .ref hy, .int iS, .int rmb, .int eA, .int fA, .ref tx, .int tyd, .ref li, .int ldd, .int thr, .int (nI ln), .int (nI p), .int (nI q), .int tld, .ref nmb])), (tx, .inl (gI G, 60, .inl τ))] mkI (fun (r : Int32) (_ : Unit) => r = 0) (fun _ : Unit => [(m, .inr (13, [.ref nw, .ref bf, .ref sv, .ref hy, .int iS, .int rmb, .int eA, .int fA, .ref tx, .int tyd, .ref li, .int ldd, .int thr, .int (nI ln), .int (nI p), .int (nI q), .int tld, .ref nmb])), (tx, .inl (gI G, 60, .inl τ))]) 0 0 := by
  refine Ct.ofI (cc := cX13_reads) (maxL := 3) (by decide) rfl ⟨by simp [Value.category], Nat.le_of_ble_eq_true rfl⟩ ?_
  intro K hl hC hSF hnm hE
  subst hl
  have q0_ : ∀ w ∈ u_ws RX13 TX13 18, w ∈ wsX13_reads := by decide +kernel
  have q1_ : Cond.fieldLink RX13 194 "FeatherSharesModel" "wrong" "I" ∈ wsX13_reads := by decide +kernel
  show V G K 3 0 0 0 [some (.ref m), some (.int x), some (.int y)] [] [(m, .inr (13, [.ref nw, .ref bf, .ref sv, .ref hy, .int iS, .int rmb, .int eA, .int fA, .ref tx, .int tyd, .ref li, .int ldd, .int thr, .int (nI ln), .int (nI p), .int (nI q), .int tld, .ref nmb])), (tx, .inl (gI G, 60, .inl τ))]
  refine V.aload_n hC (x := m) dX13_reads_0 rfl ?_
  refine V.getf hC (T := TX13) q0_ 15 q1_ rfl (0) rfl rfl (by decide) (.int (nI q)) rfl dX13_reads_1 ?_
  refine V.iconst hC (-1) dX13_reads_4 rfl ?_
  refine V.icmp_ne hC 44 dX13_reads_5 rfl (fun c_5 => ?_) (fun c_5 => ?_)
  · refine V.aload_n hC (x := m) dX13_reads_44 rfl ?_
    refine V.aload_n hC (x := m) dX13_reads_45 rfl ?_
    refine V.getf hC (T := TX13) q0_ 15 q1_ rfl (0) rfl rfl (by decide) (.int (nI q)) rfl dX13_reads_46 ?_
    refine V.iconst hC (-1) dX13_reads_49 rfl ?_
    refine V.icmp_ne hC 60 dX13_reads_50 rfl (fun c_50 => ?_) (fun c_50 => ?_)
    · refine V.aload_n hC (x := m) dX13_reads_60 rfl ?_
      refine V.getf hC (T := TX13) q0_ 15 q1_ rfl (0) rfl rfl (by decide) (.int (nI q)) rfl dX13_reads_61 ?_
      refine V.putf hC (T := TX13) q0_ tyX13 tyX13_ok nmX13 15 q1_ rfl rfl (0) rfl rfl (by decide) (by simp) rfl rfl dX13_reads_64 [(m, .inr (13, [.ref nw, .ref bf, .ref sv, .ref hy, .int iS, .int rmb, .int eA, .int fA, .ref tx, .int tyd, .ref li, .int ldd, .int thr, .int (nI ln), .int (nI p), .int (nI q), .int tld, .ref nmb])), (tx, .inl (gI G, 60, .inl τ))] rfl ?_
      refine V.iconst hC 0 dX13_reads_67 rfl ?_
      exact hE 68 _ 0 () dX13_reads_68 rfl rfl
    · exact absurd c_50 (nI_m1 (by omega))
  · exact absurd c_5 (nI_m1 (by omega))

set_option maxHeartbeats 4000000 in
set_option maxRecDepth 100000 in
theorem m_digitN (l : Launch) (G : Gx) (m nw bf sv hy tx li nmb : Nat) (iS rmb eA fA tyd ldd thr tld : Int32) (ln p : Nat) (hln : ln ≤ 60) (hp : p ≤ ln) (τ : Nat → Int32) (h : ¬ (¬ sgn τ ln p < 48 ∧ ¬ 57 < sgn τ ln p)) : Ct l G SF0 yX13_digit wsX13_digit ({ frames := 2, cells := 0, slots := 0, locals := 44 }) [.ref m] [(m, .inr (13, [.ref nw, .ref bf, .ref sv, .ref hy, .int iS, .int rmb, .int eA, .int fA, .ref tx, .int tyd, .ref li, .int ldd, .int thr, .int (nI ln), .int (nI p), .int (-1), .int tld, .ref nmb])), (tx, .inl (gI G, 60, .inl τ))] mkI (fun (r : Int32) (_ : Unit) => r = 0) (fun _ : Unit => [(m, .inr (13, [.ref nw, .ref bf, .ref sv, .ref hy, .int iS, .int rmb, .int eA, .int fA, .ref tx, .int tyd, .ref li, .int ldd, .int thr, .int (nI ln), .int (nI p), .int (nI p), .int tld, .ref nmb])), (tx, .inl (gI G, 60, .inl τ))]) 0 0 := by
  refine Ct.ofI (cc := cX13_digit) (maxL := 1) (by decide) rfl ⟨by simp [Value.category], Nat.le_of_ble_eq_true rfl⟩ ?_
  intro K hl hC hSF hnm hE
  subst hl
  show V G K 1 0 0 0 [some (.ref m)] [] [(m, .inr (13, [.ref nw, .ref bf, .ref sv, .ref hy, .int iS, .int rmb, .int eA, .int fA, .ref tx, .int tyd, .ref li, .int ldd, .int thr, .int (nI ln), .int (nI p), .int (-1), .int tld, .ref nmb])), (tx, .inl (gI G, 60, .inl τ))]
  refine V.aload_n hC (x := m) dX13_digit_0 rfl ?_
  refine V.bipush hC 48 dX13_digit_1 rfl ?_
  refine V.bipush hC 57 dX13_digit_3 rfl ?_
  refine V.callV (n := 2) (As := [.int 48, .int 57]) (rest := []) hC (m_readsN (kl K) G m nw bf sv hy tx li nmb iS rmb eA fA tyd ldd thr tld ln p hln hp τ 48 57 h) SFk0 SFgo0 gX13_digit_X13_reads rfl ⟨rfl, rfl⟩ (by decide +kernel) ⟨by decide, by decide, by decide, by decide⟩ [0, 1] rfl (by decide) (fun _ => rfl) rfl rfl rfl rfl (Nat.le_of_ble_eq_true rfl) dX13_digit_5 (fun r_5 u_5 hp_5 => ?_)
  subst hp_5
  show V G K 1 0 0 8 [some (.ref m)] [.int (nI 0)] [(m, .inr (13, [.ref nw, .ref bf, .ref sv, .ref hy, .int iS, .int rmb, .int eA, .int fA, .ref tx, .int tyd, .ref li, .int ldd, .int thr, .int (nI ln), .int (nI p), .int (nI p), .int tld, .ref nmb])), (tx, .inl (gI G, 60, .inl τ))]
  exact hE 8 _ (nI 0) () dX13_digit_8 rfl rfl

set_option maxHeartbeats 4000000 in
set_option maxRecDepth 100000 in
theorem m_digitW (l : Launch) (G : Gx) (m nw bf sv hy tx li nmb : Nat) (iS rmb eA fA tyd ldd thr tld : Int32) (ln p : Nat) (hln : ln ≤ 60) (hp : p ≤ ln) (τ : Nat → Int32) (q : Nat) (hq : q ≤ 60) : Ct l G SF0 yX13_digit wsX13_digit ({ frames := 1, cells := 0, slots := 0, locals := 22 }) [.ref m] [(m, .inr (13, [.ref nw, .ref bf, .ref sv, .ref hy, .int iS, .int rmb, .int eA, .int fA, .ref tx, .int tyd, .ref li, .int ldd, .int thr, .int (nI ln), .int (nI p), .int (nI q), .int tld, .ref nmb])), (tx, .inl (gI G, 60, .inl τ))] mkI (fun (r : Int32) (_ : Unit) => r = 0) (fun _ : Unit => [(m, .inr (13, [.ref nw, .ref bf, .ref sv, .ref hy, .int iS, .int rmb, .int eA, .int fA, .ref tx, .int tyd, .ref li, .int ldd, .int thr, .int (nI ln), .int (nI p), .int (nI q), .int tld, .ref nmb])), (tx, .inl (gI G, 60, .inl τ))]) 0 0 := by
  refine Ct.ofI (cc := cX13_digit) (maxL := 1) (by decide) rfl ⟨by simp [Value.category], Nat.le_of_ble_eq_true rfl⟩ ?_
  intro K hl hC hSF hnm hE
  subst hl
  show V G K 1 0 0 0 [some (.ref m)] [] [(m, .inr (13, [.ref nw, .ref bf, .ref sv, .ref hy, .int iS, .int rmb, .int eA, .int fA, .ref tx, .int tyd, .ref li, .int ldd, .int thr, .int (nI ln), .int (nI p), .int (nI q), .int tld, .ref nmb])), (tx, .inl (gI G, 60, .inl τ))]
  refine V.aload_n hC (x := m) dX13_digit_0 rfl ?_
  refine V.bipush hC 48 dX13_digit_1 rfl ?_
  refine V.bipush hC 57 dX13_digit_3 rfl ?_
  refine V.callV (n := 2) (As := [.int 48, .int 57]) (rest := []) hC (m_readsW (kl K) G m nw bf sv hy tx li nmb iS rmb eA fA tyd ldd thr tld ln p hln hp τ q hq 48 57) SFk0 SFgo0 gX13_digit_X13_reads rfl ⟨rfl, rfl⟩ (by decide +kernel) ⟨by decide, by decide, by decide, by decide⟩ [0, 1] rfl (by decide) (fun _ => rfl) rfl rfl rfl rfl (Nat.le_of_ble_eq_true rfl) dX13_digit_5 (fun r_5 u_5 hp_5 => ?_)
  subst hp_5
  show V G K 1 0 0 8 [some (.ref m)] [.int (nI 0)] [(m, .inr (13, [.ref nw, .ref bf, .ref sv, .ref hy, .int iS, .int rmb, .int eA, .int fA, .ref tx, .int tyd, .ref li, .int ldd, .int thr, .int (nI ln), .int (nI p), .int (nI q), .int tld, .ref nmb])), (tx, .inl (gI G, 60, .inl τ))]
  exact hE 8 _ (nI 0) () dX13_digit_8 rfl rfl

set_option maxHeartbeats 4000000 in
set_option maxRecDepth 100000 in
theorem m_digitY (l : Launch) (G : Gx) (m nw bf sv hy tx li nmb : Nat) (iS rmb eA fA tyd ldd thr tld : Int32) (ln p : Nat) (hln : ln ≤ 60) (hp : p ≤ ln) (τ : Nat → Int32) (hd : ¬ dct τ ln p 1 = 0) : Ct l G SF0 yX13_digit wsX13_digit ({ frames := 2, cells := 0, slots := 0, locals := 44 }) [.ref m] [(m, .inr (13, [.ref nw, .ref bf, .ref sv, .ref hy, .int iS, .int rmb, .int eA, .int fA, .ref tx, .int tyd, .ref li, .int ldd, .int thr, .int (nI ln), .int (nI p), .int (-1), .int tld, .ref nmb])), (tx, .inl (gI G, 60, .inl τ))] mkI (fun (r : Int32) (u : Nat) => r = nmv τ ln p 1 ∧ u = p + dct τ ln p 1 ∧ u ≤ ln) (fun u : Nat => [(m, .inr (13, [.ref nw, .ref bf, .ref sv, .ref hy, .int iS, .int rmb, .int eA, .int fA, .ref tx, .int tyd, .ref li, .int ldd, .int thr, .int (nI ln), .int (nI u), .int (-1), .int tld, .ref nmb])), (tx, .inl (gI G, 60, .inl τ))]) 0 0 := by
  refine Ct.ofI (cc := cX13_digit) (maxL := 1) (by decide) rfl ⟨by simp [Value.category], Nat.le_of_ble_eq_true rfl⟩ ?_
  intro K hl hC hSF hnm hE
  subst hl
  show V G K 1 0 0 0 [some (.ref m)] [] [(m, .inr (13, [.ref nw, .ref bf, .ref sv, .ref hy, .int iS, .int rmb, .int eA, .int fA, .ref tx, .int tyd, .ref li, .int ldd, .int thr, .int (nI ln), .int (nI p), .int (-1), .int tld, .ref nmb])), (tx, .inl (gI G, 60, .inl τ))]
  refine V.aload_n hC (x := m) dX13_digit_0 rfl ?_
  refine V.bipush hC 48 dX13_digit_1 rfl ?_
  refine V.bipush hC 57 dX13_digit_3 rfl ?_
  refine V.callV (n := 2) (As := [.int 48, .int 57]) (rest := []) hC (m_readsY (kl K) G m nw bf sv hy tx li nmb iS rmb eA fA tyd ldd thr tld ln p hln hp τ 48 57 (dct1 hd).1 (sgn_D (dct1 hd).1)) SFk0 SFgo0 gX13_digit_X13_reads rfl ⟨rfl, rfl⟩ (by decide +kernel) ⟨by decide, by decide, by decide, by decide⟩ [0, 1] rfl (by decide) (fun _ => rfl) rfl rfl rfl rfl (Nat.le_of_ble_eq_true rfl) dX13_digit_5 (fun r_5 u_5 hp_5 => ?_)
  subst hp_5
  show V G K 1 0 0 8 [some (.ref m)] [.int (sgn τ ln p - 48)] [(m, .inr (13, [.ref nw, .ref bf, .ref sv, .ref hy, .int iS, .int rmb, .int eA, .int fA, .ref tx, .int tyd, .ref li, .int ldd, .int thr, .int (nI ln), .int (nI (p + 1)), .int (-1), .int tld, .ref nmb])), (tx, .inl (gI G, 60, .inl τ))]
  exact hE 8 _ (sgn τ ln p - 48) (p + 1) dX13_digit_8 rfl ⟨(nmv1 τ ln p).symm, (by rw [(dct1 hd).2]), sgn_D (dct1 hd).1⟩

set_option maxHeartbeats 4000000 in
set_option maxRecDepth 100000 in
theorem m_blankN (l : Launch) (G : Gx) (m nw bf sv hy tx li nmb : Nat) (iS rmb eA fA tyd ldd thr tld : Int32) (ln p : Nat) (hln : ln ≤ 60) (hp : p ≤ ln) (τ : Nat → Int32) (h : ¬ (¬ sgn τ ln p < 32 ∧ ¬ 32 < sgn τ ln p)) : Ct l G SF0 yX13_blank wsX13_blank ({ frames := 2, cells := 0, slots := 0, locals := 44 }) [.ref m] [(m, .inr (13, [.ref nw, .ref bf, .ref sv, .ref hy, .int iS, .int rmb, .int eA, .int fA, .ref tx, .int tyd, .ref li, .int ldd, .int thr, .int (nI ln), .int (nI p), .int (-1), .int tld, .ref nmb])), (tx, .inl (gI G, 60, .inl τ))] mkV (fun (_ : Unit) (_ : Unit) => True) (fun _ : Unit => [(m, .inr (13, [.ref nw, .ref bf, .ref sv, .ref hy, .int iS, .int rmb, .int eA, .int fA, .ref tx, .int tyd, .ref li, .int ldd, .int thr, .int (nI ln), .int (nI p), .int (nI p), .int tld, .ref nmb])), (tx, .inl (gI G, 60, .inl τ))]) 0 0 := by
  refine Ct.ofV (cc := cX13_blank) (maxL := 2) (by decide) rfl ⟨by simp [Value.category], Nat.le_of_ble_eq_true rfl⟩ ?_
  intro K hl hC hSF hnm hE
  subst hl
  show V G K 2 0 0 0 [some (.ref m), none] [] [(m, .inr (13, [.ref nw, .ref bf, .ref sv, .ref hy, .int iS, .int rmb, .int eA, .int fA, .ref tx, .int tyd, .ref li, .int ldd, .int thr, .int (nI ln), .int (nI p), .int (-1), .int tld, .ref nmb])), (tx, .inl (gI G, 60, .inl τ))]
  refine V.aload_n hC (x := m) dX13_blank_0 rfl ?_
  refine V.bipush hC 32 dX13_blank_1 rfl ?_
  refine V.bipush hC 32 dX13_blank_3 rfl ?_
  refine V.callV (n := 2) (As := [.int 32, .int 32]) (rest := []) hC (m_readsN (kl K) G m nw bf sv hy tx li nmb iS rmb eA fA tyd ldd thr tld ln p hln hp τ 32 32 h) SFk0 SFgo0 gX13_blank_X13_reads rfl ⟨rfl, rfl⟩ (by decide +kernel) ⟨by decide, by decide, by decide, by decide⟩ [0, 1] rfl (by decide) (fun _ => rfl) rfl rfl rfl rfl (Nat.le_of_ble_eq_true rfl) dX13_blank_5 (fun r_5 u_5 hp_5 => ?_)
  subst hp_5
  show V G K 2 0 0 8 [some (.ref m), none] [.int (nI 0)] [(m, .inr (13, [.ref nw, .ref bf, .ref sv, .ref hy, .int iS, .int rmb, .int eA, .int fA, .ref tx, .int tyd, .ref li, .int ldd, .int thr, .int (nI ln), .int (nI p), .int (nI p), .int tld, .ref nmb])), (tx, .inl (gI G, 60, .inl τ))]
  refine V.istore_n hC dX13_blank_8 [some (.ref m), some (.int (nI 0))] (Nat.le_of_ble_eq_true rfl) rfl ?_
  exact hE 9 _ () dX13_blank_9 trivial

set_option maxHeartbeats 4000000 in
set_option maxRecDepth 100000 in
theorem m_blankW (l : Launch) (G : Gx) (m nw bf sv hy tx li nmb : Nat) (iS rmb eA fA tyd ldd thr tld : Int32) (ln p : Nat) (hln : ln ≤ 60) (hp : p ≤ ln) (τ : Nat → Int32) (q : Nat) (hq : q ≤ 60) : Ct l G SF0 yX13_blank wsX13_blank ({ frames := 1, cells := 0, slots := 0, locals := 22 }) [.ref m] [(m, .inr (13, [.ref nw, .ref bf, .ref sv, .ref hy, .int iS, .int rmb, .int eA, .int fA, .ref tx, .int tyd, .ref li, .int ldd, .int thr, .int (nI ln), .int (nI p), .int (nI q), .int tld, .ref nmb])), (tx, .inl (gI G, 60, .inl τ))] mkV (fun (_ : Unit) (_ : Unit) => True) (fun _ : Unit => [(m, .inr (13, [.ref nw, .ref bf, .ref sv, .ref hy, .int iS, .int rmb, .int eA, .int fA, .ref tx, .int tyd, .ref li, .int ldd, .int thr, .int (nI ln), .int (nI p), .int (nI q), .int tld, .ref nmb])), (tx, .inl (gI G, 60, .inl τ))]) 0 0 := by
  refine Ct.ofV (cc := cX13_blank) (maxL := 2) (by decide) rfl ⟨by simp [Value.category], Nat.le_of_ble_eq_true rfl⟩ ?_
  intro K hl hC hSF hnm hE
  subst hl
  show V G K 2 0 0 0 [some (.ref m), none] [] [(m, .inr (13, [.ref nw, .ref bf, .ref sv, .ref hy, .int iS, .int rmb, .int eA, .int fA, .ref tx, .int tyd, .ref li, .int ldd, .int thr, .int (nI ln), .int (nI p), .int (nI q), .int tld, .ref nmb])), (tx, .inl (gI G, 60, .inl τ))]
  refine V.aload_n hC (x := m) dX13_blank_0 rfl ?_
  refine V.bipush hC 32 dX13_blank_1 rfl ?_
  refine V.bipush hC 32 dX13_blank_3 rfl ?_
  refine V.callV (n := 2) (As := [.int 32, .int 32]) (rest := []) hC (m_readsW (kl K) G m nw bf sv hy tx li nmb iS rmb eA fA tyd ldd thr tld ln p hln hp τ q hq 32 32) SFk0 SFgo0 gX13_blank_X13_reads rfl ⟨rfl, rfl⟩ (by decide +kernel) ⟨by decide, by decide, by decide, by decide⟩ [0, 1] rfl (by decide) (fun _ => rfl) rfl rfl rfl rfl (Nat.le_of_ble_eq_true rfl) dX13_blank_5 (fun r_5 u_5 hp_5 => ?_)
  subst hp_5
  show V G K 2 0 0 8 [some (.ref m), none] [.int (nI 0)] [(m, .inr (13, [.ref nw, .ref bf, .ref sv, .ref hy, .int iS, .int rmb, .int eA, .int fA, .ref tx, .int tyd, .ref li, .int ldd, .int thr, .int (nI ln), .int (nI p), .int (nI q), .int tld, .ref nmb])), (tx, .inl (gI G, 60, .inl τ))]
  refine V.istore_n hC dX13_blank_8 [some (.ref m), some (.int (nI 0))] (Nat.le_of_ble_eq_true rfl) rfl ?_
  exact hE 9 _ () dX13_blank_9 trivial

set_option maxHeartbeats 4000000 in
set_option maxRecDepth 100000 in
theorem m_blankY (l : Launch) (G : Gx) (m nw bf sv hy tx li nmb : Nat) (iS rmb eA fA tyd ldd thr tld : Int32) (ln p : Nat) (hln : ln ≤ 60) (hp : p ≤ ln) (τ : Nat → Int32) (h : ¬ sgn τ ln p < 32 ∧ ¬ 32 < sgn τ ln p) (h1 : p < ln) : Ct l G SF0 yX13_blank wsX13_blank ({ frames := 2, cells := 0, slots := 0, locals := 44 }) [.ref m] [(m, .inr (13, [.ref nw, .ref bf, .ref sv, .ref hy, .int iS, .int rmb, .int eA, .int fA, .ref tx, .int tyd, .ref li, .int ldd, .int thr, .int (nI ln), .int (nI p), .int (-1), .int tld, .ref nmb])), (tx, .inl (gI G, 60, .inl τ))] mkV (fun (_ : Unit) (_ : Unit) => True) (fun _ : Unit => [(m, .inr (13, [.ref nw, .ref bf, .ref sv, .ref hy, .int iS, .int rmb, .int eA, .int fA, .ref tx, .int tyd, .ref li, .int ldd, .int thr, .int (nI ln), .int (nI (p + 1)), .int (-1), .int tld, .ref nmb])), (tx, .inl (gI G, 60, .inl τ))]) 0 0 := by
  refine Ct.ofV (cc := cX13_blank) (maxL := 2) (by decide) rfl ⟨by simp [Value.category], Nat.le_of_ble_eq_true rfl⟩ ?_
  intro K hl hC hSF hnm hE
  subst hl
  show V G K 2 0 0 0 [some (.ref m), none] [] [(m, .inr (13, [.ref nw, .ref bf, .ref sv, .ref hy, .int iS, .int rmb, .int eA, .int fA, .ref tx, .int tyd, .ref li, .int ldd, .int thr, .int (nI ln), .int (nI p), .int (-1), .int tld, .ref nmb])), (tx, .inl (gI G, 60, .inl τ))]
  refine V.aload_n hC (x := m) dX13_blank_0 rfl ?_
  refine V.bipush hC 32 dX13_blank_1 rfl ?_
  refine V.bipush hC 32 dX13_blank_3 rfl ?_
  refine V.callV (n := 2) (As := [.int 32, .int 32]) (rest := []) hC (m_readsY (kl K) G m nw bf sv hy tx li nmb iS rmb eA fA tyd ldd thr tld ln p hln hp τ 32 32 h h1) SFk0 SFgo0 gX13_blank_X13_reads rfl ⟨rfl, rfl⟩ (by decide +kernel) ⟨by decide, by decide, by decide, by decide⟩ [0, 1] rfl (by decide) (fun _ => rfl) rfl rfl rfl rfl (Nat.le_of_ble_eq_true rfl) dX13_blank_5 (fun r_5 u_5 hp_5 => ?_)
  subst hp_5
  show V G K 2 0 0 8 [some (.ref m), none] [.int (sgn τ ln p - 32)] [(m, .inr (13, [.ref nw, .ref bf, .ref sv, .ref hy, .int iS, .int rmb, .int eA, .int fA, .ref tx, .int tyd, .ref li, .int ldd, .int thr, .int (nI ln), .int (nI (p + 1)), .int (-1), .int tld, .ref nmb])), (tx, .inl (gI G, 60, .inl τ))]
  refine V.istore_n hC dX13_blank_8 [some (.ref m), some (.int (sgn τ ln p - 32))] (Nat.le_of_ble_eq_true rfl) rfl ?_
  exact hE 9 _ () dX13_blank_9 trivial

set_option maxHeartbeats 4000000 in
set_option maxRecDepth 100000 in
theorem m_numberN (l : Launch) (G : Gx) (m nw bf sv hy tx li nmb : Nat) (iS rmb eA fA tyd ldd thr tld : Int32) (ln p : Nat) (hln : ln ≤ 60) (hp : p ≤ ln) (τ : Nat → Int32) (hd : dct τ ln p 2 = 0) : Ct l G SF0 yX13_number wsX13_number ({ frames := 3, cells := 0, slots := 0, locals := 64 }) [.ref m] [(m, .inr (13, [.ref nw, .ref bf, .ref sv, .ref hy, .int iS, .int rmb, .int eA, .int fA, .ref tx, .int tyd, .ref li, .int ldd, .int thr, .int (nI ln), .int (nI p), .int (-1), .int tld, .ref nmb])), (tx, .inl (gI G, 60, .inl τ))] mkI (fun (r : Int32) (_ : Unit) => r = 0) (fun _ : Unit => [(m, .inr (13, [.ref nw, .ref bf, .ref sv, .ref hy, .int iS, .int rmb, .int eA, .int fA, .ref tx, .int tyd, .ref li, .int ldd, .int thr, .int (nI ln), .int (nI p), .int (nI p), .int tld, .ref nmb])), (tx, .inl (gI G, 60, .inl τ))]) 0 0 := by
  refine Ct.ofI (cc := cX13_number) (maxL := 2) (by decide) rfl ⟨by simp [Value.category], Nat.le_of_ble_eq_true rfl⟩ ?_
  intro K hl hC hSF hnm hE
  subst hl
  have q0_ : ∀ w ∈ u_ws RX13 TX13 18, w ∈ wsX13_number := by decide +kernel
  have q1_ : Cond.fieldLink RX13 194 "FeatherSharesModel" "wrong" "I" ∈ wsX13_number := by decide +kernel
  show V G K 2 0 0 0 [some (.ref m), none] [] [(m, .inr (13, [.ref nw, .ref bf, .ref sv, .ref hy, .int iS, .int rmb, .int eA, .int fA, .ref tx, .int tyd, .ref li, .int ldd, .int thr, .int (nI ln), .int (nI p), .int (-1), .int tld, .ref nmb])), (tx, .inl (gI G, 60, .inl τ))]
  refine V.aload_n hC (x := m) dX13_number_0 rfl ?_
  refine V.callV (n := 0) (As := []) (rest := []) hC (m_digitN (kl K) G m nw bf sv hy tx li nmb iS rmb eA fA tyd ldd thr tld ln p hln hp τ (dct1n (dct2_0.mp hd))) SFk0 SFgo0 gX13_number_X13_digit rfl ⟨rfl, rfl⟩ (by decide +kernel) ⟨by decide, by decide, by decide, by decide⟩ [0, 1] rfl (by decide) (fun _ => rfl) rfl rfl rfl rfl (Nat.le_of_ble_eq_true rfl) dX13_number_1 (fun r_1 u_1 hp_1 => ?_)
  subst hp_1
  show V G K 2 0 0 4 [some (.ref m), none] [.int (nI 0)] [(m, .inr (13, [.ref nw, .ref bf, .ref sv, .ref hy, .int iS, .int rmb, .int eA, .int fA, .ref tx, .int tyd, .ref li, .int ldd, .int thr, .int (nI ln), .int (nI p), .int (nI p), .int tld, .ref nmb])), (tx, .inl (gI G, 60, .inl τ))]
  refine V.istore_n hC dX13_number_4 [some (.ref m), some (.int (nI 0))] (Nat.le_of_ble_eq_true rfl) rfl ?_
  refine V.aload_n hC (x := m) dX13_number_5 rfl ?_
  refine V.getf hC (T := TX13) q0_ 15 q1_ rfl (0) rfl rfl (by decide) (.int (nI p)) rfl dX13_number_6 ?_
  refine V.iconst hC (-1) dX13_number_9 rfl ?_
  refine V.icmp_ne hC 39 dX13_number_10 rfl (fun c_10 => ?_) (fun c_10 => ?_)
  · refine V.iload_n hC (x := nI 0) dX13_number_39 rfl ?_
    exact hE 40 _ (nI 0) () dX13_number_40 rfl rfl
  · exact absurd c_10 (nI_m1 (by omega))

set_option maxHeartbeats 4000000 in
set_option maxRecDepth 100000 in
theorem m_numberW (l : Launch) (G : Gx) (m nw bf sv hy tx li nmb : Nat) (iS rmb eA fA tyd ldd thr tld : Int32) (ln p : Nat) (hln : ln ≤ 60) (hp : p ≤ ln) (τ : Nat → Int32) (q : Nat) (hq : q ≤ 60) : Ct l G SF0 yX13_number wsX13_number ({ frames := 2, cells := 0, slots := 0, locals := 42 }) [.ref m] [(m, .inr (13, [.ref nw, .ref bf, .ref sv, .ref hy, .int iS, .int rmb, .int eA, .int fA, .ref tx, .int tyd, .ref li, .int ldd, .int thr, .int (nI ln), .int (nI p), .int (nI q), .int tld, .ref nmb])), (tx, .inl (gI G, 60, .inl τ))] mkI (fun (r : Int32) (_ : Unit) => r = 0) (fun _ : Unit => [(m, .inr (13, [.ref nw, .ref bf, .ref sv, .ref hy, .int iS, .int rmb, .int eA, .int fA, .ref tx, .int tyd, .ref li, .int ldd, .int thr, .int (nI ln), .int (nI p), .int (nI q), .int tld, .ref nmb])), (tx, .inl (gI G, 60, .inl τ))]) 0 0 := by
  refine Ct.ofI (cc := cX13_number) (maxL := 2) (by decide) rfl ⟨by simp [Value.category], Nat.le_of_ble_eq_true rfl⟩ ?_
  intro K hl hC hSF hnm hE
  subst hl
  have q0_ : ∀ w ∈ u_ws RX13 TX13 18, w ∈ wsX13_number := by decide +kernel
  have q1_ : Cond.fieldLink RX13 194 "FeatherSharesModel" "wrong" "I" ∈ wsX13_number := by decide +kernel
  show V G K 2 0 0 0 [some (.ref m), none] [] [(m, .inr (13, [.ref nw, .ref bf, .ref sv, .ref hy, .int iS, .int rmb, .int eA, .int fA, .ref tx, .int tyd, .ref li, .int ldd, .int thr, .int (nI ln), .int (nI p), .int (nI q), .int tld, .ref nmb])), (tx, .inl (gI G, 60, .inl τ))]
  refine V.aload_n hC (x := m) dX13_number_0 rfl ?_
  refine V.callV (n := 0) (As := []) (rest := []) hC (m_digitW (kl K) G m nw bf sv hy tx li nmb iS rmb eA fA tyd ldd thr tld ln p hln hp τ q hq) SFk0 SFgo0 gX13_number_X13_digit rfl ⟨rfl, rfl⟩ (by decide +kernel) ⟨by decide, by decide, by decide, by decide⟩ [0, 1] rfl (by decide) (fun _ => rfl) rfl rfl rfl rfl (Nat.le_of_ble_eq_true rfl) dX13_number_1 (fun r_1 u_1 hp_1 => ?_)
  subst hp_1
  show V G K 2 0 0 4 [some (.ref m), none] [.int (nI 0)] [(m, .inr (13, [.ref nw, .ref bf, .ref sv, .ref hy, .int iS, .int rmb, .int eA, .int fA, .ref tx, .int tyd, .ref li, .int ldd, .int thr, .int (nI ln), .int (nI p), .int (nI q), .int tld, .ref nmb])), (tx, .inl (gI G, 60, .inl τ))]
  refine V.istore_n hC dX13_number_4 [some (.ref m), some (.int (nI 0))] (Nat.le_of_ble_eq_true rfl) rfl ?_
  refine V.aload_n hC (x := m) dX13_number_5 rfl ?_
  refine V.getf hC (T := TX13) q0_ 15 q1_ rfl (0) rfl rfl (by decide) (.int (nI q)) rfl dX13_number_6 ?_
  refine V.iconst hC (-1) dX13_number_9 rfl ?_
  refine V.icmp_ne hC 39 dX13_number_10 rfl (fun c_10 => ?_) (fun c_10 => ?_)
  · refine V.iload_n hC (x := nI 0) dX13_number_39 rfl ?_
    exact hE 40 _ (nI 0) () dX13_number_40 rfl rfl
  · exact absurd c_10 (nI_m1 (by omega))

set_option maxHeartbeats 4000000 in
set_option maxRecDepth 100000 in
theorem m_numberY (l : Launch) (G : Gx) (m nw bf sv hy tx li nmb : Nat) (iS rmb eA fA tyd ldd thr tld : Int32) (ln p : Nat) (hln : ln ≤ 60) (hp : p ≤ ln) (τ : Nat → Int32) (hd : ¬ dct τ ln p 2 = 0) : Ct l G SF0 yX13_number wsX13_number ({ frames := 3, cells := 0, slots := 0, locals := 64 }) [.ref m] [(m, .inr (13, [.ref nw, .ref bf, .ref sv, .ref hy, .int iS, .int rmb, .int eA, .int fA, .ref tx, .int tyd, .ref li, .int ldd, .int thr, .int (nI ln), .int (nI p), .int (-1), .int tld, .ref nmb])), (tx, .inl (gI G, 60, .inl τ))] mkI (fun (r : Int32) (u : Nat) => r = nmv τ ln p (dct τ ln p 2) ∧ u = p + dct τ ln p 2 ∧ u ≤ ln) (fun u : Nat => [(m, .inr (13, [.ref nw, .ref bf, .ref sv, .ref hy, .int iS, .int rmb, .int eA, .int fA, .ref tx, .int tyd, .ref li, .int ldd, .int thr, .int (nI ln), .int (nI u), .int (-1), .int tld, .ref nmb])), (tx, .inl (gI G, 60, .inl τ))]) 0 0 := by
  have hd1 : ¬ dct τ ln p 1 = 0 := fun z => hd (dct2_0.mpr z)
  refine Ct.ofI (cc := cX13_number) (maxL := 2) (by decide) rfl ⟨by simp [Value.category], Nat.le_of_ble_eq_true rfl⟩ ?_
  intro K hl hC hSF hnm hE
  subst hl
  have q0_ : ∀ w ∈ u_ws RX13 TX13 18, w ∈ wsX13_number := by decide +kernel
  have q1_ : Cond.fieldLink RX13 194 "FeatherSharesModel" "wrong" "I" ∈ wsX13_number := by decide +kernel
  show V G K 2 0 0 0 [some (.ref m), none] [] [(m, .inr (13, [.ref nw, .ref bf, .ref sv, .ref hy, .int iS, .int rmb, .int eA, .int fA, .ref tx, .int tyd, .ref li, .int ldd, .int thr, .int (nI ln), .int (nI p), .int (-1), .int tld, .ref nmb])), (tx, .inl (gI G, 60, .inl τ))]
  refine V.aload_n hC (x := m) dX13_number_0 rfl ?_
  refine V.callV (n := 0) (As := []) (rest := []) hC (m_digitY (kl K) G m nw bf sv hy tx li nmb iS rmb eA fA tyd ldd thr tld ln p hln hp τ hd1) SFk0 SFgo0 gX13_number_X13_digit rfl ⟨rfl, rfl⟩ (by decide +kernel) ⟨by decide, by decide, by decide, by decide⟩ [0, 1] rfl (by decide) (fun _ => rfl) rfl rfl rfl rfl (Nat.le_of_ble_eq_true rfl) dX13_number_1 (fun r_1 u_1 hp_1 => ?_)
  obtain ⟨hr_1, hu_1, hl_1⟩ := hp_1
  have hu1 : u_1 = p + 1 := by rw [hu_1, (dct1 hd1).2]
  subst hu1
  show V G K 2 0 0 4 [some (.ref m), none] [.int r_1] [(m, .inr (13, [.ref nw, .ref bf, .ref sv, .ref hy, .int iS, .int rmb, .int eA, .int fA, .ref tx, .int tyd, .ref li, .int ldd, .int thr, .int (nI ln), .int (nI (p + 1)), .int (-1), .int tld, .ref nmb])), (tx, .inl (gI G, 60, .inl τ))]
  refine V.istore_n hC dX13_number_4 [some (.ref m), some (.int r_1)] (Nat.le_of_ble_eq_true rfl) rfl ?_
  refine V.aload_n hC (x := m) dX13_number_5 rfl ?_
  refine V.getf hC (T := TX13) q0_ 15 q1_ rfl (0) rfl rfl (by decide) (.int (-1)) rfl dX13_number_6 ?_
  refine V.iconst hC (-1) dX13_number_9 rfl ?_
  refine V.icmp_ne hC 39 dX13_number_10 rfl (fun c_10 => ?_) (fun c_10 => ?_)
  · exact absurd rfl c_10
  · refine V.aload_n hC (x := m) dX13_number_13 rfl ?_
    refine V.callVr (n := 0) (As := []) (rest := []) hC (m_letterHere (kl K) G m nw bf sv hy tx li nmb iS rmb eA fA tyd ldd thr (-1) tld ln (p + 1) hln (by omega) τ) SFk0 SFgo0 gX13_number_X13_letterHere rfl ⟨rfl, rfl⟩ (by decide +kernel) ⟨by decide, by decide, by decide, by decide⟩ [0, 1] rfl (by decide) rfl rfl rfl rfl (Nat.le_of_ble_eq_true rfl) dX13_number_14 (fun r_14 u_14 hp_14 => ?_)
    subst hp_14
    show V G K 2 0 0 17 [some (.ref m), some (.int r_1)] [.int (sgn τ ln (p + 1))] [(m, .inr (13, [.ref nw, .ref bf, .ref sv, .ref hy, .int iS, .int rmb, .int eA, .int fA, .ref tx, .int tyd, .ref li, .int ldd, .int thr, .int (nI ln), .int (nI (p + 1)), .int (-1), .int tld, .ref nmb])), (tx, .inl (gI G, 60, .inl τ))]
    refine V.bipush hC 48 dX13_number_17 rfl ?_
    refine V.bipush hC 57 dX13_number_19 rfl ?_
    refine V.callSr (n := 3) (As := [.int (sgn τ ln (p + 1)), .int 48, .int 57]) (rest := []) hC (m_isIn (kl K) G (sgn τ ln (p + 1)) 48 57) SFk0 SFgo0 gX13_number_X13_isIn rfl ⟨rfl, rfl⟩ (by decide +kernel) ⟨by decide, by decide, by decide, by decide⟩ [] rfl (by decide) rfl rfl (Nat.le_of_ble_eq_true rfl) dX13_number_21 (fun r_21 u_21 hp_21 => ?_)
    subst hp_21
    show V G K 2 0 0 24 [some (.ref m), some (.int r_1)] [.int (if ¬ sgn τ ln (p + 1) < 48 ∧ ¬ 57 < sgn τ ln (p + 1) then 1 else 0)] [(m, .inr (13, [.ref nw, .ref bf, .ref sv, .ref hy, .int iS, .int rmb, .int eA, .int fA, .ref tx, .int tyd, .ref li, .int ldd, .int thr, .int (nI ln), .int (nI (p + 1)), .int (-1), .int tld, .ref nmb])), (tx, .inl (gI G, 60, .inl τ))]
    refine V.if_eq hC 39 dX13_number_24 rfl (fun c_24 => ?_) (fun c_24 => ?_)
    · refine V.iload_n hC (x := r_1) dX13_number_39 rfl ?_
      exact hE 40 _ r_1 (p + 1) dX13_number_40 rfl ⟨(by rw [dct2n (dct1 hd1).1 (if10 c_24), hr_1]), (by rw [dct2n (dct1 hd1).1 (if10 c_24)]), hl_1⟩
    · have hd2 : ¬ dct τ ln (p + 1) 1 = 0 := fun z => dct1n z (if10n c_24)
      refine V.bipush hC 10 dX13_number_27 rfl ?_
      refine V.iload_n hC (x := r_1) dX13_number_29 rfl ?_
      refine V.imul hC dX13_number_30 ?_
      refine V.aload_n hC (x := m) dX13_number_31 rfl ?_
      refine V.callV (n := 0) (As := []) (rest := [.int (10 * r_1)]) hC (m_digitY (kl K) G m nw bf sv hy tx li nmb iS rmb eA fA tyd ldd thr tld ln (p + 1) hln hl_1 τ hd2) SFk0 SFgo0 gX13_number_X13_digit rfl ⟨rfl, rfl⟩ (by decide +kernel) ⟨by decide, by decide, by decide, by decide⟩ [0, 1] rfl (by decide) (fun _ => rfl) rfl rfl rfl rfl (Nat.le_of_ble_eq_true rfl) dX13_number_32 (fun r_32 u_32 hp_32 => ?_)
      obtain ⟨hr_32, hu_32, hl_32⟩ := hp_32
      have hu2 : u_32 = p + 2 := by rw [hu_32, (dct1 hd2).2]
      subst hu2
      show V G K 2 0 0 35 [some (.ref m), some (.int r_1)] [.int r_32, .int (10 * r_1)] [(m, .inr (13, [.ref nw, .ref bf, .ref sv, .ref hy, .int iS, .int rmb, .int eA, .int fA, .ref tx, .int tyd, .ref li, .int ldd, .int thr, .int (nI ln), .int (nI (p + 2)), .int (-1), .int tld, .ref nmb])), (tx, .inl (gI G, 60, .inl τ))]
      refine V.iadd hC dX13_number_35 ?_
      refine V.goto hC 40 dX13_number_36 rfl ?_
      exact hE 40 _ ((10 * r_1) + r_32) (p + 2) dX13_number_40 rfl ⟨(by rw [dct2y (dct1 hd1).1 (if10n c_24), nmv2, hr_1, hr_32, nmv1, nmv1]), (by rw [dct2y (dct1 hd1).1 (if10n c_24)]), hl_32⟩
