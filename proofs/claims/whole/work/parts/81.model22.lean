/-! the document's model: what is written (printed by gen/s81.py) -/
/-- 0, 1, 10, 100, 1000 -/
def q10 (i : Nat) : Nat := if i = 0 then 0 else if i = 1 then 1 else if i = 2 then 10 else if i = 3 then 100 else 1000
theorem q10_p {i : Nat} (h : 1 ≤ i) : 0 < q10 i := by
  unfold q10
  repeat' split
  all_goals omega
theorem q10_l (i : Nat) : q10 i ≤ 1000 := by
  unfold q10
  repeat' split
  all_goals omega
theorem q10_m : ∀ i, i < 4 → 1 ≤ i → q10 i * 10 = q10 (i + 1) := by decide
theorem q10_d : ∀ i, i < 5 → 1 ≤ i → q10 i / 10 = q10 (i - 1) := by decide
theorem q10_0 {i : Nat} (h : q10 i = 0) : i = 0 := by
  rcases Nat.eq_zero_or_pos i with e | e
  · exact e
  · have := q10_p e
    omega
theorem dgc_next {x k : Nat} (hx : x < 10000) (hk : k + 1 ≤ dgc x) (h : 9 < x / q10 (k + 1)) : k + 2 ≤ dgc x := by
  have h4 := (dgc_le x).2
  obtain rfl | rfl | rfl | rfl : k = 0 ∨ k = 1 ∨ k = 2 ∨ k = 3 := by omega
  · have h' : 9 < x / 1 := h
    have := dgc_g2 (x := x) (by omega)
    omega
  · have h' : 9 < x / 10 := h
    have := dgc_g3 (x := x) (by omega)
    omega
  · have h' : 9 < x / 100 := h
    have := dgc_g4 (x := x) (by omega)
    omega
  · have h' : 9 < x / 1000 := h
    omega
theorem dgc_here {x k : Nat} (hk : k + 1 ≤ dgc x) (h : x / q10 (k + 1) ≤ 9) : dgc x = k + 1 := by
  have h4 := (dgc_le x).2
  obtain rfl | rfl | rfl | rfl : k = 0 ∨ k = 1 ∨ k = 2 ∨ k = 3 := by omega
  · have h' : x / 1 ≤ 9 := h
    exact dgc_1 (by omega)
  · have h' : x / 10 ≤ 9 := h
    have : ¬ x < 10 := fun z => by rw [dgc_1 z] at hk; omega
    exact dgc_2 (by omega) (by omega)
  · have h' : x / 100 ≤ 9 := h
    have : ¬ x < 10 := fun z => by rw [dgc_1 z] at hk; omega
    have : ¬ x < 100 := fun z => by rw [dgc_2 (by omega) z] at hk; omega
    exact dgc_3 (by omega) (by omega)
  · omega
theorem dgt_q {x j : Nat} (hj : j < dgc x) : 48 + x / q10 (dgc x - j) % 10 = dgt x j := by
  have h4 := (dgc_le x).2
  unfold dgt
  by_cases h1 : j + 1 = dgc x
  · rw [if_pos h1, show dgc x - j = 1 by omega, show q10 1 = 1 by decide, Nat.div_one]
  · rw [if_neg h1]
    by_cases h2 : j + 2 = dgc x
    · rw [if_pos h2, show dgc x - j = 2 by omega, show q10 2 = 10 by decide]
    · rw [if_neg h2]
      by_cases h3 : j + 3 = dgc x
      · rw [if_pos h3, show dgc x - j = 3 by omega, show q10 3 = 100 by decide]
      · rw [if_neg h3, show dgc x - j = 4 by omega, show q10 4 = 1000 by decide]
/-- the model's line says a text -/
def isM (f : Nat → Int32) (n : Nat) (L : List Nat) : Prop := n = L.length ∧ ∀ j, j < n → f j = nI (L.getD j 0)
theorem isM.nil (f : Nat → Int32) : isM f 0 [] := ⟨rfl, fun j h => absurd h (Nat.not_lt_zero _)⟩
theorem isM.c {f g : Nat → Int32} {n : Nat} {L : List Nat} (h : isM f n L) (c : Nat) (h1 : ∀ j, j < n → g j = f j) (h2 : g n = nI c) : isM g (n + 1) (L ++ [c]) := by
  obtain ⟨e, h3⟩ := h
  refine ⟨by simp [e], fun j hj => ?_⟩
  by_cases q : j < n
  · rw [h1 j q, h3 j q, List.getD_eq_getElem?_getD, List.getD_eq_getElem?_getD, List.getElem?_append_left (by omega)]
  · have : j = n := by omega
    subst this
    rw [h2, List.getD_eq_getElem?_getD, List.getElem?_append_right (by omega), e, Nat.sub_self]
    rfl
theorem isM.i {f g : Nat → Int32} {n x : Nat} {L : List Nat} (h : isM f n L) (h1 : ∀ j, j < n → g j = f j) (h2 : ∀ j, j < dgc x → g (n + j) = nI (dgt x j)) : isM g (n + dgc x) (L ++ dig x) := by
  obtain ⟨e, h3⟩ := h
  refine ⟨by rw [List.length_append, dig_len, e], fun j hj => ?_⟩
  by_cases q : j < n
  · rw [h1 j q, h3 j q, List.getD_eq_getElem?_getD, List.getD_eq_getElem?_getD, List.getElem?_append_left (by omega)]
  · obtain ⟨k, rfl⟩ : ∃ k, j = n + k := ⟨j - n, by omega⟩
    have hk : k < dgc x := by omega
    rw [h2 k hk, List.getD_eq_getElem?_getD, List.getElem?_append_right (by omega), e, Nat.add_sub_cancel_left, dig, List.getElem?_map, List.getElem?_range hk]
    rfl
theorem isM.app {f : Nat → Int32} {n : Nat} {L M : List Nat} (h : isM f n L) (e : M = L) : isM f n M := by rw [e]; exact h
theorem wsh_tail {sh : Nat → Int32} {a : Nat} : ∀ n, (∀ b, a ≤ b → b < a + n → sh b = -1) → wsh sh (a + n) = wsh sh a
  | 0, _ => rfl
  | n + 1, h => by
    rw [← Nat.add_assoc, wsh, if_pos (h (a + n) (by omega) (by omega))]
    exact wsh_tail n (fun b h1 h2 => h b h1 (by omega))
theorem wS_nb {B : Nat} {s : ASt} (hI : InvA B s) {k : Nat} (hk : k < sNs s) : wS s k 8 = wS s k (sNb s) := by
  have h8 := hI.1
  have := wsh_tail (sh := sSh s k) (a := sNb s) (8 - sNb s) (fun b h1 h2 => (hI.2.2.1 k hk).2.2.2 b h1 (by omega))
  rw [show sNb s + (8 - sNb s) = 8 by omega] at this
  rw [wS, wS, this]
theorem bird_iffG {nb : Nat} {x : Int32} (h : nb < 1000) : (¬ x < 0 ∧ ¬ nI nb - 1 < x) ↔ ¬ x < 0 ∧ x < nI nb := by
  have hb := nI_toInt (n := nb) (by omega)
  have e : (nI nb - 1).toInt = (nb : Int) - 1 := pk_sub_toInt (a := nb) (b := 1) (by omega) (by decide)
  rw [Int32.lt_iff_toInt_lt, Int32.lt_iff_toInt_lt, Int32.lt_iff_toInt_lt, e, hb]
  omega
theorem i2c_c : ∀ c, c < 128 → ((nI c).toUInt32 % 65536).toInt32 = nI c := by decide +kernel
set_option maxHeartbeats 4000000 in
set_option maxRecDepth 100000 in
theorem m_put (l : Launch) (G : Gx) (m nw bf sv hy tx li nmb : Nat) (iS rmb eA fA tyd ldd thr siz spt wrg tld : Int32) (lf : Nat → Int32) (p : Nat) (hp : p < 80) (c : Int32) : Ct l G SF0 yX13_put wsX13_put ({ frames := 0, cells := 0, slots := 0, locals := 0 }) [.ref m, .int (nI p), .int c] [(m, .inr (13, [.ref nw, .ref bf, .ref sv, .ref hy, .int iS, .int rmb, .int eA, .int fA, .ref tx, .int tyd, .ref li, .int ldd, .int thr, .int siz, .int spt, .int wrg, .int tld, .ref nmb])), (li, .inl (gI G, 80, .inl lf))] mkI (fun (r : Int32) (_ : Unit) => r = nI (p + 1)) (fun _ : Unit => [(m, .inr (13, [.ref nw, .ref bf, .ref sv, .ref hy, .int iS, .int rmb, .int eA, .int fA, .ref tx, .int tyd, .ref li, .int ldd, .int thr, .int siz, .int spt, .int wrg, .int tld, .ref nmb])), (li, .inl (gI G, 80, .inl (upd lf p c)))]) 0 0 := by
  refine Ct.ofI (cc := cX13_put) (maxL := 3) (by decide) rfl ⟨by simp [Value.category], Nat.le_of_ble_eq_true rfl⟩ ?_
  intro K hl hC hSF hnm hE
  subst hl
  have q0_ : ∀ w ∈ u_ws RX13 TX13 18, w ∈ wsX13_put := by decide +kernel
  have q1_ : Cond.fieldLink RX13 32 "FeatherSharesModel" "line" "[I" ∈ wsX13_put := by decide +kernel
  show V G K 3 0 0 0 [some (.ref m), some (.int (nI p)), some (.int c)] [] [(m, .inr (13, [.ref nw, .ref bf, .ref sv, .ref hy, .int iS, .int rmb, .int eA, .int fA, .ref tx, .int tyd, .ref li, .int ldd, .int thr, .int siz, .int spt, .int wrg, .int tld, .ref nmb])), (li, .inl (gI G, 80, .inl lf))]
  refine V.aload_n hC (x := m) dX13_put_0 rfl ?_
  refine V.getf hC (T := TX13) q0_ 10 q1_ rfl (0) rfl rfl (by decide) (.ref li) rfl dX13_put_1 ?_
  refine V.iload_n hC (x := nI p) dX13_put_4 rfl ?_
  refine V.iload_n hC (x := c) dX13_put_5 rfl ?_
  refine V.iast hC dX13_put_6 (1) rfl p rfl (by omega) (by decide) [(m, .inr (13, [.ref nw, .ref bf, .ref sv, .ref hy, .int iS, .int rmb, .int eA, .int fA, .ref tx, .int tyd, .ref li, .int ldd, .int thr, .int siz, .int spt, .int wrg, .int tld, .ref nmb])), (li, .inl (gI G, 80, .inl (upd lf p c)))] rfl ?_
  refine V.iload_n hC (x := nI p) dX13_put_7 rfl ?_
  refine V.iconst hC 1 dX13_put_8 rfl ?_
  refine V.iaddN hC p 1 dX13_put_9 rfl rfl ?_
  exact hE 10 _ (nI (p + 1)) () dX13_put_10 rfl rfl

set_option maxHeartbeats 4000000 in
set_option maxRecDepth 100000 in
theorem m_writesNumber (l : Launch) (G : Gx) (m nw bf sv hy tx li nmb : Nat) (iS rmb eA fA tyd ldd thr siz spt wrg tld : Int32) (lf : Nat → Int32) (p x : Nat) (hx : x < 10000) (hp : p + 4 ≤ 80) : Ct l G SF0 yX13_writesNumber wsX13_writesNumber ({ frames := 1, cells := 0, slots := 0, locals := 22 }) [.ref m, .int (nI p), .int (nI x)] [(m, .inr (13, [.ref nw, .ref bf, .ref sv, .ref hy, .int iS, .int rmb, .int eA, .int fA, .ref tx, .int tyd, .ref li, .int ldd, .int thr, .int siz, .int spt, .int wrg, .int tld, .ref nmb])), (li, .inl (gI G, 80, .inl lf))] mkI (fun (r : Int32) (u : Nat → Int32) => r = nI (p + dgc x) ∧ (∀ j, j < p → u j = lf j) ∧ ∀ j, j < dgc x → u (p + j) = nI (dgt x j)) (fun u : Nat → Int32 => [(m, .inr (13, [.ref nw, .ref bf, .ref sv, .ref hy, .int iS, .int rmb, .int eA, .int fA, .ref tx, .int tyd, .ref li, .int ldd, .int thr, .int siz, .int spt, .int wrg, .int tld, .ref nmb])), (li, .inl (gI G, 80, .inl u))]) 0 0 := by
  have hd4 := dgc_le x
  refine Ct.ofI (cc := cX13_writesNumber) (maxL := 6) (by decide) rfl ⟨by simp [Value.category], Nat.le_of_ble_eq_true rfl⟩ ?_
  intro K hl hC hSF hnm hE
  subst hl
  show V G K 6 0 0 0 [some (.ref m), some (.int (nI p)), some (.int (nI x)), none, none, none] [] [(m, .inr (13, [.ref nw, .ref bf, .ref sv, .ref hy, .int iS, .int rmb, .int eA, .int fA, .ref tx, .int tyd, .ref li, .int ldd, .int thr, .int siz, .int spt, .int wrg, .int tld, .ref nmb])), (li, .inl (gI G, 80, .inl lf))]
  refine V.iload_n hC (x := nI p) dX13_writesNumber_0 rfl ?_
  refine V.istore_n hC dX13_writesNumber_1 [some (.ref m), some (.int (nI p)), some (.int (nI x)), some (.int (nI p)), none, none] (Nat.le_of_ble_eq_true rfl) rfl ?_
  refine V.iconst hC 1 dX13_writesNumber_2 rfl ?_
  refine V.topeq (nI (q10 (0 + 1))) (by decide) ?_
  refine V.istore hC dX13_writesNumber_3 [some (.ref m), some (.int (nI p)), some (.int (nI x)), some (.int (nI p)), some (.int (nI (q10 (0 + 1)))), none] (Nat.le_of_ble_eq_true rfl) rfl ?_
  have loop5 : ∀ (n : Nat) (k : Nat), 4 - k < n → (k + 1 ≤ dgc x) → V G K 6 0 0 5 [some (.ref m), some (.int (nI p)), some (.int (nI x)), some (.int (nI p)), some (.int (nI (q10 (k + 1)))), none] [] [(m, .inr (13, [.ref nw, .ref bf, .ref sv, .ref hy, .int iS, .int rmb, .int eA, .int fA, .ref tx, .int tyd, .ref li, .int ldd, .int thr, .int siz, .int spt, .int wrg, .int tld, .ref nmb])), (li, .inl (gI G, 80, .inl lf))] := by
    intro n
    induction n with
    | zero => intro k hlt; exact absurd hlt (Nat.not_lt_zero _)
    | succ n ih5 =>
      intro k hlt5 hk
      have hql := q10_l (k + 1)
      refine V.iload_n hC (x := nI x) dX13_writesNumber_5 rfl ?_
      refine V.iload hC (x := nI (q10 (k + 1))) dX13_writesNumber_6 rfl ?_
      refine V.idivN hC x (q10 (k + 1)) dX13_writesNumber_8 rfl rfl (by omega) (q10_p (by omega)) (by omega) ?_
      refine V.bipush hC 9 dX13_writesNumber_9 rfl ?_
      refine V.icmpN_le hC (x / (q10 (k + 1))) 9 24 dX13_writesNumber_11 rfl rfl rfl (Nat.lt_of_le_of_lt (Nat.div_le_self _ _) (by omega)) (by omega) (fun c_11 => ?_) (fun c_11 => ?_)
      · have hdk := dgc_here hk c_11
        refine V.iload hC (x := nI (q10 (k + 1))) dX13_writesNumber_24 rfl ?_
        refine V.topeq (nI (q10 (dgc x - 0))) (by rw [hdk, Nat.sub_zero]) ?_
        refine V.istore hC dX13_writesNumber_26 [some (.ref m), some (.int (nI p)), some (.int (nI x)), some (.int (nI p)), some (.int (nI (q10 (k + 1)))), some (.int (nI (q10 (dgc x - 0))))] (Nat.le_of_ble_eq_true rfl) rfl ?_
        refine V.drop 4 (lv' := [some (.ref m), some (.int (nI p)), some (.int (nI x)), some (.int (nI p)), none, some (.int (nI (q10 (dgc x - 0))))]) rfl ?_
        have loop28 : ∀ (n : Nat) (j : Nat) (lw : Nat → Int32), 5 - j < n → (j ≤ dgc x) → (∀ i, i < p → lw i = lf i) → (∀ i, i < j → lw (p + i) = nI (dgt x i)) → V G K 6 0 0 28 [some (.ref m), some (.int (nI p)), some (.int (nI x)), some (.int (nI (p + j))), none, some (.int (nI (q10 (dgc x - j))))] [] [(m, .inr (13, [.ref nw, .ref bf, .ref sv, .ref hy, .int iS, .int rmb, .int eA, .int fA, .ref tx, .int tyd, .ref li, .int ldd, .int thr, .int siz, .int spt, .int wrg, .int tld, .ref nmb])), (li, .inl (gI G, 80, .inl lw))] := by
          intro n
          induction n with
          | zero => intro j lw hlt; exact absurd hlt (Nat.not_lt_zero _)
          | succ n ih28 =>
            intro j lw hlt28 hj h1 h2
            have hql := q10_l (dgc x - j)
            refine V.iload hC (x := nI (q10 (dgc x - j))) dX13_writesNumber_28 rfl ?_
            refine V.ifN_le hC (q10 (dgc x - j)) 59 dX13_writesNumber_30 rfl rfl (by omega) (fun c_30 => ?_) (fun c_30 => ?_)
            · refine V.iload_n hC (x := nI (p + j)) dX13_writesNumber_59 rfl ?_
              exact hE 60 _ (nI (p + j)) lw dX13_writesNumber_60 rfl ⟨by rw [show j = dgc x by have := q10_0 c_30; omega], h1, fun i hi => h2 i (by have := q10_0 c_30; omega)⟩
            · have hjd : j < dgc x := Nat.lt_of_le_of_ne hj (fun e => by rw [e, Nat.sub_self] at c_30; exact absurd c_30 (by decide))
              refine V.aload_n hC (x := m) dX13_writesNumber_33 rfl ?_
              refine V.iload_n hC (x := nI (p + j)) dX13_writesNumber_34 rfl ?_
              refine V.bipush hC 48 dX13_writesNumber_35 rfl ?_
              refine V.iload_n hC (x := nI x) dX13_writesNumber_37 rfl ?_
              refine V.iload hC (x := nI (q10 (dgc x - j))) dX13_writesNumber_38 rfl ?_
              refine V.idivN hC x (q10 (dgc x - j)) dX13_writesNumber_40 rfl rfl (by omega) c_30 (by omega) ?_
              refine V.bipush hC 10 dX13_writesNumber_41 rfl ?_
              refine V.iremN hC (x / (q10 (dgc x - j))) 10 dX13_writesNumber_43 rfl rfl (Nat.lt_of_le_of_lt (Nat.div_le_self _ _) (by omega)) (by decide) (by decide) ?_
              refine V.iaddN hC 48 ((x / (q10 (dgc x - j))) % 10) dX13_writesNumber_44 rfl rfl ?_
              refine V.topeq (nI (dgt x j)) (congrArg nI (dgt_q hjd)) ?_
              refine V.callV (n := 2) (As := [.int (nI (p + j)), .int (nI (dgt x j))]) (rest := []) hC (m_put (kl K) G m nw bf sv hy tx li nmb iS rmb eA fA tyd ldd thr siz spt wrg tld lw (p + j) (by omega) (nI (dgt x j))) SFk0 SFgo0 gX13_writesNumber_X13_put rfl ⟨rfl, rfl⟩ (by decide +kernel) ⟨by decide, by decide, by decide, by decide⟩ [0, 1] rfl (by decide) (fun _ => rfl) rfl rfl rfl rfl (Nat.le_of_ble_eq_true rfl) dX13_writesNumber_45 (fun r_45 u_45 hp_45 => ?_)
              subst hp_45
              show V G K 6 0 0 48 [some (.ref m), some (.int (nI p)), some (.int (nI x)), some (.int (nI (p + j))), none, some (.int (nI (q10 (dgc x - j))))] [.int (nI (p + j + 1))] [(m, .inr (13, [.ref nw, .ref bf, .ref sv, .ref hy, .int iS, .int rmb, .int eA, .int fA, .ref tx, .int tyd, .ref li, .int ldd, .int thr, .int siz, .int spt, .int wrg, .int tld, .ref nmb])), (li, .inl (gI G, 80, .inl (upd lw (p + j) (nI (dgt x j)))))]
              refine V.istore_n hC dX13_writesNumber_48 [some (.ref m), some (.int (nI p)), some (.int (nI x)), some (.int (nI (p + j + 1))), none, some (.int (nI (q10 (dgc x - j))))] (Nat.le_of_ble_eq_true rfl) rfl ?_
              refine V.iload hC (x := nI (q10 (dgc x - j))) dX13_writesNumber_49 rfl ?_
              refine V.bipush hC 10 dX13_writesNumber_51 rfl ?_
              refine V.idivN hC (q10 (dgc x - j)) 10 dX13_writesNumber_53 rfl rfl (by omega) (by decide) (by decide) ?_
              refine V.topeq (nI (q10 (dgc x - (j + 1)))) (congrArg nI ((q10_d (dgc x - j) (by omega) (by omega)).trans (by rw [Nat.sub_sub]))) ?_
              refine V.istore hC dX13_writesNumber_54 [some (.ref m), some (.int (nI p)), some (.int (nI x)), some (.int (nI (p + j + 1))), none, some (.int (nI (q10 (dgc x - (j + 1)))))] (Nat.le_of_ble_eq_true rfl) rfl ?_
              refine V.goto hC 28 dX13_writesNumber_56 rfl ?_
              exact ih28 (j + 1) (upd lw (p + j) (nI (dgt x j))) (by omega) (by omega) (fun i hi => (pk_un (by omega)).trans (h1 i hi)) (fun i hi => by
                            by_cases e : i = j
                            · subst e; exact pk_us
                            · exact (pk_un (by omega)).trans (h2 i (by omega)))
        exact loop28 _ 0 lf (Nat.lt_succ_self _) (by omega) (fun _ _ => rfl) (fun i h => absurd h (Nat.not_lt_zero i))
      · refine V.iload hC (x := nI (q10 (k + 1))) dX13_writesNumber_14 rfl ?_
        refine V.bipush hC 10 dX13_writesNumber_16 rfl ?_
        refine V.imulN hC (q10 (k + 1)) 10 dX13_writesNumber_18 rfl rfl ?_
        refine V.istore hC dX13_writesNumber_19 [some (.ref m), some (.int (nI p)), some (.int (nI x)), some (.int (nI p)), some (.int (nI ((q10 (k + 1)) * 10))), none] (Nat.le_of_ble_eq_true rfl) rfl ?_
        refine V.lset 4 (x := .int (nI ((q10 (k + 1)) * 10))) (y := .int (nI (q10 (k + 2)))) (congrArg Value.int (congrArg nI (q10_m (k + 1) (by have := dgc_next hx hk c_11; omega) (by omega)))) rfl (lv' := [some (.ref m), some (.int (nI p)), some (.int (nI x)), some (.int (nI p)), some (.int (nI (q10 (k + 2)))), none]) rfl ?_
        refine V.goto hC 5 dX13_writesNumber_21 rfl ?_
        exact ih5 (k + 1) (by omega) (dgc_next hx hk c_11)
  exact loop5 _ 0 (Nat.lt_succ_self _) (by omega)

set_option maxHeartbeats 4000000 in
set_option maxRecDepth 100000 in
theorem m_writeSecretN (l : Launch) (G : Gx) (m nw bf sv hy tx li nmb : Nat) (iS rmb eA fA tyd ldd thr siz spt wrg tld : Int32) (σ : Nat → Int32) (s : ASt) (B : Nat) (hR : Rel σ s) (hI : InvA B s) (hB : B < 2 ^ 30) (x : Int32) (hf : fd (sNu s) x (sNs s) = none) : Ct l G SF0 yX13_writeSecret wsX13_writeSecret ({ frames := 3, cells := 0, slots := 0, locals := 61 }) [.ref m, .int x] [(m, .inr (13, [.ref nw, .ref bf, .ref sv, .ref hy, .int iS, .int rmb, .int eA, .int fA, .ref tx, .int tyd, .ref li, .int ldd, .int thr, .int siz, .int spt, .int wrg, .int tld, .ref nmb])), (nw, .inl (gI G, 72, .inl σ))] mkI (fun (r : Int32) (_ : Unit) => r = 0) (fun _ : Unit => [(m, .inr (13, [.ref nw, .ref bf, .ref sv, .ref hy, .int iS, .int rmb, .int eA, .int fA, .ref tx, .int tyd, .ref li, .int ldd, .int (nI 1), .int siz, .int spt, .int wrg, .int tld, .ref nmb])), (nw, .inl (gI G, 72, .inl σ))]) 0 0 := by
  have hb8 := hI.1
  have hs6 := hI.2.1
  refine Ct.ofI (cc := cX13_writeSecret) (maxL := 6) (by decide) rfl ⟨by simp [Value.category], Nat.le_of_ble_eq_true rfl⟩ ?_
  intro K hl hC hSF hnm hE
  subst hl
  show V G K 6 0 0 0 [some (.ref m), some (.int x), none, none, none, none] [] [(m, .inr (13, [.ref nw, .ref bf, .ref sv, .ref hy, .int iS, .int rmb, .int eA, .int fA, .ref tx, .int tyd, .ref li, .int ldd, .int thr, .int siz, .int spt, .int wrg, .int tld, .ref nmb])), (nw, .inl (gI G, 72, .inl σ))]
  refine V.aload_n hC (x := m) dX13_writeSecret_0 rfl ?_
  refine V.iload_n hC (x := x) dX13_writeSecret_1 rfl ?_
  refine V.callVr (n := 1) (As := [.int x]) (rest := []) hC (m_find (kl K) G m nw bf sv hy tx li nmb iS rmb eA fA tyd ldd thr siz spt wrg tld σ s B hR hI hB x) SFk0 SFgo0 gX13_writeSecret_X13_find rfl ⟨rfl, rfl⟩ (by decide +kernel) ⟨by decide, by decide, by decide, by decide⟩ [0, 1] rfl (by decide) rfl rfl rfl rfl (Nat.le_of_ble_eq_true rfl) dX13_writeSecret_2 (fun r_2 u_2 hp_2 => ?_)
  rw [hf] at hp_2
  subst hp_2
  show V G K 6 0 0 5 [some (.ref m), some (.int x), none, none, none, none] [.int (-1)] [(m, .inr (13, [.ref nw, .ref bf, .ref sv, .ref hy, .int iS, .int rmb, .int eA, .int fA, .ref tx, .int tyd, .ref li, .int ldd, .int thr, .int siz, .int spt, .int wrg, .int tld, .ref nmb])), (nw, .inl (gI G, 72, .inl σ))]
  refine V.istore_n hC dX13_writeSecret_5 [some (.ref m), some (.int x), some (.int (-1)), none, none, none] (Nat.le_of_ble_eq_true rfl) rfl ?_
  refine V.aload_n hC (x := m) dX13_writeSecret_6 rfl ?_
  refine V.iload_n hC (x := -1) dX13_writeSecret_7 rfl ?_
  refine V.iconst hC (-1) dX13_writeSecret_8 rfl ?_
  refine V.icmp_eq hC 16 dX13_writeSecret_9 rfl (fun c_9 => ?_) (fun c_9 => ?_)
  · refine V.iconst hC 0 dX13_writeSecret_16 rfl ?_
    refine V.callV (n := 1) (As := [.int 0]) (rest := []) hC (m_goes (kl K) G m nw bf sv hy tx li nmb iS rmb eA fA tyd ldd thr siz spt wrg tld 0) SFk0 SFgo0 gX13_writeSecret_X13_goes rfl ⟨rfl, rfl⟩ (by decide +kernel) ⟨by decide, by decide, by decide, by decide⟩ [0] rfl (by decide) (fun _ => rfl) rfl rfl rfl rfl (Nat.le_of_ble_eq_true rfl) dX13_writeSecret_17 (fun r_17 u_17 hp_17 => ?_)
    subst hp_17
    show V G K 6 0 0 20 [some (.ref m), some (.int x), some (.int (-1)), none, none, none] [.int (if alw 0 1 1 1 = 0 then 1 else 0)] [(m, .inr (13, [.ref nw, .ref bf, .ref sv, .ref hy, .int iS, .int rmb, .int eA, .int fA, .ref tx, .int tyd, .ref li, .int ldd, .int (nI (alw 0 1 1 1)), .int siz, .int spt, .int wrg, .int tld, .ref nmb])), (nw, .inl (gI G, 72, .inl σ))]
    have ha_17 : alw 0 1 1 1 = 1 := by rfl
    refine V.topeq (nI 0) (by rw [ha_17]; rfl) ?_
    refine V.eqw (ws' := [(m, .inr (13, [.ref nw, .ref bf, .ref sv, .ref hy, .int iS, .int rmb, .int eA, .int fA, .ref tx, .int tyd, .ref li, .int ldd, .int (nI 1), .int siz, .int spt, .int wrg, .int tld, .ref nmb])), (nw, .inl (gI G, 72, .inl σ))]) (by rw [ha_17]) ?_
    refine V.ifN_ne hC 0 25 dX13_writeSecret_20 rfl rfl (by omega) (fun c_20 => ?_) (fun c_20 => ?_)
    · exact absurd c_20 (by decide)
    · refine V.iconst hC 0 dX13_writeSecret_23 rfl ?_
      exact hE 24 _ 0 () dX13_writeSecret_24 rfl rfl
  · exact absurd rfl c_9

set_option maxHeartbeats 4000000 in
set_option maxRecDepth 100000 in
theorem m_writeSecretY (l : Launch) (G : Gx) (m nw bf sv hy tx li nmb : Nat) (iS rmb eA fA tyd ldd thr siz spt wrg tld : Int32) (σ : Nat → Int32) (s : ASt) (B : Nat) (hR : Rel σ s) (hI : InvA B s) (hB : B < 2 ^ 30) (hB4 : B < 10000) (lf : Nat → Int32) (x : Int32) (k : Nat) (hf : fd (sNu s) x (sNs s) = some k) : Ct l G SF0 yX13_writeSecret wsX13_writeSecret ({ frames := 3, cells := 0, slots := 0, locals := 65 }) [.ref m, .int x] [(m, .inr (13, [.ref nw, .ref bf, .ref sv, .ref hy, .int iS, .int rmb, .int eA, .int fA, .ref tx, .int tyd, .ref li, .int ldd, .int thr, .int siz, .int spt, .int wrg, .int tld, .ref nmb])), (nw, .inl (gI G, 72, .inl σ)), (li, .inl (gI G, 80, .inl lf))] mkI (fun (r : Int32) (u : (Nat → Int32) × Nat) => r = nI u.2 ∧ isM u.1 u.2 (wS s k 8)) (fun u : (Nat → Int32) × Nat => [(m, .inr (13, [.ref nw, .ref bf, .ref sv, .ref hy, .int iS, .int rmb, .int eA, .int fA, .ref tx, .int tyd, .ref li, .int (nI u.2), .int (nI 0), .int siz, .int spt, .int wrg, .int tld, .ref nmb])), (nw, .inl (gI G, 72, .inl σ)), (li, .inl (gI G, 80, .inl (u.1)))]) 0 0 := by
  have hb8 := hI.1
  have hs6 := hI.2.1
  have hkn := (fd_lt hf hs6).1
  have hk6 := (fd_lt hf hs6).2
  have ik := hI.2.2.1 k hkn
  obtain ⟨hnu1, hnu2⟩ := nu_ok hI hB4 hkn
  have hxn : x = nI (nuN s k) := (fd_some hf).2.1.symm.trans hnu1
  refine Ct.ofI (cc := cX13_writeSecret) (maxL := 6) (by decide) rfl ⟨by simp [Value.category], Nat.le_of_ble_eq_true rfl⟩ ?_
  intro K hl hC hSF hnm hE
  subst hl
  have q0_ : ∀ w ∈ u_ws RX13 TX13 18, w ∈ wsX13_writeSecret := by decide +kernel
  have q1_ : Cond.fieldLink RX13 9 "FeatherSharesModel" "now" "[I" ∈ wsX13_writeSecret := by decide +kernel
  have q2_ : Cond.fieldLink RX13 182 "FeatherSharesModel" "lined" "I" ∈ wsX13_writeSecret := by decide +kernel
  show V G K 6 0 0 0 [some (.ref m), some (.int x), none, none, none, none] [] [(m, .inr (13, [.ref nw, .ref bf, .ref sv, .ref hy, .int iS, .int rmb, .int eA, .int fA, .ref tx, .int tyd, .ref li, .int ldd, .int thr, .int siz, .int spt, .int wrg, .int tld, .ref nmb])), (nw, .inl (gI G, 72, .inl σ)), (li, .inl (gI G, 80, .inl lf))]
  refine V.aload_n hC (x := m) dX13_writeSecret_0 rfl ?_
  refine V.iload_n hC (x := x) dX13_writeSecret_1 rfl ?_
  refine V.callVr (n := 1) (As := [.int x]) (rest := []) hC (m_find (kl K) G m nw bf sv hy tx li nmb iS rmb eA fA tyd ldd thr siz spt wrg tld σ s B hR hI hB x) SFk0 SFgo0 gX13_writeSecret_X13_find rfl ⟨rfl, rfl⟩ (by decide +kernel) ⟨by decide, by decide, by decide, by decide⟩ [0, 1] rfl (by decide) rfl rfl rfl rfl (Nat.le_of_ble_eq_true rfl) dX13_writeSecret_2 (fun r_2 u_2 hp_2 => ?_)
  rw [hf] at hp_2
  subst hp_2
  show V G K 6 0 0 5 [some (.ref m), some (.int x), none, none, none, none] [.int (nI k)] [(m, .inr (13, [.ref nw, .ref bf, .ref sv, .ref hy, .int iS, .int rmb, .int eA, .int fA, .ref tx, .int tyd, .ref li, .int ldd, .int thr, .int siz, .int spt, .int wrg, .int tld, .ref nmb])), (nw, .inl (gI G, 72, .inl σ)), (li, .inl (gI G, 80, .inl lf))]
  refine V.istore_n hC dX13_writeSecret_5 [some (.ref m), some (.int x), some (.int (nI k)), none, none, none] (Nat.le_of_ble_eq_true rfl) rfl ?_
  refine V.aload_n hC (x := m) dX13_writeSecret_6 rfl ?_
  refine V.iload_n hC (x := nI k) dX13_writeSecret_7 rfl ?_
  refine V.iconst hC (-1) dX13_writeSecret_8 rfl ?_
  refine V.icmp_eq hC 16 dX13_writeSecret_9 rfl (fun c_9 => ?_) (fun c_9 => ?_)
  · exact absurd c_9 (nI_m1 (by omega))
  · refine V.iconst hC 1 dX13_writeSecret_12 rfl ?_
    refine V.goto hC 17 dX13_writeSecret_13 rfl ?_
    refine V.callV (n := 1) (As := [.int 1]) (rest := []) hC (m_goes (kl K) G m nw bf sv hy tx li nmb iS rmb eA fA tyd ldd thr siz spt wrg tld 1) SFk0 SFgo0 gX13_writeSecret_X13_goes rfl ⟨rfl, rfl⟩ (by decide +kernel) ⟨by decide, by decide, by decide, by decide⟩ [0] rfl (by decide) (fun _ => rfl) rfl rfl rfl rfl (Nat.le_of_ble_eq_true rfl) dX13_writeSecret_17 (fun r_17 u_17 hp_17 => ?_)
    subst hp_17
    show V G K 6 0 0 20 [some (.ref m), some (.int x), some (.int (nI k)), none, none, none] [.int (if alw 1 1 1 1 = 0 then 1 else 0)] [(m, .inr (13, [.ref nw, .ref bf, .ref sv, .ref hy, .int iS, .int rmb, .int eA, .int fA, .ref tx, .int tyd, .ref li, .int ldd, .int (nI (alw 1 1 1 1)), .int siz, .int spt, .int wrg, .int tld, .ref nmb])), (nw, .inl (gI G, 72, .inl σ)), (li, .inl (gI G, 80, .inl lf))]
    have ha_17 : alw 1 1 1 1 = 0 := by rfl
    refine V.topeq (nI 1) (by rw [ha_17]; rfl) ?_
    refine V.eqw (ws' := [(m, .inr (13, [.ref nw, .ref bf, .ref sv, .ref hy, .int iS, .int rmb, .int eA, .int fA, .ref tx, .int tyd, .ref li, .int ldd, .int (nI 0), .int siz, .int spt, .int wrg, .int tld, .ref nmb])), (nw, .inl (gI G, 72, .inl σ)), (li, .inl (gI G, 80, .inl lf))]) (by rw [ha_17]) ?_
    refine V.ifN_ne hC 1 25 dX13_writeSecret_20 rfl rfl (by omega) (fun c_20 => ?_) (fun c_20 => ?_)
    · refine V.lset 1 (x := .int x) (y := .int (nI (nuN s k))) (congrArg Value.int hxn) rfl (lv' := [some (.ref m), some (.int (nI (nuN s k))), some (.int (nI k)), none, none, none]) rfl ?_
      refine V.aload_n hC (x := m) dX13_writeSecret_25 rfl ?_
      refine V.aload_n hC (x := m) dX13_writeSecret_26 rfl ?_
      refine V.aload_n hC (x := m) dX13_writeSecret_27 rfl ?_
      refine V.iconst hC 0 dX13_writeSecret_28 rfl ?_
      refine V.iload_n hC (x := nI (nuN s k)) dX13_writeSecret_29 rfl ?_
      refine V.callV (n := 2) (As := [.int 0, .int (nI (nuN s k))]) (rest := [.ref m, .ref m]) hC (m_writesNumber (kl K) G m nw bf sv hy tx li nmb iS rmb eA fA tyd ldd (nI 0) siz spt wrg tld lf 0 (nuN s k) hnu2 (by omega)) SFk0 SFgo0 gX13_writeSecret_X13_writesNumber rfl ⟨rfl, rfl⟩ (by decide +kernel) ⟨by decide, by decide, by decide, by decide⟩ [0, 2] rfl (by decide) (fun _ => rfl) rfl rfl rfl rfl (Nat.le_of_ble_eq_true rfl) dX13_writeSecret_30 (fun r_30 u_30 hp_30 => ?_)
      obtain ⟨e_30, ha_30, hb_30⟩ := hp_30
      subst e_30
      have hm_30 := isM.i (isM.nil lf) ha_30 hb_30
      have hd_30 : dgc (nuN s k) ≤ 4 := dgc_4l hnu2
      show V G K 6 0 0 33 [some (.ref m), some (.int (nI (nuN s k))), some (.int (nI k)), none, none, none] [.int (nI (0 + dgc (nuN s k))), .ref m, .ref m] [(m, .inr (13, [.ref nw, .ref bf, .ref sv, .ref hy, .int iS, .int rmb, .int eA, .int fA, .ref tx, .int tyd, .ref li, .int ldd, .int (nI 0), .int siz, .int spt, .int wrg, .int tld, .ref nmb])), (nw, .inl (gI G, 72, .inl σ)), (li, .inl (gI G, 80, .inl u_30))]
      refine V.bipush hC 47 dX13_writeSecret_33 rfl ?_
      refine V.callV (n := 2) (As := [.int (nI (0 + dgc (nuN s k))), .int 47]) (rest := [.ref m]) hC (m_put (kl K) G m nw bf sv hy tx li nmb iS rmb eA fA tyd ldd (nI 0) siz spt wrg tld u_30 (0 + dgc (nuN s k)) (by omega) 47) SFk0 SFgo0 gX13_writeSecret_X13_put rfl ⟨rfl, rfl⟩ (by decide +kernel) ⟨by decide, by decide, by decide, by decide⟩ [0, 2] rfl (by decide) (fun _ => rfl) rfl rfl rfl rfl (Nat.le_of_ble_eq_true rfl) dX13_writeSecret_35 (fun r_35 u_35 hp_35 => ?_)
      subst hp_35
      have hm_35 := isM.c (g := upd u_30 (0 + dgc (nuN s k)) 47) hm_30 47 (fun j h => pk_un (by omega)) (pk_us.trans (by decide))
      show V G K 6 0 0 38 [some (.ref m), some (.int (nI (nuN s k))), some (.int (nI k)), none, none, none] [.int (nI (0 + dgc (nuN s k) + 1)), .ref m] [(m, .inr (13, [.ref nw, .ref bf, .ref sv, .ref hy, .int iS, .int rmb, .int eA, .int fA, .ref tx, .int tyd, .ref li, .int ldd, .int (nI 0), .int siz, .int spt, .int wrg, .int tld, .ref nmb])), (nw, .inl (gI G, 72, .inl σ)), (li, .inl (gI G, 80, .inl (upd u_30 (0 + dgc (nuN s k)) 47)))]
      refine V.aload_n hC (x := m) dX13_writeSecret_38 rfl ?_
      refine V.iload_n hC (x := nI k) dX13_writeSecret_39 rfl ?_
      refine V.iconst hC 1 dX13_writeSecret_40 rfl ?_
      refine V.callVr (n := 2) (As := [.int (nI k), .int 1]) (rest := [.int (nI (0 + dgc (nuN s k) + 1)), .ref m]) hC (m_of (kl K) G m nw bf sv hy tx li nmb iS rmb eA fA tyd ldd (nI 0) siz spt wrg tld σ k hk6 1 (by decide)) SFk0 SFgo0 gX13_writeSecret_X13_of rfl ⟨rfl, rfl⟩ (by decide +kernel) ⟨by decide, by decide, by decide, by decide⟩ [0, 1] rfl (by decide) rfl rfl rfl rfl (Nat.le_of_ble_eq_true rfl) dX13_writeSecret_41 (fun r_41 u_41 hp_41 => ?_)
      have hq_41 := hp_41.trans (show σ (12 + 10 * k + 1) = nI (sTn s k) by rw [show 12 + 10 * k + 1 = 13 + 10 * k by omega]; exact (hR.2.2.2.2.2 k hkn).2.1)
      subst hq_41
      show V G K 6 0 0 44 [some (.ref m), some (.int (nI (nuN s k))), some (.int (nI k)), none, none, none] [.int (nI (sTn s k)), .int (nI (0 + dgc (nuN s k) + 1)), .ref m] [(m, .inr (13, [.ref nw, .ref bf, .ref sv, .ref hy, .int iS, .int rmb, .int eA, .int fA, .ref tx, .int tyd, .ref li, .int ldd, .int (nI 0), .int siz, .int spt, .int wrg, .int tld, .ref nmb])), (nw, .inl (gI G, 72, .inl σ)), (li, .inl (gI G, 80, .inl (upd u_30 (0 + dgc (nuN s k)) 47)))]
      refine V.callV (n := 2) (As := [.int (nI (0 + dgc (nuN s k) + 1)), .int (nI (sTn s k))]) (rest := []) hC (m_writesNumber (kl K) G m nw bf sv hy tx li nmb iS rmb eA fA tyd ldd (nI 0) siz spt wrg tld (upd u_30 (0 + dgc (nuN s k)) 47) (0 + dgc (nuN s k) + 1) (sTn s k) (by omega) (by omega)) SFk0 SFgo0 gX13_writeSecret_X13_writesNumber rfl ⟨rfl, rfl⟩ (by decide +kernel) ⟨by decide, by decide, by decide, by decide⟩ [0, 2] rfl (by decide) (fun _ => rfl) rfl rfl rfl rfl (Nat.le_of_ble_eq_true rfl) dX13_writeSecret_44 (fun r_44 u_44 hp_44 => ?_)
      obtain ⟨e_44, ha_44, hb_44⟩ := hp_44
      subst e_44
      have hm_44 := isM.i hm_35 ha_44 hb_44
      have hd_44 : dgc (sTn s k) ≤ 1 := Nat.le_of_eq (dgc_1 (by omega))
      show V G K 6 0 0 47 [some (.ref m), some (.int (nI (nuN s k))), some (.int (nI k)), none, none, none] [.int (nI (0 + dgc (nuN s k) + 1 + dgc (sTn s k)))] [(m, .inr (13, [.ref nw, .ref bf, .ref sv, .ref hy, .int iS, .int rmb, .int eA, .int fA, .ref tx, .int tyd, .ref li, .int ldd, .int (nI 0), .int siz, .int spt, .int wrg, .int tld, .ref nmb])), (nw, .inl (gI G, 72, .inl σ)), (li, .inl (gI G, 80, .inl u_44))]
      refine V.istore_n hC dX13_writeSecret_47 [some (.ref m), some (.int (nI (nuN s k))), some (.int (nI k)), some (.int (nI (0 + dgc (nuN s k) + 1 + dgc (sTn s k)))), none, none] (Nat.le_of_ble_eq_true rfl) rfl ?_
      refine V.iconst hC 0 dX13_writeSecret_48 rfl ?_
      refine V.istore hC dX13_writeSecret_49 [some (.ref m), some (.int (nI (nuN s k))), some (.int (nI k)), some (.int (nI (0 + dgc (nuN s k) + 1 + dgc (sTn s k)))), some (.int 0), none] (Nat.le_of_ble_eq_true rfl) rfl ?_
      have loop51 : ∀ (n : Nat) (b : Nat) (n1 : Nat) (lw : Nat → Int32), 8 - b < n → (b ≤ sNb s) → (isM lw n1 (wS s k b)) → (n1 ≤ 6 + 5 * b) → V G K 6 0 0 51 [some (.ref m), some (.int (nI (nuN s k))), some (.int (nI k)), some (.int (nI n1)), some (.int (nI b)), none] [] [(m, .inr (13, [.ref nw, .ref bf, .ref sv, .ref hy, .int iS, .int rmb, .int eA, .int fA, .ref tx, .int tyd, .ref li, .int ldd, .int (nI 0), .int siz, .int spt, .int wrg, .int tld, .ref nmb])), (nw, .inl (gI G, 72, .inl σ)), (li, .inl (gI G, 80, .inl lw))] := by
        intro n
        induction n with
        | zero => intro b n1 lw hlt; exact absurd hlt (Nat.not_lt_zero _)
        | succ n ih51 =>
          intro b n1 lw hlt51 hb hm_L hq
          refine V.iload hC (x := nI b) dX13_writeSecret_51 rfl ?_
          refine V.aload_n hC (x := m) dX13_writeSecret_53 rfl ?_
          refine V.getf hC (T := TX13) q0_ 0 q1_ rfl (0) rfl rfl (by decide) (.ref nw) rfl dX13_writeSecret_54 ?_
          refine V.iconst hC 0 dX13_writeSecret_57 rfl ?_
          refine V.iald hC dX13_writeSecret_58 (1) rfl 0 rfl (by omega) (by decide) ?_
          refine V.topeq (nI (sNb s)) hR.1 ?_
          refine V.icmpN_ge hC b (sNb s) 113 dX13_writeSecret_59 rfl rfl rfl (by omega) (by omega) (fun c_59 => ?_) (fun c_59 => ?_)
          · refine V.aload_n hC (x := m) dX13_writeSecret_113 rfl ?_
            refine V.iload_n hC (x := nI n1) dX13_writeSecret_114 rfl ?_
            refine V.putf hC (T := TX13) q0_ tyX13 tyX13_ok nmX13 11 q2_ rfl rfl (0) rfl rfl (by decide) (by simp) rfl rfl dX13_writeSecret_115 [(m, .inr (13, [.ref nw, .ref bf, .ref sv, .ref hy, .int iS, .int rmb, .int eA, .int fA, .ref tx, .int tyd, .ref li, .int (nI n1), .int (nI 0), .int siz, .int spt, .int wrg, .int tld, .ref nmb])), (nw, .inl (gI G, 72, .inl σ)), (li, .inl (gI G, 80, .inl lw))] rfl ?_
            refine V.iload_n hC (x := nI n1) dX13_writeSecret_118 rfl ?_
            exact hE 119 _ (nI n1) (lw, n1) dX13_writeSecret_119 rfl ⟨rfl, (by rw [wS_nb hI hkn, show sNb s = b by omega]; exact hm_L)⟩
          · refine V.aload_n hC (x := m) dX13_writeSecret_62 rfl ?_
            refine V.iload hC (x := nI b) dX13_writeSecret_63 rfl ?_
            refine V.iload_n hC (x := nI k) dX13_writeSecret_65 rfl ?_
            refine V.callVr (n := 2) (As := [.int (nI b), .int (nI k)]) (rest := []) hC (m_shareOf (kl K) G m nw bf sv hy tx li nmb iS rmb eA fA tyd ldd (nI 0) siz spt wrg tld σ s B hR hI hB (nI b) k hkn) SFk0 SFgo0 gX13_writeSecret_X13_shareOf rfl ⟨rfl, rfl⟩ (by decide +kernel) ⟨by decide, by decide, by decide, by decide⟩ [0, 1] rfl (by decide) rfl rfl rfl rfl (Nat.le_of_ble_eq_true rfl) dX13_writeSecret_66 (fun r_66 u_66 hp_66 => ?_)
            have hq_66 := hp_66.trans (shK (by omega) hb8)
            subst hq_66
            show V G K 6 0 0 69 [some (.ref m), some (.int (nI (nuN s k))), some (.int (nI k)), some (.int (nI n1)), some (.int (nI b)), none] [.int (sSh s k b)] [(m, .inr (13, [.ref nw, .ref bf, .ref sv, .ref hy, .int iS, .int rmb, .int eA, .int fA, .ref tx, .int tyd, .ref li, .int ldd, .int (nI 0), .int siz, .int spt, .int wrg, .int tld, .ref nmb])), (nw, .inl (gI G, 72, .inl σ)), (li, .inl (gI G, 80, .inl lw))]
            refine V.istore hC dX13_writeSecret_69 [some (.ref m), some (.int (nI (nuN s k))), some (.int (nI k)), some (.int (nI n1)), some (.int (nI b)), some (.int (sSh s k b))] (Nat.le_of_ble_eq_true rfl) rfl ?_
            refine V.iload hC (x := sSh s k b) dX13_writeSecret_71 rfl ?_
            refine V.iconst hC (-1) dX13_writeSecret_73 rfl ?_
            refine V.icmp_ne hC 81 dX13_writeSecret_74 rfl (fun c_74 => ?_) (fun c_74 => ?_)
            · have hv := ik.2.2.1 b (by omega) c_74
              refine V.lset 5 (x := .int (sSh s k b)) (y := .int (nI (svn (sSh s k) b))) (congrArg Value.int hv.1) rfl (lv' := [some (.ref m), some (.int (nI (nuN s k))), some (.int (nI k)), some (.int (nI n1)), some (.int (nI b)), some (.int (nI (svn (sSh s k) b)))]) rfl ?_
              refine V.aload_n hC (x := m) dX13_writeSecret_81 rfl ?_
              refine V.aload_n hC (x := m) dX13_writeSecret_82 rfl ?_
              refine V.aload_n hC (x := m) dX13_writeSecret_83 rfl ?_
              refine V.aload_n hC (x := m) dX13_writeSecret_84 rfl ?_
              refine V.iload_n hC (x := nI n1) dX13_writeSecret_85 rfl ?_
              refine V.bipush hC 32 dX13_writeSecret_86 rfl ?_
              refine V.callV (n := 2) (As := [.int (nI n1), .int 32]) (rest := [.ref m, .ref m, .ref m]) hC (m_put (kl K) G m nw bf sv hy tx li nmb iS rmb eA fA tyd ldd (nI 0) siz spt wrg tld lw n1 (by omega) 32) SFk0 SFgo0 gX13_writeSecret_X13_put rfl ⟨rfl, rfl⟩ (by decide +kernel) ⟨by decide, by decide, by decide, by decide⟩ [0, 2] rfl (by decide) (fun _ => rfl) rfl rfl rfl rfl (Nat.le_of_ble_eq_true rfl) dX13_writeSecret_88 (fun r_88 u_88 hp_88 => ?_)
              subst hp_88
              have hm_88 := isM.c (g := upd lw n1 32) hm_L 32 (fun j h => pk_un (by omega)) (pk_us.trans (by decide))
              show V G K 6 0 0 91 [some (.ref m), some (.int (nI (nuN s k))), some (.int (nI k)), some (.int (nI n1)), some (.int (nI b)), some (.int (nI (svn (sSh s k) b)))] [.int (nI (n1 + 1)), .ref m, .ref m, .ref m] [(m, .inr (13, [.ref nw, .ref bf, .ref sv, .ref hy, .int iS, .int rmb, .int eA, .int fA, .ref tx, .int tyd, .ref li, .int ldd, .int (nI 0), .int siz, .int spt, .int wrg, .int tld, .ref nmb])), (nw, .inl (gI G, 72, .inl σ)), (li, .inl (gI G, 80, .inl (upd lw n1 32)))]
              refine V.iload hC (x := nI b) dX13_writeSecret_91 rfl ?_
              refine V.callV (n := 2) (As := [.int (nI (n1 + 1)), .int (nI b)]) (rest := [.ref m, .ref m]) hC (m_writesNumber (kl K) G m nw bf sv hy tx li nmb iS rmb eA fA tyd ldd (nI 0) siz spt wrg tld (upd lw n1 32) (n1 + 1) b (by omega) (by omega)) SFk0 SFgo0 gX13_writeSecret_X13_writesNumber rfl ⟨rfl, rfl⟩ (by decide +kernel) ⟨by decide, by decide, by decide, by decide⟩ [0, 2] rfl (by decide) (fun _ => rfl) rfl rfl rfl rfl (Nat.le_of_ble_eq_true rfl) dX13_writeSecret_93 (fun r_93 u_93 hp_93 => ?_)
              obtain ⟨e_93, ha_93, hb_93⟩ := hp_93
              subst e_93
              have hm_93 := isM.i hm_88 ha_93 hb_93
              have hd_93 : dgc b ≤ 1 := Nat.le_of_eq (dgc_1 (by omega))
              show V G K 6 0 0 96 [some (.ref m), some (.int (nI (nuN s k))), some (.int (nI k)), some (.int (nI n1)), some (.int (nI b)), some (.int (nI (svn (sSh s k) b)))] [.int (nI (n1 + 1 + dgc b)), .ref m, .ref m] [(m, .inr (13, [.ref nw, .ref bf, .ref sv, .ref hy, .int iS, .int rmb, .int eA, .int fA, .ref tx, .int tyd, .ref li, .int ldd, .int (nI 0), .int siz, .int spt, .int wrg, .int tld, .ref nmb])), (nw, .inl (gI G, 72, .inl σ)), (li, .inl (gI G, 80, .inl u_93))]
              refine V.bipush hC 58 dX13_writeSecret_96 rfl ?_
              refine V.callV (n := 2) (As := [.int (nI (n1 + 1 + dgc b)), .int 58]) (rest := [.ref m]) hC (m_put (kl K) G m nw bf sv hy tx li nmb iS rmb eA fA tyd ldd (nI 0) siz spt wrg tld u_93 (n1 + 1 + dgc b) (by omega) 58) SFk0 SFgo0 gX13_writeSecret_X13_put rfl ⟨rfl, rfl⟩ (by decide +kernel) ⟨by decide, by decide, by decide, by decide⟩ [0, 2] rfl (by decide) (fun _ => rfl) rfl rfl rfl rfl (Nat.le_of_ble_eq_true rfl) dX13_writeSecret_98 (fun r_98 u_98 hp_98 => ?_)
              subst hp_98
              have hm_98 := isM.c (g := upd u_93 (n1 + 1 + dgc b) 58) hm_93 58 (fun j h => pk_un (by omega)) (pk_us.trans (by decide))
              show V G K 6 0 0 101 [some (.ref m), some (.int (nI (nuN s k))), some (.int (nI k)), some (.int (nI n1)), some (.int (nI b)), some (.int (nI (svn (sSh s k) b)))] [.int (nI (n1 + 1 + dgc b + 1)), .ref m] [(m, .inr (13, [.ref nw, .ref bf, .ref sv, .ref hy, .int iS, .int rmb, .int eA, .int fA, .ref tx, .int tyd, .ref li, .int ldd, .int (nI 0), .int siz, .int spt, .int wrg, .int tld, .ref nmb])), (nw, .inl (gI G, 72, .inl σ)), (li, .inl (gI G, 80, .inl (upd u_93 (n1 + 1 + dgc b) 58)))]
              refine V.iload hC (x := nI (svn (sSh s k) b)) dX13_writeSecret_101 rfl ?_
              refine V.callV (n := 2) (As := [.int (nI (n1 + 1 + dgc b + 1)), .int (nI (svn (sSh s k) b))]) (rest := []) hC (m_writesNumber (kl K) G m nw bf sv hy tx li nmb iS rmb eA fA tyd ldd (nI 0) siz spt wrg tld (upd u_93 (n1 + 1 + dgc b) 58) (n1 + 1 + dgc b + 1) (svn (sSh s k) b) (by omega) (by omega)) SFk0 SFgo0 gX13_writeSecret_X13_writesNumber rfl ⟨rfl, rfl⟩ (by decide +kernel) ⟨by decide, by decide, by decide, by decide⟩ [0, 2] rfl (by decide) (fun _ => rfl) rfl rfl rfl rfl (Nat.le_of_ble_eq_true rfl) dX13_writeSecret_103 (fun r_103 u_103 hp_103 => ?_)
              obtain ⟨e_103, ha_103, hb_103⟩ := hp_103
              subst e_103
              have hm_103 := isM.i hm_98 ha_103 hb_103
              have hd_103 : dgc (svn (sSh s k) b) ≤ 2 := dgc_2l (by omega)
              show V G K 6 0 0 106 [some (.ref m), some (.int (nI (nuN s k))), some (.int (nI k)), some (.int (nI n1)), some (.int (nI b)), some (.int (nI (svn (sSh s k) b)))] [.int (nI (n1 + 1 + dgc b + 1 + dgc (svn (sSh s k) b)))] [(m, .inr (13, [.ref nw, .ref bf, .ref sv, .ref hy, .int iS, .int rmb, .int eA, .int fA, .ref tx, .int tyd, .ref li, .int ldd, .int (nI 0), .int siz, .int spt, .int wrg, .int tld, .ref nmb])), (nw, .inl (gI G, 72, .inl σ)), (li, .inl (gI G, 80, .inl u_103))]
              refine V.istore_n hC dX13_writeSecret_106 [some (.ref m), some (.int (nI (nuN s k))), some (.int (nI k)), some (.int (nI (n1 + 1 + dgc b + 1 + dgc (svn (sSh s k) b)))), some (.int (nI b)), some (.int (nI (svn (sSh s k) b)))] (Nat.le_of_ble_eq_true rfl) rfl ?_
              refine V.iincN hC b 1 dX13_writeSecret_107 rfl [some (.ref m), some (.int (nI (nuN s k))), some (.int (nI k)), some (.int (nI (n1 + 1 + dgc b + 1 + dgc (svn (sSh s k) b)))), some (.int (nI (b + 1))), some (.int (nI (svn (sSh s k) b)))] (Nat.le_of_ble_eq_true rfl) rfl rfl rfl ?_
              refine V.goto hC 51 dX13_writeSecret_110 rfl ?_
              refine V.drop 5 (lv' := [some (.ref m), some (.int (nI (nuN s k))), some (.int (nI k)), some (.int (nI (n1 + 1 + dgc b + 1 + dgc (svn (sSh s k) b)))), some (.int (nI (b + 1))), none]) rfl ?_
              exact ih51 (b + 1) (n1 + 1 + dgc b + 1 + dgc (svn (sSh s k) b)) u_103 (by omega) (by omega) (isM.app hm_103 (wS_yes c_74)) (by omega)
            · refine V.iload_n hC (x := nI n1) dX13_writeSecret_77 rfl ?_
              refine V.goto hC 106 dX13_writeSecret_78 rfl ?_
              refine V.istore_n hC dX13_writeSecret_106 [some (.ref m), some (.int (nI (nuN s k))), some (.int (nI k)), some (.int (nI n1)), some (.int (nI b)), some (.int (sSh s k b))] (Nat.le_of_ble_eq_true rfl) rfl ?_
              refine V.iincN hC b 1 dX13_writeSecret_107 rfl [some (.ref m), some (.int (nI (nuN s k))), some (.int (nI k)), some (.int (nI n1)), some (.int (nI (b + 1))), some (.int (sSh s k b))] (Nat.le_of_ble_eq_true rfl) rfl rfl rfl ?_
              refine V.goto hC 51 dX13_writeSecret_110 rfl ?_
              refine V.drop 5 (lv' := [some (.ref m), some (.int (nI (nuN s k))), some (.int (nI k)), some (.int (nI n1)), some (.int (nI (b + 1))), none]) rfl ?_
              exact ih51 (b + 1) n1 lw (by omega) (by omega) (isM.app hm_L (wS_no c_74)) (by omega)
      exact loop51 _ 0 (0 + dgc (nuN s k) + 1 + dgc (sTn s k)) u_44 (Nat.lt_succ_self _) (by omega) (isM.app hm_44 (wS_0 s k)) (by omega)
    · exact absurd c_20 (by decide)

set_option maxHeartbeats 4000000 in
set_option maxRecDepth 100000 in
theorem m_writeNests (l : Launch) (G : Gx) (m nw bf sv hy tx li nmb : Nat) (iS rmb eA fA tyd ldd thr siz spt wrg tld : Int32) (σ : Nat → Int32) (s : ASt) (B : Nat) (hR : Rel σ s) (hI : InvA B s) (hB : B < 2 ^ 30) (lf : Nat → Int32) : Ct l G SF0 yX13_writeNests wsX13_writeNests ({ frames := 2, cells := 0, slots := 0, locals := 47 }) [.ref m] [(m, .inr (13, [.ref nw, .ref bf, .ref sv, .ref hy, .int iS, .int rmb, .int eA, .int fA, .ref tx, .int tyd, .ref li, .int ldd, .int thr, .int siz, .int spt, .int wrg, .int tld, .ref nmb])), (nw, .inl (gI G, 72, .inl σ)), (li, .inl (gI G, 80, .inl lf))] mkI (fun (r : Int32) (u : (Nat → Int32) × Nat) => r = nI u.2 ∧ isM u.1 u.2 (wns s 4)) (fun u : (Nat → Int32) × Nat => [(m, .inr (13, [.ref nw, .ref bf, .ref sv, .ref hy, .int iS, .int rmb, .int eA, .int fA, .ref tx, .int tyd, .ref li, .int (nI u.2), .int 0, .int siz, .int spt, .int wrg, .int tld, .ref nmb])), (nw, .inl (gI G, 72, .inl σ)), (li, .inl (gI G, 80, .inl (u.1)))]) 0 0 := by
  have hb8 := hI.1
  have hs6 := hI.2.1
  refine Ct.ofI (cc := cX13_writeNests) (maxL := 4) (by decide) rfl ⟨by simp [Value.category], Nat.le_of_ble_eq_true rfl⟩ ?_
  intro K hl hC hSF hnm hE
  subst hl
  have q0_ : ∀ w ∈ u_ws RX13 TX13 18, w ∈ wsX13_writeNests := by decide +kernel
  have q1_ : Cond.fieldLink RX13 38 "FeatherSharesModel" "thrown" "I" ∈ wsX13_writeNests := by decide +kernel
  have q2_ : Cond.fieldLink RX13 182 "FeatherSharesModel" "lined" "I" ∈ wsX13_writeNests := by decide +kernel
  have q3_ : Cond.fieldLink RX13 9 "FeatherSharesModel" "now" "[I" ∈ wsX13_writeNests := by decide +kernel
  show V G K 4 0 0 0 [some (.ref m), none, none, none] [] [(m, .inr (13, [.ref nw, .ref bf, .ref sv, .ref hy, .int iS, .int rmb, .int eA, .int fA, .ref tx, .int tyd, .ref li, .int ldd, .int thr, .int siz, .int spt, .int wrg, .int tld, .ref nmb])), (nw, .inl (gI G, 72, .inl σ)), (li, .inl (gI G, 80, .inl lf))]
  refine V.aload_n hC (x := m) dX13_writeNests_0 rfl ?_
  refine V.iconst hC 0 dX13_writeNests_1 rfl ?_
  refine V.putf hC (T := TX13) q0_ tyX13 tyX13_ok nmX13 12 q1_ rfl rfl (0) rfl rfl (by decide) (by simp) rfl rfl dX13_writeNests_2 [(m, .inr (13, [.ref nw, .ref bf, .ref sv, .ref hy, .int iS, .int rmb, .int eA, .int fA, .ref tx, .int tyd, .ref li, .int ldd, .int 0, .int siz, .int spt, .int wrg, .int tld, .ref nmb])), (nw, .inl (gI G, 72, .inl σ)), (li, .inl (gI G, 80, .inl lf))] rfl ?_
  refine V.iconst hC 0 dX13_writeNests_5 rfl ?_
  refine V.istore_n hC dX13_writeNests_6 [some (.ref m), some (.int 0), none, none] (Nat.le_of_ble_eq_true rfl) rfl ?_
  refine V.iconst hC 0 dX13_writeNests_7 rfl ?_
  refine V.istore_n hC dX13_writeNests_8 [some (.ref m), some (.int 0), some (.int 0), none] (Nat.le_of_ble_eq_true rfl) rfl ?_
  have loop9 : ∀ (n : Nat) (i : Nat) (n1 : Nat) (lw : Nat → Int32), 4 - i < n → (i ≤ 4) → (isM lw n1 (wns s i)) → (n1 ≤ 10 * i) → V G K 4 0 0 9 [some (.ref m), some (.int (nI n1)), some (.int (nI i)), none] [] [(m, .inr (13, [.ref nw, .ref bf, .ref sv, .ref hy, .int iS, .int rmb, .int eA, .int fA, .ref tx, .int tyd, .ref li, .int ldd, .int 0, .int siz, .int spt, .int wrg, .int tld, .ref nmb])), (nw, .inl (gI G, 72, .inl σ)), (li, .inl (gI G, 80, .inl lw))] := by
    intro n
    induction n with
    | zero => intro i n1 lw hlt; exact absurd hlt (Nat.not_lt_zero _)
    | succ n ih9 =>
      intro i n1 lw hlt9 hi4 hm_L hq
      refine V.iload_n hC (x := nI i) dX13_writeNests_9 rfl ?_
      refine V.iconst hC 4 dX13_writeNests_10 rfl ?_
      refine V.icmpN_ge hC i 4 77 dX13_writeNests_11 rfl rfl rfl (by omega) (by omega) (fun c_11 => ?_) (fun c_11 => ?_)
      · refine V.aload_n hC (x := m) dX13_writeNests_77 rfl ?_
        refine V.iload_n hC (x := nI n1) dX13_writeNests_78 rfl ?_
        refine V.putf hC (T := TX13) q0_ tyX13 tyX13_ok nmX13 11 q2_ rfl rfl (0) rfl rfl (by decide) (by simp) rfl rfl dX13_writeNests_79 [(m, .inr (13, [.ref nw, .ref bf, .ref sv, .ref hy, .int iS, .int rmb, .int eA, .int fA, .ref tx, .int tyd, .ref li, .int (nI n1), .int 0, .int siz, .int spt, .int wrg, .int tld, .ref nmb])), (nw, .inl (gI G, 72, .inl σ)), (li, .inl (gI G, 80, .inl lw))] rfl ?_
        refine V.iload_n hC (x := nI n1) dX13_writeNests_82 rfl ?_
        exact hE 83 _ (nI n1) (lw, n1) dX13_writeNests_83 rfl ⟨rfl, (by rw [show (4 : Nat) = i by omega]; exact hm_L)⟩
      · refine V.aload_n hC (x := m) dX13_writeNests_14 rfl ?_
        refine V.iload_n hC (x := nI n1) dX13_writeNests_15 rfl ?_
        refine V.bipush hC 91 dX13_writeNests_16 rfl ?_
        refine V.callV (n := 2) (As := [.int (nI n1), .int 91]) (rest := []) hC (m_put (kl K) G m nw bf sv hy tx li nmb iS rmb eA fA tyd ldd 0 siz spt wrg tld lw n1 (by omega) 91) SFk0 SFgo0 gX13_writeNests_X13_put rfl ⟨rfl, rfl⟩ (by decide +kernel) ⟨by decide, by decide, by decide, by decide⟩ [0, 2] rfl (by decide) (fun _ => rfl) rfl rfl rfl rfl (Nat.le_of_ble_eq_true rfl) dX13_writeNests_18 (fun r_18 u_18 hp_18 => ?_)
        subst hp_18
        have hm_18 := isM.c (g := upd lw n1 91) hm_L 91 (fun j h => pk_un (by omega)) (pk_us.trans (by decide))
        show V G K 4 0 0 21 [some (.ref m), some (.int (nI n1)), some (.int (nI i)), none] [.int (nI (n1 + 1))] [(m, .inr (13, [.ref nw, .ref bf, .ref sv, .ref hy, .int iS, .int rmb, .int eA, .int fA, .ref tx, .int tyd, .ref li, .int ldd, .int 0, .int siz, .int spt, .int wrg, .int tld, .ref nmb])), (nw, .inl (gI G, 72, .inl σ)), (li, .inl (gI G, 80, .inl (upd lw n1 91)))]
        refine V.istore_n hC dX13_writeNests_21 [some (.ref m), some (.int (nI (n1 + 1))), some (.int (nI i)), none] (Nat.le_of_ble_eq_true rfl) rfl ?_
        refine V.iconst hC 0 dX13_writeNests_22 rfl ?_
        refine V.istore_n hC dX13_writeNests_23 [some (.ref m), some (.int (nI (n1 + 1))), some (.int (nI i)), some (.int 0)] (Nat.le_of_ble_eq_true rfl) rfl ?_
        have loop24 : ∀ (n : Nat) (b : Nat) (n2 : Nat) (lv2 : Nat → Int32), 8 - b < n → (b ≤ sNb s) → (isM lv2 n2 ((wns s i ++ [91]) ++ wbd (sHm s) (nI i) b)) → (n2 ≤ 10 * i + 1 + b) → V G K 4 0 0 24 [some (.ref m), some (.int (nI n2)), some (.int (nI i)), some (.int (nI b))] [] [(m, .inr (13, [.ref nw, .ref bf, .ref sv, .ref hy, .int iS, .int rmb, .int eA, .int fA, .ref tx, .int tyd, .ref li, .int ldd, .int 0, .int siz, .int spt, .int wrg, .int tld, .ref nmb])), (nw, .inl (gI G, 72, .inl σ)), (li, .inl (gI G, 80, .inl lv2))] := by
          intro n
          induction n with
          | zero => intro b n2 lv2 hlt; exact absurd hlt (Nat.not_lt_zero _)
          | succ n ih24 =>
            intro b n2 lv2 hlt24 hb hm_M hq2
            refine V.iload_n hC (x := nI b) dX13_writeNests_24 rfl ?_
            refine V.aload_n hC (x := m) dX13_writeNests_25 rfl ?_
            refine V.getf hC (T := TX13) q0_ 0 q3_ rfl (0) rfl rfl (by decide) (.ref nw) rfl dX13_writeNests_26 ?_
            refine V.iconst hC 0 dX13_writeNests_29 rfl ?_
            refine V.iald hC dX13_writeNests_30 (1) rfl 0 rfl (by omega) (by decide) ?_
            refine V.topeq (nI (sNb s)) hR.1 ?_
            refine V.icmpN_ge hC b (sNb s) 63 dX13_writeNests_31 rfl rfl rfl (by omega) (by omega) (fun c_31 => ?_) (fun c_31 => ?_)
            · refine V.aload_n hC (x := m) dX13_writeNests_63 rfl ?_
              refine V.iload_n hC (x := nI n2) dX13_writeNests_64 rfl ?_
              refine V.bipush hC 93 dX13_writeNests_65 rfl ?_
              refine V.callV (n := 2) (As := [.int (nI n2), .int 93]) (rest := []) hC (m_put (kl K) G m nw bf sv hy tx li nmb iS rmb eA fA tyd ldd 0 siz spt wrg tld lv2 n2 (by omega) 93) SFk0 SFgo0 gX13_writeNests_X13_put rfl ⟨rfl, rfl⟩ (by decide +kernel) ⟨by decide, by decide, by decide, by decide⟩ [0, 2] rfl (by decide) (fun _ => rfl) rfl rfl rfl rfl (Nat.le_of_ble_eq_true rfl) dX13_writeNests_67 (fun r_67 u_67 hp_67 => ?_)
              subst hp_67
              have hm_67 := isM.c (g := upd lv2 n2 93) hm_M 93 (fun j h => pk_un (by omega)) (pk_us.trans (by decide))
              show V G K 4 0 0 70 [some (.ref m), some (.int (nI n2)), some (.int (nI i)), some (.int (nI b))] [.int (nI (n2 + 1))] [(m, .inr (13, [.ref nw, .ref bf, .ref sv, .ref hy, .int iS, .int rmb, .int eA, .int fA, .ref tx, .int tyd, .ref li, .int ldd, .int 0, .int siz, .int spt, .int wrg, .int tld, .ref nmb])), (nw, .inl (gI G, 72, .inl σ)), (li, .inl (gI G, 80, .inl (upd lv2 n2 93)))]
              refine V.istore_n hC dX13_writeNests_70 [some (.ref m), some (.int (nI (n2 + 1))), some (.int (nI i)), some (.int (nI b))] (Nat.le_of_ble_eq_true rfl) rfl ?_
              refine V.iincN hC i 1 dX13_writeNests_71 rfl [some (.ref m), some (.int (nI (n2 + 1))), some (.int (nI (i + 1))), some (.int (nI b))] (Nat.le_of_ble_eq_true rfl) rfl rfl rfl ?_
              refine V.goto hC 9 dX13_writeNests_74 rfl ?_
              refine V.drop 3 (lv' := [some (.ref m), some (.int (nI (n2 + 1))), some (.int (nI (i + 1))), none]) rfl ?_
              exact ih9 (i + 1) (n2 + 1) (upd lv2 n2 93) (by omega) (by omega) (by rw [show b = sNb s by omega] at hm_67; exact hm_67) (by omega)
            · refine V.aload_n hC (x := m) dX13_writeNests_34 rfl ?_
              refine V.getf hC (T := TX13) q0_ 0 q3_ rfl (0) rfl rfl (by decide) (.ref nw) rfl dX13_writeNests_35 ?_
              refine V.iconst hC 4 dX13_writeNests_38 rfl ?_
              refine V.iload_n hC (x := nI b) dX13_writeNests_39 rfl ?_
              refine V.iaddN hC 4 b dX13_writeNests_40 rfl rfl ?_
              refine V.iald hC dX13_writeNests_41 (1) rfl (4 + b) rfl (by omega) (by decide) ?_
              refine V.topeq (sHm s b) (hR.2.2.2.2.1 b c_31) ?_
              refine V.iload_n hC (x := nI i) dX13_writeNests_42 rfl ?_
              refine V.icmp_ne hC 55 dX13_writeNests_43 rfl (fun c_43 => ?_) (fun c_43 => ?_)
              · refine V.iload_n hC (x := nI n2) dX13_writeNests_55 rfl ?_
                refine V.istore_n hC dX13_writeNests_56 [some (.ref m), some (.int (nI n2)), some (.int (nI i)), some (.int (nI b))] (Nat.le_of_ble_eq_true rfl) rfl ?_
                refine V.iincN hC b 1 dX13_writeNests_57 rfl [some (.ref m), some (.int (nI n2)), some (.int (nI i)), some (.int (nI (b + 1)))] (Nat.le_of_ble_eq_true rfl) rfl rfl rfl ?_
                refine V.goto hC 24 dX13_writeNests_60 rfl ?_
                exact ih24 (b + 1) n2 lv2 (by omega) (by omega) (isM.app hm_M (wbd_n _ c_43)) (by omega)
              · refine V.aload_n hC (x := m) dX13_writeNests_46 rfl ?_
                refine V.iload_n hC (x := nI n2) dX13_writeNests_47 rfl ?_
                refine V.iload_n hC (x := nI b) dX13_writeNests_48 rfl ?_
                refine V.callV (n := 2) (As := [.int (nI n2), .int (nI b)]) (rest := []) hC (m_writesNumber (kl K) G m nw bf sv hy tx li nmb iS rmb eA fA tyd ldd 0 siz spt wrg tld lv2 n2 b (by omega) (by omega)) SFk0 SFgo0 gX13_writeNests_X13_writesNumber rfl ⟨rfl, rfl⟩ (by decide +kernel) ⟨by decide, by decide, by decide, by decide⟩ [0, 2] rfl (by decide) (fun _ => rfl) rfl rfl rfl rfl (Nat.le_of_ble_eq_true rfl) dX13_writeNests_49 (fun r_49 u_49 hp_49 => ?_)
                obtain ⟨e_49, ha_49, hb_49⟩ := hp_49
                subst e_49
                have hm_49 := isM.i hm_M ha_49 hb_49
                have hd_49 : dgc b ≤ 1 := Nat.le_of_eq (dgc_1 (by omega))
                show V G K 4 0 0 52 [some (.ref m), some (.int (nI n2)), some (.int (nI i)), some (.int (nI b))] [.int (nI (n2 + dgc b))] [(m, .inr (13, [.ref nw, .ref bf, .ref sv, .ref hy, .int iS, .int rmb, .int eA, .int fA, .ref tx, .int tyd, .ref li, .int ldd, .int 0, .int siz, .int spt, .int wrg, .int tld, .ref nmb])), (nw, .inl (gI G, 72, .inl σ)), (li, .inl (gI G, 80, .inl u_49))]
                refine V.goto hC 56 dX13_writeNests_52 rfl ?_
                refine V.istore_n hC dX13_writeNests_56 [some (.ref m), some (.int (nI (n2 + dgc b))), some (.int (nI i)), some (.int (nI b))] (Nat.le_of_ble_eq_true rfl) rfl ?_
                refine V.iincN hC b 1 dX13_writeNests_57 rfl [some (.ref m), some (.int (nI (n2 + dgc b))), some (.int (nI i)), some (.int (nI (b + 1)))] (Nat.le_of_ble_eq_true rfl) rfl rfl rfl ?_
                refine V.goto hC 24 dX13_writeNests_60 rfl ?_
                exact ih24 (b + 1) (n2 + dgc b) u_49 (by omega) (by omega) (isM.app hm_49 (wbd_y _ c_43)) (by omega)
        exact loop24 _ 0 (n1 + 1) (upd lw n1 91) (Nat.lt_succ_self _) (by omega) (isM.app hm_18 (by simp [wbd])) (by omega)
  exact loop9 _ 0 0 lf (Nat.lt_succ_self _) (by omega) (isM.nil lf) (by omega)

set_option maxHeartbeats 4000000 in
set_option maxRecDepth 100000 in
theorem m_outputAtN (l : Launch) (G : Gx) (m nw bf sv hy tx li nmb : Nat) (iS rmb eA fA tyd thr siz spt wrg tld : Int32) (q : Nat) (hq : q ≤ 80) (lf : Nat → Int32) (x : Int32) (hx : ¬ (¬ x < 0 ∧ x < nI q)) : Ct l G SF0 yX13_outputAt wsX13_outputAt ({ frames := 2, cells := 0, slots := 0, locals := 45 }) [.ref m, .int x] [(m, .inr (13, [.ref nw, .ref bf, .ref sv, .ref hy, .int iS, .int rmb, .int eA, .int fA, .ref tx, .int tyd, .ref li, .int (nI q), .int thr, .int siz, .int spt, .int wrg, .int tld, .ref nmb])), (li, .inl (gI G, 80, .inl lf))] mkI (fun (r : Int32) (_ : Unit) => r = 0) (fun _ : Unit => [(m, .inr (13, [.ref nw, .ref bf, .ref sv, .ref hy, .int iS, .int rmb, .int eA, .int fA, .ref tx, .int tyd, .ref li, .int (nI q), .int (nI 1), .int siz, .int spt, .int wrg, .int tld, .ref nmb])), (li, .inl (gI G, 80, .inl lf))]) 0 0 := by
  refine Ct.ofI (cc := cX13_outputAt) (maxL := 2) (by decide) rfl ⟨by simp [Value.category], Nat.le_of_ble_eq_true rfl⟩ ?_
  intro K hl hC hSF hnm hE
  subst hl
  have q0_ : ∀ w ∈ u_ws RX13 TX13 18, w ∈ wsX13_outputAt := by decide +kernel
  have q1_ : Cond.fieldLink RX13 182 "FeatherSharesModel" "lined" "I" ∈ wsX13_outputAt := by decide +kernel
  show V G K 2 0 0 0 [some (.ref m), some (.int x)] [] [(m, .inr (13, [.ref nw, .ref bf, .ref sv, .ref hy, .int iS, .int rmb, .int eA, .int fA, .ref tx, .int tyd, .ref li, .int (nI q), .int thr, .int siz, .int spt, .int wrg, .int tld, .ref nmb])), (li, .inl (gI G, 80, .inl lf))]
  refine V.aload_n hC (x := m) dX13_outputAt_0 rfl ?_
  refine V.iload_n hC (x := x) dX13_outputAt_1 rfl ?_
  refine V.iconst hC 0 dX13_outputAt_2 rfl ?_
  refine V.aload_n hC (x := m) dX13_outputAt_3 rfl ?_
  refine V.getf hC (T := TX13) q0_ 11 q1_ rfl (0) rfl rfl (by decide) (.int (nI q)) rfl dX13_outputAt_4 ?_
  refine V.iconst hC 1 dX13_outputAt_7 rfl ?_
  refine V.isub hC dX13_outputAt_8 ?_
  refine V.callSr (n := 3) (As := [.int x, .int 0, .int ((nI q) - 1)]) (rest := [.ref m]) hC (m_isIn (kl K) G x 0 (nI q - 1)) SFk0 SFgo0 gX13_outputAt_X13_isIn rfl ⟨rfl, rfl⟩ (by decide +kernel) ⟨by decide, by decide, by decide, by decide⟩ [] rfl (by decide) rfl rfl (Nat.le_of_ble_eq_true rfl) dX13_outputAt_9 (fun r_9 u_9 hp_9 => ?_)
  subst hp_9
  show V G K 2 0 0 12 [some (.ref m), some (.int x)] [.int (if ¬ x < 0 ∧ ¬ nI q - 1 < x then 1 else 0), .ref m] [(m, .inr (13, [.ref nw, .ref bf, .ref sv, .ref hy, .int iS, .int rmb, .int eA, .int fA, .ref tx, .int tyd, .ref li, .int (nI q), .int thr, .int siz, .int spt, .int wrg, .int tld, .ref nmb])), (li, .inl (gI G, 80, .inl lf))]
  refine V.topeq (nI 0) (if_neg (fun z => hx ((bird_iffG (by omega)).mp z))) ?_
  refine V.callV (n := 1) (As := [.int (nI 0)]) (rest := []) hC (m_goes (kl K) G m nw bf sv hy tx li nmb iS rmb eA fA tyd (nI q) thr siz spt wrg tld (nI 0)) SFk0 SFgo0 gX13_outputAt_X13_goes rfl ⟨rfl, rfl⟩ (by decide +kernel) ⟨by decide, by decide, by decide, by decide⟩ [0] rfl (by decide) (fun _ => rfl) rfl rfl rfl rfl (Nat.le_of_ble_eq_true rfl) dX13_outputAt_12 (fun r_12 u_12 hp_12 => ?_)
  subst hp_12
  show V G K 2 0 0 15 [some (.ref m), some (.int x)] [.int (if alw (nI 0) 1 1 1 = 0 then 1 else 0)] [(m, .inr (13, [.ref nw, .ref bf, .ref sv, .ref hy, .int iS, .int rmb, .int eA, .int fA, .ref tx, .int tyd, .ref li, .int (nI q), .int (nI (alw (nI 0) 1 1 1)), .int siz, .int spt, .int wrg, .int tld, .ref nmb])), (li, .inl (gI G, 80, .inl lf))]
  have ha_12 : alw (nI 0) 1 1 1 = 1 := by rfl
  refine V.topeq (nI 0) (by rw [ha_12]; rfl) ?_
  refine V.eqw (ws' := [(m, .inr (13, [.ref nw, .ref bf, .ref sv, .ref hy, .int iS, .int rmb, .int eA, .int fA, .ref tx, .int tyd, .ref li, .int (nI q), .int (nI 1), .int siz, .int spt, .int wrg, .int tld, .ref nmb])), (li, .inl (gI G, 80, .inl lf))]) (by rw [ha_12]) ?_
  refine V.ifN_eq hC 0 28 dX13_outputAt_15 rfl rfl (by omega) (fun c_15 => ?_) (fun c_15 => ?_)
  · refine V.iconst hC 0 dX13_outputAt_28 rfl ?_
    exact hE 29 _ 0 () dX13_outputAt_29 rfl rfl
  · exact absurd c_15 (by decide)

set_option maxHeartbeats 4000000 in
set_option maxRecDepth 100000 in
theorem m_outputAtY (l : Launch) (G : Gx) (m nw bf sv hy tx li nmb : Nat) (iS rmb eA fA tyd thr siz spt wrg tld : Int32) (q : Nat) (hq : q ≤ 80) (lf : Nat → Int32) (j c : Nat) (hj : j < q) (hc : c < 128) (hl : lf j = nI c) : Ct l G SF0 yX13_outputAt wsX13_outputAt ({ frames := 2, cells := 0, slots := 0, locals := 45 }) [.ref m, .int (nI j)] [(m, .inr (13, [.ref nw, .ref bf, .ref sv, .ref hy, .int iS, .int rmb, .int eA, .int fA, .ref tx, .int tyd, .ref li, .int (nI q), .int thr, .int siz, .int spt, .int wrg, .int tld, .ref nmb])), (li, .inl (gI G, 80, .inl lf))] mkI (fun (r : Int32) (_ : Unit) => r = nI c) (fun _ : Unit => [(m, .inr (13, [.ref nw, .ref bf, .ref sv, .ref hy, .int iS, .int rmb, .int eA, .int fA, .ref tx, .int tyd, .ref li, .int (nI q), .int (nI 0), .int siz, .int spt, .int wrg, .int tld, .ref nmb])), (li, .inl (gI G, 80, .inl lf))]) 0 0 := by
  refine Ct.ofI (cc := cX13_outputAt) (maxL := 2) (by decide) rfl ⟨by simp [Value.category], Nat.le_of_ble_eq_true rfl⟩ ?_
  intro K hl hC hSF hnm hE
  subst hl
  have q0_ : ∀ w ∈ u_ws RX13 TX13 18, w ∈ wsX13_outputAt := by decide +kernel
  have q1_ : Cond.fieldLink RX13 182 "FeatherSharesModel" "lined" "I" ∈ wsX13_outputAt := by decide +kernel
  have q2_ : Cond.fieldLink RX13 32 "FeatherSharesModel" "line" "[I" ∈ wsX13_outputAt := by decide +kernel
  show V G K 2 0 0 0 [some (.ref m), some (.int (nI j))] [] [(m, .inr (13, [.ref nw, .ref bf, .ref sv, .ref hy, .int iS, .int rmb, .int eA, .int fA, .ref tx, .int tyd, .ref li, .int (nI q), .int thr, .int siz, .int spt, .int wrg, .int tld, .ref nmb])), (li, .inl (gI G, 80, .inl lf))]
  refine V.aload_n hC (x := m) dX13_outputAt_0 rfl ?_
  refine V.iload_n hC (x := nI j) dX13_outputAt_1 rfl ?_
  refine V.iconst hC 0 dX13_outputAt_2 rfl ?_
  refine V.aload_n hC (x := m) dX13_outputAt_3 rfl ?_
  refine V.getf hC (T := TX13) q0_ 11 q1_ rfl (0) rfl rfl (by decide) (.int (nI q)) rfl dX13_outputAt_4 ?_
  refine V.iconst hC 1 dX13_outputAt_7 rfl ?_
  refine V.isub hC dX13_outputAt_8 ?_
  refine V.callSr (n := 3) (As := [.int (nI j), .int 0, .int ((nI q) - 1)]) (rest := [.ref m]) hC (m_isIn (kl K) G (nI j) 0 (nI q - 1)) SFk0 SFgo0 gX13_outputAt_X13_isIn rfl ⟨rfl, rfl⟩ (by decide +kernel) ⟨by decide, by decide, by decide, by decide⟩ [] rfl (by decide) rfl rfl (Nat.le_of_ble_eq_true rfl) dX13_outputAt_9 (fun r_9 u_9 hp_9 => ?_)
  subst hp_9
  show V G K 2 0 0 12 [some (.ref m), some (.int (nI j))] [.int (if ¬ nI j < 0 ∧ ¬ nI q - 1 < nI j then 1 else 0), .ref m] [(m, .inr (13, [.ref nw, .ref bf, .ref sv, .ref hy, .int iS, .int rmb, .int eA, .int fA, .ref tx, .int tyd, .ref li, .int (nI q), .int thr, .int siz, .int spt, .int wrg, .int tld, .ref nmb])), (li, .inl (gI G, 80, .inl lf))]
  refine V.topeq (nI 1) (if_pos ((bird_iffG (by omega)).mpr ⟨nI_nn (by omega), nI_lt hj (by omega)⟩)) ?_
  refine V.callV (n := 1) (As := [.int (nI 1)]) (rest := []) hC (m_goes (kl K) G m nw bf sv hy tx li nmb iS rmb eA fA tyd (nI q) thr siz spt wrg tld (nI 1)) SFk0 SFgo0 gX13_outputAt_X13_goes rfl ⟨rfl, rfl⟩ (by decide +kernel) ⟨by decide, by decide, by decide, by decide⟩ [0] rfl (by decide) (fun _ => rfl) rfl rfl rfl rfl (Nat.le_of_ble_eq_true rfl) dX13_outputAt_12 (fun r_12 u_12 hp_12 => ?_)
  subst hp_12
  show V G K 2 0 0 15 [some (.ref m), some (.int (nI j))] [.int (if alw (nI 1) 1 1 1 = 0 then 1 else 0)] [(m, .inr (13, [.ref nw, .ref bf, .ref sv, .ref hy, .int iS, .int rmb, .int eA, .int fA, .ref tx, .int tyd, .ref li, .int (nI q), .int (nI (alw (nI 1) 1 1 1)), .int siz, .int spt, .int wrg, .int tld, .ref nmb])), (li, .inl (gI G, 80, .inl lf))]
  have ha_12 : alw (nI 1) 1 1 1 = 0 := by rfl
  refine V.topeq (nI 1) (by rw [ha_12]; rfl) ?_
  refine V.eqw (ws' := [(m, .inr (13, [.ref nw, .ref bf, .ref sv, .ref hy, .int iS, .int rmb, .int eA, .int fA, .ref tx, .int tyd, .ref li, .int (nI q), .int (nI 0), .int siz, .int spt, .int wrg, .int tld, .ref nmb])), (li, .inl (gI G, 80, .inl lf))]) (by rw [ha_12]) ?_
  refine V.ifN_eq hC 1 28 dX13_outputAt_15 rfl rfl (by omega) (fun c_15 => ?_) (fun c_15 => ?_)
  · exact absurd c_15 (by decide)
  · refine V.aload_n hC (x := m) dX13_outputAt_18 rfl ?_
    refine V.getf hC (T := TX13) q0_ 10 q2_ rfl (0) rfl rfl (by decide) (.ref li) rfl dX13_outputAt_19 ?_
    refine V.iload_n hC (x := nI j) dX13_outputAt_22 rfl ?_
    refine V.iald hC dX13_outputAt_23 (1) rfl j rfl (by omega) (by decide) ?_
    refine V.topeq (nI c) hl ?_
    refine V.i2c hC dX13_outputAt_24 ?_
    refine V.topeq (nI c) (i2c_c c hc) ?_
    refine V.goto hC 29 dX13_outputAt_25 rfl ?_
    exact hE 29 _ (nI c) () dX13_outputAt_29 (asc_nar hc) rfl
