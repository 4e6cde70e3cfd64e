/-! the document's model: copies, history (printed by gen/s68.py) -/
/-- k places of f from a on, put into g from i on -/
def cpN (f g : Nat → Int32) (a i k : Nat) : Nat → Int32 := fun j => if i ≤ j ∧ j < i + k then f (a + (j - i)) else g j
theorem cpN_0 (f g : Nat → Int32) (a i : Nat) : g = cpN f g a i 0 := by
  funext j
  exact (if_neg (by omega)).symm
theorem cpN_s (f g : Nat → Int32) (a i k : Nat) : upd (cpN f g a i k) (i + k) (f (a + k)) = cpN f g a i (k + 1) := by
  funext j
  by_cases e : j = i + k
  · subst e
    rw [pk_us, cpN, if_pos (by omega), show i + k - i = k by omega]
  · rw [pk_un e, cpN, cpN]
    by_cases h : i ≤ j ∧ j < i + k
    · rw [if_pos h, if_pos (by omega)]
    · rw [if_neg h, if_neg (by omega)]
theorem cpN_72 (f g : Nat → Int32) {z : Nat} (h : z < 72) : cpN f g 0 0 72 z = f z := by
  rw [cpN, if_pos (by omega), show 0 + (z - 0) = z by omega]
def shf (η : Nat → Int32) (k : Nat) : Nat → Int32 := fun j => if j < k then η (j + 72) else η j
theorem shf_s (η : Nat → Int32) (k : Nat) : upd (shf η k) k (shf η k (k + 72)) = shf η (k + 1) := by
  funext j
  by_cases e : j = k
  · subst e
    rw [pk_us, shf, if_neg (by omega), shf, if_pos (by omega)]
  · rw [pk_un e, shf, shf]
    by_cases h : j < k
    · rw [if_pos h, if_pos (by omega)]
    · rw [if_neg h, if_neg (by omega)]
/-- the history behind a remembering -/
def rmh (β η : Nat → Int32) (r : Nat) : Nat → Int32 := if r < 8 then cpN β η 0 (r * 72) 72 else cpN β (shf η 504) 0 (7 * 72) 72
set_option maxHeartbeats 4000000 in
set_option maxRecDepth 100000 in
theorem m_copies (l : Launch) (G : Gx) (fa ta : Nat) (f g : Nat → Int32) (n1 n2 a i : Nat) (h1 : a + 72 ≤ n1) (h2 : i + 72 ≤ n2) (h3 : n1 < 1000) (h4 : n2 < 1000) : Ct l G SF0 yX13_copies wsX13_copies ({ frames := 0, cells := 0, slots := 0, locals := 0 }) [.ref fa, .int (nI a), .ref ta, .int (nI i)] [(fa, .inl (gI G, n1, .inl f)), (ta, .inl (gI G, n2, .inl g))] mkV (fun (_ : Unit) (_ : Unit) => True) (fun _ : Unit => [(fa, .inl (gI G, n1, .inl f)), (ta, .inl (gI G, n2, .inl (cpN f g a i 72)))]) 0 0 := by
  refine Ct.ofV (cc := cX13_copies) (maxL := 5) (by decide) rfl ⟨by simp [Value.category], Nat.le_of_ble_eq_true rfl⟩ ?_
  intro K hl hC hSF hnm hE
  subst hl
  show V G K 5 0 0 0 [some (.ref fa), some (.int (nI a)), some (.ref ta), some (.int (nI i)), none] [] [(fa, .inl (gI G, n1, .inl f)), (ta, .inl (gI G, n2, .inl g))]
  refine V.iconst hC 0 dX13_copies_0 rfl ?_
  refine V.ext (1) (g := (cpN f g a i 0)) rfl (fun z _ => congrFun (show g = (cpN f g a i 0) from cpN_0 f g a i) z) (ws' := [(fa, .inl (gI G, n1, .inl f)), (ta, .inl (gI G, n2, .inl (cpN f g a i 0)))]) rfl ?_
  refine V.istore hC dX13_copies_1 [some (.ref fa), some (.int (nI a)), some (.ref ta), some (.int (nI i)), some (.int 0)] (Nat.le_of_ble_eq_true rfl) rfl ?_
  have loop3 : ∀ (n : Nat) (k : Nat), 72 - k < n → (k ≤ 72) → V G K 5 0 0 3 [some (.ref fa), some (.int (nI a)), some (.ref ta), some (.int (nI i)), some (.int (nI k))] [] [(fa, .inl (gI G, n1, .inl f)), (ta, .inl (gI G, n2, .inl (cpN f g a i k)))] := by
    intro n
    induction n with
    | zero => intro k hlt; exact absurd hlt (Nat.not_lt_zero _)
    | succ n ih3 =>
      intro k hlt3 hk
      refine V.iload hC (x := nI k) dX13_copies_3 rfl ?_
      refine V.bipush hC 72 dX13_copies_5 rfl ?_
      refine V.icmpN_ge hC k 72 28 dX13_copies_7 rfl rfl rfl (by omega) (by omega) (fun c_7 => ?_) (fun c_7 => ?_)
      · refine V.ext (1) (g := (cpN f g a i 72)) rfl (fun z _ => congrFun (show (cpN f g a i k) = (cpN f g a i 72) from (by rw [show k = 72 by omega])) z) (ws' := [(fa, .inl (gI G, n1, .inl f)), (ta, .inl (gI G, n2, .inl (cpN f g a i 72)))]) rfl ?_
        exact hE 28 _ () dX13_copies_28 trivial
      · refine V.aload_n hC (x := ta) dX13_copies_10 rfl ?_
        refine V.iload_n hC (x := nI i) dX13_copies_11 rfl ?_
        refine V.iload hC (x := nI k) dX13_copies_12 rfl ?_
        refine V.iaddN hC i k dX13_copies_14 rfl rfl ?_
        refine V.aload_n hC (x := fa) dX13_copies_15 rfl ?_
        refine V.iload_n hC (x := nI a) dX13_copies_16 rfl ?_
        refine V.iload hC (x := nI k) dX13_copies_17 rfl ?_
        refine V.iaddN hC a k dX13_copies_19 rfl rfl ?_
        refine V.iald hC dX13_copies_20 (0) rfl (a + k) rfl (by omega) (by omega) ?_
        refine V.iast hC dX13_copies_21 (1) rfl (i + k) rfl (by omega) (by omega) [(fa, .inl (gI G, n1, .inl f)), (ta, .inl (gI G, n2, .inl (upd (cpN f g a i k) (i + k) (f (a + k)))))] rfl ?_
        refine V.ext (1) (g := (cpN f g a i (k + 1))) rfl (fun z _ => congrFun (show upd (cpN f g a i k) (i + k) (f (a + k)) = (cpN f g a i (k + 1)) from cpN_s f g a i k) z) (ws' := [(fa, .inl (gI G, n1, .inl f)), (ta, .inl (gI G, n2, .inl (cpN f g a i (k + 1))))]) rfl ?_
        refine V.iincN hC k 1 dX13_copies_22 rfl [some (.ref fa), some (.int (nI a)), some (.ref ta), some (.int (nI i)), some (.int (nI (k + 1)))] (Nat.le_of_ble_eq_true rfl) rfl rfl rfl ?_
        refine V.goto hC 3 dX13_copies_25 rfl ?_
        exact ih3 (k + 1) (by omega) (by omega)
  exact loop3 _ 0 (Nat.lt_succ_self _) (by omega)

set_option maxHeartbeats 4000000 in
set_option maxRecDepth 100000 in
theorem m_begins (l : Launch) (G : Gx) (m nw bf sv hy tx li nmb : Nat) (iS rmb eA fA tyd ldd thr siz spt wrg tld : Int32) (σ β : Nat → Int32) : Ct l G SF0 yX13_begins wsX13_begins ({ frames := 1, cells := 0, slots := 0, locals := 24 }) [.ref m] [(m, .inr (13, [.ref nw, .ref bf, .ref sv, .ref hy, .int iS, .int rmb, .int eA, .int fA, .ref tx, .int tyd, .ref li, .int ldd, .int thr, .int siz, .int spt, .int wrg, .int tld, .ref nmb])), (nw, .inl (gI G, 72, .inl σ)), (bf, .inl (gI G, 72, .inl β))] mkV (fun (_ : Unit) (_ : Unit) => True) (fun _ : Unit => [(m, .inr (13, [.ref nw, .ref bf, .ref sv, .ref hy, .int iS, .int rmb, .int eA, .int fA, .ref tx, .int tyd, .ref li, .int ldd, .int thr, .int siz, .int spt, .int wrg, .int tld, .ref nmb])), (nw, .inl (gI G, 72, .inl σ)), (bf, .inl (gI G, 72, .inl σ))]) 0 0 := by
  refine Ct.ofV (cc := cX13_begins) (maxL := 1) (by decide) rfl ⟨by simp [Value.category], Nat.le_of_ble_eq_true rfl⟩ ?_
  intro K hl hC hSF hnm hE
  subst hl
  have q0_ : ∀ w ∈ u_ws RX13 TX13 18, w ∈ wsX13_begins := by decide +kernel
  have q1_ : Cond.fieldLink RX13 9 "FeatherSharesModel" "now" "[I" ∈ wsX13_begins := by decide +kernel
  have q2_ : Cond.fieldLink RX13 13 "FeatherSharesModel" "before" "[I" ∈ wsX13_begins := by decide +kernel
  show V G K 1 0 0 0 [some (.ref m)] [] [(m, .inr (13, [.ref nw, .ref bf, .ref sv, .ref hy, .int iS, .int rmb, .int eA, .int fA, .ref tx, .int tyd, .ref li, .int ldd, .int thr, .int siz, .int spt, .int wrg, .int tld, .ref nmb])), (nw, .inl (gI G, 72, .inl σ)), (bf, .inl (gI G, 72, .inl β))]
  refine V.aload_n hC (x := m) dX13_begins_0 rfl ?_
  refine V.getf hC (T := TX13) q0_ 0 q1_ rfl (0) rfl rfl (by decide) (.ref nw) rfl dX13_begins_1 ?_
  refine V.iconst hC 0 dX13_begins_4 rfl ?_
  refine V.aload_n hC (x := m) dX13_begins_5 rfl ?_
  refine V.getf hC (T := TX13) q0_ 1 q2_ rfl (0) rfl rfl (by decide) (.ref bf) rfl dX13_begins_6 ?_
  refine V.iconst hC 0 dX13_begins_9 rfl ?_
  refine V.callS (n := 4) (As := [.ref nw, .int 0, .ref bf, .int 0]) (rest := []) hC (m_copies (kl K) G nw bf σ β 72 72 0 0 (by decide) (by decide) (by decide) (by decide)) SFk0 SFgo0 gX13_begins_X13_copies rfl ⟨rfl, rfl⟩ (by decide +kernel) ⟨by decide, by decide, by decide, by decide⟩ [1, 2] rfl (by decide) (fun _ => rfl) rfl rfl (Nat.le_of_ble_eq_true rfl) dX13_begins_10 (fun r_10 u_10 hp_10 => ?_)
  show V G K 1 0 0 13 [some (.ref m)] [] [(m, .inr (13, [.ref nw, .ref bf, .ref sv, .ref hy, .int iS, .int rmb, .int eA, .int fA, .ref tx, .int tyd, .ref li, .int ldd, .int thr, .int siz, .int spt, .int wrg, .int tld, .ref nmb])), (nw, .inl (gI G, 72, .inl σ)), (bf, .inl (gI G, 72, .inl (cpN σ β 0 0 72)))]
  refine V.ext (2) (g := σ) rfl ((fun z hz => cpN_72 _ _ hz)) (ws' := [(m, .inr (13, [.ref nw, .ref bf, .ref sv, .ref hy, .int iS, .int rmb, .int eA, .int fA, .ref tx, .int tyd, .ref li, .int ldd, .int thr, .int siz, .int spt, .int wrg, .int tld, .ref nmb])), (nw, .inl (gI G, 72, .inl σ)), (bf, .inl (gI G, 72, .inl σ))]) rfl ?_
  exact hE 13 _ () dX13_begins_13 trivial

set_option maxHeartbeats 4000000 in
set_option maxRecDepth 100000 in
theorem m_remembers (l : Launch) (G : Gx) (m nw bf sv hy tx li nmb : Nat) (iS eA fA tyd ldd thr siz spt wrg tld : Int32) (r : Nat) (hr : r ≤ 8) (β η : Nat → Int32) : Ct l G SF0 yX13_remembers wsX13_remembers ({ frames := 1, cells := 0, slots := 0, locals := 24 }) [.ref m] [(m, .inr (13, [.ref nw, .ref bf, .ref sv, .ref hy, .int iS, .int (nI r), .int eA, .int fA, .ref tx, .int tyd, .ref li, .int ldd, .int thr, .int siz, .int spt, .int wrg, .int tld, .ref nmb])), (bf, .inl (gI G, 72, .inl β)), (hy, .inl (gI G, 576, .inl η))] mkV (fun (_ : Unit) (_ : Unit) => True) (fun _ : Unit => [(m, .inr (13, [.ref nw, .ref bf, .ref sv, .ref hy, .int iS, .int (nI (min (r + 1) 8)), .int eA, .int fA, .ref tx, .int tyd, .ref li, .int ldd, .int thr, .int siz, .int spt, .int wrg, .int tld, .ref nmb])), (bf, .inl (gI G, 72, .inl β)), (hy, .inl (gI G, 576, .inl (rmh β η r)))]) 0 0 := by
  refine Ct.ofV (cc := cX13_remembers) (maxL := 2) (by decide) rfl ⟨by simp [Value.category], Nat.le_of_ble_eq_true rfl⟩ ?_
  intro K hl hC hSF hnm hE
  subst hl
  have q0_ : ∀ w ∈ u_ws RX13 TX13 18, w ∈ wsX13_remembers := by decide +kernel
  have q1_ : Cond.fieldLink RX13 49 "FeatherSharesModel" "remembered" "I" ∈ wsX13_remembers := by decide +kernel
  have q2_ : Cond.fieldLink RX13 13 "FeatherSharesModel" "before" "[I" ∈ wsX13_remembers := by decide +kernel
  have q3_ : Cond.fieldLink RX13 19 "FeatherSharesModel" "history" "[I" ∈ wsX13_remembers := by decide +kernel
  show V G K 2 0 0 0 [some (.ref m), none] [] [(m, .inr (13, [.ref nw, .ref bf, .ref sv, .ref hy, .int iS, .int (nI r), .int eA, .int fA, .ref tx, .int tyd, .ref li, .int ldd, .int thr, .int siz, .int spt, .int wrg, .int tld, .ref nmb])), (bf, .inl (gI G, 72, .inl β)), (hy, .inl (gI G, 576, .inl η))]
  refine V.aload_n hC (x := m) dX13_remembers_0 rfl ?_
  refine V.getf hC (T := TX13) q0_ 5 q1_ rfl (0) rfl rfl (by decide) (.int (nI r)) rfl dX13_remembers_1 ?_
  refine V.bipush hC 8 dX13_remembers_4 rfl ?_
  refine V.icmpN_ne hC r 8 49 dX13_remembers_6 rfl rfl rfl (by omega) (by omega) (fun c_6 => ?_) (fun c_6 => ?_)
  · refine V.aload_n hC (x := m) dX13_remembers_49 rfl ?_
    refine V.getf hC (T := TX13) q0_ 1 q2_ rfl (0) rfl rfl (by decide) (.ref bf) rfl dX13_remembers_50 ?_
    refine V.iconst hC 0 dX13_remembers_53 rfl ?_
    refine V.aload_n hC (x := m) dX13_remembers_54 rfl ?_
    refine V.getf hC (T := TX13) q0_ 3 q3_ rfl (0) rfl rfl (by decide) (.ref hy) rfl dX13_remembers_55 ?_
    refine V.aload_n hC (x := m) dX13_remembers_58 rfl ?_
    refine V.getf hC (T := TX13) q0_ 5 q1_ rfl (0) rfl rfl (by decide) (.int (nI r)) rfl dX13_remembers_59 ?_
    refine V.bipush hC 72 dX13_remembers_62 rfl ?_
    refine V.imulN hC r 72 dX13_remembers_64 rfl rfl ?_
    refine V.callS (n := 4) (As := [.ref bf, .int 0, .ref hy, .int (nI (r * 72))]) (rest := []) hC (m_copies (kl K) G bf hy β η 72 576 0 (r * 72) (by decide) (by omega) (by decide) (by decide)) SFk0 SFgo0 gX13_remembers_X13_copies rfl ⟨rfl, rfl⟩ (by decide +kernel) ⟨by decide, by decide, by decide, by decide⟩ [1, 2] rfl (by decide) (fun _ => rfl) rfl rfl (Nat.le_of_ble_eq_true rfl) dX13_remembers_65 (fun r_65 u_65 hp_65 => ?_)
    show V G K 2 0 0 68 [some (.ref m), none] [] [(m, .inr (13, [.ref nw, .ref bf, .ref sv, .ref hy, .int iS, .int (nI r), .int eA, .int fA, .ref tx, .int tyd, .ref li, .int ldd, .int thr, .int siz, .int spt, .int wrg, .int tld, .ref nmb])), (bf, .inl (gI G, 72, .inl β)), (hy, .inl (gI G, 576, .inl (cpN β η 0 (r * 72) 72)))]
    refine V.aload_n hC (x := m) dX13_remembers_68 rfl ?_
    refine V.dup hC dX13_remembers_69 rfl ?_
    refine V.getf hC (T := TX13) q0_ 5 q1_ rfl (0) rfl rfl (by decide) (.int (nI r)) rfl dX13_remembers_70 ?_
    refine V.iconst hC 1 dX13_remembers_73 rfl ?_
    refine V.iaddN hC r 1 dX13_remembers_74 rfl rfl ?_
    refine V.putf hC (T := TX13) q0_ tyX13 tyX13_ok nmX13 5 q1_ rfl rfl (0) rfl rfl (by decide) (by simp) rfl rfl dX13_remembers_75 [(m, .inr (13, [.ref nw, .ref bf, .ref sv, .ref hy, .int iS, .int (nI (r + 1)), .int eA, .int fA, .ref tx, .int tyd, .ref li, .int ldd, .int thr, .int siz, .int spt, .int wrg, .int tld, .ref nmb])), (bf, .inl (gI G, 72, .inl β)), (hy, .inl (gI G, 576, .inl (cpN β η 0 (r * 72) 72)))] rfl ?_
    refine V.eqw (ws' := [(m, .inr (13, [.ref nw, .ref bf, .ref sv, .ref hy, .int iS, .int (nI (min (r + 1) 8)), .int eA, .int fA, .ref tx, .int tyd, .ref li, .int ldd, .int thr, .int siz, .int spt, .int wrg, .int tld, .ref nmb])), (bf, .inl (gI G, 72, .inl β)), (hy, .inl (gI G, 576, .inl (rmh β η r)))]) (by rw [rmh, if_pos (by omega), show min (r + 1) 8 = r + 1 by omega]) ?_
    exact hE 78 _ () dX13_remembers_78 trivial
  · refine V.iconst hC 0 dX13_remembers_9 rfl ?_
    refine V.ext (2) (g := (shf η 0)) rfl (fun z _ => congrFun (show η = (shf η 0) from (funext fun j => (if_neg (Nat.not_lt_zero j)).symm)) z) (ws' := [(m, .inr (13, [.ref nw, .ref bf, .ref sv, .ref hy, .int iS, .int (nI r), .int eA, .int fA, .ref tx, .int tyd, .ref li, .int ldd, .int thr, .int siz, .int spt, .int wrg, .int tld, .ref nmb])), (bf, .inl (gI G, 72, .inl β)), (hy, .inl (gI G, 576, .inl (shf η 0)))]) rfl ?_
    refine V.istore_n hC dX13_remembers_10 [some (.ref m), some (.int 0)] (Nat.le_of_ble_eq_true rfl) rfl ?_
    have loop11 : ∀ (n : Nat) (k : Nat), 504 - k < n → (k ≤ 504) → V G K 2 0 0 11 [some (.ref m), some (.int (nI k))] [] [(m, .inr (13, [.ref nw, .ref bf, .ref sv, .ref hy, .int iS, .int (nI r), .int eA, .int fA, .ref tx, .int tyd, .ref li, .int ldd, .int thr, .int siz, .int spt, .int wrg, .int tld, .ref nmb])), (bf, .inl (gI G, 72, .inl β)), (hy, .inl (gI G, 576, .inl (shf η k)))] := by
      intro n
      induction n with
      | zero => intro k hlt; exact absurd hlt (Nat.not_lt_zero _)
      | succ n ih11 =>
        intro k hlt11 hk
        refine V.iload_n hC (x := nI k) dX13_remembers_11 rfl ?_
        refine V.sipush hC 504 dX13_remembers_12 rfl ?_
        refine V.icmpN_ge hC k 504 39 dX13_remembers_15 rfl rfl rfl (by omega) (by omega) (fun c_15 => ?_) (fun c_15 => ?_)
        · refine V.ext (2) (g := (shf η 504)) rfl (fun z _ => congrFun (show (shf η k) = (shf η 504) from (by rw [show k = 504 by omega])) z) (ws' := [(m, .inr (13, [.ref nw, .ref bf, .ref sv, .ref hy, .int iS, .int (nI r), .int eA, .int fA, .ref tx, .int tyd, .ref li, .int ldd, .int thr, .int siz, .int spt, .int wrg, .int tld, .ref nmb])), (bf, .inl (gI G, 72, .inl β)), (hy, .inl (gI G, 576, .inl (shf η 504)))]) rfl ?_
          refine V.aload_n hC (x := m) dX13_remembers_39 rfl ?_
          refine V.dup hC dX13_remembers_40 rfl ?_
          refine V.getf hC (T := TX13) q0_ 5 q1_ rfl (0) rfl rfl (by decide) (.int (nI r)) rfl dX13_remembers_41 ?_
          refine V.iconst hC 1 dX13_remembers_44 rfl ?_
          refine V.isub hC dX13_remembers_45 ?_
          refine V.putf hC (T := TX13) q0_ tyX13 tyX13_ok nmX13 5 q1_ rfl rfl (0) rfl rfl (by decide) (by simp) rfl rfl dX13_remembers_46 [(m, .inr (13, [.ref nw, .ref bf, .ref sv, .ref hy, .int iS, .int ((nI r) - 1), .int eA, .int fA, .ref tx, .int tyd, .ref li, .int ldd, .int thr, .int siz, .int spt, .int wrg, .int tld, .ref nmb])), (bf, .inl (gI G, 72, .inl β)), (hy, .inl (gI G, 576, .inl (shf η 504)))] rfl ?_
          refine V.eqw (ws' := [(m, .inr (13, [.ref nw, .ref bf, .ref sv, .ref hy, .int iS, .int (nI 7), .int eA, .int fA, .ref tx, .int tyd, .ref li, .int ldd, .int thr, .int siz, .int spt, .int wrg, .int tld, .ref nmb])), (bf, .inl (gI G, 72, .inl β)), (hy, .inl (gI G, 576, .inl (shf η 504)))]) (by rw [show r = 8 by omega]; rfl) ?_
          refine V.aload_n hC (x := m) dX13_remembers_49 rfl ?_
          refine V.getf hC (T := TX13) q0_ 1 q2_ rfl (0) rfl rfl (by decide) (.ref bf) rfl dX13_remembers_50 ?_
          refine V.iconst hC 0 dX13_remembers_53 rfl ?_
          refine V.aload_n hC (x := m) dX13_remembers_54 rfl ?_
          refine V.getf hC (T := TX13) q0_ 3 q3_ rfl (0) rfl rfl (by decide) (.ref hy) rfl dX13_remembers_55 ?_
          refine V.aload_n hC (x := m) dX13_remembers_58 rfl ?_
          refine V.getf hC (T := TX13) q0_ 5 q1_ rfl (0) rfl rfl (by decide) (.int (nI 7)) rfl dX13_remembers_59 ?_
          refine V.bipush hC 72 dX13_remembers_62 rfl ?_
          refine V.imulN hC 7 72 dX13_remembers_64 rfl rfl ?_
          refine V.callS (n := 4) (As := [.ref bf, .int 0, .ref hy, .int (nI (7 * 72))]) (rest := []) hC (m_copies (kl K) G bf hy β (shf η 504) 72 576 0 (7 * 72) (by decide) (by decide) (by decide) (by decide)) SFk0 SFgo0 gX13_remembers_X13_copies rfl ⟨rfl, rfl⟩ (by decide +kernel) ⟨by decide, by decide, by decide, by decide⟩ [1, 2] rfl (by decide) (fun _ => rfl) rfl rfl (Nat.le_of_ble_eq_true rfl) dX13_remembers_65 (fun r_65 u_65 hp_65 => ?_)
          show V G K 2 0 0 68 [some (.ref m), some (.int (nI k))] [] [(m, .inr (13, [.ref nw, .ref bf, .ref sv, .ref hy, .int iS, .int (nI 7), .int eA, .int fA, .ref tx, .int tyd, .ref li, .int ldd, .int thr, .int siz, .int spt, .int wrg, .int tld, .ref nmb])), (bf, .inl (gI G, 72, .inl β)), (hy, .inl (gI G, 576, .inl (cpN β (shf η 504) 0 (7 * 72) 72)))]
          refine V.aload_n hC (x := m) dX13_remembers_68 rfl ?_
          refine V.dup hC dX13_remembers_69 rfl ?_
          refine V.getf hC (T := TX13) q0_ 5 q1_ rfl (0) rfl rfl (by decide) (.int (nI 7)) rfl dX13_remembers_70 ?_
          refine V.iconst hC 1 dX13_remembers_73 rfl ?_
          refine V.iaddN hC 7 1 dX13_remembers_74 rfl rfl ?_
          refine V.putf hC (T := TX13) q0_ tyX13 tyX13_ok nmX13 5 q1_ rfl rfl (0) rfl rfl (by decide) (by simp) rfl rfl dX13_remembers_75 [(m, .inr (13, [.ref nw, .ref bf, .ref sv, .ref hy, .int iS, .int (nI (7 + 1)), .int eA, .int fA, .ref tx, .int tyd, .ref li, .int ldd, .int thr, .int siz, .int spt, .int wrg, .int tld, .ref nmb])), (bf, .inl (gI G, 72, .inl β)), (hy, .inl (gI G, 576, .inl (cpN β (shf η 504) 0 (7 * 72) 72)))] rfl ?_
          refine V.eqw (ws' := [(m, .inr (13, [.ref nw, .ref bf, .ref sv, .ref hy, .int iS, .int (nI (min (r + 1) 8)), .int eA, .int fA, .ref tx, .int tyd, .ref li, .int ldd, .int thr, .int siz, .int spt, .int wrg, .int tld, .ref nmb])), (bf, .inl (gI G, 72, .inl β)), (hy, .inl (gI G, 576, .inl (rmh β η r)))]) (by rw [rmh, if_neg (by omega), show r = 8 by omega]; rfl) ?_
          exact hE 78 _ () dX13_remembers_78 trivial
        · refine V.aload_n hC (x := m) dX13_remembers_18 rfl ?_
          refine V.getf hC (T := TX13) q0_ 3 q3_ rfl (0) rfl rfl (by decide) (.ref hy) rfl dX13_remembers_19 ?_
          refine V.iload_n hC (x := nI k) dX13_remembers_22 rfl ?_
          refine V.aload_n hC (x := m) dX13_remembers_23 rfl ?_
          refine V.getf hC (T := TX13) q0_ 3 q3_ rfl (0) rfl rfl (by decide) (.ref hy) rfl dX13_remembers_24 ?_
          refine V.iload_n hC (x := nI k) dX13_remembers_27 rfl ?_
          refine V.bipush hC 72 dX13_remembers_28 rfl ?_
          refine V.iaddN hC k 72 dX13_remembers_30 rfl rfl ?_
          refine V.iald hC dX13_remembers_31 (2) rfl (k + 72) rfl (by omega) (by decide) ?_
          refine V.iast hC dX13_remembers_32 (2) rfl k rfl (by omega) (by decide) [(m, .inr (13, [.ref nw, .ref bf, .ref sv, .ref hy, .int iS, .int (nI r), .int eA, .int fA, .ref tx, .int tyd, .ref li, .int ldd, .int thr, .int siz, .int spt, .int wrg, .int tld, .ref nmb])), (bf, .inl (gI G, 72, .inl β)), (hy, .inl (gI G, 576, .inl (upd (shf η k) k ((shf η k) (k + 72)))))] rfl ?_
          refine V.ext (2) (g := (shf η (k + 1))) rfl (fun z _ => congrFun (show upd (shf η k) k ((shf η k) (k + 72)) = (shf η (k + 1)) from shf_s η k) z) (ws' := [(m, .inr (13, [.ref nw, .ref bf, .ref sv, .ref hy, .int iS, .int (nI r), .int eA, .int fA, .ref tx, .int tyd, .ref li, .int ldd, .int thr, .int siz, .int spt, .int wrg, .int tld, .ref nmb])), (bf, .inl (gI G, 72, .inl β)), (hy, .inl (gI G, 576, .inl (shf η (k + 1))))]) rfl ?_
          refine V.iincN hC k 1 dX13_remembers_33 rfl [some (.ref m), some (.int (nI (k + 1)))] (Nat.le_of_ble_eq_true rfl) rfl rfl rfl ?_
          refine V.goto hC 11 dX13_remembers_36 rfl ?_
          exact ih11 (k + 1) (by omega) (by omega)
    exact loop11 _ 0 (Nat.lt_succ_self _) (by omega)
