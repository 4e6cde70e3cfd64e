/-! the document's model: ends, save, restore, undo (printed by gen/s69.py) -/
set_option maxHeartbeats 4000000 in
set_option maxRecDepth 100000 in
theorem m_endsN (l : Launch) (G : Gx) (m nw bf sv hy tx li nmb : Nat) (iS rmb eA fA tyd ldd siz spt wrg tld : Int32) (t : Nat) (ht : 1 ≤ t) (ht4 : t ≤ 4) (σ β : Nat → Int32) (x : Int32) : Ct l G SF0 yX13_ends wsX13_ends ({ frames := 1, cells := 0, slots := 0, locals := 24 }) [.ref m, .int x] [(m, .inr (13, [.ref nw, .ref bf, .ref sv, .ref hy, .int iS, .int rmb, .int eA, .int fA, .ref tx, .int tyd, .ref li, .int ldd, .int (nI t), .int siz, .int spt, .int wrg, .int tld, .ref nmb])), (nw, .inl (gI G, 72, .inl σ)), (bf, .inl (gI G, 72, .inl β))] mkI (fun (r : Int32) (_ : Unit) => r = 0) (fun _ : Unit => [(m, .inr (13, [.ref nw, .ref bf, .ref sv, .ref hy, .int iS, .int rmb, .int eA, .int fA, .ref tx, .int tyd, .ref li, .int ldd, .int (nI t), .int siz, .int spt, .int wrg, .int tld, .ref nmb])), (nw, .inl (gI G, 72, .inl β)), (bf, .inl (gI G, 72, .inl β))]) 0 0 := by
  refine Ct.ofI (cc := cX13_ends) (maxL := 2) (by decide) rfl ⟨by simp [Value.category], Nat.le_of_ble_eq_true rfl⟩ ?_
  intro K hl hC hSF hnm hE
  subst hl
  have q0_ : ∀ w ∈ u_ws RX13 TX13 18, w ∈ wsX13_ends := by decide +kernel
  have q1_ : Cond.fieldLink RX13 38 "FeatherSharesModel" "thrown" "I" ∈ wsX13_ends := by decide +kernel
  have q2_ : Cond.fieldLink RX13 13 "FeatherSharesModel" "before" "[I" ∈ wsX13_ends := by decide +kernel
  have q3_ : Cond.fieldLink RX13 9 "FeatherSharesModel" "now" "[I" ∈ wsX13_ends := by decide +kernel
  show V G K 2 0 0 0 [some (.ref m), some (.int x)] [] [(m, .inr (13, [.ref nw, .ref bf, .ref sv, .ref hy, .int iS, .int rmb, .int eA, .int fA, .ref tx, .int tyd, .ref li, .int ldd, .int (nI t), .int siz, .int spt, .int wrg, .int tld, .ref nmb])), (nw, .inl (gI G, 72, .inl σ)), (bf, .inl (gI G, 72, .inl β))]
  refine V.aload_n hC (x := m) dX13_ends_0 rfl ?_
  refine V.getf hC (T := TX13) q0_ 12 q1_ rfl (0) rfl rfl (by decide) (.int (nI t)) rfl dX13_ends_1 ?_
  refine V.ifN_eq hC t 22 dX13_ends_4 rfl rfl (by omega) (fun c_4 => ?_) (fun c_4 => ?_)
  · exact absurd c_4 (by omega)
  · refine V.aload_n hC (x := m) dX13_ends_7 rfl ?_
    refine V.getf hC (T := TX13) q0_ 1 q2_ rfl (0) rfl rfl (by decide) (.ref bf) rfl dX13_ends_8 ?_
    refine V.iconst hC 0 dX13_ends_11 rfl ?_
    refine V.aload_n hC (x := m) dX13_ends_12 rfl ?_
    refine V.getf hC (T := TX13) q0_ 0 q3_ rfl (0) rfl rfl (by decide) (.ref nw) rfl dX13_ends_13 ?_
    refine V.iconst hC 0 dX13_ends_16 rfl ?_
    refine V.callS (n := 4) (As := [.ref bf, .int 0, .ref nw, .int 0]) (rest := []) hC (m_copies (kl K) G bf nw β σ 72 72 0 0 (by decide) (by decide) (by decide) (by decide)) SFk0 SFgo0 gX13_ends_X13_copies rfl ⟨rfl, rfl⟩ (by decide +kernel) ⟨by decide, by decide, by decide, by decide⟩ [2, 1] rfl (by decide) (fun _ => rfl) rfl rfl (Nat.le_of_ble_eq_true rfl) dX13_ends_17 (fun r_17 u_17 hp_17 => ?_)
    show V G K 2 0 0 20 [some (.ref m), some (.int x)] [] [(m, .inr (13, [.ref nw, .ref bf, .ref sv, .ref hy, .int iS, .int rmb, .int eA, .int fA, .ref tx, .int tyd, .ref li, .int ldd, .int (nI t), .int siz, .int spt, .int wrg, .int tld, .ref nmb])), (nw, .inl (gI G, 72, .inl (cpN β σ 0 0 72))), (bf, .inl (gI G, 72, .inl β))]
    refine V.ext (1) (g := β) rfl ((fun z hz => cpN_72 _ _ hz)) (ws' := [(m, .inr (13, [.ref nw, .ref bf, .ref sv, .ref hy, .int iS, .int rmb, .int eA, .int fA, .ref tx, .int tyd, .ref li, .int ldd, .int (nI t), .int siz, .int spt, .int wrg, .int tld, .ref nmb])), (nw, .inl (gI G, 72, .inl β)), (bf, .inl (gI G, 72, .inl β))]) rfl ?_
    refine V.iconst hC 0 dX13_ends_20 rfl ?_
    exact hE 21 _ 0 () dX13_ends_21 rfl rfl

set_option maxHeartbeats 4000000 in
set_option maxRecDepth 100000 in
theorem m_endsY (l : Launch) (G : Gx) (m nw bf sv hy tx li nmb : Nat) (iS eA fA tyd ldd siz spt wrg tld : Int32) (r : Nat) (hr : r ≤ 8) (β η : Nat → Int32) (x : Int32) : Ct l G SF0 yX13_ends wsX13_ends ({ frames := 2, cells := 0, slots := 0, locals := 45 }) [.ref m, .int x] [(m, .inr (13, [.ref nw, .ref bf, .ref sv, .ref hy, .int iS, .int (nI r), .int eA, .int fA, .ref tx, .int tyd, .ref li, .int ldd, .int (nI 0), .int siz, .int spt, .int wrg, .int tld, .ref nmb])), (bf, .inl (gI G, 72, .inl β)), (hy, .inl (gI G, 576, .inl η))] mkI (fun (r : Int32) (_ : Unit) => r = x) (fun _ : Unit => [(m, .inr (13, [.ref nw, .ref bf, .ref sv, .ref hy, .int iS, .int (nI (min (r + 1) 8)), .int eA, .int fA, .ref tx, .int tyd, .ref li, .int ldd, .int (nI 0), .int siz, .int spt, .int wrg, .int tld, .ref nmb])), (bf, .inl (gI G, 72, .inl β)), (hy, .inl (gI G, 576, .inl (rmh β η r)))]) 0 0 := by
  refine Ct.ofI (cc := cX13_ends) (maxL := 2) (by decide) rfl ⟨by simp [Value.category], Nat.le_of_ble_eq_true rfl⟩ ?_
  intro K hl hC hSF hnm hE
  subst hl
  have q0_ : ∀ w ∈ u_ws RX13 TX13 18, w ∈ wsX13_ends := by decide +kernel
  have q1_ : Cond.fieldLink RX13 38 "FeatherSharesModel" "thrown" "I" ∈ wsX13_ends := by decide +kernel
  show V G K 2 0 0 0 [some (.ref m), some (.int x)] [] [(m, .inr (13, [.ref nw, .ref bf, .ref sv, .ref hy, .int iS, .int (nI r), .int eA, .int fA, .ref tx, .int tyd, .ref li, .int ldd, .int (nI 0), .int siz, .int spt, .int wrg, .int tld, .ref nmb])), (bf, .inl (gI G, 72, .inl β)), (hy, .inl (gI G, 576, .inl η))]
  refine V.aload_n hC (x := m) dX13_ends_0 rfl ?_
  refine V.getf hC (T := TX13) q0_ 12 q1_ rfl (0) rfl rfl (by decide) (.int (nI 0)) rfl dX13_ends_1 ?_
  refine V.ifN_eq hC 0 22 dX13_ends_4 rfl rfl (by omega) (fun c_4 => ?_) (fun c_4 => ?_)
  · refine V.aload_n hC (x := m) dX13_ends_22 rfl ?_
    refine V.callV (n := 0) (As := []) (rest := []) hC (m_remembers (kl K) G m nw bf sv hy tx li nmb iS eA fA tyd ldd (nI 0) siz spt wrg tld r hr β η) SFk0 SFgo0 gX13_ends_X13_remembers rfl ⟨rfl, rfl⟩ (by decide +kernel) ⟨by decide, by decide, by decide, by decide⟩ [0, 1, 2] rfl (by decide) (fun _ => rfl) rfl rfl rfl rfl (Nat.le_of_ble_eq_true rfl) dX13_ends_23 (fun r_23 u_23 hp_23 => ?_)
    show V G K 2 0 0 26 [some (.ref m), some (.int x)] [] [(m, .inr (13, [.ref nw, .ref bf, .ref sv, .ref hy, .int iS, .int (nI (min (r + 1) 8)), .int eA, .int fA, .ref tx, .int tyd, .ref li, .int ldd, .int (nI 0), .int siz, .int spt, .int wrg, .int tld, .ref nmb])), (bf, .inl (gI G, 72, .inl β)), (hy, .inl (gI G, 576, .inl (rmh β η r)))]
    refine V.iload_n hC (x := x) dX13_ends_26 rfl ?_
    exact hE 27 _ x () dX13_ends_27 rfl rfl
  · exact absurd c_4 (by decide)

set_option maxHeartbeats 4000000 in
set_option maxRecDepth 100000 in
theorem m_save (l : Launch) (G : Gx) (m nw bf sv hy tx li nmb : Nat) (iS rmb eA fA tyd ldd thr siz spt wrg tld : Int32) (σ ζ : Nat → Int32) : Ct l G SF0 yX13_save wsX13_save ({ frames := 1, cells := 0, slots := 0, locals := 24 }) [.ref m] [(m, .inr (13, [.ref nw, .ref bf, .ref sv, .ref hy, .int iS, .int rmb, .int eA, .int fA, .ref tx, .int tyd, .ref li, .int ldd, .int thr, .int siz, .int spt, .int wrg, .int tld, .ref nmb])), (nw, .inl (gI G, 72, .inl σ)), (sv, .inl (gI G, 72, .inl ζ))] mkV (fun (_ : Unit) (_ : Unit) => True) (fun _ : Unit => [(m, .inr (13, [.ref nw, .ref bf, .ref sv, .ref hy, .int 1, .int rmb, .int eA, .int fA, .ref tx, .int tyd, .ref li, .int ldd, .int 0, .int siz, .int spt, .int wrg, .int tld, .ref nmb])), (nw, .inl (gI G, 72, .inl σ)), (sv, .inl (gI G, 72, .inl σ))]) 0 0 := by
  refine Ct.ofV (cc := cX13_save) (maxL := 1) (by decide) rfl ⟨by simp [Value.category], Nat.le_of_ble_eq_true rfl⟩ ?_
  intro K hl hC hSF hnm hE
  subst hl
  have q0_ : ∀ w ∈ u_ws RX13 TX13 18, w ∈ wsX13_save := by decide +kernel
  have q1_ : Cond.fieldLink RX13 38 "FeatherSharesModel" "thrown" "I" ∈ wsX13_save := by decide +kernel
  have q2_ : Cond.fieldLink RX13 9 "FeatherSharesModel" "now" "[I" ∈ wsX13_save := by decide +kernel
  have q3_ : Cond.fieldLink RX13 16 "FeatherSharesModel" "saved" "[I" ∈ wsX13_save := by decide +kernel
  have q4_ : Cond.fieldLink RX13 59 "FeatherSharesModel" "isSaved" "Z" ∈ wsX13_save := by decide +kernel
  show V G K 1 0 0 0 [some (.ref m)] [] [(m, .inr (13, [.ref nw, .ref bf, .ref sv, .ref hy, .int iS, .int rmb, .int eA, .int fA, .ref tx, .int tyd, .ref li, .int ldd, .int thr, .int siz, .int spt, .int wrg, .int tld, .ref nmb])), (nw, .inl (gI G, 72, .inl σ)), (sv, .inl (gI G, 72, .inl ζ))]
  refine V.aload_n hC (x := m) dX13_save_0 rfl ?_
  refine V.iconst hC 0 dX13_save_1 rfl ?_
  refine V.putf hC (T := TX13) q0_ tyX13 tyX13_ok nmX13 12 q1_ rfl rfl (0) rfl rfl (by decide) (by simp) rfl rfl dX13_save_2 [(m, .inr (13, [.ref nw, .ref bf, .ref sv, .ref hy, .int iS, .int rmb, .int eA, .int fA, .ref tx, .int tyd, .ref li, .int ldd, .int 0, .int siz, .int spt, .int wrg, .int tld, .ref nmb])), (nw, .inl (gI G, 72, .inl σ)), (sv, .inl (gI G, 72, .inl ζ))] rfl ?_
  refine V.aload_n hC (x := m) dX13_save_5 rfl ?_
  refine V.getf hC (T := TX13) q0_ 0 q2_ rfl (0) rfl rfl (by decide) (.ref nw) rfl dX13_save_6 ?_
  refine V.iconst hC 0 dX13_save_9 rfl ?_
  refine V.aload_n hC (x := m) dX13_save_10 rfl ?_
  refine V.getf hC (T := TX13) q0_ 2 q3_ rfl (0) rfl rfl (by decide) (.ref sv) rfl dX13_save_11 ?_
  refine V.iconst hC 0 dX13_save_14 rfl ?_
  refine V.callS (n := 4) (As := [.ref nw, .int 0, .ref sv, .int 0]) (rest := []) hC (m_copies (kl K) G nw sv σ ζ 72 72 0 0 (by decide) (by decide) (by decide) (by decide)) SFk0 SFgo0 gX13_save_X13_copies rfl ⟨rfl, rfl⟩ (by decide +kernel) ⟨by decide, by decide, by decide, by decide⟩ [1, 2] rfl (by decide) (fun _ => rfl) rfl rfl (Nat.le_of_ble_eq_true rfl) dX13_save_15 (fun r_15 u_15 hp_15 => ?_)
  show V G K 1 0 0 18 [some (.ref m)] [] [(m, .inr (13, [.ref nw, .ref bf, .ref sv, .ref hy, .int iS, .int rmb, .int eA, .int fA, .ref tx, .int tyd, .ref li, .int ldd, .int 0, .int siz, .int spt, .int wrg, .int tld, .ref nmb])), (nw, .inl (gI G, 72, .inl σ)), (sv, .inl (gI G, 72, .inl (cpN σ ζ 0 0 72)))]
  refine V.ext (2) (g := σ) rfl ((fun z hz => cpN_72 _ _ hz)) (ws' := [(m, .inr (13, [.ref nw, .ref bf, .ref sv, .ref hy, .int iS, .int rmb, .int eA, .int fA, .ref tx, .int tyd, .ref li, .int ldd, .int 0, .int siz, .int spt, .int wrg, .int tld, .ref nmb])), (nw, .inl (gI G, 72, .inl σ)), (sv, .inl (gI G, 72, .inl σ))]) rfl ?_
  refine V.aload_n hC (x := m) dX13_save_18 rfl ?_
  refine V.iconst hC 1 dX13_save_19 rfl ?_
  refine V.putf hC (T := TX13) q0_ tyX13 tyX13_ok nmX13 4 q4_ rfl rfl (0) rfl rfl (by decide) (by simp) rfl rfl dX13_save_20 [(m, .inr (13, [.ref nw, .ref bf, .ref sv, .ref hy, .int 1, .int rmb, .int eA, .int fA, .ref tx, .int tyd, .ref li, .int ldd, .int 0, .int siz, .int spt, .int wrg, .int tld, .ref nmb])), (nw, .inl (gI G, 72, .inl σ)), (sv, .inl (gI G, 72, .inl σ))] rfl ?_
  exact hE 23 _ () dX13_save_23 trivial

set_option maxHeartbeats 4000000 in
set_option maxRecDepth 100000 in
theorem m_restoreN (l : Launch) (G : Gx) (m nw bf sv hy tx li nmb : Nat) (rmb eA fA tyd ldd thr siz spt wrg tld : Int32) (σ ζ : Nat → Int32) : Ct l G SF0 yX13_restore wsX13_restore ({ frames := 2, cells := 0, slots := 0, locals := 45 }) [.ref m] [(m, .inr (13, [.ref nw, .ref bf, .ref sv, .ref hy, .int (nI 0), .int rmb, .int eA, .int fA, .ref tx, .int tyd, .ref li, .int ldd, .int thr, .int siz, .int spt, .int wrg, .int tld, .ref nmb])), (nw, .inl (gI G, 72, .inl σ)), (sv, .inl (gI G, 72, .inl ζ))] mkV (fun (_ : Unit) (_ : Unit) => True) (fun _ : Unit => [(m, .inr (13, [.ref nw, .ref bf, .ref sv, .ref hy, .int (nI 0), .int rmb, .int eA, .int fA, .ref tx, .int tyd, .ref li, .int ldd, .int (nI 1), .int siz, .int spt, .int wrg, .int tld, .ref nmb])), (nw, .inl (gI G, 72, .inl σ)), (sv, .inl (gI G, 72, .inl ζ))]) 0 0 := by
  refine Ct.ofV (cc := cX13_restore) (maxL := 1) (by decide) rfl ⟨by simp [Value.category], Nat.le_of_ble_eq_true rfl⟩ ?_
  intro K hl hC hSF hnm hE
  subst hl
  have q0_ : ∀ w ∈ u_ws RX13 TX13 18, w ∈ wsX13_restore := by decide +kernel
  have q1_ : Cond.fieldLink RX13 59 "FeatherSharesModel" "isSaved" "Z" ∈ wsX13_restore := by decide +kernel
  show V G K 1 0 0 0 [some (.ref m)] [] [(m, .inr (13, [.ref nw, .ref bf, .ref sv, .ref hy, .int (nI 0), .int rmb, .int eA, .int fA, .ref tx, .int tyd, .ref li, .int ldd, .int thr, .int siz, .int spt, .int wrg, .int tld, .ref nmb])), (nw, .inl (gI G, 72, .inl σ)), (sv, .inl (gI G, 72, .inl ζ))]
  refine V.aload_n hC (x := m) dX13_restore_0 rfl ?_
  refine V.aload_n hC (x := m) dX13_restore_1 rfl ?_
  refine V.getf hC (T := TX13) q0_ 4 q1_ rfl (0) rfl rfl (by decide) (.int (nI 0)) rfl dX13_restore_2 ?_
  refine V.callV (n := 1) (As := [.int (nI 0)]) (rest := []) hC (m_goes (kl K) G m nw bf sv hy tx li nmb (nI 0) rmb eA fA tyd ldd thr siz spt wrg tld (nI 0)) SFk0 SFgo0 gX13_restore_X13_goes rfl ⟨rfl, rfl⟩ (by decide +kernel) ⟨by decide, by decide, by decide, by decide⟩ [0] rfl (by decide) (fun _ => rfl) rfl rfl rfl rfl (Nat.le_of_ble_eq_true rfl) dX13_restore_5 (fun r_5 u_5 hp_5 => ?_)
  subst hp_5
  show V G K 1 0 0 8 [some (.ref m)] [.int (if alw (nI 0) 1 1 1 = 0 then 1 else 0)] [(m, .inr (13, [.ref nw, .ref bf, .ref sv, .ref hy, .int (nI 0), .int rmb, .int eA, .int fA, .ref tx, .int tyd, .ref li, .int ldd, .int (nI (alw (nI 0) 1 1 1)), .int siz, .int spt, .int wrg, .int tld, .ref nmb])), (nw, .inl (gI G, 72, .inl σ)), (sv, .inl (gI G, 72, .inl ζ))]
  have ha_5 : alw (nI 0) 1 1 1 = 1 := by rfl
  refine V.topeq (nI 0) (by rw [ha_5]; rfl) ?_
  refine V.eqw (ws' := [(m, .inr (13, [.ref nw, .ref bf, .ref sv, .ref hy, .int (nI 0), .int rmb, .int eA, .int fA, .ref tx, .int tyd, .ref li, .int ldd, .int (nI 1), .int siz, .int spt, .int wrg, .int tld, .ref nmb])), (nw, .inl (gI G, 72, .inl σ)), (sv, .inl (gI G, 72, .inl ζ))]) (by rw [ha_5]) ?_
  refine V.ifN_eq hC 0 29 dX13_restore_8 rfl rfl (by omega) (fun c_8 => ?_) (fun c_8 => ?_)
  · exact hE 29 _ () dX13_restore_29 trivial
  · exact absurd c_8 (by decide)

set_option maxHeartbeats 4000000 in
set_option maxRecDepth 100000 in
theorem m_restoreY (l : Launch) (G : Gx) (m nw bf sv hy tx li nmb : Nat) (rmb eA fA tyd ldd thr siz spt wrg tld : Int32) (σ ζ : Nat → Int32) : Ct l G SF0 yX13_restore wsX13_restore ({ frames := 2, cells := 0, slots := 0, locals := 45 }) [.ref m] [(m, .inr (13, [.ref nw, .ref bf, .ref sv, .ref hy, .int (nI 1), .int rmb, .int eA, .int fA, .ref tx, .int tyd, .ref li, .int ldd, .int thr, .int siz, .int spt, .int wrg, .int tld, .ref nmb])), (nw, .inl (gI G, 72, .inl σ)), (sv, .inl (gI G, 72, .inl ζ))] mkV (fun (_ : Unit) (_ : Unit) => True) (fun _ : Unit => [(m, .inr (13, [.ref nw, .ref bf, .ref sv, .ref hy, .int (nI 1), .int 0, .int eA, .int fA, .ref tx, .int tyd, .ref li, .int ldd, .int (nI 0), .int siz, .int spt, .int wrg, .int tld, .ref nmb])), (nw, .inl (gI G, 72, .inl ζ)), (sv, .inl (gI G, 72, .inl ζ))]) 0 0 := by
  refine Ct.ofV (cc := cX13_restore) (maxL := 1) (by decide) rfl ⟨by simp [Value.category], Nat.le_of_ble_eq_true rfl⟩ ?_
  intro K hl hC hSF hnm hE
  subst hl
  have q0_ : ∀ w ∈ u_ws RX13 TX13 18, w ∈ wsX13_restore := by decide +kernel
  have q1_ : Cond.fieldLink RX13 59 "FeatherSharesModel" "isSaved" "Z" ∈ wsX13_restore := by decide +kernel
  have q2_ : Cond.fieldLink RX13 16 "FeatherSharesModel" "saved" "[I" ∈ wsX13_restore := by decide +kernel
  have q3_ : Cond.fieldLink RX13 9 "FeatherSharesModel" "now" "[I" ∈ wsX13_restore := by decide +kernel
  have q4_ : Cond.fieldLink RX13 49 "FeatherSharesModel" "remembered" "I" ∈ wsX13_restore := by decide +kernel
  show V G K 1 0 0 0 [some (.ref m)] [] [(m, .inr (13, [.ref nw, .ref bf, .ref sv, .ref hy, .int (nI 1), .int rmb, .int eA, .int fA, .ref tx, .int tyd, .ref li, .int ldd, .int thr, .int siz, .int spt, .int wrg, .int tld, .ref nmb])), (nw, .inl (gI G, 72, .inl σ)), (sv, .inl (gI G, 72, .inl ζ))]
  refine V.aload_n hC (x := m) dX13_restore_0 rfl ?_
  refine V.aload_n hC (x := m) dX13_restore_1 rfl ?_
  refine V.getf hC (T := TX13) q0_ 4 q1_ rfl (0) rfl rfl (by decide) (.int (nI 1)) rfl dX13_restore_2 ?_
  refine V.callV (n := 1) (As := [.int (nI 1)]) (rest := []) hC (m_goes (kl K) G m nw bf sv hy tx li nmb (nI 1) rmb eA fA tyd ldd thr siz spt wrg tld (nI 1)) SFk0 SFgo0 gX13_restore_X13_goes rfl ⟨rfl, rfl⟩ (by decide +kernel) ⟨by decide, by decide, by decide, by decide⟩ [0] rfl (by decide) (fun _ => rfl) rfl rfl rfl rfl (Nat.le_of_ble_eq_true rfl) dX13_restore_5 (fun r_5 u_5 hp_5 => ?_)
  subst hp_5
  show V G K 1 0 0 8 [some (.ref m)] [.int (if alw (nI 1) 1 1 1 = 0 then 1 else 0)] [(m, .inr (13, [.ref nw, .ref bf, .ref sv, .ref hy, .int (nI 1), .int rmb, .int eA, .int fA, .ref tx, .int tyd, .ref li, .int ldd, .int (nI (alw (nI 1) 1 1 1)), .int siz, .int spt, .int wrg, .int tld, .ref nmb])), (nw, .inl (gI G, 72, .inl σ)), (sv, .inl (gI G, 72, .inl ζ))]
  have ha_5 : alw (nI 1) 1 1 1 = 0 := by rfl
  refine V.topeq (nI 1) (by rw [ha_5]; rfl) ?_
  refine V.eqw (ws' := [(m, .inr (13, [.ref nw, .ref bf, .ref sv, .ref hy, .int (nI 1), .int rmb, .int eA, .int fA, .ref tx, .int tyd, .ref li, .int ldd, .int (nI 0), .int siz, .int spt, .int wrg, .int tld, .ref nmb])), (nw, .inl (gI G, 72, .inl σ)), (sv, .inl (gI G, 72, .inl ζ))]) (by rw [ha_5]) ?_
  refine V.ifN_eq hC 1 29 dX13_restore_8 rfl rfl (by omega) (fun c_8 => ?_) (fun c_8 => ?_)
  · exact absurd c_8 (by decide)
  · refine V.aload_n hC (x := m) dX13_restore_11 rfl ?_
    refine V.getf hC (T := TX13) q0_ 2 q2_ rfl (0) rfl rfl (by decide) (.ref sv) rfl dX13_restore_12 ?_
    refine V.iconst hC 0 dX13_restore_15 rfl ?_
    refine V.aload_n hC (x := m) dX13_restore_16 rfl ?_
    refine V.getf hC (T := TX13) q0_ 0 q3_ rfl (0) rfl rfl (by decide) (.ref nw) rfl dX13_restore_17 ?_
    refine V.iconst hC 0 dX13_restore_20 rfl ?_
    refine V.callS (n := 4) (As := [.ref sv, .int 0, .ref nw, .int 0]) (rest := []) hC (m_copies (kl K) G sv nw ζ σ 72 72 0 0 (by decide) (by decide) (by decide) (by decide)) SFk0 SFgo0 gX13_restore_X13_copies rfl ⟨rfl, rfl⟩ (by decide +kernel) ⟨by decide, by decide, by decide, by decide⟩ [2, 1] rfl (by decide) (fun _ => rfl) rfl rfl (Nat.le_of_ble_eq_true rfl) dX13_restore_21 (fun r_21 u_21 hp_21 => ?_)
    show V G K 1 0 0 24 [some (.ref m)] [] [(m, .inr (13, [.ref nw, .ref bf, .ref sv, .ref hy, .int (nI 1), .int rmb, .int eA, .int fA, .ref tx, .int tyd, .ref li, .int ldd, .int (nI 0), .int siz, .int spt, .int wrg, .int tld, .ref nmb])), (nw, .inl (gI G, 72, .inl (cpN ζ σ 0 0 72))), (sv, .inl (gI G, 72, .inl ζ))]
    refine V.ext (1) (g := ζ) rfl ((fun z hz => cpN_72 _ _ hz)) (ws' := [(m, .inr (13, [.ref nw, .ref bf, .ref sv, .ref hy, .int (nI 1), .int rmb, .int eA, .int fA, .ref tx, .int tyd, .ref li, .int ldd, .int (nI 0), .int siz, .int spt, .int wrg, .int tld, .ref nmb])), (nw, .inl (gI G, 72, .inl ζ)), (sv, .inl (gI G, 72, .inl ζ))]) rfl ?_
    refine V.aload_n hC (x := m) dX13_restore_24 rfl ?_
    refine V.iconst hC 0 dX13_restore_25 rfl ?_
    refine V.putf hC (T := TX13) q0_ tyX13 tyX13_ok nmX13 5 q4_ rfl rfl (0) rfl rfl (by decide) (by simp) rfl rfl dX13_restore_26 [(m, .inr (13, [.ref nw, .ref bf, .ref sv, .ref hy, .int (nI 1), .int 0, .int eA, .int fA, .ref tx, .int tyd, .ref li, .int ldd, .int (nI 0), .int siz, .int spt, .int wrg, .int tld, .ref nmb])), (nw, .inl (gI G, 72, .inl ζ)), (sv, .inl (gI G, 72, .inl ζ))] rfl ?_
    exact hE 29 _ () dX13_restore_29 trivial

set_option maxHeartbeats 4000000 in
set_option maxRecDepth 100000 in
theorem m_undoN (l : Launch) (G : Gx) (m nw bf sv hy tx li nmb : Nat) (iS eA fA tyd ldd thr siz spt wrg tld : Int32) (σ η : Nat → Int32) : Ct l G SF0 yX13_undo wsX13_undo ({ frames := 2, cells := 0, slots := 0, locals := 45 }) [.ref m] [(m, .inr (13, [.ref nw, .ref bf, .ref sv, .ref hy, .int iS, .int (nI 0), .int eA, .int fA, .ref tx, .int tyd, .ref li, .int ldd, .int thr, .int siz, .int spt, .int wrg, .int tld, .ref nmb])), (nw, .inl (gI G, 72, .inl σ)), (hy, .inl (gI G, 576, .inl η))] mkI (fun (r : Int32) (_ : Unit) => r = 0) (fun _ : Unit => [(m, .inr (13, [.ref nw, .ref bf, .ref sv, .ref hy, .int iS, .int (nI 0), .int eA, .int fA, .ref tx, .int tyd, .ref li, .int ldd, .int (nI 1), .int siz, .int spt, .int wrg, .int tld, .ref nmb])), (nw, .inl (gI G, 72, .inl σ)), (hy, .inl (gI G, 576, .inl η))]) 0 0 := by
  refine Ct.ofI (cc := cX13_undo) (maxL := 1) (by decide) rfl ⟨by simp [Value.category], Nat.le_of_ble_eq_true rfl⟩ ?_
  intro K hl hC hSF hnm hE
  subst hl
  have q0_ : ∀ w ∈ u_ws RX13 TX13 18, w ∈ wsX13_undo := by decide +kernel
  have q1_ : Cond.fieldLink RX13 49 "FeatherSharesModel" "remembered" "I" ∈ wsX13_undo := by decide +kernel
  show V G K 1 0 0 0 [some (.ref m)] [] [(m, .inr (13, [.ref nw, .ref bf, .ref sv, .ref hy, .int iS, .int (nI 0), .int eA, .int fA, .ref tx, .int tyd, .ref li, .int ldd, .int thr, .int siz, .int spt, .int wrg, .int tld, .ref nmb])), (nw, .inl (gI G, 72, .inl σ)), (hy, .inl (gI G, 576, .inl η))]
  refine V.aload_n hC (x := m) dX13_undo_0 rfl ?_
  refine V.aload_n hC (x := m) dX13_undo_1 rfl ?_
  refine V.getf hC (T := TX13) q0_ 5 q1_ rfl (0) rfl rfl (by decide) (.int (nI 0)) rfl dX13_undo_2 ?_
  refine V.ifN_le hC 0 12 dX13_undo_5 rfl rfl (by omega) (fun c_5 => ?_) (fun c_5 => ?_)
  · refine V.iconst hC 0 dX13_undo_12 rfl ?_
    refine V.callV (n := 1) (As := [.int 0]) (rest := []) hC (m_goes (kl K) G m nw bf sv hy tx li nmb iS (nI 0) eA fA tyd ldd thr siz spt wrg tld 0) SFk0 SFgo0 gX13_undo_X13_goes rfl ⟨rfl, rfl⟩ (by decide +kernel) ⟨by decide, by decide, by decide, by decide⟩ [0] rfl (by decide) (fun _ => rfl) rfl rfl rfl rfl (Nat.le_of_ble_eq_true rfl) dX13_undo_13 (fun r_13 u_13 hp_13 => ?_)
    subst hp_13
    show V G K 1 0 0 16 [some (.ref m)] [.int (if alw 0 1 1 1 = 0 then 1 else 0)] [(m, .inr (13, [.ref nw, .ref bf, .ref sv, .ref hy, .int iS, .int (nI 0), .int eA, .int fA, .ref tx, .int tyd, .ref li, .int ldd, .int (nI (alw 0 1 1 1)), .int siz, .int spt, .int wrg, .int tld, .ref nmb])), (nw, .inl (gI G, 72, .inl σ)), (hy, .inl (gI G, 576, .inl η))]
    have ha_13 : alw 0 1 1 1 = 1 := by rfl
    refine V.topeq (nI 0) (by rw [ha_13]; rfl) ?_
    refine V.eqw (ws' := [(m, .inr (13, [.ref nw, .ref bf, .ref sv, .ref hy, .int iS, .int (nI 0), .int eA, .int fA, .ref tx, .int tyd, .ref li, .int ldd, .int (nI 1), .int siz, .int spt, .int wrg, .int tld, .ref nmb])), (nw, .inl (gI G, 72, .inl σ)), (hy, .inl (gI G, 576, .inl η))]) (by rw [ha_13]) ?_
    refine V.ifN_ne hC 0 21 dX13_undo_16 rfl rfl (by omega) (fun c_16 => ?_) (fun c_16 => ?_)
    · exact absurd c_16 (by decide)
    · refine V.iconst hC 0 dX13_undo_19 rfl ?_
      exact hE 20 _ 0 () dX13_undo_20 rfl rfl
  · exact absurd c_5 (by decide)

set_option maxHeartbeats 4000000 in
set_option maxRecDepth 100000 in
theorem m_undoY (l : Launch) (G : Gx) (m nw bf sv hy tx li nmb : Nat) (iS eA fA tyd ldd thr siz spt wrg tld : Int32) (p : Nat) (hr1 : 1 ≤ p) (hr : p ≤ 8) (σ η : Nat → Int32) : Ct l G SF0 yX13_undo wsX13_undo ({ frames := 2, cells := 0, slots := 0, locals := 45 }) [.ref m] [(m, .inr (13, [.ref nw, .ref bf, .ref sv, .ref hy, .int iS, .int (nI p), .int eA, .int fA, .ref tx, .int tyd, .ref li, .int ldd, .int thr, .int siz, .int spt, .int wrg, .int tld, .ref nmb])), (nw, .inl (gI G, 72, .inl σ)), (hy, .inl (gI G, 576, .inl η))] mkI (fun (r : Int32) (_ : Unit) => r = nI (p - 1)) (fun _ : Unit => [(m, .inr (13, [.ref nw, .ref bf, .ref sv, .ref hy, .int iS, .int (nI (p - 1)), .int eA, .int fA, .ref tx, .int tyd, .ref li, .int ldd, .int (nI 0), .int siz, .int spt, .int wrg, .int tld, .ref nmb])), (nw, .inl (gI G, 72, .inl (fun j => η ((p - 1) * 72 + j)))), (hy, .inl (gI G, 576, .inl η))]) 0 0 := by
  refine Ct.ofI (cc := cX13_undo) (maxL := 1) (by decide) rfl ⟨by simp [Value.category], Nat.le_of_ble_eq_true rfl⟩ ?_
  intro K hl hC hSF hnm hE
  subst hl
  have q0_ : ∀ w ∈ u_ws RX13 TX13 18, w ∈ wsX13_undo := by decide +kernel
  have q1_ : Cond.fieldLink RX13 49 "FeatherSharesModel" "remembered" "I" ∈ wsX13_undo := by decide +kernel
  have q2_ : Cond.fieldLink RX13 19 "FeatherSharesModel" "history" "[I" ∈ wsX13_undo := by decide +kernel
  have q3_ : Cond.fieldLink RX13 9 "FeatherSharesModel" "now" "[I" ∈ wsX13_undo := by decide +kernel
  show V G K 1 0 0 0 [some (.ref m)] [] [(m, .inr (13, [.ref nw, .ref bf, .ref sv, .ref hy, .int iS, .int (nI p), .int eA, .int fA, .ref tx, .int tyd, .ref li, .int ldd, .int thr, .int siz, .int spt, .int wrg, .int tld, .ref nmb])), (nw, .inl (gI G, 72, .inl σ)), (hy, .inl (gI G, 576, .inl η))]
  refine V.aload_n hC (x := m) dX13_undo_0 rfl ?_
  refine V.aload_n hC (x := m) dX13_undo_1 rfl ?_
  refine V.getf hC (T := TX13) q0_ 5 q1_ rfl (0) rfl rfl (by decide) (.int (nI p)) rfl dX13_undo_2 ?_
  refine V.ifN_le hC p 12 dX13_undo_5 rfl rfl (by omega) (fun c_5 => ?_) (fun c_5 => ?_)
  · exact absurd c_5 (by omega)
  · refine V.iconst hC 1 dX13_undo_8 rfl ?_
    refine V.goto hC 13 dX13_undo_9 rfl ?_
    refine V.callV (n := 1) (As := [.int 1]) (rest := []) hC (m_goes (kl K) G m nw bf sv hy tx li nmb iS (nI p) eA fA tyd ldd thr siz spt wrg tld 1) SFk0 SFgo0 gX13_undo_X13_goes rfl ⟨rfl, rfl⟩ (by decide +kernel) ⟨by decide, by decide, by decide, by decide⟩ [0] rfl (by decide) (fun _ => rfl) rfl rfl rfl rfl (Nat.le_of_ble_eq_true rfl) dX13_undo_13 (fun r_13 u_13 hp_13 => ?_)
    subst hp_13
    show V G K 1 0 0 16 [some (.ref m)] [.int (if alw 1 1 1 1 = 0 then 1 else 0)] [(m, .inr (13, [.ref nw, .ref bf, .ref sv, .ref hy, .int iS, .int (nI p), .int eA, .int fA, .ref tx, .int tyd, .ref li, .int ldd, .int (nI (alw 1 1 1 1)), .int siz, .int spt, .int wrg, .int tld, .ref nmb])), (nw, .inl (gI G, 72, .inl σ)), (hy, .inl (gI G, 576, .inl η))]
    have ha_13 : alw 1 1 1 1 = 0 := by rfl
    refine V.topeq (nI 1) (by rw [ha_13]; rfl) ?_
    refine V.eqw (ws' := [(m, .inr (13, [.ref nw, .ref bf, .ref sv, .ref hy, .int iS, .int (nI p), .int eA, .int fA, .ref tx, .int tyd, .ref li, .int ldd, .int (nI 0), .int siz, .int spt, .int wrg, .int tld, .ref nmb])), (nw, .inl (gI G, 72, .inl σ)), (hy, .inl (gI G, 576, .inl η))]) (by rw [ha_13]) ?_
    refine V.ifN_ne hC 1 21 dX13_undo_16 rfl rfl (by omega) (fun c_16 => ?_) (fun c_16 => ?_)
    · refine V.aload_n hC (x := m) dX13_undo_21 rfl ?_
      refine V.dup hC dX13_undo_22 rfl ?_
      refine V.getf hC (T := TX13) q0_ 5 q1_ rfl (0) rfl rfl (by decide) (.int (nI p)) rfl dX13_undo_23 ?_
      refine V.iconst hC 1 dX13_undo_26 rfl ?_
      refine V.isub hC dX13_undo_27 ?_
      refine V.topeq (nI (p - 1)) (pk_sub (a := p) (b := 1) hr1) ?_
      refine V.putf hC (T := TX13) q0_ tyX13 tyX13_ok nmX13 5 q1_ rfl rfl (0) rfl rfl (by decide) (by simp) rfl rfl dX13_undo_28 [(m, .inr (13, [.ref nw, .ref bf, .ref sv, .ref hy, .int iS, .int (nI (p - 1)), .int eA, .int fA, .ref tx, .int tyd, .ref li, .int ldd, .int (nI 0), .int siz, .int spt, .int wrg, .int tld, .ref nmb])), (nw, .inl (gI G, 72, .inl σ)), (hy, .inl (gI G, 576, .inl η))] rfl ?_
      refine V.aload_n hC (x := m) dX13_undo_31 rfl ?_
      refine V.getf hC (T := TX13) q0_ 3 q2_ rfl (0) rfl rfl (by decide) (.ref hy) rfl dX13_undo_32 ?_
      refine V.aload_n hC (x := m) dX13_undo_35 rfl ?_
      refine V.getf hC (T := TX13) q0_ 5 q1_ rfl (0) rfl rfl (by decide) (.int (nI (p - 1))) rfl dX13_undo_36 ?_
      refine V.bipush hC 72 dX13_undo_39 rfl ?_
      refine V.imulN hC (p - 1) 72 dX13_undo_41 rfl rfl ?_
      refine V.aload_n hC (x := m) dX13_undo_42 rfl ?_
      refine V.getf hC (T := TX13) q0_ 0 q3_ rfl (0) rfl rfl (by decide) (.ref nw) rfl dX13_undo_43 ?_
      refine V.iconst hC 0 dX13_undo_46 rfl ?_
      refine V.callS (n := 4) (As := [.ref hy, .int (nI ((p - 1) * 72)), .ref nw, .int 0]) (rest := []) hC (m_copies (kl K) G hy nw η σ 576 72 ((p - 1) * 72) 0 (by omega) (by decide) (by decide) (by decide)) SFk0 SFgo0 gX13_undo_X13_copies rfl ⟨rfl, rfl⟩ (by decide +kernel) ⟨by decide, by decide, by decide, by decide⟩ [2, 1] rfl (by decide) (fun _ => rfl) rfl rfl (Nat.le_of_ble_eq_true rfl) dX13_undo_47 (fun r_47 u_47 hp_47 => ?_)
      show V G K 1 0 0 50 [some (.ref m)] [] [(m, .inr (13, [.ref nw, .ref bf, .ref sv, .ref hy, .int iS, .int (nI (p - 1)), .int eA, .int fA, .ref tx, .int tyd, .ref li, .int ldd, .int (nI 0), .int siz, .int spt, .int wrg, .int tld, .ref nmb])), (nw, .inl (gI G, 72, .inl (cpN η σ ((p - 1) * 72) 0 72))), (hy, .inl (gI G, 576, .inl η))]
      refine V.ext (1) (g := (fun j => η ((p - 1) * 72 + j))) rfl ((fun z hz => by show cpN η σ ((p - 1) * 72) 0 72 z = η ((p - 1) * 72 + z); rw [cpN, if_pos (by omega), Nat.sub_zero])) (ws' := [(m, .inr (13, [.ref nw, .ref bf, .ref sv, .ref hy, .int iS, .int (nI (p - 1)), .int eA, .int fA, .ref tx, .int tyd, .ref li, .int ldd, .int (nI 0), .int siz, .int spt, .int wrg, .int tld, .ref nmb])), (nw, .inl (gI G, 72, .inl (fun j => η ((p - 1) * 72 + j)))), (hy, .inl (gI G, 576, .inl η))]) rfl ?_
      refine V.aload_n hC (x := m) dX13_undo_50 rfl ?_
      refine V.getf hC (T := TX13) q0_ 5 q1_ rfl (0) rfl rfl (by decide) (.int (nI (p - 1))) rfl dX13_undo_51 ?_
      exact hE 54 _ (nI (p - 1)) () dX13_undo_54 rfl rfl
    · exact absurd c_16 (by decide)
