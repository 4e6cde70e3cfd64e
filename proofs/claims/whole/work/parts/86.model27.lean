/-! the document's model: a program carried out (printed by gen/s86.py) -/
set_option maxHeartbeats 4000000 in
set_option maxRecDepth 100000 in
theorem m_does0 (l : Launch) (G : Gx) (m nw bf sv hy tx li nmb : Nat) (iS rmb eA fA tyd ldd thr siz spt wrg tld : Int32) (σ : Nat → Int32) (s : ASt) (B : Nat) (hR : Rel σ s) (hI : InvA B s) (hB : B < 2 ^ 30) (hB1 : B + 1 < 2 ^ 30) (μ : Nat → Int32) (b : Nat) (hb : b + 4 ≤ 120) (x : Int32) (hμ0 : μ b = nI 0) (hμ1 : μ (b + 1) = x) : Ct l G SF0 yX13_does wsX13_does ({ frames := 3, cells := 0, slots := 0, locals := 64 }) [.ref m, .int (nI b)] [(m, .inr (13, [.ref nw, .ref bf, .ref sv, .ref hy, .int iS, .int rmb, .int eA, .int fA, .ref tx, .int tyd, .ref li, .int ldd, .int thr, .int siz, .int spt, .int wrg, .int tld, .ref nmb])), (nw, .inl (gI G, 72, .inl σ)), (nmb, .inl (gI G, 120, .inl μ))] mkI (fun (r : Int32) (u : Nat → Int32) => (pwX 0 s x 0 0 = 0 ∧ Rel u (cX 0 s x 0 0) ∧ r = rX 0 s x 0 0) ∨ (¬ pwX 0 s x 0 0 = 0 ∧ u = σ ∧ r = 0)) (fun u : Nat → Int32 => [(m, .inr (13, [.ref nw, .ref bf, .ref sv, .ref hy, .int iS, .int rmb, .int eA, .int fA, .ref tx, .int tyd, .ref li, .int ldd, .int (nI (cd 0 (pwX 0 s x 0 0))), .int siz, .int spt, .int wrg, .int tld, .ref nmb])), (nw, .inl (gI G, 72, .inl u)), (nmb, .inl (gI G, 120, .inl μ))]) 0 0 := by
  refine Ct.ofI (cc := cX13_does) (maxL := 5) (by decide) rfl ⟨by simp [Value.category], Nat.le_of_ble_eq_true rfl⟩ ?_
  intro K hl hC hSF hnm hE
  subst hl
  have q0_ : ∀ w ∈ u_ws RX13 TX13 18, w ∈ wsX13_does := by decide +kernel
  have q1_ : Cond.fieldLink RX13 35 "FeatherSharesModel" "numbers" "[I" ∈ wsX13_does := by decide +kernel
  show V G K 5 0 0 0 [some (.ref m), some (.int (nI b)), none, none, none] [] [(m, .inr (13, [.ref nw, .ref bf, .ref sv, .ref hy, .int iS, .int rmb, .int eA, .int fA, .ref tx, .int tyd, .ref li, .int ldd, .int thr, .int siz, .int spt, .int wrg, .int tld, .ref nmb])), (nw, .inl (gI G, 72, .inl σ)), (nmb, .inl (gI G, 120, .inl μ))]
  refine V.aload_n hC (x := m) dX13_does_0 rfl ?_
  refine V.getf hC (T := TX13) q0_ 17 q1_ rfl (0) rfl rfl (by decide) (.ref nmb) rfl dX13_does_1 ?_
  refine V.iload_n hC (x := nI b) dX13_does_4 rfl ?_
  refine V.iconst hC 1 dX13_does_5 rfl ?_
  refine V.iaddN hC b 1 dX13_does_6 rfl rfl ?_
  refine V.iald hC dX13_does_7 (2) rfl (b + 1) rfl (by omega) (by decide) ?_
  refine V.topeq (x) hμ1 ?_
  refine V.istore_n hC dX13_does_8 [some (.ref m), some (.int (nI b)), some (.int x), none, none] (Nat.le_of_ble_eq_true rfl) rfl ?_
  refine V.aload_n hC (x := m) dX13_does_9 rfl ?_
  refine V.getf hC (T := TX13) q0_ 17 q1_ rfl (0) rfl rfl (by decide) (.ref nmb) rfl dX13_does_10 ?_
  refine V.iload_n hC (x := nI b) dX13_does_13 rfl ?_
  refine V.iconst hC 2 dX13_does_14 rfl ?_
  refine V.iaddN hC b 2 dX13_does_15 rfl rfl ?_
  refine V.iald hC dX13_does_16 (2) rfl (b + 2) rfl (by omega) (by decide) ?_
  refine V.istore_n hC dX13_does_17 [some (.ref m), some (.int (nI b)), some (.int x), some (.int (μ (b + 2))), none] (Nat.le_of_ble_eq_true rfl) rfl ?_
  refine V.aload_n hC (x := m) dX13_does_18 rfl ?_
  refine V.getf hC (T := TX13) q0_ 17 q1_ rfl (0) rfl rfl (by decide) (.ref nmb) rfl dX13_does_19 ?_
  refine V.iload_n hC (x := nI b) dX13_does_22 rfl ?_
  refine V.iconst hC 3 dX13_does_23 rfl ?_
  refine V.iaddN hC b 3 dX13_does_24 rfl rfl ?_
  refine V.iald hC dX13_does_25 (2) rfl (b + 3) rfl (by omega) (by decide) ?_
  refine V.istore hC dX13_does_26 [some (.ref m), some (.int (nI b)), some (.int x), some (.int (μ (b + 2))), some (.int (μ (b + 3)))] (Nat.le_of_ble_eq_true rfl) rfl ?_
  refine V.aload_n hC (x := m) dX13_does_28 rfl ?_
  refine V.getf hC (T := TX13) q0_ 17 q1_ rfl (0) rfl rfl (by decide) (.ref nmb) rfl dX13_does_29 ?_
  refine V.iload_n hC (x := nI b) dX13_does_32 rfl ?_
  refine V.iald hC dX13_does_33 (2) rfl b rfl (by omega) (by decide) ?_
  refine V.topeq (nI 0) hμ0 ?_
  refine V.tableIn hC (x := nI 0) (off := 42) 76 dX13_does_34 (by decide) (by decide) (by decide) rfl ?_
  refine V.aload_n hC (x := m) dX13_does_76 rfl ?_
  refine V.iload_n hC (x := x) dX13_does_77 rfl ?_
  refine V.callV (n := 1) (As := [.int x]) (rest := []) hC (m_adds (kl K) G m nw bf sv hy tx li nmb iS rmb eA fA tyd ldd thr siz spt wrg tld σ s B hR hI hB x) SFk0 SFgo0 gX13_does_X13_adds rfl ⟨rfl, rfl⟩ (by decide +kernel) ⟨by decide, by decide, by decide, by decide⟩ [0, 1] rfl (by decide) (fun _ => rfl) rfl rfl rfl rfl (Nat.le_of_ble_eq_true rfl) dX13_does_78 (fun r_78 u_78 hp_78 => ?_)
  show V G K 5 0 0 81 [some (.ref m), some (.int (nI b)), some (.int x), some (.int (μ (b + 2))), some (.int (μ (b + 3)))] [.int r_78] [(m, .inr (13, [.ref nw, .ref bf, .ref sv, .ref hy, .int iS, .int rmb, .int eA, .int fA, .ref tx, .int tyd, .ref li, .int ldd, .int (nI (cd 0 (pwX 0 s x 0 0))), .int siz, .int spt, .int wrg, .int tld, .ref nmb])), (nw, .inl (gI G, 72, .inl u_78)), (nmb, .inl (gI G, 120, .inl μ))]
  exact hE 81 _ r_78 u_78 dX13_does_81 rfl hp_78

set_option maxHeartbeats 4000000 in
set_option maxRecDepth 100000 in
theorem m_does1 (l : Launch) (G : Gx) (m nw bf sv hy tx li nmb : Nat) (iS rmb eA fA tyd ldd thr siz spt wrg tld : Int32) (σ : Nat → Int32) (s : ASt) (B : Nat) (hR : Rel σ s) (hI : InvA B s) (hB : B < 2 ^ 30) (hB1 : B + 1 < 2 ^ 30) (μ : Nat → Int32) (b : Nat) (hb : b + 4 ≤ 120) (x y : Int32) (hμ0 : μ b = nI 1) (hμ1 : μ (b + 1) = x) (hμ2 : μ (b + 2) = y) : Ct l G SF0 yX13_does wsX13_does ({ frames := 3, cells := 0, slots := 0, locals := 66 }) [.ref m, .int (nI b)] [(m, .inr (13, [.ref nw, .ref bf, .ref sv, .ref hy, .int iS, .int rmb, .int eA, .int fA, .ref tx, .int tyd, .ref li, .int ldd, .int thr, .int siz, .int spt, .int wrg, .int tld, .ref nmb])), (nw, .inl (gI G, 72, .inl σ)), (nmb, .inl (gI G, 120, .inl μ))] mkI (fun (r : Int32) (u : Nat → Int32) => (pwX 1 s x y 0 = 0 ∧ Rel u (cX 1 s x y 0) ∧ r = rX 1 s x y 0) ∨ (¬ pwX 1 s x y 0 = 0 ∧ u = σ ∧ r = 0)) (fun u : Nat → Int32 => [(m, .inr (13, [.ref nw, .ref bf, .ref sv, .ref hy, .int iS, .int rmb, .int eA, .int fA, .ref tx, .int tyd, .ref li, .int ldd, .int (nI (cd 1 (pwX 1 s x y 0))), .int siz, .int spt, .int wrg, .int tld, .ref nmb])), (nw, .inl (gI G, 72, .inl u)), (nmb, .inl (gI G, 120, .inl μ))]) 0 0 := by
  refine Ct.ofI (cc := cX13_does) (maxL := 5) (by decide) rfl ⟨by simp [Value.category], Nat.le_of_ble_eq_true rfl⟩ ?_
  intro K hl hC hSF hnm hE
  subst hl
  have q0_ : ∀ w ∈ u_ws RX13 TX13 18, w ∈ wsX13_does := by decide +kernel
  have q1_ : Cond.fieldLink RX13 35 "FeatherSharesModel" "numbers" "[I" ∈ wsX13_does := by decide +kernel
  show V G K 5 0 0 0 [some (.ref m), some (.int (nI b)), none, none, none] [] [(m, .inr (13, [.ref nw, .ref bf, .ref sv, .ref hy, .int iS, .int rmb, .int eA, .int fA, .ref tx, .int tyd, .ref li, .int ldd, .int thr, .int siz, .int spt, .int wrg, .int tld, .ref nmb])), (nw, .inl (gI G, 72, .inl σ)), (nmb, .inl (gI G, 120, .inl μ))]
  refine V.aload_n hC (x := m) dX13_does_0 rfl ?_
  refine V.getf hC (T := TX13) q0_ 17 q1_ rfl (0) rfl rfl (by decide) (.ref nmb) rfl dX13_does_1 ?_
  refine V.iload_n hC (x := nI b) dX13_does_4 rfl ?_
  refine V.iconst hC 1 dX13_does_5 rfl ?_
  refine V.iaddN hC b 1 dX13_does_6 rfl rfl ?_
  refine V.iald hC dX13_does_7 (2) rfl (b + 1) rfl (by omega) (by decide) ?_
  refine V.topeq (x) hμ1 ?_
  refine V.istore_n hC dX13_does_8 [some (.ref m), some (.int (nI b)), some (.int x), none, none] (Nat.le_of_ble_eq_true rfl) rfl ?_
  refine V.aload_n hC (x := m) dX13_does_9 rfl ?_
  refine V.getf hC (T := TX13) q0_ 17 q1_ rfl (0) rfl rfl (by decide) (.ref nmb) rfl dX13_does_10 ?_
  refine V.iload_n hC (x := nI b) dX13_does_13 rfl ?_
  refine V.iconst hC 2 dX13_does_14 rfl ?_
  refine V.iaddN hC b 2 dX13_does_15 rfl rfl ?_
  refine V.iald hC dX13_does_16 (2) rfl (b + 2) rfl (by omega) (by decide) ?_
  refine V.topeq (y) hμ2 ?_
  refine V.istore_n hC dX13_does_17 [some (.ref m), some (.int (nI b)), some (.int x), some (.int y), none] (Nat.le_of_ble_eq_true rfl) rfl ?_
  refine V.aload_n hC (x := m) dX13_does_18 rfl ?_
  refine V.getf hC (T := TX13) q0_ 17 q1_ rfl (0) rfl rfl (by decide) (.ref nmb) rfl dX13_does_19 ?_
  refine V.iload_n hC (x := nI b) dX13_does_22 rfl ?_
  refine V.iconst hC 3 dX13_does_23 rfl ?_
  refine V.iaddN hC b 3 dX13_does_24 rfl rfl ?_
  refine V.iald hC dX13_does_25 (2) rfl (b + 3) rfl (by omega) (by decide) ?_
  refine V.istore hC dX13_does_26 [some (.ref m), some (.int (nI b)), some (.int x), some (.int y), some (.int (μ (b + 3)))] (Nat.le_of_ble_eq_true rfl) rfl ?_
  refine V.aload_n hC (x := m) dX13_does_28 rfl ?_
  refine V.getf hC (T := TX13) q0_ 17 q1_ rfl (0) rfl rfl (by decide) (.ref nmb) rfl dX13_does_29 ?_
  refine V.iload_n hC (x := nI b) dX13_does_32 rfl ?_
  refine V.iald hC dX13_does_33 (2) rfl b rfl (by omega) (by decide) ?_
  refine V.topeq (nI 1) hμ0 ?_
  refine V.tableIn hC (x := nI 1) (off := 48) 82 dX13_does_34 (by decide) (by decide) (by decide) rfl ?_
  refine V.aload_n hC (x := m) dX13_does_82 rfl ?_
  refine V.iload_n hC (x := x) dX13_does_83 rfl ?_
  refine V.iload_n hC (x := y) dX13_does_84 rfl ?_
  refine V.callV (n := 2) (As := [.int x, .int y]) (rest := []) hC (m_moves (kl K) G m nw bf sv hy tx li nmb iS rmb eA fA tyd ldd thr siz spt wrg tld σ s B hR hI hB x y) SFk0 SFgo0 gX13_does_X13_moves rfl ⟨rfl, rfl⟩ (by decide +kernel) ⟨by decide, by decide, by decide, by decide⟩ [0, 1] rfl (by decide) (fun _ => rfl) rfl rfl rfl rfl (Nat.le_of_ble_eq_true rfl) dX13_does_85 (fun r_85 u_85 hp_85 => ?_)
  show V G K 5 0 0 88 [some (.ref m), some (.int (nI b)), some (.int x), some (.int y), some (.int (μ (b + 3)))] [.int r_85] [(m, .inr (13, [.ref nw, .ref bf, .ref sv, .ref hy, .int iS, .int rmb, .int eA, .int fA, .ref tx, .int tyd, .ref li, .int ldd, .int (nI (cd 1 (pwX 1 s x y 0))), .int siz, .int spt, .int wrg, .int tld, .ref nmb])), (nw, .inl (gI G, 72, .inl u_85)), (nmb, .inl (gI G, 120, .inl μ))]
  exact hE 88 _ r_85 u_85 dX13_does_88 rfl hp_85

set_option maxHeartbeats 4000000 in
set_option maxRecDepth 100000 in
theorem m_does2 (l : Launch) (G : Gx) (m nw bf sv hy tx li nmb : Nat) (iS rmb eA fA tyd ldd thr siz spt wrg tld : Int32) (σ : Nat → Int32) (s : ASt) (B : Nat) (hR : Rel σ s) (hI : InvA B s) (hB : B < 2 ^ 30) (hB1 : B + 1 < 2 ^ 30) (μ : Nat → Int32) (b : Nat) (hb : b + 4 ≤ 120) (x y z : Int32) (hμ0 : μ b = nI 2) (hμ1 : μ (b + 1) = x) (hμ2 : μ (b + 2) = y) (hμ3 : μ (b + 3) = z) : Ct l G SF0 yX13_does wsX13_does ({ frames := 3, cells := 0, slots := 0, locals := 69 }) [.ref m, .int (nI b)] [(m, .inr (13, [.ref nw, .ref bf, .ref sv, .ref hy, .int iS, .int rmb, .int eA, .int fA, .ref tx, .int tyd, .ref li, .int ldd, .int thr, .int siz, .int spt, .int wrg, .int tld, .ref nmb])), (nw, .inl (gI G, 72, .inl σ)), (nmb, .inl (gI G, 120, .inl μ))] mkI (fun (r : Int32) (u : Nat → Int32) => (pwX 2 s x y z = 0 ∧ Rel u (cX 2 s x y z) ∧ r = rX 2 s x y z) ∨ (¬ pwX 2 s x y z = 0 ∧ u = σ ∧ r = 0)) (fun u : Nat → Int32 => [(m, .inr (13, [.ref nw, .ref bf, .ref sv, .ref hy, .int iS, .int rmb, .int eA, .int fA, .ref tx, .int tyd, .ref li, .int ldd, .int (nI (cd 2 (pwX 2 s x y z))), .int siz, .int spt, .int wrg, .int tld, .ref nmb])), (nw, .inl (gI G, 72, .inl u)), (nmb, .inl (gI G, 120, .inl μ))]) 0 0 := by
  refine Ct.ofI (cc := cX13_does) (maxL := 5) (by decide) rfl ⟨by simp [Value.category], Nat.le_of_ble_eq_true rfl⟩ ?_
  intro K hl hC hSF hnm hE
  subst hl
  have q0_ : ∀ w ∈ u_ws RX13 TX13 18, w ∈ wsX13_does := by decide +kernel
  have q1_ : Cond.fieldLink RX13 35 "FeatherSharesModel" "numbers" "[I" ∈ wsX13_does := by decide +kernel
  show V G K 5 0 0 0 [some (.ref m), some (.int (nI b)), none, none, none] [] [(m, .inr (13, [.ref nw, .ref bf, .ref sv, .ref hy, .int iS, .int rmb, .int eA, .int fA, .ref tx, .int tyd, .ref li, .int ldd, .int thr, .int siz, .int spt, .int wrg, .int tld, .ref nmb])), (nw, .inl (gI G, 72, .inl σ)), (nmb, .inl (gI G, 120, .inl μ))]
  refine V.aload_n hC (x := m) dX13_does_0 rfl ?_
  refine V.getf hC (T := TX13) q0_ 17 q1_ rfl (0) rfl rfl (by decide) (.ref nmb) rfl dX13_does_1 ?_
  refine V.iload_n hC (x := nI b) dX13_does_4 rfl ?_
  refine V.iconst hC 1 dX13_does_5 rfl ?_
  refine V.iaddN hC b 1 dX13_does_6 rfl rfl ?_
  refine V.iald hC dX13_does_7 (2) rfl (b + 1) rfl (by omega) (by decide) ?_
  refine V.topeq (x) hμ1 ?_
  refine V.istore_n hC dX13_does_8 [some (.ref m), some (.int (nI b)), some (.int x), none, none] (Nat.le_of_ble_eq_true rfl) rfl ?_
  refine V.aload_n hC (x := m) dX13_does_9 rfl ?_
  refine V.getf hC (T := TX13) q0_ 17 q1_ rfl (0) rfl rfl (by decide) (.ref nmb) rfl dX13_does_10 ?_
  refine V.iload_n hC (x := nI b) dX13_does_13 rfl ?_
  refine V.iconst hC 2 dX13_does_14 rfl ?_
  refine V.iaddN hC b 2 dX13_does_15 rfl rfl ?_
  refine V.iald hC dX13_does_16 (2) rfl (b + 2) rfl (by omega) (by decide) ?_
  refine V.topeq (y) hμ2 ?_
  refine V.istore_n hC dX13_does_17 [some (.ref m), some (.int (nI b)), some (.int x), some (.int y), none] (Nat.le_of_ble_eq_true rfl) rfl ?_
  refine V.aload_n hC (x := m) dX13_does_18 rfl ?_
  refine V.getf hC (T := TX13) q0_ 17 q1_ rfl (0) rfl rfl (by decide) (.ref nmb) rfl dX13_does_19 ?_
  refine V.iload_n hC (x := nI b) dX13_does_22 rfl ?_
  refine V.iconst hC 3 dX13_does_23 rfl ?_
  refine V.iaddN hC b 3 dX13_does_24 rfl rfl ?_
  refine V.iald hC dX13_does_25 (2) rfl (b + 3) rfl (by omega) (by decide) ?_
  refine V.topeq (z) hμ3 ?_
  refine V.istore hC dX13_does_26 [some (.ref m), some (.int (nI b)), some (.int x), some (.int y), some (.int z)] (Nat.le_of_ble_eq_true rfl) rfl ?_
  refine V.aload_n hC (x := m) dX13_does_28 rfl ?_
  refine V.getf hC (T := TX13) q0_ 17 q1_ rfl (0) rfl rfl (by decide) (.ref nmb) rfl dX13_does_29 ?_
  refine V.iload_n hC (x := nI b) dX13_does_32 rfl ?_
  refine V.iald hC dX13_does_33 (2) rfl b rfl (by omega) (by decide) ?_
  refine V.topeq (nI 2) hμ0 ?_
  refine V.tableIn hC (x := nI 2) (off := 55) 89 dX13_does_34 (by decide) (by decide) (by decide) rfl ?_
  refine V.aload_n hC (x := m) dX13_does_89 rfl ?_
  refine V.iload_n hC (x := x) dX13_does_90 rfl ?_
  refine V.iload_n hC (x := y) dX13_does_91 rfl ?_
  refine V.iload hC (x := z) dX13_does_92 rfl ?_
  refine V.callV (n := 3) (As := [.int x, .int y, .int z]) (rest := []) hC (m_splits (kl K) G m nw bf sv hy tx li nmb iS rmb eA fA tyd ldd thr siz spt wrg tld σ s B hR hI hB hB1 x y z) SFk0 SFgo0 gX13_does_X13_splits rfl ⟨rfl, rfl⟩ (by decide +kernel) ⟨by decide, by decide, by decide, by decide⟩ [0, 1] rfl (by decide) (fun _ => rfl) rfl rfl rfl rfl (Nat.le_of_ble_eq_true rfl) dX13_does_94 (fun r_94 u_94 hp_94 => ?_)
  show V G K 5 0 0 97 [some (.ref m), some (.int (nI b)), some (.int x), some (.int y), some (.int z)] [.int r_94] [(m, .inr (13, [.ref nw, .ref bf, .ref sv, .ref hy, .int iS, .int rmb, .int eA, .int fA, .ref tx, .int tyd, .ref li, .int ldd, .int (nI (cd 2 (pwX 2 s x y z))), .int siz, .int spt, .int wrg, .int tld, .ref nmb])), (nw, .inl (gI G, 72, .inl u_94)), (nmb, .inl (gI G, 120, .inl μ))]
  exact hE 97 _ r_94 u_94 dX13_does_97 rfl hp_94

set_option maxHeartbeats 4000000 in
set_option maxRecDepth 100000 in
theorem m_does3 (l : Launch) (G : Gx) (m nw bf sv hy tx li nmb : Nat) (iS rmb eA fA tyd ldd thr siz spt wrg tld : Int32) (σ : Nat → Int32) (s : ASt) (B : Nat) (hR : Rel σ s) (hI : InvA B s) (hB : B < 2 ^ 30) (hB1 : B + 1 < 2 ^ 30) (μ : Nat → Int32) (b : Nat) (hb : b + 4 ≤ 120) (x y : Int32) (hμ0 : μ b = nI 3) (hμ1 : μ (b + 1) = x) (hμ2 : μ (b + 2) = y) : Ct l G SF0 yX13_does wsX13_does ({ frames := 5, cells := 0, slots := 0, locals := 111 }) [.ref m, .int (nI b)] [(m, .inr (13, [.ref nw, .ref bf, .ref sv, .ref hy, .int iS, .int rmb, .int eA, .int fA, .ref tx, .int tyd, .ref li, .int ldd, .int thr, .int siz, .int spt, .int wrg, .int tld, .ref nmb])), (nw, .inl (gI G, 72, .inl σ)), (nmb, .inl (gI G, 120, .inl μ))] mkI (fun (r : Int32) (u : Nat → Int32) => (pwX 3 s x y 0 = 0 ∧ Rel u (cX 3 s x y 0) ∧ r = rX 3 s x y 0) ∨ (¬ pwX 3 s x y 0 = 0 ∧ u = σ ∧ r = 0)) (fun u : Nat → Int32 => [(m, .inr (13, [.ref nw, .ref bf, .ref sv, .ref hy, .int iS, .int rmb, .int eA, .int fA, .ref tx, .int tyd, .ref li, .int ldd, .int (nI (cd 3 (pwX 3 s x y 0))), .int siz, .int spt, .int wrg, .int tld, .ref nmb])), (nw, .inl (gI G, 72, .inl u)), (nmb, .inl (gI G, 120, .inl μ))]) 0 0 := by
  refine Ct.ofI (cc := cX13_does) (maxL := 5) (by decide) rfl ⟨by simp [Value.category], Nat.le_of_ble_eq_true rfl⟩ ?_
  intro K hl hC hSF hnm hE
  subst hl
  have q0_ : ∀ w ∈ u_ws RX13 TX13 18, w ∈ wsX13_does := by decide +kernel
  have q1_ : Cond.fieldLink RX13 35 "FeatherSharesModel" "numbers" "[I" ∈ wsX13_does := by decide +kernel
  show V G K 5 0 0 0 [some (.ref m), some (.int (nI b)), none, none, none] [] [(m, .inr (13, [.ref nw, .ref bf, .ref sv, .ref hy, .int iS, .int rmb, .int eA, .int fA, .ref tx, .int tyd, .ref li, .int ldd, .int thr, .int siz, .int spt, .int wrg, .int tld, .ref nmb])), (nw, .inl (gI G, 72, .inl σ)), (nmb, .inl (gI G, 120, .inl μ))]
  refine V.aload_n hC (x := m) dX13_does_0 rfl ?_
  refine V.getf hC (T := TX13) q0_ 17 q1_ rfl (0) rfl rfl (by decide) (.ref nmb) rfl dX13_does_1 ?_
  refine V.iload_n hC (x := nI b) dX13_does_4 rfl ?_
  refine V.iconst hC 1 dX13_does_5 rfl ?_
  refine V.iaddN hC b 1 dX13_does_6 rfl rfl ?_
  refine V.iald hC dX13_does_7 (2) rfl (b + 1) rfl (by omega) (by decide) ?_
  refine V.topeq (x) hμ1 ?_
  refine V.istore_n hC dX13_does_8 [some (.ref m), some (.int (nI b)), some (.int x), none, none] (Nat.le_of_ble_eq_true rfl) rfl ?_
  refine V.aload_n hC (x := m) dX13_does_9 rfl ?_
  refine V.getf hC (T := TX13) q0_ 17 q1_ rfl (0) rfl rfl (by decide) (.ref nmb) rfl dX13_does_10 ?_
  refine V.iload_n hC (x := nI b) dX13_does_13 rfl ?_
  refine V.iconst hC 2 dX13_does_14 rfl ?_
  refine V.iaddN hC b 2 dX13_does_15 rfl rfl ?_
  refine V.iald hC dX13_does_16 (2) rfl (b + 2) rfl (by omega) (by decide) ?_
  refine V.topeq (y) hμ2 ?_
  refine V.istore_n hC dX13_does_17 [some (.ref m), some (.int (nI b)), some (.int x), some (.int y), none] (Nat.le_of_ble_eq_true rfl) rfl ?_
  refine V.aload_n hC (x := m) dX13_does_18 rfl ?_
  refine V.getf hC (T := TX13) q0_ 17 q1_ rfl (0) rfl rfl (by decide) (.ref nmb) rfl dX13_does_19 ?_
  refine V.iload_n hC (x := nI b) dX13_does_22 rfl ?_
  refine V.iconst hC 3 dX13_does_23 rfl ?_
  refine V.iaddN hC b 3 dX13_does_24 rfl rfl ?_
  refine V.iald hC dX13_does_25 (2) rfl (b + 3) rfl (by omega) (by decide) ?_
  refine V.istore hC dX13_does_26 [some (.ref m), some (.int (nI b)), some (.int x), some (.int y), some (.int (μ (b + 3)))] (Nat.le_of_ble_eq_true rfl) rfl ?_
  refine V.aload_n hC (x := m) dX13_does_28 rfl ?_
  refine V.getf hC (T := TX13) q0_ 17 q1_ rfl (0) rfl rfl (by decide) (.ref nmb) rfl dX13_does_29 ?_
  refine V.iload_n hC (x := nI b) dX13_does_32 rfl ?_
  refine V.iald hC dX13_does_33 (2) rfl b rfl (by omega) (by decide) ?_
  refine V.topeq (nI 3) hμ0 ?_
  refine V.tableIn hC (x := nI 3) (off := 64) 98 dX13_does_34 (by decide) (by decide) (by decide) rfl ?_
  refine V.aload_n hC (x := m) dX13_does_98 rfl ?_
  refine V.iload_n hC (x := x) dX13_does_99 rfl ?_
  refine V.iload_n hC (x := y) dX13_does_100 rfl ?_
  refine V.callV (n := 2) (As := [.int x, .int y]) (rest := []) hC (m_loses (kl K) G m nw bf sv hy tx li nmb iS rmb eA fA tyd ldd thr siz spt wrg tld σ s B hR hI hB hB1 x y) SFk0 SFgo0 gX13_does_X13_loses rfl ⟨rfl, rfl⟩ (by decide +kernel) ⟨by decide, by decide, by decide, by decide⟩ [0, 1] rfl (by decide) (fun _ => rfl) rfl rfl rfl rfl (Nat.le_of_ble_eq_true rfl) dX13_does_101 (fun r_101 u_101 hp_101 => ?_)
  show V G K 5 0 0 104 [some (.ref m), some (.int (nI b)), some (.int x), some (.int y), some (.int (μ (b + 3)))] [.int r_101] [(m, .inr (13, [.ref nw, .ref bf, .ref sv, .ref hy, .int iS, .int rmb, .int eA, .int fA, .ref tx, .int tyd, .ref li, .int ldd, .int (nI (cd 3 (pwX 3 s x y 0))), .int siz, .int spt, .int wrg, .int tld, .ref nmb])), (nw, .inl (gI G, 72, .inl u_101)), (nmb, .inl (gI G, 120, .inl μ))]
  exact hE 104 _ r_101 u_101 dX13_does_104 rfl hp_101

set_option maxHeartbeats 4000000 in
set_option maxRecDepth 100000 in
theorem m_does4 (l : Launch) (G : Gx) (m nw bf sv hy tx li nmb : Nat) (iS rmb eA fA tyd ldd thr siz spt wrg tld : Int32) (σ : Nat → Int32) (s : ASt) (B : Nat) (hR : Rel σ s) (hI : InvA B s) (hB : B < 2 ^ 30) (hB1 : B + 1 < 2 ^ 30) (μ : Nat → Int32) (b : Nat) (hb : b + 4 ≤ 120) (x y z : Int32) (hμ0 : μ b = nI 4) (hμ1 : μ (b + 1) = x) (hμ2 : μ (b + 2) = y) (hμ3 : μ (b + 3) = z) : Ct l G SF0 yX13_does wsX13_does ({ frames := 4, cells := 0, slots := 0, locals := 91 }) [.ref m, .int (nI b)] [(m, .inr (13, [.ref nw, .ref bf, .ref sv, .ref hy, .int iS, .int rmb, .int eA, .int fA, .ref tx, .int tyd, .ref li, .int ldd, .int thr, .int siz, .int spt, .int wrg, .int tld, .ref nmb])), (nw, .inl (gI G, 72, .inl σ)), (nmb, .inl (gI G, 120, .inl μ))] mkI (fun (r : Int32) (u : Nat → Int32) => (pwX 4 s x y z = 0 ∧ Rel u (cX 4 s x y z) ∧ r = rX 4 s x y z) ∨ (¬ pwX 4 s x y z = 0 ∧ u = σ ∧ r = 0)) (fun u : Nat → Int32 => [(m, .inr (13, [.ref nw, .ref bf, .ref sv, .ref hy, .int iS, .int rmb, .int eA, .int fA, .ref tx, .int tyd, .ref li, .int ldd, .int (nI (cd 4 (pwX 4 s x y z))), .int siz, .int spt, .int wrg, .int tld, .ref nmb])), (nw, .inl (gI G, 72, .inl u)), (nmb, .inl (gI G, 120, .inl μ))]) 0 0 := by
  refine Ct.ofI (cc := cX13_does) (maxL := 5) (by decide) rfl ⟨by simp [Value.category], Nat.le_of_ble_eq_true rfl⟩ ?_
  intro K hl hC hSF hnm hE
  subst hl
  have q0_ : ∀ w ∈ u_ws RX13 TX13 18, w ∈ wsX13_does := by decide +kernel
  have q1_ : Cond.fieldLink RX13 35 "FeatherSharesModel" "numbers" "[I" ∈ wsX13_does := by decide +kernel
  show V G K 5 0 0 0 [some (.ref m), some (.int (nI b)), none, none, none] [] [(m, .inr (13, [.ref nw, .ref bf, .ref sv, .ref hy, .int iS, .int rmb, .int eA, .int fA, .ref tx, .int tyd, .ref li, .int ldd, .int thr, .int siz, .int spt, .int wrg, .int tld, .ref nmb])), (nw, .inl (gI G, 72, .inl σ)), (nmb, .inl (gI G, 120, .inl μ))]
  refine V.aload_n hC (x := m) dX13_does_0 rfl ?_
  refine V.getf hC (T := TX13) q0_ 17 q1_ rfl (0) rfl rfl (by decide) (.ref nmb) rfl dX13_does_1 ?_
  refine V.iload_n hC (x := nI b) dX13_does_4 rfl ?_
  refine V.iconst hC 1 dX13_does_5 rfl ?_
  refine V.iaddN hC b 1 dX13_does_6 rfl rfl ?_
  refine V.iald hC dX13_does_7 (2) rfl (b + 1) rfl (by omega) (by decide) ?_
  refine V.topeq (x) hμ1 ?_
  refine V.istore_n hC dX13_does_8 [some (.ref m), some (.int (nI b)), some (.int x), none, none] (Nat.le_of_ble_eq_true rfl) rfl ?_
  refine V.aload_n hC (x := m) dX13_does_9 rfl ?_
  refine V.getf hC (T := TX13) q0_ 17 q1_ rfl (0) rfl rfl (by decide) (.ref nmb) rfl dX13_does_10 ?_
  refine V.iload_n hC (x := nI b) dX13_does_13 rfl ?_
  refine V.iconst hC 2 dX13_does_14 rfl ?_
  refine V.iaddN hC b 2 dX13_does_15 rfl rfl ?_
  refine V.iald hC dX13_does_16 (2) rfl (b + 2) rfl (by omega) (by decide) ?_
  refine V.topeq (y) hμ2 ?_
  refine V.istore_n hC dX13_does_17 [some (.ref m), some (.int (nI b)), some (.int x), some (.int y), none] (Nat.le_of_ble_eq_true rfl) rfl ?_
  refine V.aload_n hC (x := m) dX13_does_18 rfl ?_
  refine V.getf hC (T := TX13) q0_ 17 q1_ rfl (0) rfl rfl (by decide) (.ref nmb) rfl dX13_does_19 ?_
  refine V.iload_n hC (x := nI b) dX13_does_22 rfl ?_
  refine V.iconst hC 3 dX13_does_23 rfl ?_
  refine V.iaddN hC b 3 dX13_does_24 rfl rfl ?_
  refine V.iald hC dX13_does_25 (2) rfl (b + 3) rfl (by omega) (by decide) ?_
  refine V.topeq (z) hμ3 ?_
  refine V.istore hC dX13_does_26 [some (.ref m), some (.int (nI b)), some (.int x), some (.int y), some (.int z)] (Nat.le_of_ble_eq_true rfl) rfl ?_
  refine V.aload_n hC (x := m) dX13_does_28 rfl ?_
  refine V.getf hC (T := TX13) q0_ 17 q1_ rfl (0) rfl rfl (by decide) (.ref nmb) rfl dX13_does_29 ?_
  refine V.iload_n hC (x := nI b) dX13_does_32 rfl ?_
  refine V.iald hC dX13_does_33 (2) rfl b rfl (by omega) (by decide) ?_
  refine V.topeq (nI 4) hμ0 ?_
  refine V.tableIn hC (x := nI 4) (off := 71) 105 dX13_does_34 (by decide) (by decide) (by decide) rfl ?_
  refine V.aload_n hC (x := m) dX13_does_105 rfl ?_
  refine V.iload_n hC (x := x) dX13_does_106 rfl ?_
  refine V.iload_n hC (x := y) dX13_does_107 rfl ?_
  refine V.iload hC (x := z) dX13_does_108 rfl ?_
  refine V.callV (n := 3) (As := [.int x, .int y, .int z]) (rest := []) hC (m_spoils (kl K) G m nw bf sv hy tx li nmb iS rmb eA fA tyd ldd thr siz spt wrg tld σ s B hR hI hB x y z) SFk0 SFgo0 gX13_does_X13_spoils rfl ⟨rfl, rfl⟩ (by decide +kernel) ⟨by decide, by decide, by decide, by decide⟩ [0, 1] rfl (by decide) (fun _ => rfl) rfl rfl rfl rfl (Nat.le_of_ble_eq_true rfl) dX13_does_110 (fun r_110 u_110 hp_110 => ?_)
  show V G K 5 0 0 113 [some (.ref m), some (.int (nI b)), some (.int x), some (.int y), some (.int z)] [.int r_110] [(m, .inr (13, [.ref nw, .ref bf, .ref sv, .ref hy, .int iS, .int rmb, .int eA, .int fA, .ref tx, .int tyd, .ref li, .int ldd, .int (nI (cd 4 (pwX 4 s x y z))), .int siz, .int spt, .int wrg, .int tld, .ref nmb])), (nw, .inl (gI G, 72, .inl u_110)), (nmb, .inl (gI G, 120, .inl μ))]
  exact hE 113 _ r_110 u_110 dX13_does_113 rfl hp_110

set_option maxHeartbeats 4000000 in
set_option maxRecDepth 100000 in
theorem m_does5 (l : Launch) (G : Gx) (m nw bf sv hy tx li nmb : Nat) (iS rmb eA fA tyd ldd thr siz spt wrg tld : Int32) (σ : Nat → Int32) (s : ASt) (B : Nat) (hR : Rel σ s) (hI : InvA B s) (hB : B < 2 ^ 30) (hB1 : B + 1 < 2 ^ 30) (μ : Nat → Int32) (b : Nat) (hb : b + 4 ≤ 120) (x y : Int32) (hμ0 : μ b = nI 5) (hμ1 : μ (b + 1) = x) (hμ2 : μ (b + 2) = y) : Ct l G SF0 yX13_does wsX13_does ({ frames := 6, cells := 0, slots := 0, locals := 133 }) [.ref m, .int (nI b)] [(m, .inr (13, [.ref nw, .ref bf, .ref sv, .ref hy, .int iS, .int rmb, .int eA, .int fA, .ref tx, .int tyd, .ref li, .int ldd, .int thr, .int siz, .int spt, .int wrg, .int tld, .ref nmb])), (nw, .inl (gI G, 72, .inl σ)), (nmb, .inl (gI G, 120, .inl μ))] mkI (fun (r : Int32) (u : Nat → Int32) => (pwX 5 s x y 0 = 0 ∧ Rel u (cX 5 s x y 0) ∧ r = rX 5 s x y 0) ∨ (¬ pwX 5 s x y 0 = 0 ∧ u = σ ∧ r = 0)) (fun u : Nat → Int32 => [(m, .inr (13, [.ref nw, .ref bf, .ref sv, .ref hy, .int iS, .int rmb, .int eA, .int fA, .ref tx, .int tyd, .ref li, .int ldd, .int (nI (cd 5 (pwX 5 s x y 0))), .int siz, .int spt, .int wrg, .int tld, .ref nmb])), (nw, .inl (gI G, 72, .inl u)), (nmb, .inl (gI G, 120, .inl μ))]) 0 0 := by
  refine Ct.ofI (cc := cX13_does) (maxL := 5) (by decide) rfl ⟨by simp [Value.category], Nat.le_of_ble_eq_true rfl⟩ ?_
  intro K hl hC hSF hnm hE
  subst hl
  have q0_ : ∀ w ∈ u_ws RX13 TX13 18, w ∈ wsX13_does := by decide +kernel
  have q1_ : Cond.fieldLink RX13 35 "FeatherSharesModel" "numbers" "[I" ∈ wsX13_does := by decide +kernel
  show V G K 5 0 0 0 [some (.ref m), some (.int (nI b)), none, none, none] [] [(m, .inr (13, [.ref nw, .ref bf, .ref sv, .ref hy, .int iS, .int rmb, .int eA, .int fA, .ref tx, .int tyd, .ref li, .int ldd, .int thr, .int siz, .int spt, .int wrg, .int tld, .ref nmb])), (nw, .inl (gI G, 72, .inl σ)), (nmb, .inl (gI G, 120, .inl μ))]
  refine V.aload_n hC (x := m) dX13_does_0 rfl ?_
  refine V.getf hC (T := TX13) q0_ 17 q1_ rfl (0) rfl rfl (by decide) (.ref nmb) rfl dX13_does_1 ?_
  refine V.iload_n hC (x := nI b) dX13_does_4 rfl ?_
  refine V.iconst hC 1 dX13_does_5 rfl ?_
  refine V.iaddN hC b 1 dX13_does_6 rfl rfl ?_
  refine V.iald hC dX13_does_7 (2) rfl (b + 1) rfl (by omega) (by decide) ?_
  refine V.topeq (x) hμ1 ?_
  refine V.istore_n hC dX13_does_8 [some (.ref m), some (.int (nI b)), some (.int x), none, none] (Nat.le_of_ble_eq_true rfl) rfl ?_
  refine V.aload_n hC (x := m) dX13_does_9 rfl ?_
  refine V.getf hC (T := TX13) q0_ 17 q1_ rfl (0) rfl rfl (by decide) (.ref nmb) rfl dX13_does_10 ?_
  refine V.iload_n hC (x := nI b) dX13_does_13 rfl ?_
  refine V.iconst hC 2 dX13_does_14 rfl ?_
  refine V.iaddN hC b 2 dX13_does_15 rfl rfl ?_
  refine V.iald hC dX13_does_16 (2) rfl (b + 2) rfl (by omega) (by decide) ?_
  refine V.topeq (y) hμ2 ?_
  refine V.istore_n hC dX13_does_17 [some (.ref m), some (.int (nI b)), some (.int x), some (.int y), none] (Nat.le_of_ble_eq_true rfl) rfl ?_
  refine V.aload_n hC (x := m) dX13_does_18 rfl ?_
  refine V.getf hC (T := TX13) q0_ 17 q1_ rfl (0) rfl rfl (by decide) (.ref nmb) rfl dX13_does_19 ?_
  refine V.iload_n hC (x := nI b) dX13_does_22 rfl ?_
  refine V.iconst hC 3 dX13_does_23 rfl ?_
  refine V.iaddN hC b 3 dX13_does_24 rfl rfl ?_
  refine V.iald hC dX13_does_25 (2) rfl (b + 3) rfl (by omega) (by decide) ?_
  refine V.istore hC dX13_does_26 [some (.ref m), some (.int (nI b)), some (.int x), some (.int y), some (.int (μ (b + 3)))] (Nat.le_of_ble_eq_true rfl) rfl ?_
  refine V.aload_n hC (x := m) dX13_does_28 rfl ?_
  refine V.getf hC (T := TX13) q0_ 17 q1_ rfl (0) rfl rfl (by decide) (.ref nmb) rfl dX13_does_29 ?_
  refine V.iload_n hC (x := nI b) dX13_does_32 rfl ?_
  refine V.iald hC dX13_does_33 (2) rfl b rfl (by omega) (by decide) ?_
  refine V.topeq (nI 5) hμ0 ?_
  refine V.tableIn hC (x := nI 5) (off := 80) 114 dX13_does_34 (by decide) (by decide) (by decide) rfl ?_
  refine V.aload_n hC (x := m) dX13_does_114 rfl ?_
  refine V.iload_n hC (x := x) dX13_does_115 rfl ?_
  refine V.iload_n hC (x := y) dX13_does_116 rfl ?_
  refine V.callV (n := 2) (As := [.int x, .int y]) (rest := []) hC (m_issues (kl K) G m nw bf sv hy tx li nmb iS rmb eA fA tyd ldd thr siz spt wrg tld σ s B hR hI hB x y) SFk0 SFgo0 gX13_does_X13_issues rfl ⟨rfl, rfl⟩ (by decide +kernel) ⟨by decide, by decide, by decide, by decide⟩ [0, 1] rfl (by decide) (fun _ => rfl) rfl rfl rfl rfl (Nat.le_of_ble_eq_true rfl) dX13_does_117 (fun r_117 u_117 hp_117 => ?_)
  show V G K 5 0 0 120 [some (.ref m), some (.int (nI b)), some (.int x), some (.int y), some (.int (μ (b + 3)))] [.int r_117] [(m, .inr (13, [.ref nw, .ref bf, .ref sv, .ref hy, .int iS, .int rmb, .int eA, .int fA, .ref tx, .int tyd, .ref li, .int ldd, .int (nI (cd 5 (pwX 5 s x y 0))), .int siz, .int spt, .int wrg, .int tld, .ref nmb])), (nw, .inl (gI G, 72, .inl u_117)), (nmb, .inl (gI G, 120, .inl μ))]
  exact hE 120 _ r_117 u_117 dX13_does_120 rfl hp_117

set_option maxHeartbeats 4000000 in
set_option maxRecDepth 100000 in
theorem m_does6 (l : Launch) (G : Gx) (m nw bf sv hy tx li nmb : Nat) (iS rmb eA fA tyd ldd thr siz spt wrg tld : Int32) (σ : Nat → Int32) (s : ASt) (B : Nat) (hR : Rel σ s) (hI : InvA B s) (hB : B < 2 ^ 30) (hB1 : B + 1 < 2 ^ 30) (μ : Nat → Int32) (b : Nat) (hb : b + 4 ≤ 120) (x y : Int32) (hμ0 : μ b = nI 6) (hμ1 : μ (b + 1) = x) (hμ2 : μ (b + 2) = y) : Ct l G SF0 yX13_does wsX13_does ({ frames := 4, cells := 0, slots := 0, locals := 92 }) [.ref m, .int (nI b)] [(m, .inr (13, [.ref nw, .ref bf, .ref sv, .ref hy, .int iS, .int rmb, .int eA, .int fA, .ref tx, .int tyd, .ref li, .int ldd, .int thr, .int siz, .int spt, .int wrg, .int tld, .ref nmb])), (nw, .inl (gI G, 72, .inl σ)), (nmb, .inl (gI G, 120, .inl μ))] mkI (fun (r : Int32) (u : Nat → Int32) => (pwX 6 s x y 0 = 0 ∧ Rel u (cX 6 s x y 0) ∧ r = rX 6 s x y 0) ∨ (¬ pwX 6 s x y 0 = 0 ∧ u = σ ∧ r = 0)) (fun u : Nat → Int32 => [(m, .inr (13, [.ref nw, .ref bf, .ref sv, .ref hy, .int iS, .int rmb, .int eA, .int fA, .ref tx, .int tyd, .ref li, .int ldd, .int (nI (cd 6 (pwX 6 s x y 0))), .int siz, .int spt, .int wrg, .int tld, .ref nmb])), (nw, .inl (gI G, 72, .inl u)), (nmb, .inl (gI G, 120, .inl μ))]) 0 0 := by
  refine Ct.ofI (cc := cX13_does) (maxL := 5) (by decide) rfl ⟨by simp [Value.category], Nat.le_of_ble_eq_true rfl⟩ ?_
  intro K hl hC hSF hnm hE
  subst hl
  have q0_ : ∀ w ∈ u_ws RX13 TX13 18, w ∈ wsX13_does := by decide +kernel
  have q1_ : Cond.fieldLink RX13 35 "FeatherSharesModel" "numbers" "[I" ∈ wsX13_does := by decide +kernel
  show V G K 5 0 0 0 [some (.ref m), some (.int (nI b)), none, none, none] [] [(m, .inr (13, [.ref nw, .ref bf, .ref sv, .ref hy, .int iS, .int rmb, .int eA, .int fA, .ref tx, .int tyd, .ref li, .int ldd, .int thr, .int siz, .int spt, .int wrg, .int tld, .ref nmb])), (nw, .inl (gI G, 72, .inl σ)), (nmb, .inl (gI G, 120, .inl μ))]
  refine V.aload_n hC (x := m) dX13_does_0 rfl ?_
  refine V.getf hC (T := TX13) q0_ 17 q1_ rfl (0) rfl rfl (by decide) (.ref nmb) rfl dX13_does_1 ?_
  refine V.iload_n hC (x := nI b) dX13_does_4 rfl ?_
  refine V.iconst hC 1 dX13_does_5 rfl ?_
  refine V.iaddN hC b 1 dX13_does_6 rfl rfl ?_
  refine V.iald hC dX13_does_7 (2) rfl (b + 1) rfl (by omega) (by decide) ?_
  refine V.topeq (x) hμ1 ?_
  refine V.istore_n hC dX13_does_8 [some (.ref m), some (.int (nI b)), some (.int x), none, none] (Nat.le_of_ble_eq_true rfl) rfl ?_
  refine V.aload_n hC (x := m) dX13_does_9 rfl ?_
  refine V.getf hC (T := TX13) q0_ 17 q1_ rfl (0) rfl rfl (by decide) (.ref nmb) rfl dX13_does_10 ?_
  refine V.iload_n hC (x := nI b) dX13_does_13 rfl ?_
  refine V.iconst hC 2 dX13_does_14 rfl ?_
  refine V.iaddN hC b 2 dX13_does_15 rfl rfl ?_
  refine V.iald hC dX13_does_16 (2) rfl (b + 2) rfl (by omega) (by decide) ?_
  refine V.topeq (y) hμ2 ?_
  refine V.istore_n hC dX13_does_17 [some (.ref m), some (.int (nI b)), some (.int x), some (.int y), none] (Nat.le_of_ble_eq_true rfl) rfl ?_
  refine V.aload_n hC (x := m) dX13_does_18 rfl ?_
  refine V.getf hC (T := TX13) q0_ 17 q1_ rfl (0) rfl rfl (by decide) (.ref nmb) rfl dX13_does_19 ?_
  refine V.iload_n hC (x := nI b) dX13_does_22 rfl ?_
  refine V.iconst hC 3 dX13_does_23 rfl ?_
  refine V.iaddN hC b 3 dX13_does_24 rfl rfl ?_
  refine V.iald hC dX13_does_25 (2) rfl (b + 3) rfl (by omega) (by decide) ?_
  refine V.istore hC dX13_does_26 [some (.ref m), some (.int (nI b)), some (.int x), some (.int y), some (.int (μ (b + 3)))] (Nat.le_of_ble_eq_true rfl) rfl ?_
  refine V.aload_n hC (x := m) dX13_does_28 rfl ?_
  refine V.getf hC (T := TX13) q0_ 17 q1_ rfl (0) rfl rfl (by decide) (.ref nmb) rfl dX13_does_29 ?_
  refine V.iload_n hC (x := nI b) dX13_does_32 rfl ?_
  refine V.iald hC dX13_does_33 (2) rfl b rfl (by omega) (by decide) ?_
  refine V.topeq (nI 6) hμ0 ?_
  refine V.tableIn hC (x := nI 6) (off := 87) 121 dX13_does_34 (by decide) (by decide) (by decide) rfl ?_
  refine V.aload_n hC (x := m) dX13_does_121 rfl ?_
  refine V.iload_n hC (x := x) dX13_does_122 rfl ?_
  refine V.iload_n hC (x := y) dX13_does_123 rfl ?_
  refine V.callV (n := 2) (As := [.int x, .int y]) (rest := []) hC (m_refreshes (kl K) G m nw bf sv hy tx li nmb iS rmb eA fA tyd ldd thr siz spt wrg tld σ s B hR hI hB hB1 x y) SFk0 SFgo0 gX13_does_X13_refreshes rfl ⟨rfl, rfl⟩ (by decide +kernel) ⟨by decide, by decide, by decide, by decide⟩ [0, 1] rfl (by decide) (fun _ => rfl) rfl rfl rfl rfl (Nat.le_of_ble_eq_true rfl) dX13_does_124 (fun r_124 u_124 hp_124 => ?_)
  show V G K 5 0 0 127 [some (.ref m), some (.int (nI b)), some (.int x), some (.int y), some (.int (μ (b + 3)))] [.int r_124] [(m, .inr (13, [.ref nw, .ref bf, .ref sv, .ref hy, .int iS, .int rmb, .int eA, .int fA, .ref tx, .int tyd, .ref li, .int ldd, .int (nI (cd 6 (pwX 6 s x y 0))), .int siz, .int spt, .int wrg, .int tld, .ref nmb])), (nw, .inl (gI G, 72, .inl u_124)), (nmb, .inl (gI G, 120, .inl μ))]
  exact hE 127 _ r_124 u_124 dX13_does_127 rfl hp_124

set_option maxHeartbeats 4000000 in
set_option maxRecDepth 100000 in
theorem m_does7 (l : Launch) (G : Gx) (m nw bf sv hy tx li nmb : Nat) (iS rmb eA fA tyd ldd thr siz spt wrg tld : Int32) (σ : Nat → Int32) (s : ASt) (B : Nat) (hR : Rel σ s) (hI : InvA B s) (hB : B < 2 ^ 30) (hB1 : B + 1 < 2 ^ 30) (μ : Nat → Int32) (b : Nat) (hb : b + 4 ≤ 120) (x : Int32) (hμ0 : μ b = nI 7) (hμ1 : μ (b + 1) = x) : Ct l G SF0 yX13_does wsX13_does ({ frames := 5, cells := 0, slots := 0, locals := 112 }) [.ref m, .int (nI b)] [(m, .inr (13, [.ref nw, .ref bf, .ref sv, .ref hy, .int iS, .int rmb, .int eA, .int fA, .ref tx, .int tyd, .ref li, .int ldd, .int thr, .int siz, .int spt, .int wrg, .int tld, .ref nmb])), (nw, .inl (gI G, 72, .inl σ)), (nmb, .inl (gI G, 120, .inl μ))] mkI (fun (r : Int32) (u : Nat → Int32) => (pwX 7 s x 0 0 = 0 ∧ Rel u (cX 7 s x 0 0) ∧ r = rX 7 s x 0 0) ∨ (¬ pwX 7 s x 0 0 = 0 ∧ u = σ ∧ r = 0)) (fun u : Nat → Int32 => [(m, .inr (13, [.ref nw, .ref bf, .ref sv, .ref hy, .int iS, .int rmb, .int eA, .int fA, .ref tx, .int tyd, .ref li, .int ldd, .int (nI (cd 7 (pwX 7 s x 0 0))), .int siz, .int spt, .int wrg, .int tld, .ref nmb])), (nw, .inl (gI G, 72, .inl u)), (nmb, .inl (gI G, 120, .inl μ))]) 0 0 := by
  refine Ct.ofI (cc := cX13_does) (maxL := 5) (by decide) rfl ⟨by simp [Value.category], Nat.le_of_ble_eq_true rfl⟩ ?_
  intro K hl hC hSF hnm hE
  subst hl
  have q0_ : ∀ w ∈ u_ws RX13 TX13 18, w ∈ wsX13_does := by decide +kernel
  have q1_ : Cond.fieldLink RX13 35 "FeatherSharesModel" "numbers" "[I" ∈ wsX13_does := by decide +kernel
  show V G K 5 0 0 0 [some (.ref m), some (.int (nI b)), none, none, none] [] [(m, .inr (13, [.ref nw, .ref bf, .ref sv, .ref hy, .int iS, .int rmb, .int eA, .int fA, .ref tx, .int tyd, .ref li, .int ldd, .int thr, .int siz, .int spt, .int wrg, .int tld, .ref nmb])), (nw, .inl (gI G, 72, .inl σ)), (nmb, .inl (gI G, 120, .inl μ))]
  refine V.aload_n hC (x := m) dX13_does_0 rfl ?_
  refine V.getf hC (T := TX13) q0_ 17 q1_ rfl (0) rfl rfl (by decide) (.ref nmb) rfl dX13_does_1 ?_
  refine V.iload_n hC (x := nI b) dX13_does_4 rfl ?_
  refine V.iconst hC 1 dX13_does_5 rfl ?_
  refine V.iaddN hC b 1 dX13_does_6 rfl rfl ?_
  refine V.iald hC dX13_does_7 (2) rfl (b + 1) rfl (by omega) (by decide) ?_
  refine V.topeq (x) hμ1 ?_
  refine V.istore_n hC dX13_does_8 [some (.ref m), some (.int (nI b)), some (.int x), none, none] (Nat.le_of_ble_eq_true rfl) rfl ?_
  refine V.aload_n hC (x := m) dX13_does_9 rfl ?_
  refine V.getf hC (T := TX13) q0_ 17 q1_ rfl (0) rfl rfl (by decide) (.ref nmb) rfl dX13_does_10 ?_
  refine V.iload_n hC (x := nI b) dX13_does_13 rfl ?_
  refine V.iconst hC 2 dX13_does_14 rfl ?_
  refine V.iaddN hC b 2 dX13_does_15 rfl rfl ?_
  refine V.iald hC dX13_does_16 (2) rfl (b + 2) rfl (by omega) (by decide) ?_
  refine V.istore_n hC dX13_does_17 [some (.ref m), some (.int (nI b)), some (.int x), some (.int (μ (b + 2))), none] (Nat.le_of_ble_eq_true rfl) rfl ?_
  refine V.aload_n hC (x := m) dX13_does_18 rfl ?_
  refine V.getf hC (T := TX13) q0_ 17 q1_ rfl (0) rfl rfl (by decide) (.ref nmb) rfl dX13_does_19 ?_
  refine V.iload_n hC (x := nI b) dX13_does_22 rfl ?_
  refine V.iconst hC 3 dX13_does_23 rfl ?_
  refine V.iaddN hC b 3 dX13_does_24 rfl rfl ?_
  refine V.iald hC dX13_does_25 (2) rfl (b + 3) rfl (by omega) (by decide) ?_
  refine V.istore hC dX13_does_26 [some (.ref m), some (.int (nI b)), some (.int x), some (.int (μ (b + 2))), some (.int (μ (b + 3)))] (Nat.le_of_ble_eq_true rfl) rfl ?_
  refine V.aload_n hC (x := m) dX13_does_28 rfl ?_
  refine V.getf hC (T := TX13) q0_ 17 q1_ rfl (0) rfl rfl (by decide) (.ref nmb) rfl dX13_does_29 ?_
  refine V.iload_n hC (x := nI b) dX13_does_32 rfl ?_
  refine V.iald hC dX13_does_33 (2) rfl b rfl (by omega) (by decide) ?_
  refine V.topeq (nI 7) hμ0 ?_
  refine V.tableOut hC (x := nI 7) 128 dX13_does_34 (by decide) rfl ?_
  refine V.aload_n hC (x := m) dX13_does_128 rfl ?_
  refine V.iload_n hC (x := x) dX13_does_129 rfl ?_
  refine V.callV (n := 1) (As := [.int x]) (rest := []) hC (m_forgets (kl K) G m nw bf sv hy tx li nmb iS rmb eA fA tyd ldd thr siz spt wrg tld σ s B hR hI hB x) SFk0 SFgo0 gX13_does_X13_forgets rfl ⟨rfl, rfl⟩ (by decide +kernel) ⟨by decide, by decide, by decide, by decide⟩ [0, 1] rfl (by decide) (fun _ => rfl) rfl rfl rfl rfl (Nat.le_of_ble_eq_true rfl) dX13_does_130 (fun r_130 u_130 hp_130 => ?_)
  show V G K 5 0 0 133 [some (.ref m), some (.int (nI b)), some (.int x), some (.int (μ (b + 2))), some (.int (μ (b + 3)))] [.int r_130] [(m, .inr (13, [.ref nw, .ref bf, .ref sv, .ref hy, .int iS, .int rmb, .int eA, .int fA, .ref tx, .int tyd, .ref li, .int ldd, .int (nI (cd 7 (pwX 7 s x 0 0))), .int siz, .int spt, .int wrg, .int tld, .ref nmb])), (nw, .inl (gI G, 72, .inl u_130)), (nmb, .inl (gI G, 120, .inl μ))]
  exact hE 133 _ r_130 u_130 dX13_does_133 rfl hp_130

set_option maxHeartbeats 4000000 in
theorem m_does (l : Launch) (G : Gx) (m nw bf sv hy tx li nmb : Nat) (iS rmb eA fA tyd ldd thr siz spt wrg tld : Int32) (σ : Nat → Int32) (s : ASt) (B : Nat) (hR : Rel σ s) (hI : InvA B s) (hB : B < 2 ^ 30) (hB1 : B + 1 < 2 ^ 30) (μ : Nat → Int32) (b : Nat) (hb : b + 4 ≤ 120) (τ : Nat → Int32) (ln sr i : Nat) (hi : i < 8) (hG : Gd τ ln sr i μ b) : Ct l G SF0 yX13_does wsX13_does ({ frames := 6, cells := 0, slots := 0, locals := 133 }) [.ref m, .int (nI b)] [(m, .inr (13, [.ref nw, .ref bf, .ref sv, .ref hy, .int iS, .int rmb, .int eA, .int fA, .ref tx, .int tyd, .ref li, .int ldd, .int thr, .int siz, .int spt, .int wrg, .int tld, .ref nmb])), (nw, .inl (gI G, 72, .inl σ)), (nmb, .inl (gI G, 120, .inl μ))] mkI (fun (r : Int32) (u : Nat → Int32) => (pwX i s (agx τ ln sr i 0) (agx τ ln sr i 1) (agx τ ln sr i 2) = 0 ∧ Rel u (cX i s (agx τ ln sr i 0) (agx τ ln sr i 1) (agx τ ln sr i 2)) ∧ r = rX i s (agx τ ln sr i 0) (agx τ ln sr i 1) (agx τ ln sr i 2)) ∨ (¬ pwX i s (agx τ ln sr i 0) (agx τ ln sr i 1) (agx τ ln sr i 2) = 0 ∧ u = σ ∧ r = 0)) (fun u : Nat → Int32 => [(m, .inr (13, [.ref nw, .ref bf, .ref sv, .ref hy, .int iS, .int rmb, .int eA, .int fA, .ref tx, .int tyd, .ref li, .int ldd, .int (nI (cd i (pwX i s (agx τ ln sr i 0) (agx τ ln sr i 1) (agx τ ln sr i 2)))), .int siz, .int spt, .int wrg, .int tld, .ref nmb])), (nw, .inl (gI G, 72, .inl u)), (nmb, .inl (gI G, 120, .inl μ))]) 0 0 := by
  obtain rfl | rfl | rfl | rfl | rfl | rfl | rfl | rfl := lt8 hi
  · rw [hG.2.2 1 (by decide), hG.2.2 2 (by decide)]
    exact Ct.room (m_does0 l G m nw bf sv hy tx li nmb iS rmb eA fA tyd ldd thr siz spt wrg tld σ s B hR hI hB hB1 μ b hb (agx τ ln sr 0 0) hG.1 (hG.2.1 0 (by decide))) (by decide) (by decide) (by decide) (by decide)
  · rw [hG.2.2 2 (by decide)]
    exact Ct.room (m_does1 l G m nw bf sv hy tx li nmb iS rmb eA fA tyd ldd thr siz spt wrg tld σ s B hR hI hB hB1 μ b hb (agx τ ln sr 1 0) (agx τ ln sr 1 1) hG.1 (hG.2.1 0 (by decide)) (hG.2.1 1 (by decide))) (by decide) (by decide) (by decide) (by decide)
  · exact Ct.room (m_does2 l G m nw bf sv hy tx li nmb iS rmb eA fA tyd ldd thr siz spt wrg tld σ s B hR hI hB hB1 μ b hb (agx τ ln sr 2 0) (agx τ ln sr 2 1) (agx τ ln sr 2 2) hG.1 (hG.2.1 0 (by decide)) (hG.2.1 1 (by decide)) (hG.2.1 2 (by decide))) (by decide) (by decide) (by decide) (by decide)
  · rw [hG.2.2 2 (by decide)]
    exact Ct.room (m_does3 l G m nw bf sv hy tx li nmb iS rmb eA fA tyd ldd thr siz spt wrg tld σ s B hR hI hB hB1 μ b hb (agx τ ln sr 3 0) (agx τ ln sr 3 1) hG.1 (hG.2.1 0 (by decide)) (hG.2.1 1 (by decide))) (by decide) (by decide) (by decide) (by decide)
  · exact Ct.room (m_does4 l G m nw bf sv hy tx li nmb iS rmb eA fA tyd ldd thr siz spt wrg tld σ s B hR hI hB hB1 μ b hb (agx τ ln sr 4 0) (agx τ ln sr 4 1) (agx τ ln sr 4 2) hG.1 (hG.2.1 0 (by decide)) (hG.2.1 1 (by decide)) (hG.2.1 2 (by decide))) (by decide) (by decide) (by decide) (by decide)
  · rw [hG.2.2 2 (by decide)]
    exact Ct.room (m_does5 l G m nw bf sv hy tx li nmb iS rmb eA fA tyd ldd thr siz spt wrg tld σ s B hR hI hB hB1 μ b hb (agx τ ln sr 5 0) (agx τ ln sr 5 1) hG.1 (hG.2.1 0 (by decide)) (hG.2.1 1 (by decide))) (by decide) (by decide) (by decide) (by decide)
  · rw [hG.2.2 2 (by decide)]
    exact Ct.room (m_does6 l G m nw bf sv hy tx li nmb iS rmb eA fA tyd ldd thr siz spt wrg tld σ s B hR hI hB hB1 μ b hb (agx τ ln sr 6 0) (agx τ ln sr 6 1) hG.1 (hG.2.1 0 (by decide)) (hG.2.1 1 (by decide))) (by decide) (by decide) (by decide) (by decide)
  · rw [hG.2.2 1 (by decide), hG.2.2 2 (by decide)]
    exact Ct.room (m_does7 l G m nw bf sv hy tx li nmb iS rmb eA fA tyd ldd thr siz spt wrg tld σ s B hR hI hB hB1 μ b hb (agx τ ln sr 7 0) hG.1 (hG.2.1 0 (by decide))) (by decide) (by decide) (by decide) (by decide)