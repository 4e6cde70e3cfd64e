/-! the document's model: the public changes (printed by gen/s76.py) -/
theorem cd_R {o : Option Nat} {y : Int32} (h : ¬ pwR o y = 0) : 1 ≤ cd 6 (pwR o y) ∧ cd 6 (pwR o y) ≤ 4 := by
  unfold pwR at h ⊢
  by_cases h1 : o = none
  · rw [if_pos h1]
    decide
  · rw [if_neg h1] at h ⊢
    by_cases h2 : isR y
    · rw [if_pos h2] at h
      exact absurd rfl h
    · rw [if_neg h2]
      decide
theorem cd_P {nb ns : Nat} {x y z : Int32} (h : ¬ pwS nb ns x y z = 0) : 1 ≤ cd 2 (pwS nb ns x y z) ∧ cd 2 (pwS nb ns x y z) ≤ 4 := by
  unfold pwS at h ⊢
  by_cases h1 : ¬ isR x
  · rw [if_pos h1]; decide
  · rw [if_neg h1] at h ⊢
    by_cases h2 : y < 1
    · rw [if_pos h2]; decide
    · rw [if_neg h2] at h ⊢
      by_cases h3 : 4 < y
      · rw [if_pos h3]; decide
      · rw [if_neg h3] at h ⊢
        by_cases h4 : ¬ isR z
        · rw [if_pos h4]; decide
        · rw [if_neg h4] at h ⊢
          by_cases h5 : 6 ≤ ns
          · rw [if_pos h5]; decide
          · rw [if_neg h5] at h ⊢
            by_cases h6 : nI nb < y
            · rw [if_pos h6]; decide
            · rw [if_neg h6] at h
              exact absurd rfl h
theorem cd_pos {i : Nat} (hi : i < 8) {s : ASt} {x y z : Int32} (h : ¬ pwX i s x y z = 0) : 1 ≤ cd i (pwX i s x y z) ∧ cd i (pwX i s x y z) ≤ 4 := by
  obtain rfl | rfl | rfl | rfl | rfl | rfl | rfl | rfl := lt8 hi
  · exact cd_B h
  · exact cd_M h
  · exact cd_P h
  · exact cd_S (Or.inl rfl) h
  · exact cd_S (Or.inr (Or.inl rfl)) h
  · exact cd_S (Or.inr (Or.inr rfl)) h
  · exact cd_R h
  · exact cd_F h
set_option maxHeartbeats 4000000 in
set_option maxRecDepth 100000 in
theorem m_addBird (l : Launch) (G : Gx) (m nw bf sv hy tx li nmb : Nat) (iS eA fA tyd ldd thr siz spt wrg tld : Int32) (p : Nat) (hp8 : p ≤ 8) (β η : Nat → Int32) (σ : Nat → Int32) (s : ASt) (B : Nat) (hR : Rel σ s) (hI : InvA B s) (hB : B < 2 ^ 30) (x : Int32) : Ct l G SF0 yX13_addBird wsX13_addBird ({ frames := 3, cells := 0, slots := 0, locals := 66 }) [.ref m, .int x] [(m, .inr (13, [.ref nw, .ref bf, .ref sv, .ref hy, .int iS, .int (nI p), .int eA, .int fA, .ref tx, .int tyd, .ref li, .int ldd, .int thr, .int siz, .int spt, .int wrg, .int tld, .ref nmb])), (nw, .inl (gI G, 72, .inl σ)), (bf, .inl (gI G, 72, .inl β)), (hy, .inl (gI G, 576, .inl η))] mkI (fun (r : Int32) (u : (Nat → Int32) × Nat × (Nat → Int32)) => (pwX 0 s x 0 0 = 0 ∧ Rel u.1 (cX 0 s x 0 0) ∧ r = rX 0 s x 0 0 ∧ u.2.1 = min (p + 1) 8 ∧ u.2.2 = rmh σ η p) ∨ (¬ pwX 0 s x 0 0 = 0 ∧ u.1 = σ ∧ r = 0 ∧ u.2.1 = p ∧ u.2.2 = η)) (fun u : (Nat → Int32) × Nat × (Nat → Int32) => [(m, .inr (13, [.ref nw, .ref bf, .ref sv, .ref hy, .int iS, .int (nI (u.2.1)), .int eA, .int fA, .ref tx, .int tyd, .ref li, .int ldd, .int (nI (cd 0 (pwX 0 s x 0 0))), .int siz, .int spt, .int wrg, .int tld, .ref nmb])), (nw, .inl (gI G, 72, .inl (u.1))), (bf, .inl (gI G, 72, .inl σ)), (hy, .inl (gI G, 576, .inl (u.2.2)))]) 0 0 := by
  have hb8 := hI.1
  have hs6 := hI.2.1
  refine Ct.ofI (cc := cX13_addBird) (maxL := 2) (by decide) rfl ⟨by simp [Value.category], Nat.le_of_ble_eq_true rfl⟩ ?_
  intro K hl hC hSF hnm hE
  subst hl
  show V G K 2 0 0 0 [some (.ref m), some (.int x)] [] [(m, .inr (13, [.ref nw, .ref bf, .ref sv, .ref hy, .int iS, .int (nI p), .int eA, .int fA, .ref tx, .int tyd, .ref li, .int ldd, .int thr, .int siz, .int spt, .int wrg, .int tld, .ref nmb])), (nw, .inl (gI G, 72, .inl σ)), (bf, .inl (gI G, 72, .inl β)), (hy, .inl (gI G, 576, .inl η))]
  refine V.aload_n hC (x := m) dX13_addBird_0 rfl ?_
  refine V.callV (n := 0) (As := []) (rest := []) hC (m_begins (kl K) G m nw bf sv hy tx li nmb iS (nI p) eA fA tyd ldd thr siz spt wrg tld σ β) SFk0 SFgo0 gX13_addBird_X13_begins rfl ⟨rfl, rfl⟩ (by decide +kernel) ⟨by decide, by decide, by decide, by decide⟩ [0, 1, 2] rfl (by decide) (fun _ => rfl) rfl rfl rfl rfl (Nat.le_of_ble_eq_true rfl) dX13_addBird_1 (fun r_1 u_1 hp_1 => ?_)
  show V G K 2 0 0 4 [some (.ref m), some (.int x)] [] [(m, .inr (13, [.ref nw, .ref bf, .ref sv, .ref hy, .int iS, .int (nI p), .int eA, .int fA, .ref tx, .int tyd, .ref li, .int ldd, .int thr, .int siz, .int spt, .int wrg, .int tld, .ref nmb])), (nw, .inl (gI G, 72, .inl σ)), (bf, .inl (gI G, 72, .inl σ)), (hy, .inl (gI G, 576, .inl η))]
  refine V.aload_n hC (x := m) dX13_addBird_4 rfl ?_
  refine V.aload_n hC (x := m) dX13_addBird_5 rfl ?_
  refine V.iload_n hC (x := x) dX13_addBird_6 rfl ?_
  refine V.callV (n := 1) (As := [.int x]) (rest := [.ref m]) hC (m_adds (kl K) G m nw bf sv hy tx li nmb iS (nI p) eA fA tyd ldd thr siz spt wrg tld σ s B hR hI hB x) SFk0 SFgo0 gX13_addBird_X13_adds rfl ⟨rfl, rfl⟩ (by decide +kernel) ⟨by decide, by decide, by decide, by decide⟩ [0, 1] rfl (by decide) (fun _ => rfl) rfl rfl rfl rfl (Nat.le_of_ble_eq_true rfl) dX13_addBird_7 (fun r_7 u_7 hp_7 => ?_)
  rcases hp_7 with ⟨h0, hRel, hr⟩ | ⟨hn, hu, hr⟩
  · subst hr
    show V G K 2 0 0 10 [some (.ref m), some (.int x)] [.int (rX 0 s x 0 0), .ref m] [(m, .inr (13, [.ref nw, .ref bf, .ref sv, .ref hy, .int iS, .int (nI p), .int eA, .int fA, .ref tx, .int tyd, .ref li, .int ldd, .int (nI (cd 0 (pwX 0 s x 0 0))), .int siz, .int spt, .int wrg, .int tld, .ref nmb])), (nw, .inl (gI G, 72, .inl u_7)), (bf, .inl (gI G, 72, .inl σ)), (hy, .inl (gI G, 576, .inl η))]
    refine V.eqw (ws' := [(m, .inr (13, [.ref nw, .ref bf, .ref sv, .ref hy, .int iS, .int (nI p), .int eA, .int fA, .ref tx, .int tyd, .ref li, .int ldd, .int (nI 0), .int siz, .int spt, .int wrg, .int tld, .ref nmb])), (nw, .inl (gI G, 72, .inl u_7)), (bf, .inl (gI G, 72, .inl σ)), (hy, .inl (gI G, 576, .inl η))]) (by rw [h0]; rfl) ?_
    refine V.callV (n := 1) (As := [.int (rX 0 s x 0 0)]) (rest := []) hC (m_endsY (kl K) G m nw bf sv hy tx li nmb iS eA fA tyd ldd siz spt wrg tld p hp8 σ η (rX 0 s x 0 0)) SFk0 SFgo0 gX13_addBird_X13_ends rfl ⟨rfl, rfl⟩ (by decide +kernel) ⟨by decide, by decide, by decide, by decide⟩ [0, 2, 3] rfl (by decide) (fun _ => rfl) rfl rfl rfl rfl (Nat.le_of_ble_eq_true rfl) dX13_addBird_10 (fun r_10 u_10 hp_10 => ?_)
    subst hp_10
    show V G K 2 0 0 13 [some (.ref m), some (.int x)] [.int (rX 0 s x 0 0)] [(m, .inr (13, [.ref nw, .ref bf, .ref sv, .ref hy, .int iS, .int (nI (min (p + 1) 8)), .int eA, .int fA, .ref tx, .int tyd, .ref li, .int ldd, .int (nI 0), .int siz, .int spt, .int wrg, .int tld, .ref nmb])), (nw, .inl (gI G, 72, .inl u_7)), (bf, .inl (gI G, 72, .inl σ)), (hy, .inl (gI G, 576, .inl (rmh σ η p)))]
    refine V.eqw (ws' := [(m, .inr (13, [.ref nw, .ref bf, .ref sv, .ref hy, .int iS, .int (nI (min (p + 1) 8)), .int eA, .int fA, .ref tx, .int tyd, .ref li, .int ldd, .int (nI (cd 0 (pwX 0 s x 0 0))), .int siz, .int spt, .int wrg, .int tld, .ref nmb])), (nw, .inl (gI G, 72, .inl u_7)), (bf, .inl (gI G, 72, .inl σ)), (hy, .inl (gI G, 576, .inl (rmh σ η p)))]) (by rw [h0]; rfl) ?_
    exact hE 13 _ (rX 0 s x 0 0) (u_7, min (p + 1) 8, rmh σ η p) dX13_addBird_13 rfl (Or.inl ⟨h0, hRel, rfl, rfl, rfl⟩)
  · subst hr
    show V G K 2 0 0 10 [some (.ref m), some (.int x)] [.int 0, .ref m] [(m, .inr (13, [.ref nw, .ref bf, .ref sv, .ref hy, .int iS, .int (nI p), .int eA, .int fA, .ref tx, .int tyd, .ref li, .int ldd, .int (nI (cd 0 (pwX 0 s x 0 0))), .int siz, .int spt, .int wrg, .int tld, .ref nmb])), (nw, .inl (gI G, 72, .inl u_7)), (bf, .inl (gI G, 72, .inl σ)), (hy, .inl (gI G, 576, .inl η))]
    have hcd := cd_pos (by decide) hn
    refine V.eqw (ws' := [(m, .inr (13, [.ref nw, .ref bf, .ref sv, .ref hy, .int iS, .int (nI p), .int eA, .int fA, .ref tx, .int tyd, .ref li, .int ldd, .int (nI (cd 0 (pwX 0 s x 0 0))), .int siz, .int spt, .int wrg, .int tld, .ref nmb])), (nw, .inl (gI G, 72, .inl σ)), (bf, .inl (gI G, 72, .inl σ)), (hy, .inl (gI G, 576, .inl η))]) (by rw [hu]) ?_
    refine V.callV (n := 1) (As := [.int 0]) (rest := []) hC (m_endsN (kl K) G m nw bf sv hy tx li nmb iS (nI p) eA fA tyd ldd siz spt wrg tld (cd 0 (pwX 0 s x 0 0)) hcd.1 hcd.2 σ σ 0) SFk0 SFgo0 gX13_addBird_X13_ends rfl ⟨rfl, rfl⟩ (by decide +kernel) ⟨by decide, by decide, by decide, by decide⟩ [0, 1, 2] rfl (by decide) (fun _ => rfl) rfl rfl rfl rfl (Nat.le_of_ble_eq_true rfl) dX13_addBird_10 (fun r_10 u_10 hp_10 => ?_)
    subst hp_10
    show V G K 2 0 0 13 [some (.ref m), some (.int x)] [.int 0] [(m, .inr (13, [.ref nw, .ref bf, .ref sv, .ref hy, .int iS, .int (nI p), .int eA, .int fA, .ref tx, .int tyd, .ref li, .int ldd, .int (nI (cd 0 (pwX 0 s x 0 0))), .int siz, .int spt, .int wrg, .int tld, .ref nmb])), (nw, .inl (gI G, 72, .inl σ)), (bf, .inl (gI G, 72, .inl σ)), (hy, .inl (gI G, 576, .inl η))]
    exact hE 13 _ 0 (σ, p, η) dX13_addBird_13 rfl (Or.inr ⟨hn, rfl, rfl, rfl, rfl⟩)

set_option maxHeartbeats 4000000 in
set_option maxRecDepth 100000 in
theorem m_move (l : Launch) (G : Gx) (m nw bf sv hy tx li nmb : Nat) (iS eA fA tyd ldd thr siz spt wrg tld : Int32) (p : Nat) (hp8 : p ≤ 8) (β η : Nat → Int32) (σ : Nat → Int32) (s : ASt) (B : Nat) (hR : Rel σ s) (hI : InvA B s) (hB : B < 2 ^ 30) (x y : Int32) : Ct l G SF0 yX13_move wsX13_move ({ frames := 3, cells := 0, slots := 0, locals := 66 }) [.ref m, .int x, .int y] [(m, .inr (13, [.ref nw, .ref bf, .ref sv, .ref hy, .int iS, .int (nI p), .int eA, .int fA, .ref tx, .int tyd, .ref li, .int ldd, .int thr, .int siz, .int spt, .int wrg, .int tld, .ref nmb])), (nw, .inl (gI G, 72, .inl σ)), (bf, .inl (gI G, 72, .inl β)), (hy, .inl (gI G, 576, .inl η))] mkI (fun (r : Int32) (u : (Nat → Int32) × Nat × (Nat → Int32)) => (pwX 1 s x y 0 = 0 ∧ Rel u.1 (cX 1 s x y 0) ∧ r = rX 1 s x y 0 ∧ u.2.1 = min (p + 1) 8 ∧ u.2.2 = rmh σ η p) ∨ (¬ pwX 1 s x y 0 = 0 ∧ u.1 = σ ∧ r = 0 ∧ u.2.1 = p ∧ u.2.2 = η)) (fun u : (Nat → Int32) × Nat × (Nat → Int32) => [(m, .inr (13, [.ref nw, .ref bf, .ref sv, .ref hy, .int iS, .int (nI (u.2.1)), .int eA, .int fA, .ref tx, .int tyd, .ref li, .int ldd, .int (nI (cd 1 (pwX 1 s x y 0))), .int siz, .int spt, .int wrg, .int tld, .ref nmb])), (nw, .inl (gI G, 72, .inl (u.1))), (bf, .inl (gI G, 72, .inl σ)), (hy, .inl (gI G, 576, .inl (u.2.2)))]) 0 0 := by
  have hb8 := hI.1
  have hs6 := hI.2.1
  refine Ct.ofI (cc := cX13_move) (maxL := 3) (by decide) rfl ⟨by simp [Value.category], Nat.le_of_ble_eq_true rfl⟩ ?_
  intro K hl hC hSF hnm hE
  subst hl
  show V G K 3 0 0 0 [some (.ref m), some (.int x), some (.int y)] [] [(m, .inr (13, [.ref nw, .ref bf, .ref sv, .ref hy, .int iS, .int (nI p), .int eA, .int fA, .ref tx, .int tyd, .ref li, .int ldd, .int thr, .int siz, .int spt, .int wrg, .int tld, .ref nmb])), (nw, .inl (gI G, 72, .inl σ)), (bf, .inl (gI G, 72, .inl β)), (hy, .inl (gI G, 576, .inl η))]
  refine V.aload_n hC (x := m) dX13_move_0 rfl ?_
  refine V.callV (n := 0) (As := []) (rest := []) hC (m_begins (kl K) G m nw bf sv hy tx li nmb iS (nI p) eA fA tyd ldd thr siz spt wrg tld σ β) SFk0 SFgo0 gX13_move_X13_begins rfl ⟨rfl, rfl⟩ (by decide +kernel) ⟨by decide, by decide, by decide, by decide⟩ [0, 1, 2] rfl (by decide) (fun _ => rfl) rfl rfl rfl rfl (Nat.le_of_ble_eq_true rfl) dX13_move_1 (fun r_1 u_1 hp_1 => ?_)
  show V G K 3 0 0 4 [some (.ref m), some (.int x), some (.int y)] [] [(m, .inr (13, [.ref nw, .ref bf, .ref sv, .ref hy, .int iS, .int (nI p), .int eA, .int fA, .ref tx, .int tyd, .ref li, .int ldd, .int thr, .int siz, .int spt, .int wrg, .int tld, .ref nmb])), (nw, .inl (gI G, 72, .inl σ)), (bf, .inl (gI G, 72, .inl σ)), (hy, .inl (gI G, 576, .inl η))]
  refine V.aload_n hC (x := m) dX13_move_4 rfl ?_
  refine V.aload_n hC (x := m) dX13_move_5 rfl ?_
  refine V.iload_n hC (x := x) dX13_move_6 rfl ?_
  refine V.iload_n hC (x := y) dX13_move_7 rfl ?_
  refine V.callV (n := 2) (As := [.int x, .int y]) (rest := [.ref m]) hC (m_moves (kl K) G m nw bf sv hy tx li nmb iS (nI p) eA fA tyd ldd thr siz spt wrg tld σ s B hR hI hB x y) SFk0 SFgo0 gX13_move_X13_moves rfl ⟨rfl, rfl⟩ (by decide +kernel) ⟨by decide, by decide, by decide, by decide⟩ [0, 1] rfl (by decide) (fun _ => rfl) rfl rfl rfl rfl (Nat.le_of_ble_eq_true rfl) dX13_move_8 (fun r_8 u_8 hp_8 => ?_)
  rcases hp_8 with ⟨h0, hRel, hr⟩ | ⟨hn, hu, hr⟩
  · subst hr
    show V G K 3 0 0 11 [some (.ref m), some (.int x), some (.int y)] [.int (rX 1 s x y 0), .ref m] [(m, .inr (13, [.ref nw, .ref bf, .ref sv, .ref hy, .int iS, .int (nI p), .int eA, .int fA, .ref tx, .int tyd, .ref li, .int ldd, .int (nI (cd 1 (pwX 1 s x y 0))), .int siz, .int spt, .int wrg, .int tld, .ref nmb])), (nw, .inl (gI G, 72, .inl u_8)), (bf, .inl (gI G, 72, .inl σ)), (hy, .inl (gI G, 576, .inl η))]
    refine V.eqw (ws' := [(m, .inr (13, [.ref nw, .ref bf, .ref sv, .ref hy, .int iS, .int (nI p), .int eA, .int fA, .ref tx, .int tyd, .ref li, .int ldd, .int (nI 0), .int siz, .int spt, .int wrg, .int tld, .ref nmb])), (nw, .inl (gI G, 72, .inl u_8)), (bf, .inl (gI G, 72, .inl σ)), (hy, .inl (gI G, 576, .inl η))]) (by rw [h0]; rfl) ?_
    refine V.callV (n := 1) (As := [.int (rX 1 s x y 0)]) (rest := []) hC (m_endsY (kl K) G m nw bf sv hy tx li nmb iS eA fA tyd ldd siz spt wrg tld p hp8 σ η (rX 1 s x y 0)) SFk0 SFgo0 gX13_move_X13_ends rfl ⟨rfl, rfl⟩ (by decide +kernel) ⟨by decide, by decide, by decide, by decide⟩ [0, 2, 3] rfl (by decide) (fun _ => rfl) rfl rfl rfl rfl (Nat.le_of_ble_eq_true rfl) dX13_move_11 (fun r_11 u_11 hp_11 => ?_)
    subst hp_11
    show V G K 3 0 0 14 [some (.ref m), some (.int x), some (.int y)] [.int (rX 1 s x y 0)] [(m, .inr (13, [.ref nw, .ref bf, .ref sv, .ref hy, .int iS, .int (nI (min (p + 1) 8)), .int eA, .int fA, .ref tx, .int tyd, .ref li, .int ldd, .int (nI 0), .int siz, .int spt, .int wrg, .int tld, .ref nmb])), (nw, .inl (gI G, 72, .inl u_8)), (bf, .inl (gI G, 72, .inl σ)), (hy, .inl (gI G, 576, .inl (rmh σ η p)))]
    refine V.eqw (ws' := [(m, .inr (13, [.ref nw, .ref bf, .ref sv, .ref hy, .int iS, .int (nI (min (p + 1) 8)), .int eA, .int fA, .ref tx, .int tyd, .ref li, .int ldd, .int (nI (cd 1 (pwX 1 s x y 0))), .int siz, .int spt, .int wrg, .int tld, .ref nmb])), (nw, .inl (gI G, 72, .inl u_8)), (bf, .inl (gI G, 72, .inl σ)), (hy, .inl (gI G, 576, .inl (rmh σ η p)))]) (by rw [h0]; rfl) ?_
    exact hE 14 _ (rX 1 s x y 0) (u_8, min (p + 1) 8, rmh σ η p) dX13_move_14 rfl (Or.inl ⟨h0, hRel, rfl, rfl, rfl⟩)
  · subst hr
    show V G K 3 0 0 11 [some (.ref m), some (.int x), some (.int y)] [.int 0, .ref m] [(m, .inr (13, [.ref nw, .ref bf, .ref sv, .ref hy, .int iS, .int (nI p), .int eA, .int fA, .ref tx, .int tyd, .ref li, .int ldd, .int (nI (cd 1 (pwX 1 s x y 0))), .int siz, .int spt, .int wrg, .int tld, .ref nmb])), (nw, .inl (gI G, 72, .inl u_8)), (bf, .inl (gI G, 72, .inl σ)), (hy, .inl (gI G, 576, .inl η))]
    have hcd := cd_pos (by decide) hn
    refine V.eqw (ws' := [(m, .inr (13, [.ref nw, .ref bf, .ref sv, .ref hy, .int iS, .int (nI p), .int eA, .int fA, .ref tx, .int tyd, .ref li, .int ldd, .int (nI (cd 1 (pwX 1 s x y 0))), .int siz, .int spt, .int wrg, .int tld, .ref nmb])), (nw, .inl (gI G, 72, .inl σ)), (bf, .inl (gI G, 72, .inl σ)), (hy, .inl (gI G, 576, .inl η))]) (by rw [hu]) ?_
    refine V.callV (n := 1) (As := [.int 0]) (rest := []) hC (m_endsN (kl K) G m nw bf sv hy tx li nmb iS (nI p) eA fA tyd ldd siz spt wrg tld (cd 1 (pwX 1 s x y 0)) hcd.1 hcd.2 σ σ 0) SFk0 SFgo0 gX13_move_X13_ends rfl ⟨rfl, rfl⟩ (by decide +kernel) ⟨by decide, by decide, by decide, by decide⟩ [0, 1, 2] rfl (by decide) (fun _ => rfl) rfl rfl rfl rfl (Nat.le_of_ble_eq_true rfl) dX13_move_11 (fun r_11 u_11 hp_11 => ?_)
    subst hp_11
    show V G K 3 0 0 14 [some (.ref m), some (.int x), some (.int y)] [.int 0] [(m, .inr (13, [.ref nw, .ref bf, .ref sv, .ref hy, .int iS, .int (nI p), .int eA, .int fA, .ref tx, .int tyd, .ref li, .int ldd, .int (nI (cd 1 (pwX 1 s x y 0))), .int siz, .int spt, .int wrg, .int tld, .ref nmb])), (nw, .inl (gI G, 72, .inl σ)), (bf, .inl (gI G, 72, .inl σ)), (hy, .inl (gI G, 576, .inl η))]
    exact hE 14 _ 0 (σ, p, η) dX13_move_14 rfl (Or.inr ⟨hn, rfl, rfl, rfl, rfl⟩)

set_option maxHeartbeats 4000000 in
set_option maxRecDepth 100000 in
theorem m_lose (l : Launch) (G : Gx) (m nw bf sv hy tx li nmb : Nat) (iS eA fA tyd ldd thr siz spt wrg tld : Int32) (p : Nat) (hp8 : p ≤ 8) (β η : Nat → Int32) (σ : Nat → Int32) (s : ASt) (B : Nat) (hR : Rel σ s) (hI : InvA B s) (hB : B < 2 ^ 30) (hB1 : B + 1 < 2 ^ 30) (x y : Int32) : Ct l G SF0 yX13_lose wsX13_lose ({ frames := 5, cells := 0, slots := 0, locals := 111 }) [.ref m, .int x, .int y] [(m, .inr (13, [.ref nw, .ref bf, .ref sv, .ref hy, .int iS, .int (nI p), .int eA, .int fA, .ref tx, .int tyd, .ref li, .int ldd, .int thr, .int siz, .int spt, .int wrg, .int tld, .ref nmb])), (nw, .inl (gI G, 72, .inl σ)), (bf, .inl (gI G, 72, .inl β)), (hy, .inl (gI G, 576, .inl η))] mkI (fun (r : Int32) (u : (Nat → Int32) × Nat × (Nat → Int32)) => (pwX 3 s x y 0 = 0 ∧ Rel u.1 (cX 3 s x y 0) ∧ r = rX 3 s x y 0 ∧ u.2.1 = min (p + 1) 8 ∧ u.2.2 = rmh σ η p) ∨ (¬ pwX 3 s x y 0 = 0 ∧ u.1 = σ ∧ r = 0 ∧ u.2.1 = p ∧ u.2.2 = η)) (fun u : (Nat → Int32) × Nat × (Nat → Int32) => [(m, .inr (13, [.ref nw, .ref bf, .ref sv, .ref hy, .int iS, .int (nI (u.2.1)), .int eA, .int fA, .ref tx, .int tyd, .ref li, .int ldd, .int (nI (cd 3 (pwX 3 s x y 0))), .int siz, .int spt, .int wrg, .int tld, .ref nmb])), (nw, .inl (gI G, 72, .inl (u.1))), (bf, .inl (gI G, 72, .inl σ)), (hy, .inl (gI G, 576, .inl (u.2.2)))]) 0 0 := by
  have hb8 := hI.1
  have hs6 := hI.2.1
  refine Ct.ofI (cc := cX13_lose) (maxL := 3) (by decide) rfl ⟨by simp [Value.category], Nat.le_of_ble_eq_true rfl⟩ ?_
  intro K hl hC hSF hnm hE
  subst hl
  show V G K 3 0 0 0 [some (.ref m), some (.int x), some (.int y)] [] [(m, .inr (13, [.ref nw, .ref bf, .ref sv, .ref hy, .int iS, .int (nI p), .int eA, .int fA, .ref tx, .int tyd, .ref li, .int ldd, .int thr, .int siz, .int spt, .int wrg, .int tld, .ref nmb])), (nw, .inl (gI G, 72, .inl σ)), (bf, .inl (gI G, 72, .inl β)), (hy, .inl (gI G, 576, .inl η))]
  refine V.aload_n hC (x := m) dX13_lose_0 rfl ?_
  refine V.callV (n := 0) (As := []) (rest := []) hC (m_begins (kl K) G m nw bf sv hy tx li nmb iS (nI p) eA fA tyd ldd thr siz spt wrg tld σ β) SFk0 SFgo0 gX13_lose_X13_begins rfl ⟨rfl, rfl⟩ (by decide +kernel) ⟨by decide, by decide, by decide, by decide⟩ [0, 1, 2] rfl (by decide) (fun _ => rfl) rfl rfl rfl rfl (Nat.le_of_ble_eq_true rfl) dX13_lose_1 (fun r_1 u_1 hp_1 => ?_)
  show V G K 3 0 0 4 [some (.ref m), some (.int x), some (.int y)] [] [(m, .inr (13, [.ref nw, .ref bf, .ref sv, .ref hy, .int iS, .int (nI p), .int eA, .int fA, .ref tx, .int tyd, .ref li, .int ldd, .int thr, .int siz, .int spt, .int wrg, .int tld, .ref nmb])), (nw, .inl (gI G, 72, .inl σ)), (bf, .inl (gI G, 72, .inl σ)), (hy, .inl (gI G, 576, .inl η))]
  refine V.aload_n hC (x := m) dX13_lose_4 rfl ?_
  refine V.aload_n hC (x := m) dX13_lose_5 rfl ?_
  refine V.iload_n hC (x := x) dX13_lose_6 rfl ?_
  refine V.iload_n hC (x := y) dX13_lose_7 rfl ?_
  refine V.callV (n := 2) (As := [.int x, .int y]) (rest := [.ref m]) hC (m_loses (kl K) G m nw bf sv hy tx li nmb iS (nI p) eA fA tyd ldd thr siz spt wrg tld σ s B hR hI hB hB1 x y) SFk0 SFgo0 gX13_lose_X13_loses rfl ⟨rfl, rfl⟩ (by decide +kernel) ⟨by decide, by decide, by decide, by decide⟩ [0, 1] rfl (by decide) (fun _ => rfl) rfl rfl rfl rfl (Nat.le_of_ble_eq_true rfl) dX13_lose_8 (fun r_8 u_8 hp_8 => ?_)
  rcases hp_8 with ⟨h0, hRel, hr⟩ | ⟨hn, hu, hr⟩
  · subst hr
    show V G K 3 0 0 11 [some (.ref m), some (.int x), some (.int y)] [.int (rX 3 s x y 0), .ref m] [(m, .inr (13, [.ref nw, .ref bf, .ref sv, .ref hy, .int iS, .int (nI p), .int eA, .int fA, .ref tx, .int tyd, .ref li, .int ldd, .int (nI (cd 3 (pwX 3 s x y 0))), .int siz, .int spt, .int wrg, .int tld, .ref nmb])), (nw, .inl (gI G, 72, .inl u_8)), (bf, .inl (gI G, 72, .inl σ)), (hy, .inl (gI G, 576, .inl η))]
    refine V.eqw (ws' := [(m, .inr (13, [.ref nw, .ref bf, .ref sv, .ref hy, .int iS, .int (nI p), .int eA, .int fA, .ref tx, .int tyd, .ref li, .int ldd, .int (nI 0), .int siz, .int spt, .int wrg, .int tld, .ref nmb])), (nw, .inl (gI G, 72, .inl u_8)), (bf, .inl (gI G, 72, .inl σ)), (hy, .inl (gI G, 576, .inl η))]) (by rw [h0]; rfl) ?_
    refine V.callV (n := 1) (As := [.int (rX 3 s x y 0)]) (rest := []) hC (m_endsY (kl K) G m nw bf sv hy tx li nmb iS eA fA tyd ldd siz spt wrg tld p hp8 σ η (rX 3 s x y 0)) SFk0 SFgo0 gX13_lose_X13_ends rfl ⟨rfl, rfl⟩ (by decide +kernel) ⟨by decide, by decide, by decide, by decide⟩ [0, 2, 3] rfl (by decide) (fun _ => rfl) rfl rfl rfl rfl (Nat.le_of_ble_eq_true rfl) dX13_lose_11 (fun r_11 u_11 hp_11 => ?_)
    subst hp_11
    show V G K 3 0 0 14 [some (.ref m), some (.int x), some (.int y)] [.int (rX 3 s x y 0)] [(m, .inr (13, [.ref nw, .ref bf, .ref sv, .ref hy, .int iS, .int (nI (min (p + 1) 8)), .int eA, .int fA, .ref tx, .int tyd, .ref li, .int ldd, .int (nI 0), .int siz, .int spt, .int wrg, .int tld, .ref nmb])), (nw, .inl (gI G, 72, .inl u_8)), (bf, .inl (gI G, 72, .inl σ)), (hy, .inl (gI G, 576, .inl (rmh σ η p)))]
    refine V.eqw (ws' := [(m, .inr (13, [.ref nw, .ref bf, .ref sv, .ref hy, .int iS, .int (nI (min (p + 1) 8)), .int eA, .int fA, .ref tx, .int tyd, .ref li, .int ldd, .int (nI (cd 3 (pwX 3 s x y 0))), .int siz, .int spt, .int wrg, .int tld, .ref nmb])), (nw, .inl (gI G, 72, .inl u_8)), (bf, .inl (gI G, 72, .inl σ)), (hy, .inl (gI G, 576, .inl (rmh σ η p)))]) (by rw [h0]; rfl) ?_
    exact hE 14 _ (rX 3 s x y 0) (u_8, min (p + 1) 8, rmh σ η p) dX13_lose_14 rfl (Or.inl ⟨h0, hRel, rfl, rfl, rfl⟩)
  · subst hr
    show V G K 3 0 0 11 [some (.ref m), some (.int x), some (.int y)] [.int 0, .ref m] [(m, .inr (13, [.ref nw, .ref bf, .ref sv, .ref hy, .int iS, .int (nI p), .int eA, .int fA, .ref tx, .int tyd, .ref li, .int ldd, .int (nI (cd 3 (pwX 3 s x y 0))), .int siz, .int spt, .int wrg, .int tld, .ref nmb])), (nw, .inl (gI G, 72, .inl u_8)), (bf, .inl (gI G, 72, .inl σ)), (hy, .inl (gI G, 576, .inl η))]
    have hcd := cd_pos (by decide) hn
    refine V.eqw (ws' := [(m, .inr (13, [.ref nw, .ref bf, .ref sv, .ref hy, .int iS, .int (nI p), .int eA, .int fA, .ref tx, .int tyd, .ref li, .int ldd, .int (nI (cd 3 (pwX 3 s x y 0))), .int siz, .int spt, .int wrg, .int tld, .ref nmb])), (nw, .inl (gI G, 72, .inl σ)), (bf, .inl (gI G, 72, .inl σ)), (hy, .inl (gI G, 576, .inl η))]) (by rw [hu]) ?_
    refine V.callV (n := 1) (As := [.int 0]) (rest := []) hC (m_endsN (kl K) G m nw bf sv hy tx li nmb iS (nI p) eA fA tyd ldd siz spt wrg tld (cd 3 (pwX 3 s x y 0)) hcd.1 hcd.2 σ σ 0) SFk0 SFgo0 gX13_lose_X13_ends rfl ⟨rfl, rfl⟩ (by decide +kernel) ⟨by decide, by decide, by decide, by decide⟩ [0, 1, 2] rfl (by decide) (fun _ => rfl) rfl rfl rfl rfl (Nat.le_of_ble_eq_true rfl) dX13_lose_11 (fun r_11 u_11 hp_11 => ?_)
    subst hp_11
    show V G K 3 0 0 14 [some (.ref m), some (.int x), some (.int y)] [.int 0] [(m, .inr (13, [.ref nw, .ref bf, .ref sv, .ref hy, .int iS, .int (nI p), .int eA, .int fA, .ref tx, .int tyd, .ref li, .int ldd, .int (nI (cd 3 (pwX 3 s x y 0))), .int siz, .int spt, .int wrg, .int tld, .ref nmb])), (nw, .inl (gI G, 72, .inl σ)), (bf, .inl (gI G, 72, .inl σ)), (hy, .inl (gI G, 576, .inl η))]
    exact hE 14 _ 0 (σ, p, η) dX13_lose_14 rfl (Or.inr ⟨hn, rfl, rfl, rfl, rfl⟩)

set_option maxHeartbeats 4000000 in
set_option maxRecDepth 100000 in
theorem m_spoil (l : Launch) (G : Gx) (m nw bf sv hy tx li nmb : Nat) (iS eA fA tyd ldd thr siz spt wrg tld : Int32) (p : Nat) (hp8 : p ≤ 8) (β η : Nat → Int32) (σ : Nat → Int32) (s : ASt) (B : Nat) (hR : Rel σ s) (hI : InvA B s) (hB : B < 2 ^ 30) (x y z : Int32) : Ct l G SF0 yX13_spoil wsX13_spoil ({ frames := 4, cells := 0, slots := 0, locals := 91 }) [.ref m, .int x, .int y, .int z] [(m, .inr (13, [.ref nw, .ref bf, .ref sv, .ref hy, .int iS, .int (nI p), .int eA, .int fA, .ref tx, .int tyd, .ref li, .int ldd, .int thr, .int siz, .int spt, .int wrg, .int tld, .ref nmb])), (nw, .inl (gI G, 72, .inl σ)), (bf, .inl (gI G, 72, .inl β)), (hy, .inl (gI G, 576, .inl η))] mkI (fun (r : Int32) (u : (Nat → Int32) × Nat × (Nat → Int32)) => (pwX 4 s x y z = 0 ∧ Rel u.1 (cX 4 s x y z) ∧ r = rX 4 s x y z ∧ u.2.1 = min (p + 1) 8 ∧ u.2.2 = rmh σ η p) ∨ (¬ pwX 4 s x y z = 0 ∧ u.1 = σ ∧ r = 0 ∧ u.2.1 = p ∧ u.2.2 = η)) (fun u : (Nat → Int32) × Nat × (Nat → Int32) => [(m, .inr (13, [.ref nw, .ref bf, .ref sv, .ref hy, .int iS, .int (nI (u.2.1)), .int eA, .int fA, .ref tx, .int tyd, .ref li, .int ldd, .int (nI (cd 4 (pwX 4 s x y z))), .int siz, .int spt, .int wrg, .int tld, .ref nmb])), (nw, .inl (gI G, 72, .inl (u.1))), (bf, .inl (gI G, 72, .inl σ)), (hy, .inl (gI G, 576, .inl (u.2.2)))]) 0 0 := by
  have hb8 := hI.1
  have hs6 := hI.2.1
  refine Ct.ofI (cc := cX13_spoil) (maxL := 4) (by decide) rfl ⟨by simp [Value.category], Nat.le_of_ble_eq_true rfl⟩ ?_
  intro K hl hC hSF hnm hE
  subst hl
  show V G K 4 0 0 0 [some (.ref m), some (.int x), some (.int y), some (.int z)] [] [(m, .inr (13, [.ref nw, .ref bf, .ref sv, .ref hy, .int iS, .int (nI p), .int eA, .int fA, .ref tx, .int tyd, .ref li, .int ldd, .int thr, .int siz, .int spt, .int wrg, .int tld, .ref nmb])), (nw, .inl (gI G, 72, .inl σ)), (bf, .inl (gI G, 72, .inl β)), (hy, .inl (gI G, 576, .inl η))]
  refine V.aload_n hC (x := m) dX13_spoil_0 rfl ?_
  refine V.callV (n := 0) (As := []) (rest := []) hC (m_begins (kl K) G m nw bf sv hy tx li nmb iS (nI p) eA fA tyd ldd thr siz spt wrg tld σ β) SFk0 SFgo0 gX13_spoil_X13_begins rfl ⟨rfl, rfl⟩ (by decide +kernel) ⟨by decide, by decide, by decide, by decide⟩ [0, 1, 2] rfl (by decide) (fun _ => rfl) rfl rfl rfl rfl (Nat.le_of_ble_eq_true rfl) dX13_spoil_1 (fun r_1 u_1 hp_1 => ?_)
  show V G K 4 0 0 4 [some (.ref m), some (.int x), some (.int y), some (.int z)] [] [(m, .inr (13, [.ref nw, .ref bf, .ref sv, .ref hy, .int iS, .int (nI p), .int eA, .int fA, .ref tx, .int tyd, .ref li, .int ldd, .int thr, .int siz, .int spt, .int wrg, .int tld, .ref nmb])), (nw, .inl (gI G, 72, .inl σ)), (bf, .inl (gI G, 72, .inl σ)), (hy, .inl (gI G, 576, .inl η))]
  refine V.aload_n hC (x := m) dX13_spoil_4 rfl ?_
  refine V.aload_n hC (x := m) dX13_spoil_5 rfl ?_
  refine V.iload_n hC (x := x) dX13_spoil_6 rfl ?_
  refine V.iload_n hC (x := y) dX13_spoil_7 rfl ?_
  refine V.iload_n hC (x := z) dX13_spoil_8 rfl ?_
  refine V.callV (n := 3) (As := [.int x, .int y, .int z]) (rest := [.ref m]) hC (m_spoils (kl K) G m nw bf sv hy tx li nmb iS (nI p) eA fA tyd ldd thr siz spt wrg tld σ s B hR hI hB x y z) SFk0 SFgo0 gX13_spoil_X13_spoils rfl ⟨rfl, rfl⟩ (by decide +kernel) ⟨by decide, by decide, by decide, by decide⟩ [0, 1] rfl (by decide) (fun _ => rfl) rfl rfl rfl rfl (Nat.le_of_ble_eq_true rfl) dX13_spoil_9 (fun r_9 u_9 hp_9 => ?_)
  rcases hp_9 with ⟨h0, hRel, hr⟩ | ⟨hn, hu, hr⟩
  · subst hr
    show V G K 4 0 0 12 [some (.ref m), some (.int x), some (.int y), some (.int z)] [.int (rX 4 s x y z), .ref m] [(m, .inr (13, [.ref nw, .ref bf, .ref sv, .ref hy, .int iS, .int (nI p), .int eA, .int fA, .ref tx, .int tyd, .ref li, .int ldd, .int (nI (cd 4 (pwX 4 s x y z))), .int siz, .int spt, .int wrg, .int tld, .ref nmb])), (nw, .inl (gI G, 72, .inl u_9)), (bf, .inl (gI G, 72, .inl σ)), (hy, .inl (gI G, 576, .inl η))]
    refine V.eqw (ws' := [(m, .inr (13, [.ref nw, .ref bf, .ref sv, .ref hy, .int iS, .int (nI p), .int eA, .int fA, .ref tx, .int tyd, .ref li, .int ldd, .int (nI 0), .int siz, .int spt, .int wrg, .int tld, .ref nmb])), (nw, .inl (gI G, 72, .inl u_9)), (bf, .inl (gI G, 72, .inl σ)), (hy, .inl (gI G, 576, .inl η))]) (by rw [h0]; rfl) ?_
    refine V.callV (n := 1) (As := [.int (rX 4 s x y z)]) (rest := []) hC (m_endsY (kl K) G m nw bf sv hy tx li nmb iS eA fA tyd ldd siz spt wrg tld p hp8 σ η (rX 4 s x y z)) SFk0 SFgo0 gX13_spoil_X13_ends rfl ⟨rfl, rfl⟩ (by decide +kernel) ⟨by decide, by decide, by decide, by decide⟩ [0, 2, 3] rfl (by decide) (fun _ => rfl) rfl rfl rfl rfl (Nat.le_of_ble_eq_true rfl) dX13_spoil_12 (fun r_12 u_12 hp_12 => ?_)
    subst hp_12
    show V G K 4 0 0 15 [some (.ref m), some (.int x), some (.int y), some (.int z)] [.int (rX 4 s x y z)] [(m, .inr (13, [.ref nw, .ref bf, .ref sv, .ref hy, .int iS, .int (nI (min (p + 1) 8)), .int eA, .int fA, .ref tx, .int tyd, .ref li, .int ldd, .int (nI 0), .int siz, .int spt, .int wrg, .int tld, .ref nmb])), (nw, .inl (gI G, 72, .inl u_9)), (bf, .inl (gI G, 72, .inl σ)), (hy, .inl (gI G, 576, .inl (rmh σ η p)))]
    refine V.eqw (ws' := [(m, .inr (13, [.ref nw, .ref bf, .ref sv, .ref hy, .int iS, .int (nI (min (p + 1) 8)), .int eA, .int fA, .ref tx, .int tyd, .ref li, .int ldd, .int (nI (cd 4 (pwX 4 s x y z))), .int siz, .int spt, .int wrg, .int tld, .ref nmb])), (nw, .inl (gI G, 72, .inl u_9)), (bf, .inl (gI G, 72, .inl σ)), (hy, .inl (gI G, 576, .inl (rmh σ η p)))]) (by rw [h0]; rfl) ?_
    exact hE 15 _ (rX 4 s x y z) (u_9, min (p + 1) 8, rmh σ η p) dX13_spoil_15 rfl (Or.inl ⟨h0, hRel, rfl, rfl, rfl⟩)
  · subst hr
    show V G K 4 0 0 12 [some (.ref m), some (.int x), some (.int y), some (.int z)] [.int 0, .ref m] [(m, .inr (13, [.ref nw, .ref bf, .ref sv, .ref hy, .int iS, .int (nI p), .int eA, .int fA, .ref tx, .int tyd, .ref li, .int ldd, .int (nI (cd 4 (pwX 4 s x y z))), .int siz, .int spt, .int wrg, .int tld, .ref nmb])), (nw, .inl (gI G, 72, .inl u_9)), (bf, .inl (gI G, 72, .inl σ)), (hy, .inl (gI G, 576, .inl η))]
    have hcd := cd_pos (by decide) hn
    refine V.eqw (ws' := [(m, .inr (13, [.ref nw, .ref bf, .ref sv, .ref hy, .int iS, .int (nI p), .int eA, .int fA, .ref tx, .int tyd, .ref li, .int ldd, .int (nI (cd 4 (pwX 4 s x y z))), .int siz, .int spt, .int wrg, .int tld, .ref nmb])), (nw, .inl (gI G, 72, .inl σ)), (bf, .inl (gI G, 72, .inl σ)), (hy, .inl (gI G, 576, .inl η))]) (by rw [hu]) ?_
    refine V.callV (n := 1) (As := [.int 0]) (rest := []) hC (m_endsN (kl K) G m nw bf sv hy tx li nmb iS (nI p) eA fA tyd ldd siz spt wrg tld (cd 4 (pwX 4 s x y z)) hcd.1 hcd.2 σ σ 0) SFk0 SFgo0 gX13_spoil_X13_ends rfl ⟨rfl, rfl⟩ (by decide +kernel) ⟨by decide, by decide, by decide, by decide⟩ [0, 1, 2] rfl (by decide) (fun _ => rfl) rfl rfl rfl rfl (Nat.le_of_ble_eq_true rfl) dX13_spoil_12 (fun r_12 u_12 hp_12 => ?_)
    subst hp_12
    show V G K 4 0 0 15 [some (.ref m), some (.int x), some (.int y), some (.int z)] [.int 0] [(m, .inr (13, [.ref nw, .ref bf, .ref sv, .ref hy, .int iS, .int (nI p), .int eA, .int fA, .ref tx, .int tyd, .ref li, .int ldd, .int (nI (cd 4 (pwX 4 s x y z))), .int siz, .int spt, .int wrg, .int tld, .ref nmb])), (nw, .inl (gI G, 72, .inl σ)), (bf, .inl (gI G, 72, .inl σ)), (hy, .inl (gI G, 576, .inl η))]
    exact hE 15 _ 0 (σ, p, η) dX13_spoil_15 rfl (Or.inr ⟨hn, rfl, rfl, rfl, rfl⟩)

set_option maxHeartbeats 4000000 in
set_option maxRecDepth 100000 in
theorem m_issue (l : Launch) (G : Gx) (m nw bf sv hy tx li nmb : Nat) (iS eA fA tyd ldd thr siz spt wrg tld : Int32) (p : Nat) (hp8 : p ≤ 8) (β η : Nat → Int32) (σ : Nat → Int32) (s : ASt) (B : Nat) (hR : Rel σ s) (hI : InvA B s) (hB : B < 2 ^ 30) (x y : Int32) : Ct l G SF0 yX13_issue wsX13_issue ({ frames := 6, cells := 0, slots := 0, locals := 133 }) [.ref m, .int x, .int y] [(m, .inr (13, [.ref nw, .ref bf, .ref sv, .ref hy, .int iS, .int (nI p), .int eA, .int fA, .ref tx, .int tyd, .ref li, .int ldd, .int thr, .int siz, .int spt, .int wrg, .int tld, .ref nmb])), (nw, .inl (gI G, 72, .inl σ)), (bf, .inl (gI G, 72, .inl β)), (hy, .inl (gI G, 576, .inl η))] mkI (fun (r : Int32) (u : (Nat → Int32) × Nat × (Nat → Int32)) => (pwX 5 s x y 0 = 0 ∧ Rel u.1 (cX 5 s x y 0) ∧ r = rX 5 s x y 0 ∧ u.2.1 = min (p + 1) 8 ∧ u.2.2 = rmh σ η p) ∨ (¬ pwX 5 s x y 0 = 0 ∧ u.1 = σ ∧ r = 0 ∧ u.2.1 = p ∧ u.2.2 = η)) (fun u : (Nat → Int32) × Nat × (Nat → Int32) => [(m, .inr (13, [.ref nw, .ref bf, .ref sv, .ref hy, .int iS, .int (nI (u.2.1)), .int eA, .int fA, .ref tx, .int tyd, .ref li, .int ldd, .int (nI (cd 5 (pwX 5 s x y 0))), .int siz, .int spt, .int wrg, .int tld, .ref nmb])), (nw, .inl (gI G, 72, .inl (u.1))), (bf, .inl (gI G, 72, .inl σ)), (hy, .inl (gI G, 576, .inl (u.2.2)))]) 0 0 := by
  have hb8 := hI.1
  have hs6 := hI.2.1
  refine Ct.ofI (cc := cX13_issue) (maxL := 3) (by decide) rfl ⟨by simp [Value.category], Nat.le_of_ble_eq_true rfl⟩ ?_
  intro K hl hC hSF hnm hE
  subst hl
  show V G K 3 0 0 0 [some (.ref m), some (.int x), some (.int y)] [] [(m, .inr (13, [.ref nw, .ref bf, .ref sv, .ref hy, .int iS, .int (nI p), .int eA, .int fA, .ref tx, .int tyd, .ref li, .int ldd, .int thr, .int siz, .int spt, .int wrg, .int tld, .ref nmb])), (nw, .inl (gI G, 72, .inl σ)), (bf, .inl (gI G, 72, .inl β)), (hy, .inl (gI G, 576, .inl η))]
  refine V.aload_n hC (x := m) dX13_issue_0 rfl ?_
  refine V.callV (n := 0) (As := []) (rest := []) hC (m_begins (kl K) G m nw bf sv hy tx li nmb iS (nI p) eA fA tyd ldd thr siz spt wrg tld σ β) SFk0 SFgo0 gX13_issue_X13_begins rfl ⟨rfl, rfl⟩ (by decide +kernel) ⟨by decide, by decide, by decide, by decide⟩ [0, 1, 2] rfl (by decide) (fun _ => rfl) rfl rfl rfl rfl (Nat.le_of_ble_eq_true rfl) dX13_issue_1 (fun r_1 u_1 hp_1 => ?_)
  show V G K 3 0 0 4 [some (.ref m), some (.int x), some (.int y)] [] [(m, .inr (13, [.ref nw, .ref bf, .ref sv, .ref hy, .int iS, .int (nI p), .int eA, .int fA, .ref tx, .int tyd, .ref li, .int ldd, .int thr, .int siz, .int spt, .int wrg, .int tld, .ref nmb])), (nw, .inl (gI G, 72, .inl σ)), (bf, .inl (gI G, 72, .inl σ)), (hy, .inl (gI G, 576, .inl η))]
  refine V.aload_n hC (x := m) dX13_issue_4 rfl ?_
  refine V.aload_n hC (x := m) dX13_issue_5 rfl ?_
  refine V.iload_n hC (x := x) dX13_issue_6 rfl ?_
  refine V.iload_n hC (x := y) dX13_issue_7 rfl ?_
  refine V.callV (n := 2) (As := [.int x, .int y]) (rest := [.ref m]) hC (m_issues (kl K) G m nw bf sv hy tx li nmb iS (nI p) eA fA tyd ldd thr siz spt wrg tld σ s B hR hI hB x y) SFk0 SFgo0 gX13_issue_X13_issues rfl ⟨rfl, rfl⟩ (by decide +kernel) ⟨by decide, by decide, by decide, by decide⟩ [0, 1] rfl (by decide) (fun _ => rfl) rfl rfl rfl rfl (Nat.le_of_ble_eq_true rfl) dX13_issue_8 (fun r_8 u_8 hp_8 => ?_)
  rcases hp_8 with ⟨h0, hRel, hr⟩ | ⟨hn, hu, hr⟩
  · subst hr
    show V G K 3 0 0 11 [some (.ref m), some (.int x), some (.int y)] [.int (rX 5 s x y 0), .ref m] [(m, .inr (13, [.ref nw, .ref bf, .ref sv, .ref hy, .int iS, .int (nI p), .int eA, .int fA, .ref tx, .int tyd, .ref li, .int ldd, .int (nI (cd 5 (pwX 5 s x y 0))), .int siz, .int spt, .int wrg, .int tld, .ref nmb])), (nw, .inl (gI G, 72, .inl u_8)), (bf, .inl (gI G, 72, .inl σ)), (hy, .inl (gI G, 576, .inl η))]
    refine V.eqw (ws' := [(m, .inr (13, [.ref nw, .ref bf, .ref sv, .ref hy, .int iS, .int (nI p), .int eA, .int fA, .ref tx, .int tyd, .ref li, .int ldd, .int (nI 0), .int siz, .int spt, .int wrg, .int tld, .ref nmb])), (nw, .inl (gI G, 72, .inl u_8)), (bf, .inl (gI G, 72, .inl σ)), (hy, .inl (gI G, 576, .inl η))]) (by rw [h0]; rfl) ?_
    refine V.callV (n := 1) (As := [.int (rX 5 s x y 0)]) (rest := []) hC (m_endsY (kl K) G m nw bf sv hy tx li nmb iS eA fA tyd ldd siz spt wrg tld p hp8 σ η (rX 5 s x y 0)) SFk0 SFgo0 gX13_issue_X13_ends rfl ⟨rfl, rfl⟩ (by decide +kernel) ⟨by decide, by decide, by decide, by decide⟩ [0, 2, 3] rfl (by decide) (fun _ => rfl) rfl rfl rfl rfl (Nat.le_of_ble_eq_true rfl) dX13_issue_11 (fun r_11 u_11 hp_11 => ?_)
    subst hp_11
    show V G K 3 0 0 14 [some (.ref m), some (.int x), some (.int y)] [.int (rX 5 s x y 0)] [(m, .inr (13, [.ref nw, .ref bf, .ref sv, .ref hy, .int iS, .int (nI (min (p + 1) 8)), .int eA, .int fA, .ref tx, .int tyd, .ref li, .int ldd, .int (nI 0), .int siz, .int spt, .int wrg, .int tld, .ref nmb])), (nw, .inl (gI G, 72, .inl u_8)), (bf, .inl (gI G, 72, .inl σ)), (hy, .inl (gI G, 576, .inl (rmh σ η p)))]
    refine V.eqw (ws' := [(m, .inr (13, [.ref nw, .ref bf, .ref sv, .ref hy, .int iS, .int (nI (min (p + 1) 8)), .int eA, .int fA, .ref tx, .int tyd, .ref li, .int ldd, .int (nI (cd 5 (pwX 5 s x y 0))), .int siz, .int spt, .int wrg, .int tld, .ref nmb])), (nw, .inl (gI G, 72, .inl u_8)), (bf, .inl (gI G, 72, .inl σ)), (hy, .inl (gI G, 576, .inl (rmh σ η p)))]) (by rw [h0]; rfl) ?_
    exact hE 14 _ (rX 5 s x y 0) (u_8, min (p + 1) 8, rmh σ η p) dX13_issue_14 rfl (Or.inl ⟨h0, hRel, rfl, rfl, rfl⟩)
  · subst hr
    show V G K 3 0 0 11 [some (.ref m), some (.int x), some (.int y)] [.int 0, .ref m] [(m, .inr (13, [.ref nw, .ref bf, .ref sv, .ref hy, .int iS, .int (nI p), .int eA, .int fA, .ref tx, .int tyd, .ref li, .int ldd, .int (nI (cd 5 (pwX 5 s x y 0))), .int siz, .int spt, .int wrg, .int tld, .ref nmb])), (nw, .inl (gI G, 72, .inl u_8)), (bf, .inl (gI G, 72, .inl σ)), (hy, .inl (gI G, 576, .inl η))]
    have hcd := cd_pos (by decide) hn
    refine V.eqw (ws' := [(m, .inr (13, [.ref nw, .ref bf, .ref sv, .ref hy, .int iS, .int (nI p), .int eA, .int fA, .ref tx, .int tyd, .ref li, .int ldd, .int (nI (cd 5 (pwX 5 s x y 0))), .int siz, .int spt, .int wrg, .int tld, .ref nmb])), (nw, .inl (gI G, 72, .inl σ)), (bf, .inl (gI G, 72, .inl σ)), (hy, .inl (gI G, 576, .inl η))]) (by rw [hu]) ?_
    refine V.callV (n := 1) (As := [.int 0]) (rest := []) hC (m_endsN (kl K) G m nw bf sv hy tx li nmb iS (nI p) eA fA tyd ldd siz spt wrg tld (cd 5 (pwX 5 s x y 0)) hcd.1 hcd.2 σ σ 0) SFk0 SFgo0 gX13_issue_X13_ends rfl ⟨rfl, rfl⟩ (by decide +kernel) ⟨by decide, by decide, by decide, by decide⟩ [0, 1, 2] rfl (by decide) (fun _ => rfl) rfl rfl rfl rfl (Nat.le_of_ble_eq_true rfl) dX13_issue_11 (fun r_11 u_11 hp_11 => ?_)
    subst hp_11
    show V G K 3 0 0 14 [some (.ref m), some (.int x), some (.int y)] [.int 0] [(m, .inr (13, [.ref nw, .ref bf, .ref sv, .ref hy, .int iS, .int (nI p), .int eA, .int fA, .ref tx, .int tyd, .ref li, .int ldd, .int (nI (cd 5 (pwX 5 s x y 0))), .int siz, .int spt, .int wrg, .int tld, .ref nmb])), (nw, .inl (gI G, 72, .inl σ)), (bf, .inl (gI G, 72, .inl σ)), (hy, .inl (gI G, 576, .inl η))]
    exact hE 14 _ 0 (σ, p, η) dX13_issue_14 rfl (Or.inr ⟨hn, rfl, rfl, rfl, rfl⟩)

set_option maxHeartbeats 4000000 in
set_option maxRecDepth 100000 in
theorem m_forget (l : Launch) (G : Gx) (m nw bf sv hy tx li nmb : Nat) (iS eA fA tyd ldd thr siz spt wrg tld : Int32) (p : Nat) (hp8 : p ≤ 8) (β η : Nat → Int32) (σ : Nat → Int32) (s : ASt) (B : Nat) (hR : Rel σ s) (hI : InvA B s) (hB : B < 2 ^ 30) (x : Int32) : Ct l G SF0 yX13_forget wsX13_forget ({ frames := 5, cells := 0, slots := 0, locals := 112 }) [.ref m, .int x] [(m, .inr (13, [.ref nw, .ref bf, .ref sv, .ref hy, .int iS, .int (nI p), .int eA, .int fA, .ref tx, .int tyd, .ref li, .int ldd, .int thr, .int siz, .int spt, .int wrg, .int tld, .ref nmb])), (nw, .inl (gI G, 72, .inl σ)), (bf, .inl (gI G, 72, .inl β)), (hy, .inl (gI G, 576, .inl η))] mkI (fun (r : Int32) (u : (Nat → Int32) × Nat × (Nat → Int32)) => (pwX 7 s x 0 0 = 0 ∧ Rel u.1 (cX 7 s x 0 0) ∧ r = rX 7 s x 0 0 ∧ u.2.1 = min (p + 1) 8 ∧ u.2.2 = rmh σ η p) ∨ (¬ pwX 7 s x 0 0 = 0 ∧ u.1 = σ ∧ r = 0 ∧ u.2.1 = p ∧ u.2.2 = η)) (fun u : (Nat → Int32) × Nat × (Nat → Int32) => [(m, .inr (13, [.ref nw, .ref bf, .ref sv, .ref hy, .int iS, .int (nI (u.2.1)), .int eA, .int fA, .ref tx, .int tyd, .ref li, .int ldd, .int (nI (cd 7 (pwX 7 s x 0 0))), .int siz, .int spt, .int wrg, .int tld, .ref nmb])), (nw, .inl (gI G, 72, .inl (u.1))), (bf, .inl (gI G, 72, .inl σ)), (hy, .inl (gI G, 576, .inl (u.2.2)))]) 0 0 := by
  have hb8 := hI.1
  have hs6 := hI.2.1
  refine Ct.ofI (cc := cX13_forget) (maxL := 2) (by decide) rfl ⟨by simp [Value.category], Nat.le_of_ble_eq_true rfl⟩ ?_
  intro K hl hC hSF hnm hE
  subst hl
  show V G K 2 0 0 0 [some (.ref m), some (.int x)] [] [(m, .inr (13, [.ref nw, .ref bf, .ref sv, .ref hy, .int iS, .int (nI p), .int eA, .int fA, .ref tx, .int tyd, .ref li, .int ldd, .int thr, .int siz, .int spt, .int wrg, .int tld, .ref nmb])), (nw, .inl (gI G, 72, .inl σ)), (bf, .inl (gI G, 72, .inl β)), (hy, .inl (gI G, 576, .inl η))]
  refine V.aload_n hC (x := m) dX13_forget_0 rfl ?_
  refine V.callV (n := 0) (As := []) (rest := []) hC (m_begins (kl K) G m nw bf sv hy tx li nmb iS (nI p) eA fA tyd ldd thr siz spt wrg tld σ β) SFk0 SFgo0 gX13_forget_X13_begins rfl ⟨rfl, rfl⟩ (by decide +kernel) ⟨by decide, by decide, by decide, by decide⟩ [0, 1, 2] rfl (by decide) (fun _ => rfl) rfl rfl rfl rfl (Nat.le_of_ble_eq_true rfl) dX13_forget_1 (fun r_1 u_1 hp_1 => ?_)
  show V G K 2 0 0 4 [some (.ref m), some (.int x)] [] [(m, .inr (13, [.ref nw, .ref bf, .ref sv, .ref hy, .int iS, .int (nI p), .int eA, .int fA, .ref tx, .int tyd, .ref li, .int ldd, .int thr, .int siz, .int spt, .int wrg, .int tld, .ref nmb])), (nw, .inl (gI G, 72, .inl σ)), (bf, .inl (gI G, 72, .inl σ)), (hy, .inl (gI G, 576, .inl η))]
  refine V.aload_n hC (x := m) dX13_forget_4 rfl ?_
  refine V.aload_n hC (x := m) dX13_forget_5 rfl ?_
  refine V.iload_n hC (x := x) dX13_forget_6 rfl ?_
  refine V.callV (n := 1) (As := [.int x]) (rest := [.ref m]) hC (m_forgets (kl K) G m nw bf sv hy tx li nmb iS (nI p) eA fA tyd ldd thr siz spt wrg tld σ s B hR hI hB x) SFk0 SFgo0 gX13_forget_X13_forgets rfl ⟨rfl, rfl⟩ (by decide +kernel) ⟨by decide, by decide, by decide, by decide⟩ [0, 1] rfl (by decide) (fun _ => rfl) rfl rfl rfl rfl (Nat.le_of_ble_eq_true rfl) dX13_forget_7 (fun r_7 u_7 hp_7 => ?_)
  rcases hp_7 with ⟨h0, hRel, hr⟩ | ⟨hn, hu, hr⟩
  · subst hr
    show V G K 2 0 0 10 [some (.ref m), some (.int x)] [.int (rX 7 s x 0 0), .ref m] [(m, .inr (13, [.ref nw, .ref bf, .ref sv, .ref hy, .int iS, .int (nI p), .int eA, .int fA, .ref tx, .int tyd, .ref li, .int ldd, .int (nI (cd 7 (pwX 7 s x 0 0))), .int siz, .int spt, .int wrg, .int tld, .ref nmb])), (nw, .inl (gI G, 72, .inl u_7)), (bf, .inl (gI G, 72, .inl σ)), (hy, .inl (gI G, 576, .inl η))]
    refine V.eqw (ws' := [(m, .inr (13, [.ref nw, .ref bf, .ref sv, .ref hy, .int iS, .int (nI p), .int eA, .int fA, .ref tx, .int tyd, .ref li, .int ldd, .int (nI 0), .int siz, .int spt, .int wrg, .int tld, .ref nmb])), (nw, .inl (gI G, 72, .inl u_7)), (bf, .inl (gI G, 72, .inl σ)), (hy, .inl (gI G, 576, .inl η))]) (by rw [h0]; rfl) ?_
    refine V.callV (n := 1) (As := [.int (rX 7 s x 0 0)]) (rest := []) hC (m_endsY (kl K) G m nw bf sv hy tx li nmb iS eA fA tyd ldd siz spt wrg tld p hp8 σ η (rX 7 s x 0 0)) SFk0 SFgo0 gX13_forget_X13_ends rfl ⟨rfl, rfl⟩ (by decide +kernel) ⟨by decide, by decide, by decide, by decide⟩ [0, 2, 3] rfl (by decide) (fun _ => rfl) rfl rfl rfl rfl (Nat.le_of_ble_eq_true rfl) dX13_forget_10 (fun r_10 u_10 hp_10 => ?_)
    subst hp_10
    show V G K 2 0 0 13 [some (.ref m), some (.int x)] [.int (rX 7 s x 0 0)] [(m, .inr (13, [.ref nw, .ref bf, .ref sv, .ref hy, .int iS, .int (nI (min (p + 1) 8)), .int eA, .int fA, .ref tx, .int tyd, .ref li, .int ldd, .int (nI 0), .int siz, .int spt, .int wrg, .int tld, .ref nmb])), (nw, .inl (gI G, 72, .inl u_7)), (bf, .inl (gI G, 72, .inl σ)), (hy, .inl (gI G, 576, .inl (rmh σ η p)))]
    refine V.eqw (ws' := [(m, .inr (13, [.ref nw, .ref bf, .ref sv, .ref hy, .int iS, .int (nI (min (p + 1) 8)), .int eA, .int fA, .ref tx, .int tyd, .ref li, .int ldd, .int (nI (cd 7 (pwX 7 s x 0 0))), .int siz, .int spt, .int wrg, .int tld, .ref nmb])), (nw, .inl (gI G, 72, .inl u_7)), (bf, .inl (gI G, 72, .inl σ)), (hy, .inl (gI G, 576, .inl (rmh σ η p)))]) (by rw [h0]; rfl) ?_
    exact hE 13 _ (rX 7 s x 0 0) (u_7, min (p + 1) 8, rmh σ η p) dX13_forget_13 rfl (Or.inl ⟨h0, hRel, rfl, rfl, rfl⟩)
  · subst hr
    show V G K 2 0 0 10 [some (.ref m), some (.int x)] [.int 0, .ref m] [(m, .inr (13, [.ref nw, .ref bf, .ref sv, .ref hy, .int iS, .int (nI p), .int eA, .int fA, .ref tx, .int tyd, .ref li, .int ldd, .int (nI (cd 7 (pwX 7 s x 0 0))), .int siz, .int spt, .int wrg, .int tld, .ref nmb])), (nw, .inl (gI G, 72, .inl u_7)), (bf, .inl (gI G, 72, .inl σ)), (hy, .inl (gI G, 576, .inl η))]
    have hcd := cd_pos (by decide) hn
    refine V.eqw (ws' := [(m, .inr (13, [.ref nw, .ref bf, .ref sv, .ref hy, .int iS, .int (nI p), .int eA, .int fA, .ref tx, .int tyd, .ref li, .int ldd, .int (nI (cd 7 (pwX 7 s x 0 0))), .int siz, .int spt, .int wrg, .int tld, .ref nmb])), (nw, .inl (gI G, 72, .inl σ)), (bf, .inl (gI G, 72, .inl σ)), (hy, .inl (gI G, 576, .inl η))]) (by rw [hu]) ?_
    refine V.callV (n := 1) (As := [.int 0]) (rest := []) hC (m_endsN (kl K) G m nw bf sv hy tx li nmb iS (nI p) eA fA tyd ldd siz spt wrg tld (cd 7 (pwX 7 s x 0 0)) hcd.1 hcd.2 σ σ 0) SFk0 SFgo0 gX13_forget_X13_ends rfl ⟨rfl, rfl⟩ (by decide +kernel) ⟨by decide, by decide, by decide, by decide⟩ [0, 1, 2] rfl (by decide) (fun _ => rfl) rfl rfl rfl rfl (Nat.le_of_ble_eq_true rfl) dX13_forget_10 (fun r_10 u_10 hp_10 => ?_)
    subst hp_10
    show V G K 2 0 0 13 [some (.ref m), some (.int x)] [.int 0] [(m, .inr (13, [.ref nw, .ref bf, .ref sv, .ref hy, .int iS, .int (nI p), .int eA, .int fA, .ref tx, .int tyd, .ref li, .int ldd, .int (nI (cd 7 (pwX 7 s x 0 0))), .int siz, .int spt, .int wrg, .int tld, .ref nmb])), (nw, .inl (gI G, 72, .inl σ)), (bf, .inl (gI G, 72, .inl σ)), (hy, .inl (gI G, 576, .inl η))]
    exact hE 13 _ 0 (σ, p, η) dX13_forget_13 rfl (Or.inr ⟨hn, rfl, rfl, rfl, rfl⟩)
