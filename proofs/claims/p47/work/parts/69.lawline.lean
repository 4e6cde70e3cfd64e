/-! the law's own methods: lines, a secret (printed by gen/s69p.py) -/
theorem isT.t {f g src : Nat → Nat} {n k : Nat} {L M : List Nat} (h : isT f n L) (h1 : ∀ j, j < n → g j = f j) (h2 : ∀ j, j < k → g (n + j) = src j) (h3 : isT src k M) : isT g (n + k) (L ++ M) := by
  obtain ⟨e, h4⟩ := h
  obtain ⟨e2, h5⟩ := h3
  refine ⟨by rw [List.length_append, e, e2], fun j hj => ?_⟩
  by_cases q : j < n
  · rw [h1 j q, h4 j q, List.getD_eq_getElem?_getD, List.getD_eq_getElem?_getD, List.getElem?_append_left (by omega)]
  · obtain ⟨i, rfl⟩ : ∃ i, j = n + i := ⟨j - n, by omega⟩
    rw [h2 i (by omega), h5 i (by omega), List.getD_eq_getElem?_getD, List.getD_eq_getElem?_getD, List.getElem?_append_right (by omega), show n + i - L.length = i by omega]
theorem isT.e {f g : Nat → Nat} {n : Nat} {L : List Nat} (h : isT f n L) (h1 : ∀ j, j < n → g j = f j) : isT g n L := ⟨h.1, fun j hj => (h1 j hj).trans (h.2 j hj)⟩
theorem tS_len : ∀ i, i < 6 → sLen.getD i 0 = (sCh.getD i []).length := by decide
theorem tS (i : Nat) (hi : i < 6) : isT (chS i) (sLen.getD i 0) (sCh.getD i []) := ⟨tS_len i hi, fun _ _ => rfl⟩
set_option maxHeartbeats 4000000 in
set_option maxRecDepth 100000 in
theorem l_isLine (l : Launch) (G : Gx) (hst : l.stackTraces = false) (F : FX) (s : ASt) (D : DX) (B : Nat) (hok : FOk B s D) (t tv k : Nat) (g : Nat → Nat) (hk : k ≤ 49) (hg : ∀ j, g j < 128) (L : List Nat) (h1 : isT (dF D) (dN D) L) (h2 : isT g k L) : Ct l G (SFt G) yL_isLine (wsL_isLine ++ hx9) ({ frames := 7, cells := 49, slots := 294, locals := 109 }) [.ref (F.1 0), .int (nI (dN D)), .ref t] (flt [[(t, .inr (0, [.ref tv, .int 0, .int 0, .int 0]))], [(tv, .inl (gB G, k, .inl (fun j => nI (g j))))], FW G F s D]) mkI (fun (r : Int32) (_ : Unit) => r = 1) (fun _ : Unit => (flt [[(t, .inr (0, [.ref tv, .int 0, .int 0, .int 0]))], [(tv, .inl (gB G, k, .inl (fun j => nI (g j))))], FW G F s D])) 49 294 := by
  refine Ct.ofI (cc := cL_isLine) (maxL := 5) (by decide) rfl ⟨by simp [Value.category], Nat.le_of_ble_eq_true rfl⟩ ?_
  intro K hl hC hSF hnm hE
  subst hl
  have hgot := SFgoS (SFt.k G) hSF
  have hgo := SFgo.x hgot
  have hSFt := hSF
  replace hSF := hSF.1
  show V G K 5 0 0 0 [some (.ref (F.1 0)), some (.int (nI (dN D))), some (.ref t), none, none] [] (flt [[(t, .inr (0, [.ref tv, .int 0, .int 0, .int 0]))], [(tv, .inl (gB G, k, .inl (fun j => nI (g j))))], FW G F s D])
  have hnk : dN D = k := h1.1.trans h2.1.symm
  have hn60 : dN D ≤ 60 := hok.2.2.2.2.2.2.2
  refine V.iload_n hC (x := nI (dN D)) dL_isLine_0 rfl ?_
  refine V.aload_n hC (x := t) dL_isLine_1 rfl ?_
  refine V.callVBN (n := 0) (As := []) (rest := [.int (nI (dN D))]) hC (d_strLenD (kl K) G t tv k g 0 0 hk hg) (SFt.k G) hgot (gx1 gL_isLine_J0_length_8abf5) rfl ⟨rfl, rfl⟩ (by decide +kernel) ⟨by decide, by decide, by decide, by decide⟩ (L := [[(t, .inr (0, [.ref tv, .int 0, .int 0, .int 0]))], [(tv, .inl (gB G, k, .inl (fun j => nI (g j))))], FW G F s D]) (N := 3) rfl [0, 1] [2] (by decide) rfl (fun _ : Unit => [[(t, .inr (0, [.ref tv, .int 0, .int 0, .int 0]))], [(tv, .inl (gB G, k, .inl (fun j => nI (g j))))]]) (fun _ => rfl) rfl rfl rfl rfl (Nat.le_of_ble_eq_true rfl) dL_isLine_2 (fun r_2 u_2 hp_2 => ?_)
  subst hp_2
  show V G K 5 0 0 5 [some (.ref (F.1 0)), some (.int (nI (dN D))), some (.ref t), none, none] [.int (nI k), .int (nI (dN D))] (flt [[(t, .inr (0, [.ref tv, .int 0, .int 0, .int 0]))], [(tv, .inl (gB G, k, .inl (fun j => nI (g j))))], FW G F s D])
  refine V.icmpN_ne hC (dN D) k 12 dL_isLine_5 rfl rfl rfl (by omega) (by omega) (fun c_5 => ?_) (fun c_5 => ?_)
  · exact absurd hnk c_5
  · refine V.iconst hC 1 dL_isLine_8 rfl ?_
    refine V.goto hC 13 dL_isLine_9 rfl ?_
    refine V.istore_n hC dL_isLine_13 [some (.ref (F.1 0)), some (.int (nI (dN D))), some (.ref t), some (.int 1), none] (Nat.le_of_ble_eq_true rfl) rfl ?_
    refine V.iconst hC 0 dL_isLine_14 rfl ?_
    refine V.istore hC dL_isLine_15 [some (.ref (F.1 0)), some (.int (nI (dN D))), some (.ref t), some (.int 1), some (.int 0)] (Nat.le_of_ble_eq_true rfl) rfl ?_
    have loop17 : ∀ (n : Nat) (j : Nat), k - j < n → (j ≤ k) → V G K 5 (j) (6 * j) 17 [some (.ref (F.1 0)), some (.int (nI (dN D))), some (.ref t), some (.int (nI 1)), some (.int (nI j))] [] (flt [[(t, .inr (0, [.ref tv, .int 0, .int 0, .int 0]))], [(tv, .inl (gB G, k, .inl (fun j => nI (g j))))], FW G F s D]) := by
      intro n
      induction n with
      | zero => intro j hlt; exact absurd hlt (Nat.not_lt_zero _)
      | succ n ih17 =>
        intro j hlt17 hj
        refine V.iload hC (x := nI j) dL_isLine_17 rfl ?_
        refine V.aload_n hC (x := t) dL_isLine_19 rfl ?_
        refine V.callVBN (n := 0) (As := []) (rest := [.int (nI j)]) hC (d_strLenD (kl K) G t tv k g 0 0 hk hg) (SFt.k G) hgot (gx1 gL_isLine_J0_length_8abf5) rfl ⟨rfl, rfl⟩ (by decide +kernel) ⟨by decide, by decide, by show _ ≤ 49; omega, by show _ ≤ 294; omega⟩ (L := [[(t, .inr (0, [.ref tv, .int 0, .int 0, .int 0]))], [(tv, .inl (gB G, k, .inl (fun j => nI (g j))))], FW G F s D]) (N := 3) rfl [0, 1] [2] (by decide) rfl (fun _ : Unit => [[(t, .inr (0, [.ref tv, .int 0, .int 0, .int 0]))], [(tv, .inl (gB G, k, .inl (fun j => nI (g j))))]]) (fun _ => rfl) rfl rfl rfl rfl (Nat.le_of_ble_eq_true rfl) dL_isLine_20 (fun r_20 u_20 hp_20 => ?_)
        subst hp_20
        show V G K 5 (j) (6 * j) 23 [some (.ref (F.1 0)), some (.int (nI (dN D))), some (.ref t), some (.int (nI 1)), some (.int (nI j))] [.int (nI k), .int (nI j)] (flt [[(t, .inr (0, [.ref tv, .int 0, .int 0, .int 0]))], [(tv, .inl (gB G, k, .inl (fun j => nI (g j))))], FW G F s D])
        refine V.icmpN_ge hC j k 57 dL_isLine_23 rfl rfl rfl (by omega) (by omega) (fun c_23 => ?_) (fun c_23 => ?_)
        · refine V.iload_n hC (x := nI 1) dL_isLine_57 rfl ?_
          refine V.widen (k := 49) (n := 294) (by omega) (by omega) ?_
          exact hE 58 _ (nI 1) () dL_isLine_58 rfl rfl
        · refine V.iload_n hC (x := nI 1) dL_isLine_26 rfl ?_
          refine V.ifN_eq hC 1 57 dL_isLine_27 rfl rfl (by omega) (fun c_27 => ?_) (fun c_27 => ?_)
          · exact absurd c_27 (by decide)
          · refine V.aload_n hC (x := (F.1 0)) dL_isLine_30 rfl ?_
            refine V.iload hC (x := nI j) dL_isLine_31 rfl ?_
            refine V.callVBXN (n := 1) (As := [.int (nI j)]) (rest := []) hC (f_outputAt (kl K) G hst F s D B hok (nI j)) (SFt.k G) hgot (gx1 gL_isLine_X12_outputAt) rfl ⟨rfl, rfl⟩ (by decide +kernel) ⟨by decide, by decide, by show _ ≤ 49; omega, by show _ ≤ 294; omega⟩ (L := [[(t, .inr (0, [.ref tv, .int 0, .int 0, .int 0]))], [(tv, .inl (gB G, k, .inl (fun j => nI (g j))))], FW G F s D]) (N := 3) rfl [2] [0, 1] (by decide) (List.append_nil (FW G F s D)) (fun _ : Unit => [FW G F s D]) (fun _ => List.append_nil (FW G F s D)) (fun _ : Unit => [FW G F s D]) (fun _ => List.append_nil (FW G F s D)) rfl rfl rfl rfl (Nat.le_of_ble_eq_true rfl) dL_isLine_33 (fun E_ u_ hx_ => (hx_.2 ⟨nI_nn (by omega), nI_lt (show j < dN D by omega) (show dN D < 2 ^ 31 by omega)⟩).elim) (fun r_33 u_33 hp_33 => ?_)
            obtain ⟨-, e_33⟩ := hp_33
            rw [nI_clamp (by omega)] at e_33
            subst e_33
            show V G K 5 (j + 1) (6 * j + 6) 36 [some (.ref (F.1 0)), some (.int (nI (dN D))), some (.ref t), some (.int (nI 1)), some (.int (nI j))] [.int (nI (dF D j))] (flt [FW G F s D, [(t, .inr (0, [.ref tv, .int 0, .int 0, .int 0]))], [(tv, .inl (gB G, k, .inl (fun j => nI (g j))))]])
            refine V.reN (N := 3) [1, 2, 0] [[(t, .inr (0, [.ref tv, .int 0, .int 0, .int 0]))], [(tv, .inl (gB G, k, .inl (fun j => nI (g j))))], FW G F s D] rfl (by decide) rfl ?_
            refine V.aload_n hC (x := t) dL_isLine_36 rfl ?_
            refine V.iload hC (x := nI j) dL_isLine_37 rfl ?_
            refine V.callVBN (n := 1) (As := [.int (nI j)]) (rest := [.int (nI (dF D j))]) hC (d_charAt (kl K) G t tv k g 0 0 hk hg j c_23) (SFt.k G) hgot (gx1 gL_isLine_J0_charAt_5068e) rfl ⟨rfl, rfl⟩ (by decide +kernel) ⟨by decide, by decide, by show _ ≤ 49; omega, by show _ ≤ 294; omega⟩ (L := [[(t, .inr (0, [.ref tv, .int 0, .int 0, .int 0]))], [(tv, .inl (gB G, k, .inl (fun j => nI (g j))))], FW G F s D]) (N := 3) rfl [0, 1] [2] (by decide) rfl (fun _ : Unit => [[(t, .inr (0, [.ref tv, .int 0, .int 0, .int 0]))], [(tv, .inl (gB G, k, .inl (fun j => nI (g j))))]]) (fun _ => rfl) rfl rfl rfl rfl (Nat.le_of_ble_eq_true rfl) dL_isLine_39 (fun r_39 u_39 hp_39 => ?_)
            subst hp_39
            show V G K 5 (j + 1) (6 * j + 6) 42 [some (.ref (F.1 0)), some (.int (nI (dN D))), some (.ref t), some (.int (nI 1)), some (.int (nI j))] [.int (nI (g j)), .int (nI (dF D j))] (flt [[(t, .inr (0, [.ref tv, .int 0, .int 0, .int 0]))], [(tv, .inl (gB G, k, .inl (fun j => nI (g j))))], FW G F s D])
            refine V.icmpN_ne hC (dF D j) (g j) 49 dL_isLine_42 rfl rfl rfl (Nat.lt_trans (hok.2.2.2.2.2.2.1 j) (by decide)) (Nat.lt_trans (hg j) (by decide)) (fun c_42 => ?_) (fun c_42 => ?_)
            · exact absurd ((h1.2 j (by omega)).trans (h2.2 j c_23).symm) c_42
            · refine V.iconst hC 1 dL_isLine_45 rfl ?_
              refine V.goto hC 50 dL_isLine_46 rfl ?_
              refine V.istore_n hC dL_isLine_50 [some (.ref (F.1 0)), some (.int (nI (dN D))), some (.ref t), some (.int 1), some (.int (nI j))] (Nat.le_of_ble_eq_true rfl) rfl ?_
              refine V.iincN hC j 1 dL_isLine_51 rfl [some (.ref (F.1 0)), some (.int (nI (dN D))), some (.ref t), some (.int 1), some (.int (nI (j + 1)))] (Nat.le_of_ble_eq_true rfl) rfl rfl rfl ?_
              refine V.goto hC 17 dL_isLine_54 rfl ?_
              refine V.widen (k := (j + 1)) (n := 6 * (j + 1)) (by omega) (by omega) ?_
              exact ih17 (j + 1) (by omega) (by omega)
    refine V.widen (k := 0) (n := 6 * 0) (by omega) (by omega) ?_
    exact loop17 _ 0 (Nat.lt_succ_self _) (Nat.zero_le _)

theorem hc8 {s : ASt} {B : Nat} (hI : InvA B s) {k : Nat} (hk : k < sNs s) : hc (sSh s k) (sNb s) = hc (sSh s k) 8 := by
  have h8 := hI.1
  have key : ∀ n, sNb s + n ≤ 8 → hc (sSh s k) (sNb s + n) = hc (sSh s k) (sNb s) := by
    intro n
    induction n with
    | zero => intro _; rfl
    | succ n ih =>
      intro hn
      rw [← Nat.add_assoc, hc, ih (by omega), if_pos ((hI.2.2.1 k hk).2.2.2 (sNb s + n) (by omega) (by omega))]
      all_goals rfl
  have := key (8 - sNb s) (by omega)
  rw [show sNb s + (8 - sNb s) = 8 by omega] at this
  exact this.symm
theorem H_bit (sh : Nat → Int32) {i : Nat} (hi : i < 8) : fh sh 8 8 / 2 ^ i % 2 = 1 ↔ ¬ sh i = -1 := by
  rw [fh_bit]
  have := hc_le sh i
  exact ⟨fun z => z.2.1, fun z => ⟨hi, z, by omega⟩⟩
theorem H_pop (sh : Nat → Int32) : ∀ b, b ≤ 8 → popb (fh sh 8 8) b = hc sh b
  | 0, _ => rfl
  | b + 1, hb => by
    have ih := H_pop sh b (by omega)
    have e := H_bit sh (i := b) (by omega)
    rw [hc]
    by_cases z : sh b = -1
    · rw [popb_nS (fun y => e.mp y z), if_pos z, ih]
      all_goals rfl
    · rw [popb_yS (e.mpr z), if_neg z, ih]
theorem F_bit (sh : Nat → Int32) (m : Nat) {i : Nat} (hi : i < 8) : fh sh m 8 / 2 ^ i % 2 = 1 ↔ ¬ sh i = -1 ∧ hc sh i < m := by
  rw [fh_bit]
  exact ⟨fun z => z.2, fun z => ⟨hi, z⟩⟩
theorem F_pop (sh : Nat → Int32) (m : Nat) : ∀ b, b ≤ 8 → popb (fh sh m 8) b = min m (hc sh b)
  | 0, _ => by show 0 = min m 0; omega
  | b + 1, hb => by
    have ih := F_pop sh m b (by omega)
    have e := F_bit sh m (i := b) (by omega)
    rw [hc]
    by_cases z : sh b = -1
    · rw [popb_nS (fun y => (e.mp y).1 z), if_pos z, ih]
      all_goals rfl
    · rw [if_neg z]
      by_cases q : hc sh b < m
      · rw [popb_yS (e.mpr ⟨z, q⟩), ih]
        omega
      · rw [popb_nS (fun y => q (e.mp y).2), ih]
        omega
theorem F_at (sh : Nat → Int32) (m : Nat) : ∀ b, b < 8 → fh sh m 8 / 2 ^ b % 2 = 1 → fh sh 8 8 / 2 ^ b % 2 = 1 ∧ popb (fh sh m 8) b = popb (fh sh 8 8) b := by
  intro b hb h
  obtain ⟨h1, h2⟩ := (F_bit sh m hb).mp h
  refine ⟨(H_bit sh hb).mpr h1, ?_⟩
  rw [F_pop sh m b (by omega), H_pop sh b (by omega)]
  omega
theorem F_lt (sh : Nat → Int32) (m : Nat) : fh sh m 8 < 256 := fh_lt sh m 8
/-- the leading holders' points are the first ones of all holders' -/
theorem F_plr {sh : Nat → Int32} {m j : Nat} {p q : Nat → Nat} (h : j < popb (fh sh m 8) 8) : plr (fh sh 8 8) p 8 j = plr (fh sh m 8) q 8 j := by
  obtain ⟨b, h1, h2, h3⟩ := pt_bird h
  obtain ⟨a1, a2⟩ := F_at sh m b h1 h2
  have e := plr8 (p0 := p) h1 a1
  rw [← a2, h3] at e
  rw [e, ← h3, plr8 h1 h2]
theorem F_vlr {sh : Nat → Int32} {m j : Nat} {v p q : Nat → Nat} (h : j < popb (fh sh m 8) 8) : vlr (fh sh 8 8) v p 8 j = vlr (fh sh m 8) v q 8 j := by
  obtain ⟨b, h1, h2, h3⟩ := pt_bird h
  obtain ⟨a1, a2⟩ := F_at sh m b h1 h2
  have e := vlr8 (v := v) (v0 := p) h1 a1
  rw [← a2, h3] at e
  rw [e, ← h3, vlr8 h1 h2]
/-- the value through the leading holders, as the law finds it -/
theorem N_val {sh : Nat → Int32} {t x : Nat} {v p q : Nat → Nat} (ht : t ≤ hc sh 8) (h4 : t ≤ 4) (hx : x < 9) : nwt (plr (fh sh 8 8) p 8) (vlr (fh sh 8 8) v q 8) t x = lagS (fh sh t 8) v x := by
  have e : popb (fh sh t 8) 8 = t := by rw [F_pop sh t 8 (Nat.le_refl 8)]; omega
  rw [nwt_congr (P' := plr (fh sh t 8) p 8) (S' := vlr (fh sh t 8) v q 8) (fun j hj => F_plr (by rw [e]; exact hj)) (fun j hj => F_vlr (by rw [e]; exact hj))]
  have := nwt_lag (M := fh sh t 8) (v := v) (p0 := p) (v0 := q) (x := x) (F_lt sh t) (by rw [e]; exact h4) hx
  rw [e] at this
  exact this
/-- how many of the first n holders do not fit, as the law finds it -/
theorem N_unf {sh : Nat → Int32} {t n : Nat} {v p q : Nat → Nat} (ht : t ≤ hc sh 8) (h4 : t ≤ 4) (hn : n ≤ hc sh 8) : ulw (plr (fh sh 8 8) p 8) (vlr (fh sh 8 8) v q 8) (plr (fh sh 8 8) p 8) (vlr (fh sh 8 8) v q 8) t n = unf (fh sh t 8) v (fh sh n 8) 8 := by
  have e : popb (fh sh t 8) 8 = t := by rw [F_pop sh t 8 (Nat.le_refl 8)]; omega
  have e2 : popb (fh sh n 8) 8 = n := by rw [F_pop sh n 8 (Nat.le_refl 8)]; omega
  rw [ulw_congr (Q' := plr (fh sh t 8) p 8) (R' := vlr (fh sh t 8) v q 8) (fun j hj => F_plr (by rw [e]; exact hj)) (fun j hj => F_vlr (by rw [e]; exact hj))]
  have := ulw_unf (C := fh sh t 8) (H := fh sh 8 8) (T := fh sh n 8) (v := v) (p0 := p) (v0 := q) (p1 := p) (v1 := q) (F_lt sh t) (by rw [e]; exact h4) (F_at sh n) 8 (Nat.le_refl 8)
  rw [e, e2] at this
  exact this
theorem N_H {sh : Nat → Int32} : fh sh (hc sh 8) 8 = fh sh 8 8 := by
  refine Nat.eq_of_testBit_eq (fun i => ?_)
  rcases Nat.lt_or_ge i 8 with q | q
  · have a := F_bit sh (hc sh 8) q
    have b := H_bit sh q
    have c : ¬ sh i = -1 → hc sh i < hc sh 8 := by
      intro z
      have h1 := popb_ltS (S := fh sh 8 8) q (b.mpr z)
      rw [H_pop sh i (by omega), H_pop sh 8 (Nat.le_refl 8)] at h1
      exact h1
    have key : fh sh (hc sh 8) 8 / 2 ^ i % 2 = 1 ↔ fh sh 8 8 / 2 ^ i % 2 = 1 := by
      rw [a, b]
      exact ⟨fun z => z.1, fun z => ⟨z, c z⟩⟩
    rw [← tb_iff, ← tb_iff] at key
    cases h1 : (fh sh (hc sh 8) 8).testBit i <;> cases h2 : (fh sh 8 8).testBit i
    · rfl
    · rw [h1, h2] at key
      exact absurd (key.mpr rfl) (by decide)
    · rw [h1, h2] at key
      exact absurd (key.mp rfl) (by decide)
    · rfl
  · rw [tb_hi (F_lt sh _) q, tb_hi (F_lt sh _) q]
theorem N_unfA {sh : Nat → Int32} {t : Nat} {p q : Nat → Nat} (ht : t ≤ hc sh 8) (h4 : t ≤ 4) : ulw (plr (fh sh 8 8) p 8) (vlr (fh sh 8 8) (svn sh) q 8) (plr (fh sh 8 8) p 8) (vlr (fh sh 8 8) (svn sh) q 8) t (hc sh 8) = unfA sh t := by
  rw [N_unf ht h4 (Nat.le_refl _), N_H]
  all_goals rfl
theorem SHv {sh : Nat → Int32} (h : SHok sh) : ∀ b, b < 8 → fh sh 8 8 / 2 ^ b % 2 = 1 → svn sh b < 97 := fun b hb hs => (h b hb ((H_bit sh hb).mp hs)).2
theorem N_least {sh : Nat → Int32} {t : Nat} (hS : SHok sh) (ht : t ≤ hc sh 8) (h4 : t ≤ 4) : lsl (fh sh 8 8) t (svn sh) (hc sh 8) (2 ^ hc sh 8) = lstu (fh sh 8 8) t (svn sh) 256 := by
  have e : popb (fh sh 8 8) 8 = hc sh 8 := H_pop sh 8 (Nat.le_refl 8)
  have e2 : popb (fh sh t 8) 8 = t := by rw [F_pop sh t 8 (Nat.le_refl 8)]; omega
  have := lsl_lstu (H := fh sh 8 8) (t := t) (v := svn sh) h4 ⟨fh sh t 8, F_lt sh t, sub_and (F_lt sh t) (fun b hb hs => (F_at sh t b hb hs).1), by rw [← popb8, e2]⟩ (fun c => unf_pop 8) (SHv hS)
  rw [e] at this
  exact this
theorem askS_no {s : ASt} {B : Nat} (hI : InvA B s) (hB : B < 10000) {k b : Nat} (hk : k < sNs s) (hb : b < sNb s) (h : sSh s k b = -1) : askV (exA 4) (qA 4 s (nI b) (sNu s k)) = -2005 := by
  have e : qA 4 s (nI b) (sNu s k) = (3, 0) := show qShare s (nI b) (sNu s k) = (3, 0) from (qB_y hI.1 hb rfl).trans ((qS_y (fd_own hI hB hk)).trans (qI_n (fun z => z h)))
  rw [e]
  all_goals rfl
theorem askS_yes {s : ASt} {B : Nat} (hI : InvA B s) (hB : B < 10000) {k b : Nat} (hk : k < sNs s) (hb : b < sNb s) (h : ¬ sSh s k b = -1) : askV (exA 4) (qA 4 s (nI b) (sNu s k)) = nI (svn (sSh s k) b) := by
  have h8 := hI.1
  have e : qA 4 s (nI b) (sNu s k) = (0, sSh s k b) := show qShare s (nI b) (sNu s k) = (0, sSh s k b) from (qB_y hI.1 hb rfl).trans ((qS_y (fd_own hI hB hk)).trans (qI_y h))
  rw [askV_0 e]
  exact ((hI.2.2.1 k hk).2.2.1 b (by omega) h).1
theorem askS_end {s : ASt} {B : Nat} (hI : InvA B s) (x : Int32) : askV (exA 4) (qA 4 s (nI (sNb s)) x) = -2002 := by
  have h8 := hI.1
  have e : qA 4 s (nI (sNb s)) x = (1, 0) := show qShare s (nI (sNb s)) x = (1, 0) from qB_n (fun z => absurd z.2 Int32.lt_irrefl)
  rw [e]
  all_goals rfl
theorem qHolds_ok {s : ASt} {B : Nat} (hI : InvA B s) (hB : B < 10000) {k b : Nat} (hk : k < sNs s) (hb : b < sNb s) : qHolds s (nI b) (sNu s k) = (0, if sSh s k b = -1 then 0 else 1) := (qB_y hI.1 hb rfl).trans (qS_y (fd_own hI hB hk))
theorem qCan_ok {s : ASt} {B : Nat} (hI : InvA B s) (hB : B < 10000) {k n : Nat} (hk : k < sNs s) (hn : n < 4) : qCan s (nI n) (sNu s k) = (0, if sTn s k ≤ hin (sHm s) (sSh s k) (nI n) (sNb s) then 1 else 0) := (qN_y ⟨nI_nn (by omega), (show nI n < nI 4 from nI_lt hn (by decide))⟩).trans (qS_y (fd_own hI hB hk))
theorem hin_no {hm s : Nat → Int32} {x : Int32} {b : Nat} (h : s b = -1) : hin hm s x (b + 1) = hin hm s x b := by rw [hin, if_neg (fun z => z.2 h)]; all_goals rfl
theorem hin_yes {hm s : Nat → Int32} {x : Int32} {b : Nat} (h : ¬ s b = -1) : hin hm s x (b + 1) = hin hm s x b + (if hm b = x then 1 else 0) := by
  rw [hin]
  by_cases z : hm b = x
  · rw [if_pos ⟨z, h⟩, if_pos z]
  · rw [if_neg (fun y => z y.1), if_neg z]
theorem nn_yes {hm s : Nat → Int32} {nn : Nat → Nat} {b c : Nat} (hn : ∀ n, n < 4 → nn n = hin hm s (nI n) b) (hc4 : c < 4) (hb : hm b = nI c) (h : ¬ s b = -1) : ∀ n, n < 4 → va_up nn c (nn c + 1) n = hin hm s (nI n) (b + 1) := by
  intro n hn4
  rw [hin_yes h]
  by_cases e : n = c
  · subst e
    rw [va_up_self, hn n hn4, if_pos hb]
  · rw [va_up_ne _ _ e, hn n hn4, if_neg (fun z => e ((nI_eq (by omega) (by omega)).mp (z.symm.trans hb)))]
    all_goals rfl
theorem ask7_y {s : ASt} {B : Nat} (hI : InvA B s) (hB : B < 10000) {k w : Nat} (hw : w = 7 ∨ w = 8) (hk : k < sNs s) (h : sTn s k ≤ hc (sSh s k) 8) (y : Int32) : askV (exA w) (qA w s (sNu s k) y) = nI (lagS (fh (sSh s k) (sTn s k) 8) (svn (sSh s k)) 0) := by
  have e : qReb s (sNu s k) = (0, _) := (qS_y (fd_own hI hB hk)).trans (qI_y h)
  rcases hw with rfl | rfl
  · exact askV_0 e
  · exact askV_0 e
theorem ask7_n {s : ASt} {B : Nat} (hI : InvA B s) (hB : B < 10000) {k w : Nat} (hw : w = 7 ∨ w = 8 ∨ w = 9 ∨ w = 10) (hk : k < sNs s) (h : ¬ sTn s k ≤ hc (sSh s k) 8) (y : Int32) : askV (exA w) (qA w s (sNu s k) y) = -2005 := by
  have e1 : qReb s (sNu s k) = (2, 0) := (qS_y (fd_own hI hB hk)).trans (qI_n h)
  have e2 : qUnf s (sNu s k) = (2, 0) := (qS_y (fd_own hI hB hk)).trans (qI_n h)
  have e3 : qLeast s (sNu s k) = (2, 0) := (qS_y (fd_own hI hB hk)).trans (qI_n h)
  rcases hw with rfl | rfl | rfl | rfl
  · show askV _ (qReb s (sNu s k)) = _
    rw [e1]
    all_goals rfl
  · show askV _ (qReb s (sNu s k)) = _
    rw [e1]
    all_goals rfl
  · show askV _ (qUnf s (sNu s k)) = _
    rw [e2]
    all_goals rfl
  · show askV _ (qLeast s (sNu s k)) = _
    rw [e3]
    all_goals rfl
theorem ask9_y {s : ASt} {B : Nat} (hI : InvA B s) (hB : B < 10000) {k : Nat} (hk : k < sNs s) (h : sTn s k ≤ hc (sSh s k) 8) (y : Int32) : askV (exA 9) (qA 9 s (sNu s k) y) = nI (unfA (sSh s k) (sTn s k)) := askV_0 ((qS_y (fd_own hI hB hk)).trans (qI_y h))
theorem ask10_y {s : ASt} {B : Nat} (hI : InvA B s) (hB : B < 10000) {k : Nat} (hk : k < sNs s) (h : sTn s k ≤ hc (sSh s k) 8) (y : Int32) : askV (exA 10) (qA 10 s (sNu s k) y) = nI (lstu (fh (sSh s k) 8 8) (sTn s k) (svn (sSh s k)) 256) := askV_0 ((qS_y (fd_own hI hB hk)).trans (qI_y h))
theorem qPoss_ok {s : ASt} {B : Nat} (hI : InvA B s) (hB : B < 10000) {k n : Nat} (hk : k < sNs s) (hn : n ≤ hc (sSh s k) 8) : qPoss s (sNu s k) (nI n) = (0, nI (pvc (sSh s k) (sTn s k) n 97)) := by
  have h8 := hc_le8 (sSh s k)
  have e : qPoss s (sNu s k) (nI n) = (0, nI (pvc (sSh s k) (sTn s k) (nI n).toNatClampNeg 97)) := (qS_y (fd_own hI hB hk)).trans (qI_y ⟨nI_nn (by omega), (nI_leI (by omega) (by omega)).mpr hn⟩)
  rw [nI_clamp (by omega)] at e
  exact e
theorem askP_more {s : ASt} {B : Nat} (hI : InvA B s) (hB : B < 10000) {k w : Nat} (hw : w = 11 ∨ w = 12) (hk : k < sNs s) {y : Int32} (h : ¬ (¬ y < 0 ∧ y ≤ nI (hc (sSh s k) 8))) : askV (exA w) (qA w s (sNu s k) y) = -2003 := by
  have e : qPoss s (sNu s k) y = (2, 0) := (qS_y (fd_own hI hB hk)).trans (qI_n h)
  rcases hw with rfl | rfl
  · show askV _ (qPoss s (sNu s k) y) = _
    rw [e]
    all_goals rfl
  · show askV _ (qPoss s (sNu s k) y) = _
    rw [e]
    all_goals rfl
theorem due_lt {sh : Nat → Int32} {t n : Nat} (h : n < t) : pvc sh t n 97 = 97 := by rw [pvc_97, if_pos h]
theorem due_0 {sh : Nat → Int32} {t n : Nat} (h : t ≤ n) (h2 : unf (fh sh t 8) (svn sh) (fh sh n 8) 8 = 0) : pvc sh t n 97 = 1 := by rw [pvc_97, if_neg (by omega), if_pos h2]
theorem due_1 {sh : Nat → Int32} {t n : Nat} (h : t ≤ n) (h2 : ¬ unf (fh sh t 8) (svn sh) (fh sh n 8) 8 = 0) : pvc sh t n 97 = 0 := by rw [pvc_97, if_neg (by omega), if_neg h2]
theorem wsh_stop {sh : Nat → Int32} {n : Nat} : ∀ k, (∀ b, n ≤ b → b < n + k → sh b = -1) → wsh sh (n + k) = wsh sh n
  | 0, _ => rfl
  | k + 1, h => by rw [← Nat.add_assoc, wsh, if_pos (h (n + k) (by omega) (by omega)), wsh_stop k (fun b h1 h2 => h b h1 (by omega))]
theorem wS_8 {s : ASt} {B : Nat} (hI : InvA B s) {k : Nat} (hk : k < sNs s) : wS s k (sNb s) = wS s k 8 := by
  have h8 := hI.1
  have := wsh_stop (sh := sSh s k) (n := sNb s) (8 - sNb s) (fun b h1 h2 => (hI.2.2.1 k hk).2.2.2 b h1 (by omega))
  rw [show sNb s + (8 - sNb s) = 8 by omega] at this
  rw [wS, wS, this]
theorem wS_len {s : ASt} {B : Nat} (hI : InvA B s) (hB : B < 10000) {k : Nat} (hk : k < sNs s) : ∀ b, b ≤ sNb s → (wS s k b).length ≤ 6 + 5 * b
  | 0, _ => by
    have h4 := dgc_4l (nu_ok hI hB hk).2
    have ht := dgc_1 (x := sTn s k) (by have := (hI.2.2.1 k hk).2.1; omega)
    rw [wS_0]
    simp only [List.length_append, dig_len, List.length_nil, List.length_cons]
    omega
  | b + 1, hb => by
    have h8 := hI.1
    have ih := wS_len hI hB hk b (by omega)
    by_cases z : sSh s k b = -1
    · rw [wS_no z]
      omega
    · have h1 := dgc_1 (x := b) (by omega)
      have h2 := dgc_2l (x := svn (sSh s k) b) (by have := ((hI.2.2.1 k hk).2.2.1 b (by omega) z).2; omega)
      rw [wS_yes z]
      simp only [List.length_append, dig_len, List.length_nil, List.length_cons]
      omega