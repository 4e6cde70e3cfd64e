/-! Changer: the changes (printed by gen/s27.py) -/
theorem pm_last (c m : Nat) : pm c (m + 1) m = c := by
  unfold pm
  rw [if_neg (fun z => by omega), if_pos rfl]
set_option maxHeartbeats 4000000 in
set_option maxRecDepth 100000 in
theorem c_refreshed (l : Launch) (G : Gx) (hg hr : Nat) (h ah as_ : Nat) (rr ra : Nat → Nat) (hm : Nat → Int32) (nb ns : Nat) (la : Int32) (lo : Int64) (nu : Nat → Int32) (tn : Nat → Nat) (sh : Nat → Nat → Int32) (hb8 : nb ≤ 8) (hs6 : ns ≤ 6) (k : Nat) (hk : k < 6) (ht : 1 ≤ tn k) (ht4 : tn k ≤ 4) (seed : Nat) (hs : seed < 97) : Ct l G (SFx G) yX1_refreshed wsX1_refreshed ({ frames := 2, cells := 0, slots := 0, locals := 51 }) [.ref hg, .ref (rr k), .int (nI seed)] ([(hg, .inr (4, [.ref h, .ref hr]))] ++ (stW G h ah as_ rr ra hm nb ns la lo nu tn sh)) mkI (fun (r : Int32) (_ : Unit) => r = nI (rct (sh k) (rfa seed (tn k)) 8)) (fun _ : Unit => ([(hg, .inr (4, [.ref h, .ref hr]))] ++ (stW G h ah as_ rr ra hm nb ns la lo nu tn (va_up sh k (rfs (sh k) (rfa seed (tn k))))))) 0 0 := by
  refine Ct.ofI (cc := cX1_refreshed) (maxL := 3) (by decide) rfl ⟨by simp [Value.category], Nat.le_of_ble_eq_true rfl⟩ ?_
  intro K hl hC hSF hnm hE
  subst hl
  have hgo := SFgoS (SFx.k G) hSF
  show V G K 3 0 0 0 [some (.ref hg), some (.ref (rr k)), some (.int (nI seed))] [] ([(hg, .inr (4, [.ref h, .ref hr]))] ++ (stW G h ah as_ rr ra hm nb ns la lo nu tn sh))
  refine V.aload_n hC (x := (rr k)) dX1_refreshed_0 rfl ?_
  refine V.ifnonnull hC 8 dX1_refreshed_1 rfl ?_
  refine V.aload_n hC (x := (rr k)) dX1_refreshed_8 rfl ?_
  refine V.iload_n hC (x := nI seed) dX1_refreshed_9 rfl ?_
  refine V.callV (n := 1) (As := [.int (nI seed)]) (rest := []) hC (c_addRefreshing (kl K) G (rr k) (ra k) (sh k) (nu k) (tn k) ht ht4 seed hs) SFk0 SFgo0 gX1_refreshed_X10_addRefreshing rfl ⟨rfl, rfl⟩ (by decide +kernel) ⟨by decide, by decide, by decide, by decide⟩ [1 + (3 + 2 * k), 1 + (4 + 2 * k)] (by rcases (lt6 hk) with rfl | rfl | rfl | rfl | rfl | rfl <;> rfl) (by rcases (lt6 hk) with rfl | rfl | rfl | rfl | rfl | rfl <;> rfl) (fun _ => rfl) rfl rfl rfl rfl (Nat.le_of_ble_eq_true rfl) dX1_refreshed_10 (fun r_10 u_10 hp_10 => ?_)
  subst hp_10
  refine V.eqw (ws' := ([(hg, .inr (4, [.ref h, .ref hr]))] ++ (stW G h ah as_ rr ra hm nb ns la lo nu tn (va_up sh k (rfs (sh k) (rfa seed (tn k))))))) (by rcases (lt6 hk) with rfl | rfl | rfl | rfl | rfl | rfl <;> rfl) ?_
  show V G K 3 0 0 13 [some (.ref hg), some (.ref (rr k)), some (.int (nI seed))] [.int (nI (rct (sh k) (rfa seed (tn k)) 8))] ([(hg, .inr (4, [.ref h, .ref hr]))] ++ (stW G h ah as_ rr ra hm nb ns la lo nu tn (va_up sh k (rfs (sh k) (rfa seed (tn k))))))
  exact hE 13 _ (nI (rct (sh k) (rfa seed (tn k)) 8)) () dX1_refreshed_13 rfl rfl

set_option maxHeartbeats 4000000 in
set_option maxRecDepth 100000 in
theorem c_close0 (l : Launch) (G : Gx) (h ah as_ : Nat) (rr ra : Nat → Nat) (hm : Nat → Int32) (nb ns : Nat) (la : Int32) (lo : Int64) (nu : Nat → Int32) (tn : Nat → Nat) (sh : Nat → Nat → Int32) (hb8 : nb ≤ 8) (hs6 : ns ≤ 6) (c : Nat) (hc : c < ns) : Ct l G SF0 yX11_close wsX11_close ({ frames := 0, cells := 0, slots := 0, locals := 0 }) [.ref h, .ref (rr c)] (stW G h ah as_ rr ra hm nb ns la lo nu tn sh) mkV (fun (_ : Unit) (_ : Unit) => True) (fun _ : Unit => (stWf G h ah as_ rr ra hm nb (ns - 1) la lo nu tn sh (fun k => some (rr (pm c ns k))))) 0 0 := by
  refine Ct.ofV (cc := cX11_close) (maxL := 4) (by decide) rfl ⟨by simp [Value.category], Nat.le_of_ble_eq_true rfl⟩ ?_
  intro K hl hC hSF hnm hE
  subst hl
  have q0_ : ∀ w ∈ u_ws RX11 TX11 6, w ∈ wsX11_close := by decide +kernel
  have q1_ : Cond.fieldLink RX11 36 "FeatherShares$State" "secretsInUse" "I" ∈ wsX11_close := by decide +kernel
  have q2_ : Cond.fieldLink RX11 17 "FeatherShares$State" "secrets" "[LFeatherShares$Secret;" ∈ wsX11_close := by decide +kernel
  show V G K 4 0 0 0 [some (.ref h), some (.ref (rr c)), none, none] [] (stW G h ah as_ rr ra hm nb ns la lo nu tn sh)
  refine V.iconst hC 0 dX11_close_0 rfl ?_
  refine V.istore_n hC dX11_close_1 [some (.ref h), some (.ref (rr c)), some (.int 0), none] (Nat.le_of_ble_eq_true rfl) rfl ?_
  refine V.eqw (ws' := (stWf G h ah as_ rr ra hm nb ns la lo nu tn sh (clf rr c 0))) (congrArg (stWf G h ah as_ rr ra hm nb ns la lo nu tn sh) (clf_0 rr c)) ?_
  refine V.iconst hC 0 dX11_close_2 rfl ?_
  refine V.istore_n hC dX11_close_3 [some (.ref h), some (.ref (rr c)), some (.int 0), some (.int 0)] (Nat.le_of_ble_eq_true rfl) rfl ?_
  have loop4 : ∀ (n : Nat) (p : Nat), 7 - p < n → (p ≤ ns) → V G K 4 0 0 4 [some (.ref h), some (.ref (rr c)), some (.int (nI (kpt c p))), some (.int (nI p))] [] (stWf G h ah as_ rr ra hm nb ns la lo nu tn sh (clf rr c p)) := by
    intro n
    induction n with
    | zero => intro p hlt; exact absurd hlt (Nat.not_lt_zero _)
    | succ n ih4 =>
      intro p hlt4 hp
      have hq := kpt_le c p
      refine V.iload_n hC (x := nI p) dX11_close_4 rfl ?_
      refine V.aload_n hC (x := h) dX11_close_5 rfl ?_
      refine V.getf hC (T := TX11) q0_ 3 q1_ rfl (0) rfl rfl (by decide) (.int (nI ns)) rfl dX11_close_6 ?_
      refine V.icmpN_ge hC p ns 49 dX11_close_9 rfl rfl rfl (by omega) (by omega) (fun c_9 => ?_) (fun c_9 => ?_)
      · refine V.lset 2 (x := .int (nI (kpt c p))) (y := .int (nI (ns - 1))) (congrArg Value.int (congrArg nI (by unfold kpt; split <;> omega))) rfl (lv' := [some (.ref h), some (.ref (rr c)), some (.int (nI (ns - 1))), some (.int (nI p))]) rfl ?_
        refine V.eqw (ws' := (stWf G h ah as_ rr ra hm nb ns la lo nu tn sh (clf rr c ns))) (by rw [show (clf rr c p) = (clf rr c ns) from (by rw [show p = ns by omega])]) ?_
        refine V.iload_n hC (x := nI (ns - 1)) dX11_close_49 rfl ?_
        refine V.aload_n hC (x := h) dX11_close_50 rfl ?_
        refine V.getf hC (T := TX11) q0_ 3 q1_ rfl (0) rfl rfl (by decide) (.int (nI ns)) rfl dX11_close_51 ?_
        refine V.icmpN_ge hC (ns - 1) ns 69 dX11_close_54 rfl rfl rfl (by omega) (by omega) (fun c_54 => ?_) (fun c_54 => ?_)
        · exact absurd c_54 (by omega)
        · refine V.aload_n hC (x := h) dX11_close_57 rfl ?_
          refine V.getf hC (T := TX11) q0_ 1 q2_ rfl (0) rfl rfl (by decide) (.ref as_) rfl dX11_close_58 ?_
          refine V.iload_n hC (x := nI (ns - 1)) dX11_close_61 rfl ?_
          refine V.aload_n hC (x := (rr c)) dX11_close_62 rfl ?_
          refine V.aastS (vs := [.ref (ra c), .int (nu c), .int (nI (tn c))]) hC dX11_close_63 (2) (3 + 2 * c) rfl (by rcases lt6 (by omega : c < 6) with rfl | rfl | rfl | rfl | rfl | rfl <;> rfl) (ns - 1) rfl (by omega) (by decide) (stWf G h ah as_ rr ra hm nb ns la lo nu tn sh (va_up (clf rr c ns) (ns - 1) (some (rr c)))) rfl ?_
          refine V.eqw (ws' := (stWf G h ah as_ rr ra hm nb ns la lo nu tn sh (fun k => some (rr (pm c ns k))))) (by rw [show va_up (clf rr c ns) (ns - 1) (some (rr c)) = (fun k => some (rr (pm c ns k))) from clf_end rr hc]) ?_
          refine V.aload_n hC (x := h) dX11_close_64 rfl ?_
          refine V.iload_n hC (x := nI (ns - 1)) dX11_close_65 rfl ?_
          refine V.putf hC (T := TX11) q0_ tyX11 tyX11_ok nmX11 3 q1_ rfl rfl (0) rfl rfl (by decide) (by simp) rfl rfl dX11_close_66 (stWf G h ah as_ rr ra hm nb (ns - 1) la lo nu tn sh (fun k => some (rr (pm c ns k)))) rfl ?_
          exact hE 69 _ () dX11_close_69 trivial
      · refine V.iload_n hC (x := nI p) dX11_close_12 rfl ?_
        refine V.bipush hC 6 dX11_close_13 rfl ?_
        refine V.icmpN_ge hC p 6 49 dX11_close_15 rfl rfl rfl (by omega) (by omega) (fun c_15 => ?_) (fun c_15 => ?_)
        · refine V.lset 2 (x := .int (nI (kpt c p))) (y := .int (nI (ns - 1))) (congrArg Value.int (congrArg nI (by unfold kpt; split <;> omega))) rfl (lv' := [some (.ref h), some (.ref (rr c)), some (.int (nI (ns - 1))), some (.int (nI p))]) rfl ?_
          refine V.eqw (ws' := (stWf G h ah as_ rr ra hm nb ns la lo nu tn sh (clf rr c ns))) (by rw [show (clf rr c p) = (clf rr c ns) from (by rw [show p = ns by omega])]) ?_
          refine V.iload_n hC (x := nI (ns - 1)) dX11_close_49 rfl ?_
          refine V.aload_n hC (x := h) dX11_close_50 rfl ?_
          refine V.getf hC (T := TX11) q0_ 3 q1_ rfl (0) rfl rfl (by decide) (.int (nI ns)) rfl dX11_close_51 ?_
          refine V.icmpN_ge hC (ns - 1) ns 69 dX11_close_54 rfl rfl rfl (by omega) (by omega) (fun c_54 => ?_) (fun c_54 => ?_)
          · exact absurd c_54 (by omega)
          · refine V.aload_n hC (x := h) dX11_close_57 rfl ?_
            refine V.getf hC (T := TX11) q0_ 1 q2_ rfl (0) rfl rfl (by decide) (.ref as_) rfl dX11_close_58 ?_
            refine V.iload_n hC (x := nI (ns - 1)) dX11_close_61 rfl ?_
            refine V.aload_n hC (x := (rr c)) dX11_close_62 rfl ?_
            refine V.aastS (vs := [.ref (ra c), .int (nu c), .int (nI (tn c))]) hC dX11_close_63 (2) (3 + 2 * c) rfl (by rcases lt6 (by omega : c < 6) with rfl | rfl | rfl | rfl | rfl | rfl <;> rfl) (ns - 1) rfl (by omega) (by decide) (stWf G h ah as_ rr ra hm nb ns la lo nu tn sh (va_up (clf rr c ns) (ns - 1) (some (rr c)))) rfl ?_
            refine V.eqw (ws' := (stWf G h ah as_ rr ra hm nb ns la lo nu tn sh (fun k => some (rr (pm c ns k))))) (by rw [show va_up (clf rr c ns) (ns - 1) (some (rr c)) = (fun k => some (rr (pm c ns k))) from clf_end rr hc]) ?_
            refine V.aload_n hC (x := h) dX11_close_64 rfl ?_
            refine V.iload_n hC (x := nI (ns - 1)) dX11_close_65 rfl ?_
            refine V.putf hC (T := TX11) q0_ tyX11 tyX11_ok nmX11 3 q1_ rfl rfl (0) rfl rfl (by decide) (by simp) rfl rfl dX11_close_66 (stWf G h ah as_ rr ra hm nb (ns - 1) la lo nu tn sh (fun k => some (rr (pm c ns k)))) rfl ?_
            exact hE 69 _ () dX11_close_69 trivial
        · refine V.aload_n hC (x := h) dX11_close_18 rfl ?_
          refine V.getf hC (T := TX11) q0_ 1 q2_ rfl (0) rfl rfl (by decide) (.ref as_) rfl dX11_close_19 ?_
          refine V.iload_n hC (x := nI p) dX11_close_22 rfl ?_
          refine V.aaldS hC dX11_close_23 (2) rfl p rfl (by omega) (by decide) (rr p) (clf_at rr c p) ?_
          refine V.aload_n hC (x := (rr c)) dX11_close_24 rfl ?_
          by_cases hpc : p = c
          · refine V.acmp_eq hC 43 dX11_close_25 rfl (fun c_25 => ?_) (fun c_25 => ?_)
            · refine V.eqw (ws' := (stWf G h ah as_ rr ra hm nb ns la lo nu tn sh (clf rr c (p + 1)))) (by rw [show (clf rr c p) = (clf rr c (p + 1)) from clf_same rr hpc]) ?_
              refine V.lset 2 (x := .int (nI (kpt c p))) (y := .int (nI (kpt c (p + 1)))) (congrArg Value.int (congrArg nI (kpt_y hpc))) rfl (lv' := [some (.ref h), some (.ref (rr c)), some (.int (nI (kpt c (p + 1)))), some (.int (nI p))]) rfl ?_
              refine V.iincN hC p 1 dX11_close_43 rfl [some (.ref h), some (.ref (rr c)), some (.int (nI (kpt c (p + 1)))), some (.int (nI (p + 1)))] (Nat.le_of_ble_eq_true rfl) rfl rfl rfl ?_
              refine V.goto hC 4 dX11_close_46 rfl ?_
              exact ih4 (p + 1) (by omega) (by omega)
            · exact absurd (congrArg rr hpc) c_25
          · refine V.apart (3 + 2 * p) (3 + 2 * c) (p := (rr p, .inr (10, [.ref (ra p), .int (nu p), .int (nI (tn p))]))) (q := (rr c, .inr (10, [.ref (ra c), .int (nu c), .int (nI (tn c))]))) (by rcases lt6 (by omega : p < 6) with rfl | rfl | rfl | rfl | rfl | rfl <;> rfl) (by rcases lt6 (by omega : c < 6) with rfl | rfl | rfl | rfl | rfl | rfl <;> rfl) (by omega) (fun hne => ?_)
            refine V.acmp_eq hC 43 dX11_close_25 rfl (fun c_25 => ?_) (fun c_25 => ?_)
            · exact absurd c_25 hne
            · refine V.aload_n hC (x := h) dX11_close_28 rfl ?_
              refine V.getf hC (T := TX11) q0_ 1 q2_ rfl (0) rfl rfl (by decide) (.ref as_) rfl dX11_close_29 ?_
              refine V.iload_n hC (x := nI (kpt c p)) dX11_close_32 rfl ?_
              refine V.aload_n hC (x := h) dX11_close_33 rfl ?_
              refine V.getf hC (T := TX11) q0_ 1 q2_ rfl (0) rfl rfl (by decide) (.ref as_) rfl dX11_close_34 ?_
              refine V.iload_n hC (x := nI p) dX11_close_37 rfl ?_
              refine V.aaldS hC dX11_close_38 (2) rfl p rfl (by omega) (by decide) (rr p) (clf_at rr c p) ?_
              refine V.aastS (vs := [.ref (ra p), .int (nu p), .int (nI (tn p))]) hC dX11_close_39 (2) (3 + 2 * p) rfl (by rcases lt6 (by omega : p < 6) with rfl | rfl | rfl | rfl | rfl | rfl <;> rfl) (kpt c p) rfl (by omega) (by decide) (stWf G h ah as_ rr ra hm nb ns la lo nu tn sh (va_up (clf rr c p) (kpt c p) (some (rr p)))) rfl ?_
              refine V.eqw (ws' := (stWf G h ah as_ rr ra hm nb ns la lo nu tn sh (clf rr c (p + 1)))) (by rw [show va_up (clf rr c p) (kpt c p) (some (rr p)) = (clf rr c (p + 1)) from clf_step rr hpc]) ?_
              refine V.iincN hC (kpt c p) 1 dX11_close_40 rfl [some (.ref h), some (.ref (rr c)), some (.int (nI (kpt c p + 1))), some (.int (nI p))] (Nat.le_of_ble_eq_true rfl) rfl rfl rfl ?_
              refine V.lset 2 (x := .int (nI (kpt c p + 1))) (y := .int (nI (kpt c (p + 1)))) (congrArg Value.int (congrArg nI (kpt_n hpc))) rfl (lv' := [some (.ref h), some (.ref (rr c)), some (.int (nI (kpt c (p + 1)))), some (.int (nI p))]) rfl ?_
              refine V.iincN hC p 1 dX11_close_43 rfl [some (.ref h), some (.ref (rr c)), some (.int (nI (kpt c (p + 1)))), some (.int (nI (p + 1)))] (Nat.le_of_ble_eq_true rfl) rfl rfl rfl ?_
              refine V.goto hC 4 dX11_close_46 rfl ?_
              exact ih4 (p + 1) (by omega) (by omega)
  exact loop4 _ 0 (Nat.lt_succ_self _) (by omega)

set_option maxHeartbeats 4000000 in
set_option maxRecDepth 100000 in
theorem c_forgotten (l : Launch) (G : Gx) (hg hr : Nat) (h ah as_ : Nat) (rr ra : Nat → Nat) (hm : Nat → Int32) (nb ns : Nat) (la : Int32) (lo : Int64) (nu : Nat → Int32) (tn : Nat → Nat) (sh : Nat → Nat → Int32) (hb8 : nb ≤ 8) (hs6 : ns ≤ 6) (c : Nat) (hc_ : c < ns) : Ct l G (SFx G) yX1_forgotten wsX1_forgotten ({ frames := 2, cells := 0, slots := 0, locals := 44 }) [.ref hg, .ref (rr c)] ([(hg, .inr (4, [.ref h, .ref hr]))] ++ (stW G h ah as_ rr ra hm nb ns la lo nu tn sh)) mkI (fun (r : Int32) (_ : Unit) => r = nI (hc (sh c) 8)) (fun _ : Unit => ([(hg, .inr (4, [.ref h, .ref hr]))] ++ (stWf G h ah as_ rr ra hm nb (ns - 1) la lo nu tn sh (fun k => some (rr (pm c ns k)))))) 0 0 := by
  refine Ct.ofI (cc := cX1_forgotten) (maxL := 2) (by decide) rfl ⟨by simp [Value.category], Nat.le_of_ble_eq_true rfl⟩ ?_
  intro K hl hC hSF hnm hE
  subst hl
  have hgo := SFgoS (SFx.k G) hSF
  have q0_ : ∀ w ∈ u_ws RX1 TX1 2, w ∈ wsX1_forgotten := by decide +kernel
  have q1_ : Cond.fieldLink RX1 12 "FeatherShares$Changer" "state" "LFeatherShares$State;" ∈ wsX1_forgotten := by decide +kernel
  show V G K 2 0 0 0 [some (.ref hg), some (.ref (rr c))] [] ([(hg, .inr (4, [.ref h, .ref hr]))] ++ (stW G h ah as_ rr ra hm nb ns la lo nu tn sh))
  refine V.aload_n hC (x := (rr c)) dX1_forgotten_0 rfl ?_
  refine V.ifnonnull hC 6 dX1_forgotten_1 rfl ?_
  refine V.aload_n hC (x := hg) dX1_forgotten_6 rfl ?_
  refine V.getf hC (T := TX1) q0_ 0 q1_ rfl (0) rfl rfl (by decide) (.ref h) rfl dX1_forgotten_7 ?_
  refine V.aload_n hC (x := (rr c)) dX1_forgotten_10 rfl ?_
  refine V.callV (n := 1) (As := [.ref (rr c)]) (rest := []) hC (c_close0 (kl K) G h ah as_ rr ra hm nb ns la lo nu tn sh hb8 hs6 c hc_) SFk0 SFgo0 gX1_forgotten_X11_close rfl ⟨rfl, rfl⟩ (by decide +kernel) ⟨by decide, by decide, by decide, by decide⟩ [1, 2, 3, 4, 5, 6, 7, 8, 9, 10, 11, 12, 13, 14, 15] rfl (by decide) (fun _ => Eq.refl [h, ah, as_, rr 0, ra 0, rr 1, ra 1, rr 2, ra 2, rr 3, ra 3, rr 4, ra 4, rr 5, ra 5]) rfl rfl rfl rfl (Nat.le_of_ble_eq_true rfl) dX1_forgotten_11 (fun r_11 u_11 hp_11 => ?_)
  refine V.eqw (ws' := ([(hg, .inr (4, [.ref h, .ref hr]))] ++ (stWf G h ah as_ rr ra hm nb (ns - 1) la lo nu tn sh (fun k => some (rr (pm c ns k)))))) (rj_by [1, 2, 3, 4, 5, 6, 7, 8, 9, 10, 11, 12, 13, 14, 15] [0] 16 rfl rfl (by decide) (by decide) rfl rfl) ?_
  show V G K 2 0 0 14 [some (.ref hg), some (.ref (rr c))] [] ([(hg, .inr (4, [.ref h, .ref hr]))] ++ (stWf G h ah as_ rr ra hm nb (ns - 1) la lo nu tn sh (fun k => some (rr (pm c ns k)))))
  refine V.aload_n hC (x := (rr c)) dX1_forgotten_14 rfl ?_
  refine V.callVr (n := 0) (As := []) (rest := []) hC (c_holderTally (kl K) G (rr c) (ra c) (sh c) (nu c) (nI (tn c))) SFk0 SFgo0 gX1_forgotten_X10_holderTally rfl ⟨rfl, rfl⟩ (by decide +kernel) ⟨by decide, by decide, by decide, by decide⟩ [1 + (3 + 2 * c), 1 + (4 + 2 * c)] (by rcases (lt6 (by omega : c < 6)) with rfl | rfl | rfl | rfl | rfl | rfl <;> rfl) (by rcases (lt6 (by omega : c < 6)) with rfl | rfl | rfl | rfl | rfl | rfl <;> rfl) rfl rfl rfl rfl (Nat.le_of_ble_eq_true rfl) dX1_forgotten_15 (fun r_15 u_15 hp_15 => ?_)
  subst hp_15
  show V G K 2 0 0 18 [some (.ref hg), some (.ref (rr c))] [.int (nI (hc (sh c) 8))] ([(hg, .inr (4, [.ref h, .ref hr]))] ++ (stWf G h ah as_ rr ra hm nb (ns - 1) la lo nu tn sh (fun k => some (rr (pm c ns k)))))
  exact hE 18 _ (nI (hc (sh c) 8)) () dX1_forgotten_18 rfl rfl

set_option maxHeartbeats 4000000 in
set_option maxRecDepth 100000 in
theorem c_sc3 (l : Launch) (G : Gx) (hg hr : Nat) (h ah as_ : Nat) (rr ra : Nat → Nat) (hm : Nat → Int32) (nb ns : Nat) (la : Int32) (lo : Int64) (nu : Nat → Int32) (tn : Nat → Nat) (sh : Nat → Nat → Int32) (hb8 : nb ≤ 8) (hs6 : ns ≤ 6) (b : Nat) (hb : b < 8) (k : Nat) (hk : k < 6) (z : Int32) : Ct l G (SFx G) yX1_shareChanged wsX1_shareChanged ({ frames := 2, cells := 0, slots := 0, locals := 44 }) [.ref hg, .ref (adD G 3), .int (nI b), .ref (rr k), .int z] ([(hg, .inr (4, [.ref h, .ref hr]))] ++ (stW G h ah as_ rr ra hm nb ns la lo nu tn sh)) mkI (fun (r : Int32) (_ : Unit) => r = nI (hc (upd (sh k) b (-1)) 8)) (fun _ : Unit => ([(hg, .inr (4, [.ref h, .ref hr]))] ++ (stW G h ah as_ rr ra hm nb ns la (lo + 1) nu tn (va_up sh k (upd (sh k) b (-1)))))) 0 0 := by
  refine Ct.ofI (cc := cX1_shareChanged) (maxL := 5) (by decide) rfl ⟨by simp [Value.category], Nat.le_of_ble_eq_true rfl⟩ ?_
  intro K hl hC hSF hnm hE
  subst hl
  have hgo := SFgoS (SFx.k G) hSF
  have q0_ : Cond.fieldLink RX1 25 "FeatherShares$1" "$SwitchMap$FeatherShares$Deed" "[I" ∈ wsX1_shareChanged := by decide +kernel
  have q1_ : ∀ w ∈ u_ws RX1 TX1 2, w ∈ wsX1_shareChanged := by decide +kernel
  have q2_ : Cond.fieldLink RX1 12 "FeatherShares$Changer" "state" "LFeatherShares$State;" ∈ wsX1_shareChanged := by decide +kernel
  show V G K 5 0 0 0 [some (.ref hg), some (.ref (adD G 3)), some (.int (nI b)), some (.ref (rr k)), some (.int z)] [] ([(hg, .inr (4, [.ref h, .ref hr]))] ++ (stW G h ah as_ rr ra hm nb ns la lo nu tn sh))
  refine V.aload_n hC (x := (rr k)) dX1_shareChanged_0 rfl ?_
  refine V.ifnonnull hC 6 dX1_shareChanged_1 rfl ?_
  refine V.gets hC (n := "$SwitchMap$FeatherShares$Deed") hSF.2.2.1 q0_ rfl dX1_shareChanged_6 ?_
  refine V.aload_n hC (x := adD G 3) dX1_shareChanged_9 rfl ?_
  refine V.callU (x := ⟨"FeatherShares$Deed", "ordinal", "()I"⟩) (n := 0) (As := []) (rest := [.ref (smD G)]) hC (c_ordinalD (kl K) G 3 (by decide)) (SFx.k G) hgo (hSF.dO 3 (by decide)) gX1_shareChanged_Jx29ce0_ordinal_8abf5_u31X2 rfl ⟨rfl, rfl⟩ rfl (by decide +kernel) ⟨by decide, by decide, by decide, by decide⟩ [] rfl (by decide) (fun _ => rfl) rfl rfl (Nat.le_of_ble_eq_true rfl) dX1_shareChanged_10 (fun r_10 u_10 hp_10 => ?_)
  subst hp_10
  show V G K 5 0 0 13 [some (.ref hg), some (.ref (adD G 3)), some (.int (nI b)), some (.ref (rr k)), some (.int z)] [.int (nI 3), .ref (smD G)] ([(hg, .inr (4, [.ref h, .ref hr]))] ++ (stW G h ah as_ rr ra hm nb ns la lo nu tn sh))
  refine V.ti hC hSF.2.2.2.1 dX1_shareChanged_13 3 rfl (by decide) (by decide) (.int (nI 6)) rfl ?_
  refine V.lookup hC (x := nI 6) (off := 26) 40 dX1_shareChanged_14 (by decide) (by decide) rfl ?_
  refine V.aload_n hC (x := (rr k)) dX1_shareChanged_40 rfl ?_
  refine V.iload_n hC (x := nI b) dX1_shareChanged_41 rfl ?_
  refine V.iconst hC (-1) dX1_shareChanged_42 rfl ?_
  refine V.callV (n := 2) (As := [.int (nI b), .int (-1)]) (rest := []) hC (c_give (kl K) G (rr k) (ra k) (sh k) (nu k) (nI (tn k)) b (by omega) (-1)) SFk0 SFgo0 gX1_shareChanged_X10_give rfl ⟨rfl, rfl⟩ (by decide +kernel) ⟨by decide, by decide, by decide, by decide⟩ [1 + (3 + 2 * k), 1 + (4 + 2 * k)] (by rcases (lt6 hk) with rfl | rfl | rfl | rfl | rfl | rfl <;> rfl) (by rcases (lt6 hk) with rfl | rfl | rfl | rfl | rfl | rfl <;> rfl) (fun _ => rfl) rfl rfl rfl rfl (Nat.le_of_ble_eq_true rfl) dX1_shareChanged_43 (fun r_43 u_43 hp_43 => ?_)
  refine V.eqw (ws' := ([(hg, .inr (4, [.ref h, .ref hr]))] ++ (stW G h ah as_ rr ra hm nb ns la lo nu tn (va_up sh k (upd (sh k) b (-1)))))) (by rcases (lt6 hk) with rfl | rfl | rfl | rfl | rfl | rfl <;> rfl) ?_
  show V G K 5 0 0 46 [some (.ref hg), some (.ref (adD G 3)), some (.int (nI b)), some (.ref (rr k)), some (.int z)] [] ([(hg, .inr (4, [.ref h, .ref hr]))] ++ (stW G h ah as_ rr ra hm nb ns la lo nu tn (va_up sh k (upd (sh k) b (-1)))))
  refine V.aload_n hC (x := hg) dX1_shareChanged_46 rfl ?_
  refine V.getf hC (T := TX1) q1_ 0 q2_ rfl (0) rfl rfl (by decide) (.ref h) rfl dX1_shareChanged_47 ?_
  refine V.callV (n := 0) (As := []) (rest := []) hC (c_countLoss (kl K) G h ah as_ rr ra hm nb ns la lo nu tn (va_up sh k (upd (sh k) b (-1))) hb8 hs6) SFk0 SFgo0 gX1_shareChanged_X11_countLoss rfl ⟨rfl, rfl⟩ (by decide +kernel) ⟨by decide, by decide, by decide, by decide⟩ [1, 2, 3, 4, 5, 6, 7, 8, 9, 10, 11, 12, 13, 14, 15] rfl (by decide) (fun _ => Eq.refl [h, ah, as_, rr 0, ra 0, rr 1, ra 1, rr 2, ra 2, rr 3, ra 3, rr 4, ra 4, rr 5, ra 5]) rfl rfl rfl rfl (Nat.le_of_ble_eq_true rfl) dX1_shareChanged_50 (fun r_50 u_50 hp_50 => ?_)
  refine V.eqw (ws' := ([(hg, .inr (4, [.ref h, .ref hr]))] ++ (stW G h ah as_ rr ra hm nb ns la (lo + 1) nu tn (va_up sh k (upd (sh k) b (-1)))))) (rj_by [1, 2, 3, 4, 5, 6, 7, 8, 9, 10, 11, 12, 13, 14, 15] [0] 16 rfl rfl (by decide) (by decide) rfl rfl) ?_
  show V G K 5 0 0 53 [some (.ref hg), some (.ref (adD G 3)), some (.int (nI b)), some (.ref (rr k)), some (.int z)] [] ([(hg, .inr (4, [.ref h, .ref hr]))] ++ (stW G h ah as_ rr ra hm nb ns la (lo + 1) nu tn (va_up sh k (upd (sh k) b (-1)))))
  refine V.aload_n hC (x := (rr k)) dX1_shareChanged_53 rfl ?_
  refine V.callVr (n := 0) (As := []) (rest := []) hC (c_holderTally (kl K) G (rr k) (ra k) ((va_up sh k (upd (sh k) b (-1))) k) (nu k) (nI (tn k))) SFk0 SFgo0 gX1_shareChanged_X10_holderTally rfl ⟨rfl, rfl⟩ (by decide +kernel) ⟨by decide, by decide, by decide, by decide⟩ [1 + (3 + 2 * k), 1 + (4 + 2 * k)] (by rcases (lt6 hk) with rfl | rfl | rfl | rfl | rfl | rfl <;> rfl) (by rcases (lt6 hk) with rfl | rfl | rfl | rfl | rfl | rfl <;> rfl) rfl rfl rfl rfl (Nat.le_of_ble_eq_true rfl) dX1_shareChanged_54 (fun r_54 u_54 hp_54 => ?_)
  subst hp_54
  show V G K 5 0 0 57 [some (.ref hg), some (.ref (adD G 3)), some (.int (nI b)), some (.ref (rr k)), some (.int z)] [.int (nI (hc ((va_up sh k (upd (sh k) b (-1))) k) 8))] ([(hg, .inr (4, [.ref h, .ref hr]))] ++ (stW G h ah as_ rr ra hm nb ns la (lo + 1) nu tn (va_up sh k (upd (sh k) b (-1)))))
  refine V.topeq (nI (hc (upd (sh k) b (-1)) 8)) (by rw [va_up_self]) ?_
  exact hE 57 _ (nI (hc (upd (sh k) b (-1)) 8)) () dX1_shareChanged_57 rfl rfl

set_option maxHeartbeats 4000000 in
set_option maxRecDepth 100000 in
theorem c_sc4 (l : Launch) (G : Gx) (hg hr : Nat) (h ah as_ : Nat) (rr ra : Nat → Nat) (hm : Nat → Int32) (nb ns : Nat) (la : Int32) (lo : Int64) (nu : Nat → Int32) (tn : Nat → Nat) (sh : Nat → Nat → Int32) (hb8 : nb ≤ 8) (hs6 : ns ≤ 6) (b : Nat) (hb : b < 8) (k : Nat) (hk : k < 6) (z : Int32) : Ct l G (SFx G) yX1_shareChanged wsX1_shareChanged ({ frames := 1, cells := 0, slots := 0, locals := 22 }) [.ref hg, .ref (adD G 4), .int (nI b), .ref (rr k), .int z] ([(hg, .inr (4, [.ref h, .ref hr]))] ++ (stW G h ah as_ rr ra hm nb ns la lo nu tn sh)) mkI (fun (r : Int32) (_ : Unit) => r = (sh k b + z) - (sh k b + z) / 97 * 97) (fun _ : Unit => ([(hg, .inr (4, [.ref h, .ref hr]))] ++ (stW G h ah as_ rr ra hm nb ns la lo nu tn (va_up sh k (upd (sh k) b ((sh k b + z) - (sh k b + z) / 97 * 97)))))) 0 0 := by
  refine Ct.ofI (cc := cX1_shareChanged) (maxL := 5) (by decide) rfl ⟨by simp [Value.category], Nat.le_of_ble_eq_true rfl⟩ ?_
  intro K hl hC hSF hnm hE
  subst hl
  have hgo := SFgoS (SFx.k G) hSF
  have q0_ : Cond.fieldLink RX1 25 "FeatherShares$1" "$SwitchMap$FeatherShares$Deed" "[I" ∈ wsX1_shareChanged := by decide +kernel
  show V G K 5 0 0 0 [some (.ref hg), some (.ref (adD G 4)), some (.int (nI b)), some (.ref (rr k)), some (.int z)] [] ([(hg, .inr (4, [.ref h, .ref hr]))] ++ (stW G h ah as_ rr ra hm nb ns la lo nu tn sh))
  refine V.aload_n hC (x := (rr k)) dX1_shareChanged_0 rfl ?_
  refine V.ifnonnull hC 6 dX1_shareChanged_1 rfl ?_
  refine V.gets hC (n := "$SwitchMap$FeatherShares$Deed") hSF.2.2.1 q0_ rfl dX1_shareChanged_6 ?_
  refine V.aload_n hC (x := adD G 4) dX1_shareChanged_9 rfl ?_
  refine V.callU (x := ⟨"FeatherShares$Deed", "ordinal", "()I"⟩) (n := 0) (As := []) (rest := [.ref (smD G)]) hC (c_ordinalD (kl K) G 4 (by decide)) (SFx.k G) hgo (hSF.dO 4 (by decide)) gX1_shareChanged_Jx29ce0_ordinal_8abf5_u31X2 rfl ⟨rfl, rfl⟩ rfl (by decide +kernel) ⟨by decide, by decide, by decide, by decide⟩ [] rfl (by decide) (fun _ => rfl) rfl rfl (Nat.le_of_ble_eq_true rfl) dX1_shareChanged_10 (fun r_10 u_10 hp_10 => ?_)
  subst hp_10
  show V G K 5 0 0 13 [some (.ref hg), some (.ref (adD G 4)), some (.int (nI b)), some (.ref (rr k)), some (.int z)] [.int (nI 4), .ref (smD G)] ([(hg, .inr (4, [.ref h, .ref hr]))] ++ (stW G h ah as_ rr ra hm nb ns la lo nu tn sh))
  refine V.ti hC hSF.2.2.2.1 dX1_shareChanged_13 4 rfl (by decide) (by decide) (.int (nI 7)) rfl ?_
  refine V.lookup hC (x := nI 7) (off := 44) 58 dX1_shareChanged_14 (by decide) (by decide) rfl ?_
  refine V.aload_n hC (x := (rr k)) dX1_shareChanged_58 rfl ?_
  refine V.iload_n hC (x := nI b) dX1_shareChanged_59 rfl ?_
  refine V.aload_n hC (x := (rr k)) dX1_shareChanged_60 rfl ?_
  refine V.iload_n hC (x := nI b) dX1_shareChanged_61 rfl ?_
  refine V.callVr (n := 1) (As := [.int (nI b)]) (rest := [.int (nI b), .ref (rr k)]) hC (c_shareWith (kl K) G (rr k) (ra k) (sh k) (nu k) (nI (tn k)) b (by omega)) SFk0 SFgo0 gX1_shareChanged_X10_shareWith rfl ⟨rfl, rfl⟩ (by decide +kernel) ⟨by decide, by decide, by decide, by decide⟩ [1 + (3 + 2 * k), 1 + (4 + 2 * k)] (by rcases (lt6 hk) with rfl | rfl | rfl | rfl | rfl | rfl <;> rfl) (by rcases (lt6 hk) with rfl | rfl | rfl | rfl | rfl | rfl <;> rfl) rfl rfl rfl rfl (Nat.le_of_ble_eq_true rfl) dX1_shareChanged_62 (fun r_62 u_62 hp_62 => ?_)
  subst hp_62
  show V G K 5 0 0 65 [some (.ref hg), some (.ref (adD G 4)), some (.int (nI b)), some (.ref (rr k)), some (.int z)] [.int (sh k b), .int (nI b), .ref (rr k)] ([(hg, .inr (4, [.ref h, .ref hr]))] ++ (stW G h ah as_ rr ra hm nb ns la lo nu tn sh))
  refine V.iload hC (x := z) dX1_shareChanged_65 rfl ?_
  refine V.iadd hC dX1_shareChanged_67 ?_
  refine V.bipush hC 97 dX1_shareChanged_68 rfl ?_
  refine V.irem hC dX1_shareChanged_70 (by decide) ?_
  refine V.callV (n := 2) (As := [.int (nI b), .int (((sh k b) + z) - ((sh k b) + z) / 97 * 97)]) (rest := []) hC (c_give (kl K) G (rr k) (ra k) (sh k) (nu k) (nI (tn k)) b (by omega) ((sh k b + z) - (sh k b + z) / 97 * 97)) SFk0 SFgo0 gX1_shareChanged_X10_give rfl ⟨rfl, rfl⟩ (by decide +kernel) ⟨by decide, by decide, by decide, by decide⟩ [1 + (3 + 2 * k), 1 + (4 + 2 * k)] (by rcases (lt6 hk) with rfl | rfl | rfl | rfl | rfl | rfl <;> rfl) (by rcases (lt6 hk) with rfl | rfl | rfl | rfl | rfl | rfl <;> rfl) (fun _ => rfl) rfl rfl rfl rfl (Nat.le_of_ble_eq_true rfl) dX1_shareChanged_71 (fun r_71 u_71 hp_71 => ?_)
  refine V.eqw (ws' := ([(hg, .inr (4, [.ref h, .ref hr]))] ++ (stW G h ah as_ rr ra hm nb ns la lo nu tn (va_up sh k (upd (sh k) b ((sh k b + z) - (sh k b + z) / 97 * 97)))))) (by rcases (lt6 hk) with rfl | rfl | rfl | rfl | rfl | rfl <;> rfl) ?_
  show V G K 5 0 0 74 [some (.ref hg), some (.ref (adD G 4)), some (.int (nI b)), some (.ref (rr k)), some (.int z)] [] ([(hg, .inr (4, [.ref h, .ref hr]))] ++ (stW G h ah as_ rr ra hm nb ns la lo nu tn (va_up sh k (upd (sh k) b ((sh k b + z) - (sh k b + z) / 97 * 97)))))
  refine V.aload_n hC (x := (rr k)) dX1_shareChanged_74 rfl ?_
  refine V.iload_n hC (x := nI b) dX1_shareChanged_75 rfl ?_
  refine V.callVr (n := 1) (As := [.int (nI b)]) (rest := []) hC (c_shareWith (kl K) G (rr k) (ra k) ((va_up sh k (upd (sh k) b ((sh k b + z) - (sh k b + z) / 97 * 97))) k) (nu k) (nI (tn k)) b (by omega)) SFk0 SFgo0 gX1_shareChanged_X10_shareWith rfl ⟨rfl, rfl⟩ (by decide +kernel) ⟨by decide, by decide, by decide, by decide⟩ [1 + (3 + 2 * k), 1 + (4 + 2 * k)] (by rcases (lt6 hk) with rfl | rfl | rfl | rfl | rfl | rfl <;> rfl) (by rcases (lt6 hk) with rfl | rfl | rfl | rfl | rfl | rfl <;> rfl) rfl rfl rfl rfl (Nat.le_of_ble_eq_true rfl) dX1_shareChanged_76 (fun r_76 u_76 hp_76 => ?_)
  subst hp_76
  show V G K 5 0 0 79 [some (.ref hg), some (.ref (adD G 4)), some (.int (nI b)), some (.ref (rr k)), some (.int z)] [.int ((va_up sh k (upd (sh k) b ((sh k b + z) - (sh k b + z) / 97 * 97))) k b)] ([(hg, .inr (4, [.ref h, .ref hr]))] ++ (stW G h ah as_ rr ra hm nb ns la lo nu tn (va_up sh k (upd (sh k) b ((sh k b + z) - (sh k b + z) / 97 * 97)))))
  refine V.topeq ((sh k b + z) - (sh k b + z) / 97 * 97) (by simp [va_up, upd]) ?_
  exact hE 79 _ ((sh k b + z) - (sh k b + z) / 97 * 97) () dX1_shareChanged_79 rfl rfl

set_option maxHeartbeats 4000000 in
set_option maxRecDepth 100000 in
theorem c_sc5 (l : Launch) (G : Gx) (hg hr : Nat) (hp ap av he aw al af as3 : Nat) (ar : Nat → Nat) (E : Scr) (hok : Sok E) (h ah as_ : Nat) (rr ra : Nat → Nat) (hm : Nat → Int32) (nb ns : Nat) (la : Int32) (lo : Int64) (nu : Nat → Int32) (tn : Nat → Nat) (sh : Nat → Nat → Int32) (hb8 : nb ≤ 8) (hs6 : ns ≤ 6) (b : Nat) (hb : b < 8) (k : Nat) (hk : k < 6) (z : Int32) (hSk : SHok (sh k)) (ht : 1 ≤ tn k) (ht4 : tn k ≤ 4) : Ct l G (SFx G) yX1_shareChanged wsX1_shareChanged ({ frames := 3, cells := 0, slots := 0, locals := 71 }) [.ref hg, .ref (adD G 5), .int (nI b), .ref (rr k), .int z] ([(hg, .inr (4, [.ref h, .ref hr]))] ++ ((stW G h ah as_ rr ra hm nb ns la lo nu tn sh) ++ (rbW G hr hp ap av he aw al af as3 ar E))) mkI (fun (r : Int32) (u : Scr) => r = nI (lagS (fh (sh k) (tn k) 8) (svn (sh k)) (b + 1)) ∧ Sok u) (fun u : Scr => ([(hg, .inr (4, [.ref h, .ref hr]))] ++ ((stW G h ah as_ rr ra hm nb ns la lo nu tn (va_up sh k (upd (sh k) b (nI (lagS (fh (sh k) (tn k) 8) (svn (sh k)) (b + 1)))))) ++ (rbW G hr hp ap av he aw al af as3 ar u)))) 0 0 := by
  refine Ct.ofI (cc := cX1_shareChanged) (maxL := 5) (by decide) rfl ⟨by simp [Value.category], Nat.le_of_ble_eq_true rfl⟩ ?_
  intro K hl hC hSF hnm hE
  subst hl
  have hgo := SFgoS (SFx.k G) hSF
  have q0_ : Cond.fieldLink RX1 25 "FeatherShares$1" "$SwitchMap$FeatherShares$Deed" "[I" ∈ wsX1_shareChanged := by decide +kernel
  have q1_ : ∀ w ∈ u_ws RX1 TX1 2, w ∈ wsX1_shareChanged := by decide +kernel
  have q2_ : Cond.fieldLink RX1 21 "FeatherShares$Changer" "rebuilder" "LFeatherShares$Rebuilder;" ∈ wsX1_shareChanged := by decide +kernel
  show V G K 5 0 0 0 [some (.ref hg), some (.ref (adD G 5)), some (.int (nI b)), some (.ref (rr k)), some (.int z)] [] ([(hg, .inr (4, [.ref h, .ref hr]))] ++ ((stW G h ah as_ rr ra hm nb ns la lo nu tn sh) ++ (rbW G hr hp ap av he aw al af as3 ar E)))
  refine V.aload_n hC (x := (rr k)) dX1_shareChanged_0 rfl ?_
  refine V.ifnonnull hC 6 dX1_shareChanged_1 rfl ?_
  refine V.gets hC (n := "$SwitchMap$FeatherShares$Deed") hSF.2.2.1 q0_ rfl dX1_shareChanged_6 ?_
  refine V.aload_n hC (x := adD G 5) dX1_shareChanged_9 rfl ?_
  refine V.callU (x := ⟨"FeatherShares$Deed", "ordinal", "()I"⟩) (n := 0) (As := []) (rest := [.ref (smD G)]) hC (c_ordinalD (kl K) G 5 (by decide)) (SFx.k G) hgo (hSF.dO 5 (by decide)) gX1_shareChanged_Jx29ce0_ordinal_8abf5_u31X2 rfl ⟨rfl, rfl⟩ rfl (by decide +kernel) ⟨by decide, by decide, by decide, by decide⟩ [] rfl (by decide) (fun _ => rfl) rfl rfl (Nat.le_of_ble_eq_true rfl) dX1_shareChanged_10 (fun r_10 u_10 hp_10 => ?_)
  subst hp_10
  show V G K 5 0 0 13 [some (.ref hg), some (.ref (adD G 5)), some (.int (nI b)), some (.ref (rr k)), some (.int z)] [.int (nI 5), .ref (smD G)] ([(hg, .inr (4, [.ref h, .ref hr]))] ++ ((stW G h ah as_ rr ra hm nb ns la lo nu tn sh) ++ (rbW G hr hp ap av he aw al af as3 ar E)))
  refine V.ti hC hSF.2.2.2.1 dX1_shareChanged_13 5 rfl (by decide) (by decide) (.int (nI 0)) rfl ?_
  refine V.lookup hC (x := nI 0) (off := 66) 80 dX1_shareChanged_14 (by decide) (by decide) rfl ?_
  refine V.aload_n hC (x := (rr k)) dX1_shareChanged_80 rfl ?_
  refine V.iload_n hC (x := nI b) dX1_shareChanged_81 rfl ?_
  refine V.aload_n hC (x := hg) dX1_shareChanged_82 rfl ?_
  refine V.getf hC (T := TX1) q1_ 1 q2_ rfl (0) rfl rfl (by decide) (.ref hr) rfl dX1_shareChanged_83 ?_
  refine V.aload_n hC (x := (rr k)) dX1_shareChanged_86 rfl ?_
  refine V.iload_n hC (x := nI b) dX1_shareChanged_87 rfl ?_
  refine V.iconst hC 1 dX1_shareChanged_88 rfl ?_
  refine V.iaddN hC b 1 dX1_shareChanged_89 rfl rfl ?_
  refine V.callV (n := 2) (As := [.ref (rr k), .int (nI (b + 1))]) (rest := [.int (nI b), .ref (rr k)]) hC (c_rbValueAt (kl K) G hr hp ap av he aw al af as3 ar E (rr k) (ra k) (sh k) (nu k) (tn k) hok hSk ht ht4 (b + 1) (by omega)) SFk0 SFgo0 gX1_shareChanged_X8_valueAt rfl ⟨rfl, rfl⟩ (by decide +kernel) ⟨by decide, by decide, by decide, by decide⟩ [16, 17, 18, 19, 20, 21, 22, 23, 24, 25, 26, 27, 28, 1 + (3 + 2 * k), 1 + (4 + 2 * k)] (by rcases (lt6 hk) with rfl | rfl | rfl | rfl | rfl | rfl <;> rfl) (by rcases (lt6 hk) with rfl | rfl | rfl | rfl | rfl | rfl <;> rfl) (fun _ => Eq.refl [hr, hp, ap, av, he, aw, al, af, as3, ar 0, ar 1, ar 2, ar 3, rr k, ra k]) rfl rfl rfl rfl (Nat.le_of_ble_eq_true rfl) dX1_shareChanged_90 (fun r_90 u_90 hp_90 => ?_)
  obtain ⟨e_90, hE_90⟩ := hp_90
  subst e_90
  refine V.eqw (ws' := ([(hg, .inr (4, [.ref h, .ref hr]))] ++ ((stW G h ah as_ rr ra hm nb ns la lo nu tn sh) ++ (rbW G hr hp ap av he aw al af as3 ar u_90)))) (by rcases (lt6 hk) with rfl | rfl | rfl | rfl | rfl | rfl <;> rfl) ?_
  show V G K 5 0 0 93 [some (.ref hg), some (.ref (adD G 5)), some (.int (nI b)), some (.ref (rr k)), some (.int z)] [.int (nI (lagS (fh (sh k) (tn k) 8) (svn (sh k)) (b + 1))), .int (nI b), .ref (rr k)] ([(hg, .inr (4, [.ref h, .ref hr]))] ++ ((stW G h ah as_ rr ra hm nb ns la lo nu tn sh) ++ (rbW G hr hp ap av he aw al af as3 ar u_90)))
  refine V.callV (n := 2) (As := [.int (nI b), .int (nI (lagS (fh (sh k) (tn k) 8) (svn (sh k)) (b + 1)))]) (rest := []) hC (c_give (kl K) G (rr k) (ra k) (sh k) (nu k) (nI (tn k)) b (by omega) (nI (lagS (fh (sh k) (tn k) 8) (svn (sh k)) (b + 1)))) SFk0 SFgo0 gX1_shareChanged_X10_give rfl ⟨rfl, rfl⟩ (by decide +kernel) ⟨by decide, by decide, by decide, by decide⟩ [1 + (3 + 2 * k), 1 + (4 + 2 * k)] (by rcases (lt6 hk) with rfl | rfl | rfl | rfl | rfl | rfl <;> rfl) (by rcases (lt6 hk) with rfl | rfl | rfl | rfl | rfl | rfl <;> rfl) (fun _ => rfl) rfl rfl rfl rfl (Nat.le_of_ble_eq_true rfl) dX1_shareChanged_93 (fun r_93 u_93 hp_93 => ?_)
  refine V.eqw (ws' := ([(hg, .inr (4, [.ref h, .ref hr]))] ++ ((stW G h ah as_ rr ra hm nb ns la lo nu tn (va_up sh k (upd (sh k) b (nI (lagS (fh (sh k) (tn k) 8) (svn (sh k)) (b + 1)))))) ++ (rbW G hr hp ap av he aw al af as3 ar u_90)))) (by rcases (lt6 hk) with rfl | rfl | rfl | rfl | rfl | rfl <;> rfl) ?_
  show V G K 5 0 0 96 [some (.ref hg), some (.ref (adD G 5)), some (.int (nI b)), some (.ref (rr k)), some (.int z)] [] ([(hg, .inr (4, [.ref h, .ref hr]))] ++ ((stW G h ah as_ rr ra hm nb ns la lo nu tn (va_up sh k (upd (sh k) b (nI (lagS (fh (sh k) (tn k) 8) (svn (sh k)) (b + 1)))))) ++ (rbW G hr hp ap av he aw al af as3 ar u_90)))
  refine V.aload_n hC (x := (rr k)) dX1_shareChanged_96 rfl ?_
  refine V.iload_n hC (x := nI b) dX1_shareChanged_97 rfl ?_
  refine V.callVr (n := 1) (As := [.int (nI b)]) (rest := []) hC (c_shareWith (kl K) G (rr k) (ra k) ((va_up sh k (upd (sh k) b (nI (lagS (fh (sh k) (tn k) 8) (svn (sh k)) (b + 1))))) k) (nu k) (nI (tn k)) b (by omega)) SFk0 SFgo0 gX1_shareChanged_X10_shareWith rfl ⟨rfl, rfl⟩ (by decide +kernel) ⟨by decide, by decide, by decide, by decide⟩ [1 + (3 + 2 * k), 1 + (4 + 2 * k)] (by rcases (lt6 hk) with rfl | rfl | rfl | rfl | rfl | rfl <;> rfl) (by rcases (lt6 hk) with rfl | rfl | rfl | rfl | rfl | rfl <;> rfl) rfl rfl rfl rfl (Nat.le_of_ble_eq_true rfl) dX1_shareChanged_98 (fun r_98 u_98 hp_98 => ?_)
  subst hp_98
  show V G K 5 0 0 101 [some (.ref hg), some (.ref (adD G 5)), some (.int (nI b)), some (.ref (rr k)), some (.int z)] [.int ((va_up sh k (upd (sh k) b (nI (lagS (fh (sh k) (tn k) 8) (svn (sh k)) (b + 1))))) k b)] ([(hg, .inr (4, [.ref h, .ref hr]))] ++ ((stW G h ah as_ rr ra hm nb ns la lo nu tn (va_up sh k (upd (sh k) b (nI (lagS (fh (sh k) (tn k) 8) (svn (sh k)) (b + 1)))))) ++ (rbW G hr hp ap av he aw al af as3 ar u_90)))
  refine V.topeq (nI (lagS (fh (sh k) (tn k) 8) (svn (sh k)) (b + 1))) (by simp [va_up, upd]) ?_
  exact hE 101 _ (nI (lagS (fh (sh k) (tn k) 8) (svn (sh k)) (b + 1))) u_90 dX1_shareChanged_101 rfl ⟨rfl, hE_90⟩
