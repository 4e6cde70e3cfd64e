/-! History (printed by gen/s18.py) -/
theorem rj_by {ws w ws' : va_W} (is js : List Nat) (n : Nat) (h1 : ws.length = n) (h2 : ws'.length = n) (hn : va_nd is = true) (hc : ∀ k, k < n → k ∈ is ∨ k ∈ js) (hi : is.map (fun i => ws'[i]?) = w.map some) (hj : js.map (fun i => ws'[i]?) = js.map (fun i => ws[i]?)) : rj ws is w = ws' := by
  apply List.ext_getElem?
  intro k
  rcases Nat.lt_or_ge k n with q | q
  · by_cases m : k ∈ is
    · obtain ⟨j, hj1, hj2⟩ := List.getElem_of_mem m
      have hl : is.length = w.length := by simpa using congrArg List.length hi
      have e : is[j]? = some k := by rw [List.getElem?_eq_getElem hj1, hj2]
      rw [rj_in is ws w j k hn hl e (by omega)]
      have := congrArg (fun z => z[j]?) hi
      simp only [List.getElem?_map, e, Option.map_some] at this
      rw [List.getElem?_eq_getElem (by omega : j < w.length)] at this ⊢
      simp only [Option.map_some, Option.some.injEq] at this
      exact this.symm
    · rw [rj_out is ws w k m]
      have := List.map_inj_left.mp hj k ((hc k q).resolve_left m)
      exact this.symm
  · rw [List.getElem?_eq_none (by rw [rj_len]; omega), List.getElem?_eq_none (by omega)]
theorem nI_min8 {c : Nat} (h : c ≤ 8) : (if (8 : Int32) < nI (c + 1) then (8 : Int32) else nI (c + 1)) = nI (min (c + 1) 8) := nI_min (a := c + 1) (b := 8) (by omega) (by decide)
set_option maxHeartbeats 4000000 in
set_option maxRecDepth 100000 in
theorem c_histEmpty (l : Launch) (G : Gx) (hh ht : Nat) (hs : Nat → Nat) (cn nx : Nat) : Ct l G SF0 yX4_empty wsX4_empty ({ frames := 0, cells := 0, slots := 0, locals := 0 }) [.ref hh] [(hh, .inr (6, [.ref ht, .int (nI cn), .int (nI nx)])), (ht, .inl (gSt G, 8, .inr (.inr (.inr (.inr (fun k => some (hs k)))))))] mkV (fun (_ : Unit) (_ : Unit) => True) (fun _ : Unit => [(hh, .inr (6, [.ref ht, .int (nI 0), .int (nI nx)])), (ht, .inl (gSt G, 8, .inr (.inr (.inr (.inr (fun k => some (hs k)))))))]) 0 0 := by
  refine Ct.ofV (cc := cX4_empty) (maxL := 1) (by decide) rfl ⟨by simp [Value.category], Nat.le_of_ble_eq_true rfl⟩ ?_
  intro K hl hC hSF hnm hE
  subst hl
  have q0_ : ∀ w ∈ u_ws RX4 TX4 3, w ∈ wsX4_empty := by decide +kernel
  have q1_ : Cond.fieldLink RX4 18 "FeatherShares$History" "count" "I" ∈ wsX4_empty := by decide +kernel
  show V G K 1 0 0 0 [some (.ref hh)] [] [(hh, .inr (6, [.ref ht, .int (nI cn), .int (nI nx)])), (ht, .inl (gSt G, 8, .inr (.inr (.inr (.inr (fun k => some (hs k)))))))]
  refine V.aload_n hC (x := hh) dX4_empty_0 rfl ?_
  refine V.iconst hC 0 dX4_empty_1 rfl ?_
  refine V.putf hC (T := TX4) q0_ tyX4 tyX4_ok nmX4 1 q1_ rfl rfl (0) rfl rfl (by decide) (by simp) rfl rfl dX4_empty_2 [(hh, .inr (6, [.ref ht, .int 0, .int (nI nx)])), (ht, .inl (gSt G, 8, .inr (.inr (.inr (.inr (fun k => some (hs k)))))))] rfl ?_
  exact hE 5 _ () dX4_empty_5 trivial

set_option maxHeartbeats 4000000 in
set_option maxRecDepth 100000 in
theorem c_remember (l : Launch) (G : Gx) (hh ht : Nat) (hs : Nat → Nat) (cn nx : Nat) (hcn : cn ≤ 8) (hnx : nx < 8) (ah : Nat) (as_ : Nat) (rr : Nat → Nat) (ra : Nat → Nat) (hm : Nat → Int32) (nb : Nat) (ns : Nat) (la : Int32) (lo : Int64) (nu : Nat → Int32) (tn : Nat → Nat) (sh : Nat → Nat → Int32) (h2 : Nat) (ah2 : Nat) (as2 : Nat) (rr2 : Nat → Nat) (ra2 : Nat → Nat) (hm2 : Nat → Int32) (nb2 : Nat) (ns2 : Nat) (la2 : Int32) (lo2 : Int64) (nu2 : Nat → Int32) (tn2 : Nat → Nat) (sh2 : Nat → Nat → Int32) : Ct l G SF0 yX4_remember wsX4_remember ({ frames := 3, cells := 0, slots := 0, locals := 61 }) [.ref hh, .ref h2] ([(hh, .inr (6, [.ref ht, .int (nI cn), .int (nI nx)])), (ht, .inl (gSt G, 8, .inr (.inr (.inr (.inr (fun k => some (hs k)))))))] ++ ((stW G (hs nx) ah as_ rr ra hm nb ns la lo nu tn sh) ++ (stW G h2 ah2 as2 rr2 ra2 hm2 nb2 ns2 la2 lo2 nu2 tn2 sh2))) mkV (fun (_ : Unit) (_ : Unit) => True) (fun _ : Unit => ([(hh, .inr (6, [.ref ht, .int (nI (min (cn + 1) 8)), .int (nI ((nx + 1) % 8))])), (ht, .inl (gSt G, 8, .inr (.inr (.inr (.inr (fun k => some (hs k)))))))] ++ ((stW G (hs nx) ah as_ rr ra hm2 nb2 ns2 la2 lo2 nu2 tn2 sh2) ++ (stW G h2 ah2 as2 rr2 ra2 hm2 nb2 ns2 la2 lo2 nu2 tn2 sh2)))) 0 0 := by
  refine Ct.ofV (cc := cX4_remember) (maxL := 2) (by decide) rfl ⟨by simp [Value.category], Nat.le_of_ble_eq_true rfl⟩ ?_
  intro K hl hC hSF hnm hE
  subst hl
  have q0_ : ∀ w ∈ u_ws RX4 TX4 3, w ∈ wsX4_remember := by decide +kernel
  have q1_ : Cond.fieldLink RX4 11 "FeatherShares$History" "states" "[LFeatherShares$State;" ∈ wsX4_remember := by decide +kernel
  have q2_ : Cond.fieldLink RX4 22 "FeatherShares$History" "next" "I" ∈ wsX4_remember := by decide +kernel
  have q3_ : Cond.fieldLink RX4 18 "FeatherShares$History" "count" "I" ∈ wsX4_remember := by decide +kernel
  have q4_ : Cond.methodLink RX4 29 Lib.Math.min.name ∈ wsX4_remember := by decide +kernel
  have q5_ : Cond.static Lib.Math.min.name ∈ wsX4_remember := by decide +kernel
  have q6_ : Cond.initialized "java/lang/Math" ∈ wsX4_remember := by decide +kernel
  have q7_ : Cond.code Lib.Math.min.name Lib.Math.min.code 2 (some .int) ∈ wsX4_remember := by decide +kernel
  show V G K 2 0 0 0 [some (.ref hh), some (.ref h2)] [] ([(hh, .inr (6, [.ref ht, .int (nI cn), .int (nI nx)])), (ht, .inl (gSt G, 8, .inr (.inr (.inr (.inr (fun k => some (hs k)))))))] ++ ((stW G (hs nx) ah as_ rr ra hm nb ns la lo nu tn sh) ++ (stW G h2 ah2 as2 rr2 ra2 hm2 nb2 ns2 la2 lo2 nu2 tn2 sh2)))
  refine V.aload_n hC (x := hh) dX4_remember_0 rfl ?_
  refine V.getf hC (T := TX4) q0_ 0 q1_ rfl (0) rfl rfl (by decide) (.ref ht) rfl dX4_remember_1 ?_
  refine V.aload_n hC (x := hh) dX4_remember_4 rfl ?_
  refine V.getf hC (T := TX4) q0_ 2 q2_ rfl (0) rfl rfl (by decide) (.int (nI nx)) rfl dX4_remember_5 ?_
  refine V.aaldT hC dX4_remember_8 (1) rfl nx rfl (by omega) (by decide) (hs nx) rfl ?_
  refine V.aload_n hC (x := h2) dX4_remember_9 rfl ?_
  refine V.callV (n := 1) (As := [.ref h2]) (rest := []) hC (c_copyFrom (kl K) G (hs nx) ah as_ rr ra hm nb ns la lo nu tn sh h2 ah2 as2 rr2 ra2 hm2 nb2 ns2 la2 lo2 nu2 tn2 sh2) SFk0 SFgo0 gX4_remember_X11_copyFrom rfl ⟨rfl, rfl⟩ (by decide +kernel) ⟨by decide, by decide, by decide, by decide⟩ [2, 3, 4, 5, 6, 7, 8, 9, 10, 11, 12, 13, 14, 15, 16, 17, 18, 19, 20, 21, 22, 23, 24, 25, 26, 27, 28, 29, 30, 31] rfl (by decide) (fun _ => Eq.refl [hs nx, ah, as_, rr 0, ra 0, rr 1, ra 1, rr 2, ra 2, rr 3, ra 3, rr 4, ra 4, rr 5, ra 5, h2, ah2, as2, rr2 0, ra2 0, rr2 1, ra2 1, rr2 2, ra2 2, rr2 3, ra2 3, rr2 4, ra2 4, rr2 5, ra2 5]) rfl rfl rfl rfl (Nat.le_of_ble_eq_true rfl) dX4_remember_10 (fun r_10 u_10 hp_10 => ?_)
  refine V.eqw (ws' := ([(hh, .inr (6, [.ref ht, .int (nI cn), .int (nI nx)])), (ht, .inl (gSt G, 8, .inr (.inr (.inr (.inr (fun k => some (hs k)))))))] ++ ((stW G (hs nx) ah as_ rr ra hm2 nb2 ns2 la2 lo2 nu2 tn2 sh2) ++ (stW G h2 ah2 as2 rr2 ra2 hm2 nb2 ns2 la2 lo2 nu2 tn2 sh2)))) (rj_by [2, 3, 4, 5, 6, 7, 8, 9, 10, 11, 12, 13, 14, 15, 16, 17, 18, 19, 20, 21, 22, 23, 24, 25, 26, 27, 28, 29, 30, 31] [0, 1] 32 rfl rfl (by decide) (by decide) rfl rfl) ?_
  show V G K 2 0 0 13 [some (.ref hh), some (.ref h2)] [] ([(hh, .inr (6, [.ref ht, .int (nI cn), .int (nI nx)])), (ht, .inl (gSt G, 8, .inr (.inr (.inr (.inr (fun k => some (hs k)))))))] ++ ((stW G (hs nx) ah as_ rr ra hm2 nb2 ns2 la2 lo2 nu2 tn2 sh2) ++ (stW G h2 ah2 as2 rr2 ra2 hm2 nb2 ns2 la2 lo2 nu2 tn2 sh2)))
  refine V.aload_n hC (x := hh) dX4_remember_13 rfl ?_
  refine V.aload_n hC (x := hh) dX4_remember_14 rfl ?_
  refine V.getf hC (T := TX4) q0_ 2 q2_ rfl (0) rfl rfl (by decide) (.int (nI nx)) rfl dX4_remember_15 ?_
  refine V.iconst hC 1 dX4_remember_18 rfl ?_
  refine V.iaddN hC nx 1 dX4_remember_19 rfl rfl ?_
  refine V.bipush hC 8 dX4_remember_20 rfl ?_
  refine V.iremN hC (nx + 1) 8 dX4_remember_22 rfl rfl (by omega) (by decide) (by decide) ?_
  refine V.putf hC (T := TX4) q0_ tyX4 tyX4_ok nmX4 2 q2_ rfl rfl (0) rfl rfl (by decide) (by simp) rfl rfl dX4_remember_23 ([(hh, .inr (6, [.ref ht, .int (nI cn), .int (nI ((nx + 1) % 8))])), (ht, .inl (gSt G, 8, .inr (.inr (.inr (.inr (fun k => some (hs k)))))))] ++ ((stW G (hs nx) ah as_ rr ra hm2 nb2 ns2 la2 lo2 nu2 tn2 sh2) ++ (stW G h2 ah2 as2 rr2 ra2 hm2 nb2 ns2 la2 lo2 nu2 tn2 sh2))) rfl ?_
  refine V.aload_n hC (x := hh) dX4_remember_26 rfl ?_
  refine V.aload_n hC (x := hh) dX4_remember_27 rfl ?_
  refine V.getf hC (T := TX4) q0_ 1 q3_ rfl (0) rfl rfl (by decide) (.int (nI cn)) rfl dX4_remember_28 ?_
  refine V.iconst hC 1 dX4_remember_31 rfl ?_
  refine V.iaddN hC cn 1 dX4_remember_32 rfl rfl ?_
  refine V.bipush hC 8 dX4_remember_33 rfl ?_
  refine V.mmin hC q4_ q5_ q6_ q7_ ⟨Nat.le_of_ble_eq_true rfl, Nat.le_of_ble_eq_true rfl, Nat.le_of_ble_eq_true rfl, Nat.le_of_ble_eq_true rfl⟩ dX4_remember_35 ?_
  refine V.topeq (nI (min (cn + 1) 8)) (nI_min8 hcn) ?_
  refine V.putf hC (T := TX4) q0_ tyX4 tyX4_ok nmX4 1 q3_ rfl rfl (0) rfl rfl (by decide) (by simp) rfl rfl dX4_remember_38 ([(hh, .inr (6, [.ref ht, .int (nI (min (cn + 1) 8)), .int (nI ((nx + 1) % 8))])), (ht, .inl (gSt G, 8, .inr (.inr (.inr (.inr (fun k => some (hs k)))))))] ++ ((stW G (hs nx) ah as_ rr ra hm2 nb2 ns2 la2 lo2 nu2 tn2 sh2) ++ (stW G h2 ah2 as2 rr2 ra2 hm2 nb2 ns2 la2 lo2 nu2 tn2 sh2))) rfl ?_
  exact hE 41 _ () dX4_remember_41 trivial
