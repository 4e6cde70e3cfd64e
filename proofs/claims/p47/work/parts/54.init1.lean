/-! the constructors (printed by gen/s54.py) -/
section EXTQ
variable {G : Gx} {K : Cx} {nL cells slots pc : Nat} {lv : List (Option Value)} {st : List Value} {ws ws' : va_W}
/-- a row of references said by another function that agrees on its places -/
theorem V.extQ (q0 : Nat) {a n : Nat} {cA : ClassId} {f g : Nat → Option Nat} (ha : ws[q0]? = some (a, .inl (cA, n, .inr (.inr (.inr (.inr f)))))) (hfg : ∀ k, k < n → f k = g k) (e : ws.set q0 (a, .inl (cA, n, .inr (.inr (.inr (.inr g))))) = ws') (h : V G K nL cells slots pc lv st ws') : V G K nL cells slots pc lv st ws := by
  intro H locs ls hP hD hS hl
  subst e
  have hc : vp_cell cA (n, .inr (.inr (.inr (.inr f)))) = vp_cell cA (n, .inr (.inr (.inr (.inr g)))) := by
    rw [vp_cell_q, vp_cell_q]
    unfold arrV
    congr 1
    apply Array.ext
    · simp
    · intro i h1 h2
      simp only [Array.size_ofFn] at h1
      simp [hfg i h1]
  refine h H locs ls (hP.set hD ha ?_ (fun q _ => rfl)) (hD.set ha) hS hl
  have := hP q0 _ ha
  show H[a]? = some (vp_cell cA (n, .inr (.inr (.inr (.inr g)))))
  rw [← hc]
  exact this
end EXTQ
theorem lt5 {k : Nat} (h : k < 5) : k = 0 ∨ k = 1 ∨ k = 2 ∨ k = 3 ∨ k = 4 := by omega
set_option maxHeartbeats 4000000 in
set_option maxRecDepth 100000 in
theorem c_secInit (l : Launch) (G : Gx) (h : Nat) : Ct l G SF0 yX10_init wsX10_init ({ frames := 1, cells := 1, slots := 8, locals := 12 }) [.ref h] [(h, .inr (10, [.null, .int 0, .int 0]))] mkV (fun (_ : Unit) (_ : Nat) => True) (fun u : Nat => [(h, .inr (10, [.ref u, .int 0, .int 0])), (u, .inl (gI G, 8, .inl (fun _ => 0)))]) 1 8 := by
  refine Ct.ofV (cc := cX10_init) (maxL := 1) (by decide) rfl ⟨by simp [Value.category], Nat.le_of_ble_eq_true rfl⟩ ?_
  intro K hl hC hSF hnm hE
  subst hl
  have q0_ : Cond.methodLink RX10 3 objectInit ∈ wsX10_init := by decide +kernel
  have q1_ : Cond.instanceMethod objectInit ∈ wsX10_init := by decide +kernel
  have q2_ : Cond.code objectInit ⟨#[0xb1]⟩ 1 none ∈ wsX10_init := by decide +kernel
  have q3_ : Cond.arrayClass .int ∈ wsX10_init := by decide +kernel
  have q4_ : ∀ w ∈ u_ws RX10 TX10 3, w ∈ wsX10_init := by decide +kernel
  have q5_ : Cond.fieldLink RX10 9 "FeatherShares$Secret" "shares" "[I" ∈ wsX10_init := by decide +kernel
  show V G K 1 0 0 0 [some (.ref h)] [] [(h, .inr (10, [.null, .int 0, .int 0]))]
  refine V.aload_n hC (x := h) dX10_init_0 rfl ?_
  refine V.objInit hC (a := h) q0_ q1_ q2_ ⟨by decide, by decide⟩ dX10_init_1 ?_
  refine V.aload_n hC (x := h) dX10_init_4 rfl ?_
  refine V.bipush hC 8 dX10_init_5 rfl ?_
  refine V.newA hC (atype := .int) 0 (cA := gI G) q3_ rfl 8 (8, .inl (fun _ => 0)) (fun _ => rfl) rfl (by decide) (by decide) (by decide) dX10_init_7 (fun q_7 => ?_)
  show V G K 1 1 8 9 [some (.ref h)] [.ref q_7, .ref h] [(h, .inr (10, [.null, .int 0, .int 0])), (q_7, .inl (gI G, 8, .inl (fun _ => 0)))]
  refine V.putfF hC (T := TX10) q4_ tyX10 tyX10_ok nmX10 0 q5_ rfl rfl hnm rfl (0) rfl rfl (by decide) (by simp) rfl rfl dX10_init_9 [(h, .inr (10, [.ref q_7, .int 0, .int 0])), (q_7, .inl (gI G, 8, .inl (fun _ => 0)))] rfl ?_
  exact hE 12 _ q_7 dX10_init_12 trivial

set_option maxHeartbeats 4000000 in
set_option maxRecDepth 100000 in
theorem c_stInit (l : Launch) (G : Gx) (h : Nat) : Ct l G (SFt G) yX11_init wsX11_init ({ frames := 2, cells := 14, slots := 80, locals := 32 }) [.ref h] [(h, .inr (11, [.null, .null, .int 0, .int 0, .int 0, .long 0]))] mkV (fun (_ : Unit) (_ : Nat × Nat × (Nat → Nat) × (Nat → Nat)) => True) (fun u : Nat × Nat × (Nat → Nat) × (Nat → Nat) => (stW G h (u.1) (u.2.1) (u.2.2.1) (u.2.2.2) (fun _ => 0) 0 0 0 0 (fun _ => 0) (fun _ => 0) (fun _ _ => 0))) 14 80 := by
  refine Ct.ofV (cc := cX11_init) (maxL := 2) (by decide) rfl ⟨by simp [Value.category], Nat.le_of_ble_eq_true rfl⟩ ?_
  intro K hl hC hSF hnm hE
  subst hl
  have hgot := SFgoS (SFt.k G) hSF
  have hgo := SFgo.x hgot
  have hSFt := hSF
  replace hSF := hSF.1
  have q0_ : Cond.methodLink RX11 3 objectInit ∈ wsX11_init := by decide +kernel
  have q1_ : Cond.instanceMethod objectInit ∈ wsX11_init := by decide +kernel
  have q2_ : Cond.code objectInit ⟨#[0xb1]⟩ 1 none ∈ wsX11_init := by decide +kernel
  have q3_ : Cond.arrayClass .int ∈ wsX11_init := by decide +kernel
  have q4_ : ∀ w ∈ u_ws RX11 TX11 6, w ∈ wsX11_init := by decide +kernel
  have q5_ : Cond.fieldLink RX11 9 "FeatherShares$State" "homes" "[I" ∈ wsX11_init := by decide +kernel
  have q6_ : Cond.classLink RX11 15 RX10 ∈ wsX11_init := by decide +kernel
  have q7_ : Cond.fieldLink RX11 17 "FeatherShares$State" "secrets" "[LFeatherShares$Secret;" ∈ wsX11_init := by decide +kernel
  have q8_ : Cond.instantiable RX10 3 ∈ wsX11_init := by decide +kernel
  have q9_ : Cond.initialized RX10 ∈ wsX11_init := by decide +kernel
  have q10_ : ∀ w ∈ u_ws RX10 TX10 3, w ∈ wsX11_init := by decide +kernel
  have q11_ : Cond.initialized yX10_init.cls ∈ wsX11_init := by decide +kernel
  have q12_ : Cond.instanceMethod yX10_init ∈ wsX11_init := by decide +kernel
  show V G K 2 0 0 0 [some (.ref h), none] [] [(h, .inr (11, [.null, .null, .int 0, .int 0, .int 0, .long 0]))]
  refine V.aload_n hC (x := h) dX11_init_0 rfl ?_
  refine V.objInit hC (a := h) q0_ q1_ q2_ ⟨by decide, by decide⟩ dX11_init_1 ?_
  refine V.aload_n hC (x := h) dX11_init_4 rfl ?_
  refine V.bipush hC 8 dX11_init_5 rfl ?_
  refine V.newA hC (atype := .int) 0 (cA := gI G) q3_ rfl 8 (8, .inl (fun _ => 0)) (fun _ => rfl) rfl (by decide) (by decide) (by decide) dX11_init_7 (fun q_7 => ?_)
  show V G K 2 1 8 9 [some (.ref h), none] [.ref q_7, .ref h] [(h, .inr (11, [.null, .null, .int 0, .int 0, .int 0, .long 0])), (q_7, .inl (gI G, 8, .inl (fun _ => 0)))]
  refine V.putfF hC (T := TX11) q4_ tyX11 tyX11_ok nmX11 0 q5_ rfl rfl hnm rfl (0) rfl rfl (by decide) (by simp) rfl rfl dX11_init_9 [(h, .inr (11, [.ref q_7, .null, .int 0, .int 0, .int 0, .long 0])), (q_7, .inl (gI G, 8, .inl (fun _ => 0)))] rfl ?_
  refine V.aload_n hC (x := h) dX11_init_12 rfl ?_
  refine V.bipush hC 6 dX11_init_13 rfl ?_
  refine V.newQ hC (C := RX10) 3 (cA := gSec G) q6_ hSFt.2.2.1.2.2.1 rfl 6 rfl (by decide) (by decide) (by decide) dX11_init_15 (fun q_15 => ?_)
  show V G K 2 2 14 18 [some (.ref h), none] [.ref q_15, .ref h] [(h, .inr (11, [.ref q_7, .null, .int 0, .int 0, .int 0, .long 0])), (q_7, .inl (gI G, 8, .inl (fun _ => 0))), (q_15, .inl (gSec G, 6, .inr (.inr (.inr (.inr (fun _ => none))))))]
  refine V.putfF hC (T := TX11) q4_ tyX11 tyX11_ok nmX11 1 q7_ rfl rfl hnm rfl (0) rfl rfl (by decide) (by simp) rfl rfl dX11_init_18 [(h, .inr (11, [.ref q_7, .ref q_15, .int 0, .int 0, .int 0, .long 0])), (q_7, .inl (gI G, 8, .inl (fun _ => 0))), (q_15, .inl (gSec G, 6, .inr (.inr (.inr (.inr (fun _ => none))))))] rfl ?_
  refine V.iconst hC 0 dX11_init_21 rfl ?_
  refine V.istore_n hC dX11_init_22 [some (.ref h), some (.int 0)] (Nat.le_of_ble_eq_true rfl) rfl ?_
  refine V.iload_n hC (x := 0) dX11_init_23 rfl ?_
  refine V.bipush hC 6 dX11_init_24 rfl ?_
  refine V.icmpN_ge hC 0 6 48 dX11_init_26 rfl rfl rfl (by omega) (by omega) (fun c_26 => ?_) (fun c_26 => ?_)
  · exact absurd c_26 (by decide)
  · refine V.aload_n hC (x := h) dX11_init_29 rfl ?_
    refine V.getf hC (T := TX11) q4_ 1 q7_ rfl (0) rfl rfl (by decide) (.ref q_15) rfl dX11_init_30 ?_
    refine V.iload_n hC (x := 0) dX11_init_33 rfl ?_
    refine V.newO hC (T := TX10) (N := 3) (ci := 10) q10_ tyX10 tyX10_ok q6_ q8_ q9_ rfl (fs := [.null, .int 0, .int 0]) (by decide) (by decide) (by decide) dX11_init_34 (fun q_34 => ?_)
    show V G K 2 3 17 37 [some (.ref h), some (.int 0)] [.ref q_34, .int 0, .ref q_15] [(h, .inr (11, [.ref q_7, .ref q_15, .int 0, .int 0, .int 0, .long 0])), (q_7, .inl (gI G, 8, .inl (fun _ => 0))), (q_15, .inl (gSec G, 6, .inr (.inr (.inr (.inr (fun _ => none)))))), (q_34, .inr (10, [.null, .int 0, .int 0]))]
    refine V.dup hC dX11_init_37 rfl ?_
    refine V.callIN (n := 0) (As := []) (rest := [.ref q_34, .int 0, .ref q_15]) hC (c_secInit (kl K) G q_34) (fun u_ => [(q_34, .inr (10, [.ref u_, .int 0, .int 0]))]) (fun u_ => [(u_, .inl (gI G, 8, .inl (fun _ => 0)))]) (fun _ => rfl) SFk0 SFgo0 gX11_init_X10_init_n21 rfl ⟨rfl, rfl⟩ q11_ (hSFt.ns (RX11, 21, yX10_init) (by decide)) q12_ rfl (by decide +kernel) ⟨by decide, by decide, by decide, by decide⟩ [3] rfl (by decide) (fun _ => rfl) rfl rfl (Nat.le_of_ble_eq_true rfl) dX11_init_38 (fun r_38 u_38 hp_38 => ?_)
    show V G K 2 4 25 41 [some (.ref h), some (.int 0)] [.ref q_34, .int 0, .ref q_15] [(h, .inr (11, [.ref q_7, .ref q_15, .int 0, .int 0, .int 0, .long 0])), (q_7, .inl (gI G, 8, .inl (fun _ => 0))), (q_15, .inl (gSec G, 6, .inr (.inr (.inr (.inr (fun _ => none)))))), (q_34, .inr (10, [.ref u_38, .int 0, .int 0])), (u_38, .inl (gI G, 8, .inl (fun _ => 0)))]
    refine V.aastS hC dX11_init_41 (2) (3) rfl rfl 0 rfl (by omega) (by decide) [(h, .inr (11, [.ref q_7, .ref q_15, .int 0, .int 0, .int 0, .long 0])), (q_7, .inl (gI G, 8, .inl (fun _ => 0))), (q_15, .inl (gSec G, 6, .inr (.inr (.inr (.inr (va_up (fun _ => none) 0 (some q_34))))))), (q_34, .inr (10, [.ref u_38, .int 0, .int 0])), (u_38, .inl (gI G, 8, .inl (fun _ => 0)))] rfl ?_
    refine V.iincN hC 0 1 dX11_init_42 rfl [some (.ref h), some (.int (nI 1))] (Nat.le_of_ble_eq_true rfl) rfl rfl rfl ?_
    refine V.goto hC 23 dX11_init_45 rfl ?_
    refine V.iload_n hC (x := nI 1) dX11_init_23 rfl ?_
    refine V.bipush hC 6 dX11_init_24 rfl ?_
    refine V.icmpN_ge hC 1 6 48 dX11_init_26 rfl rfl rfl (by omega) (by omega) (fun c_26 => ?_) (fun c_26 => ?_)
    · exact absurd c_26 (by decide)
    · refine V.aload_n hC (x := h) dX11_init_29 rfl ?_
      refine V.getf hC (T := TX11) q4_ 1 q7_ rfl (0) rfl rfl (by decide) (.ref q_15) rfl dX11_init_30 ?_
      refine V.iload_n hC (x := nI 1) dX11_init_33 rfl ?_
      refine V.newO hC (T := TX10) (N := 3) (ci := 10) q10_ tyX10 tyX10_ok q6_ q8_ q9_ rfl (fs := [.null, .int 0, .int 0]) (by decide) (by decide) (by decide) dX11_init_34 (fun q_34_1 => ?_)
      show V G K 2 5 28 37 [some (.ref h), some (.int (nI 1))] [.ref q_34_1, .int (nI 1), .ref q_15] [(h, .inr (11, [.ref q_7, .ref q_15, .int 0, .int 0, .int 0, .long 0])), (q_7, .inl (gI G, 8, .inl (fun _ => 0))), (q_15, .inl (gSec G, 6, .inr (.inr (.inr (.inr (va_up (fun _ => none) 0 (some q_34))))))), (q_34, .inr (10, [.ref u_38, .int 0, .int 0])), (u_38, .inl (gI G, 8, .inl (fun _ => 0))), (q_34_1, .inr (10, [.null, .int 0, .int 0]))]
      refine V.dup hC dX11_init_37 rfl ?_
      refine V.callIN (n := 0) (As := []) (rest := [.ref q_34_1, .int (nI 1), .ref q_15]) hC (c_secInit (kl K) G q_34_1) (fun u_ => [(q_34_1, .inr (10, [.ref u_, .int 0, .int 0]))]) (fun u_ => [(u_, .inl (gI G, 8, .inl (fun _ => 0)))]) (fun _ => rfl) SFk0 SFgo0 gX11_init_X10_init_n21 rfl ⟨rfl, rfl⟩ q11_ (hSFt.ns (RX11, 21, yX10_init) (by decide)) q12_ rfl (by decide +kernel) ⟨by decide, by decide, by decide, by decide⟩ [5] rfl (by decide) (fun _ => rfl) rfl rfl (Nat.le_of_ble_eq_true rfl) dX11_init_38 (fun r_38_1 u_38_1 hp_38_1 => ?_)
      show V G K 2 6 36 41 [some (.ref h), some (.int (nI 1))] [.ref q_34_1, .int (nI 1), .ref q_15] [(h, .inr (11, [.ref q_7, .ref q_15, .int 0, .int 0, .int 0, .long 0])), (q_7, .inl (gI G, 8, .inl (fun _ => 0))), (q_15, .inl (gSec G, 6, .inr (.inr (.inr (.inr (va_up (fun _ => none) 0 (some q_34))))))), (q_34, .inr (10, [.ref u_38, .int 0, .int 0])), (u_38, .inl (gI G, 8, .inl (fun _ => 0))), (q_34_1, .inr (10, [.ref u_38_1, .int 0, .int 0])), (u_38_1, .inl (gI G, 8, .inl (fun _ => 0)))]
      refine V.aastS hC dX11_init_41 (2) (5) rfl rfl 1 rfl (by omega) (by decide) [(h, .inr (11, [.ref q_7, .ref q_15, .int 0, .int 0, .int 0, .long 0])), (q_7, .inl (gI G, 8, .inl (fun _ => 0))), (q_15, .inl (gSec G, 6, .inr (.inr (.inr (.inr (va_up (va_up (fun _ => none) 0 (some q_34)) 1 (some q_34_1))))))), (q_34, .inr (10, [.ref u_38, .int 0, .int 0])), (u_38, .inl (gI G, 8, .inl (fun _ => 0))), (q_34_1, .inr (10, [.ref u_38_1, .int 0, .int 0])), (u_38_1, .inl (gI G, 8, .inl (fun _ => 0)))] rfl ?_
      refine V.iincN hC 1 1 dX11_init_42 rfl [some (.ref h), some (.int (nI 2))] (Nat.le_of_ble_eq_true rfl) rfl rfl rfl ?_
      refine V.goto hC 23 dX11_init_45 rfl ?_
      refine V.iload_n hC (x := nI 2) dX11_init_23 rfl ?_
      refine V.bipush hC 6 dX11_init_24 rfl ?_
      refine V.icmpN_ge hC 2 6 48 dX11_init_26 rfl rfl rfl (by omega) (by omega) (fun c_26 => ?_) (fun c_26 => ?_)
      · exact absurd c_26 (by decide)
      · refine V.aload_n hC (x := h) dX11_init_29 rfl ?_
        refine V.getf hC (T := TX11) q4_ 1 q7_ rfl (0) rfl rfl (by decide) (.ref q_15) rfl dX11_init_30 ?_
        refine V.iload_n hC (x := nI 2) dX11_init_33 rfl ?_
        refine V.newO hC (T := TX10) (N := 3) (ci := 10) q10_ tyX10 tyX10_ok q6_ q8_ q9_ rfl (fs := [.null, .int 0, .int 0]) (by decide) (by decide) (by decide) dX11_init_34 (fun q_34_2 => ?_)
        show V G K 2 7 39 37 [some (.ref h), some (.int (nI 2))] [.ref q_34_2, .int (nI 2), .ref q_15] [(h, .inr (11, [.ref q_7, .ref q_15, .int 0, .int 0, .int 0, .long 0])), (q_7, .inl (gI G, 8, .inl (fun _ => 0))), (q_15, .inl (gSec G, 6, .inr (.inr (.inr (.inr (va_up (va_up (fun _ => none) 0 (some q_34)) 1 (some q_34_1))))))), (q_34, .inr (10, [.ref u_38, .int 0, .int 0])), (u_38, .inl (gI G, 8, .inl (fun _ => 0))), (q_34_1, .inr (10, [.ref u_38_1, .int 0, .int 0])), (u_38_1, .inl (gI G, 8, .inl (fun _ => 0))), (q_34_2, .inr (10, [.null, .int 0, .int 0]))]
        refine V.dup hC dX11_init_37 rfl ?_
        refine V.callIN (n := 0) (As := []) (rest := [.ref q_34_2, .int (nI 2), .ref q_15]) hC (c_secInit (kl K) G q_34_2) (fun u_ => [(q_34_2, .inr (10, [.ref u_, .int 0, .int 0]))]) (fun u_ => [(u_, .inl (gI G, 8, .inl (fun _ => 0)))]) (fun _ => rfl) SFk0 SFgo0 gX11_init_X10_init_n21 rfl ⟨rfl, rfl⟩ q11_ (hSFt.ns (RX11, 21, yX10_init) (by decide)) q12_ rfl (by decide +kernel) ⟨by decide, by decide, by decide, by decide⟩ [7] rfl (by decide) (fun _ => rfl) rfl rfl (Nat.le_of_ble_eq_true rfl) dX11_init_38 (fun r_38_2 u_38_2 hp_38_2 => ?_)
        show V G K 2 8 47 41 [some (.ref h), some (.int (nI 2))] [.ref q_34_2, .int (nI 2), .ref q_15] [(h, .inr (11, [.ref q_7, .ref q_15, .int 0, .int 0, .int 0, .long 0])), (q_7, .inl (gI G, 8, .inl (fun _ => 0))), (q_15, .inl (gSec G, 6, .inr (.inr (.inr (.inr (va_up (va_up (fun _ => none) 0 (some q_34)) 1 (some q_34_1))))))), (q_34, .inr (10, [.ref u_38, .int 0, .int 0])), (u_38, .inl (gI G, 8, .inl (fun _ => 0))), (q_34_1, .inr (10, [.ref u_38_1, .int 0, .int 0])), (u_38_1, .inl (gI G, 8, .inl (fun _ => 0))), (q_34_2, .inr (10, [.ref u_38_2, .int 0, .int 0])), (u_38_2, .inl (gI G, 8, .inl (fun _ => 0)))]
        refine V.aastS hC dX11_init_41 (2) (7) rfl rfl 2 rfl (by omega) (by decide) [(h, .inr (11, [.ref q_7, .ref q_15, .int 0, .int 0, .int 0, .long 0])), (q_7, .inl (gI G, 8, .inl (fun _ => 0))), (q_15, .inl (gSec G, 6, .inr (.inr (.inr (.inr (va_up (va_up (va_up (fun _ => none) 0 (some q_34)) 1 (some q_34_1)) 2 (some q_34_2))))))), (q_34, .inr (10, [.ref u_38, .int 0, .int 0])), (u_38, .inl (gI G, 8, .inl (fun _ => 0))), (q_34_1, .inr (10, [.ref u_38_1, .int 0, .int 0])), (u_38_1, .inl (gI G, 8, .inl (fun _ => 0))), (q_34_2, .inr (10, [.ref u_38_2, .int 0, .int 0])), (u_38_2, .inl (gI G, 8, .inl (fun _ => 0)))] rfl ?_
        refine V.iincN hC 2 1 dX11_init_42 rfl [some (.ref h), some (.int (nI 3))] (Nat.le_of_ble_eq_true rfl) rfl rfl rfl ?_
        refine V.goto hC 23 dX11_init_45 rfl ?_
        refine V.iload_n hC (x := nI 3) dX11_init_23 rfl ?_
        refine V.bipush hC 6 dX11_init_24 rfl ?_
        refine V.icmpN_ge hC 3 6 48 dX11_init_26 rfl rfl rfl (by omega) (by omega) (fun c_26 => ?_) (fun c_26 => ?_)
        · exact absurd c_26 (by decide)
        · refine V.aload_n hC (x := h) dX11_init_29 rfl ?_
          refine V.getf hC (T := TX11) q4_ 1 q7_ rfl (0) rfl rfl (by decide) (.ref q_15) rfl dX11_init_30 ?_
          refine V.iload_n hC (x := nI 3) dX11_init_33 rfl ?_
          refine V.newO hC (T := TX10) (N := 3) (ci := 10) q10_ tyX10 tyX10_ok q6_ q8_ q9_ rfl (fs := [.null, .int 0, .int 0]) (by decide) (by decide) (by decide) dX11_init_34 (fun q_34_3 => ?_)
          show V G K 2 9 50 37 [some (.ref h), some (.int (nI 3))] [.ref q_34_3, .int (nI 3), .ref q_15] [(h, .inr (11, [.ref q_7, .ref q_15, .int 0, .int 0, .int 0, .long 0])), (q_7, .inl (gI G, 8, .inl (fun _ => 0))), (q_15, .inl (gSec G, 6, .inr (.inr (.inr (.inr (va_up (va_up (va_up (fun _ => none) 0 (some q_34)) 1 (some q_34_1)) 2 (some q_34_2))))))), (q_34, .inr (10, [.ref u_38, .int 0, .int 0])), (u_38, .inl (gI G, 8, .inl (fun _ => 0))), (q_34_1, .inr (10, [.ref u_38_1, .int 0, .int 0])), (u_38_1, .inl (gI G, 8, .inl (fun _ => 0))), (q_34_2, .inr (10, [.ref u_38_2, .int 0, .int 0])), (u_38_2, .inl (gI G, 8, .inl (fun _ => 0))), (q_34_3, .inr (10, [.null, .int 0, .int 0]))]
          refine V.dup hC dX11_init_37 rfl ?_
          refine V.callIN (n := 0) (As := []) (rest := [.ref q_34_3, .int (nI 3), .ref q_15]) hC (c_secInit (kl K) G q_34_3) (fun u_ => [(q_34_3, .inr (10, [.ref u_, .int 0, .int 0]))]) (fun u_ => [(u_, .inl (gI G, 8, .inl (fun _ => 0)))]) (fun _ => rfl) SFk0 SFgo0 gX11_init_X10_init_n21 rfl ⟨rfl, rfl⟩ q11_ (hSFt.ns (RX11, 21, yX10_init) (by decide)) q12_ rfl (by decide +kernel) ⟨by decide, by decide, by decide, by decide⟩ [9] rfl (by decide) (fun _ => rfl) rfl rfl (Nat.le_of_ble_eq_true rfl) dX11_init_38 (fun r_38_3 u_38_3 hp_38_3 => ?_)
          show V G K 2 10 58 41 [some (.ref h), some (.int (nI 3))] [.ref q_34_3, .int (nI 3), .ref q_15] [(h, .inr (11, [.ref q_7, .ref q_15, .int 0, .int 0, .int 0, .long 0])), (q_7, .inl (gI G, 8, .inl (fun _ => 0))), (q_15, .inl (gSec G, 6, .inr (.inr (.inr (.inr (va_up (va_up (va_up (fun _ => none) 0 (some q_34)) 1 (some q_34_1)) 2 (some q_34_2))))))), (q_34, .inr (10, [.ref u_38, .int 0, .int 0])), (u_38, .inl (gI G, 8, .inl (fun _ => 0))), (q_34_1, .inr (10, [.ref u_38_1, .int 0, .int 0])), (u_38_1, .inl (gI G, 8, .inl (fun _ => 0))), (q_34_2, .inr (10, [.ref u_38_2, .int 0, .int 0])), (u_38_2, .inl (gI G, 8, .inl (fun _ => 0))), (q_34_3, .inr (10, [.ref u_38_3, .int 0, .int 0])), (u_38_3, .inl (gI G, 8, .inl (fun _ => 0)))]
          refine V.aastS hC dX11_init_41 (2) (9) rfl rfl 3 rfl (by omega) (by decide) [(h, .inr (11, [.ref q_7, .ref q_15, .int 0, .int 0, .int 0, .long 0])), (q_7, .inl (gI G, 8, .inl (fun _ => 0))), (q_15, .inl (gSec G, 6, .inr (.inr (.inr (.inr (va_up (va_up (va_up (va_up (fun _ => none) 0 (some q_34)) 1 (some q_34_1)) 2 (some q_34_2)) 3 (some q_34_3))))))), (q_34, .inr (10, [.ref u_38, .int 0, .int 0])), (u_38, .inl (gI G, 8, .inl (fun _ => 0))), (q_34_1, .inr (10, [.ref u_38_1, .int 0, .int 0])), (u_38_1, .inl (gI G, 8, .inl (fun _ => 0))), (q_34_2, .inr (10, [.ref u_38_2, .int 0, .int 0])), (u_38_2, .inl (gI G, 8, .inl (fun _ => 0))), (q_34_3, .inr (10, [.ref u_38_3, .int 0, .int 0])), (u_38_3, .inl (gI G, 8, .inl (fun _ => 0)))] rfl ?_
          refine V.iincN hC 3 1 dX11_init_42 rfl [some (.ref h), some (.int (nI 4))] (Nat.le_of_ble_eq_true rfl) rfl rfl rfl ?_
          refine V.goto hC 23 dX11_init_45 rfl ?_
          refine V.iload_n hC (x := nI 4) dX11_init_23 rfl ?_
          refine V.bipush hC 6 dX11_init_24 rfl ?_
          refine V.icmpN_ge hC 4 6 48 dX11_init_26 rfl rfl rfl (by omega) (by omega) (fun c_26 => ?_) (fun c_26 => ?_)
          · exact absurd c_26 (by decide)
          · refine V.aload_n hC (x := h) dX11_init_29 rfl ?_
            refine V.getf hC (T := TX11) q4_ 1 q7_ rfl (0) rfl rfl (by decide) (.ref q_15) rfl dX11_init_30 ?_
            refine V.iload_n hC (x := nI 4) dX11_init_33 rfl ?_
            refine V.newO hC (T := TX10) (N := 3) (ci := 10) q10_ tyX10 tyX10_ok q6_ q8_ q9_ rfl (fs := [.null, .int 0, .int 0]) (by decide) (by decide) (by decide) dX11_init_34 (fun q_34_4 => ?_)
            show V G K 2 11 61 37 [some (.ref h), some (.int (nI 4))] [.ref q_34_4, .int (nI 4), .ref q_15] [(h, .inr (11, [.ref q_7, .ref q_15, .int 0, .int 0, .int 0, .long 0])), (q_7, .inl (gI G, 8, .inl (fun _ => 0))), (q_15, .inl (gSec G, 6, .inr (.inr (.inr (.inr (va_up (va_up (va_up (va_up (fun _ => none) 0 (some q_34)) 1 (some q_34_1)) 2 (some q_34_2)) 3 (some q_34_3))))))), (q_34, .inr (10, [.ref u_38, .int 0, .int 0])), (u_38, .inl (gI G, 8, .inl (fun _ => 0))), (q_34_1, .inr (10, [.ref u_38_1, .int 0, .int 0])), (u_38_1, .inl (gI G, 8, .inl (fun _ => 0))), (q_34_2, .inr (10, [.ref u_38_2, .int 0, .int 0])), (u_38_2, .inl (gI G, 8, .inl (fun _ => 0))), (q_34_3, .inr (10, [.ref u_38_3, .int 0, .int 0])), (u_38_3, .inl (gI G, 8, .inl (fun _ => 0))), (q_34_4, .inr (10, [.null, .int 0, .int 0]))]
            refine V.dup hC dX11_init_37 rfl ?_
            refine V.callIN (n := 0) (As := []) (rest := [.ref q_34_4, .int (nI 4), .ref q_15]) hC (c_secInit (kl K) G q_34_4) (fun u_ => [(q_34_4, .inr (10, [.ref u_, .int 0, .int 0]))]) (fun u_ => [(u_, .inl (gI G, 8, .inl (fun _ => 0)))]) (fun _ => rfl) SFk0 SFgo0 gX11_init_X10_init_n21 rfl ⟨rfl, rfl⟩ q11_ (hSFt.ns (RX11, 21, yX10_init) (by decide)) q12_ rfl (by decide +kernel) ⟨by decide, by decide, by decide, by decide⟩ [11] rfl (by decide) (fun _ => rfl) rfl rfl (Nat.le_of_ble_eq_true rfl) dX11_init_38 (fun r_38_4 u_38_4 hp_38_4 => ?_)
            show V G K 2 12 69 41 [some (.ref h), some (.int (nI 4))] [.ref q_34_4, .int (nI 4), .ref q_15] [(h, .inr (11, [.ref q_7, .ref q_15, .int 0, .int 0, .int 0, .long 0])), (q_7, .inl (gI G, 8, .inl (fun _ => 0))), (q_15, .inl (gSec G, 6, .inr (.inr (.inr (.inr (va_up (va_up (va_up (va_up (fun _ => none) 0 (some q_34)) 1 (some q_34_1)) 2 (some q_34_2)) 3 (some q_34_3))))))), (q_34, .inr (10, [.ref u_38, .int 0, .int 0])), (u_38, .inl (gI G, 8, .inl (fun _ => 0))), (q_34_1, .inr (10, [.ref u_38_1, .int 0, .int 0])), (u_38_1, .inl (gI G, 8, .inl (fun _ => 0))), (q_34_2, .inr (10, [.ref u_38_2, .int 0, .int 0])), (u_38_2, .inl (gI G, 8, .inl (fun _ => 0))), (q_34_3, .inr (10, [.ref u_38_3, .int 0, .int 0])), (u_38_3, .inl (gI G, 8, .inl (fun _ => 0))), (q_34_4, .inr (10, [.ref u_38_4, .int 0, .int 0])), (u_38_4, .inl (gI G, 8, .inl (fun _ => 0)))]
            refine V.aastS hC dX11_init_41 (2) (11) rfl rfl 4 rfl (by omega) (by decide) [(h, .inr (11, [.ref q_7, .ref q_15, .int 0, .int 0, .int 0, .long 0])), (q_7, .inl (gI G, 8, .inl (fun _ => 0))), (q_15, .inl (gSec G, 6, .inr (.inr (.inr (.inr (va_up (va_up (va_up (va_up (va_up (fun _ => none) 0 (some q_34)) 1 (some q_34_1)) 2 (some q_34_2)) 3 (some q_34_3)) 4 (some q_34_4))))))), (q_34, .inr (10, [.ref u_38, .int 0, .int 0])), (u_38, .inl (gI G, 8, .inl (fun _ => 0))), (q_34_1, .inr (10, [.ref u_38_1, .int 0, .int 0])), (u_38_1, .inl (gI G, 8, .inl (fun _ => 0))), (q_34_2, .inr (10, [.ref u_38_2, .int 0, .int 0])), (u_38_2, .inl (gI G, 8, .inl (fun _ => 0))), (q_34_3, .inr (10, [.ref u_38_3, .int 0, .int 0])), (u_38_3, .inl (gI G, 8, .inl (fun _ => 0))), (q_34_4, .inr (10, [.ref u_38_4, .int 0, .int 0])), (u_38_4, .inl (gI G, 8, .inl (fun _ => 0)))] rfl ?_
            refine V.iincN hC 4 1 dX11_init_42 rfl [some (.ref h), some (.int (nI 5))] (Nat.le_of_ble_eq_true rfl) rfl rfl rfl ?_
            refine V.goto hC 23 dX11_init_45 rfl ?_
            refine V.iload_n hC (x := nI 5) dX11_init_23 rfl ?_
            refine V.bipush hC 6 dX11_init_24 rfl ?_
            refine V.icmpN_ge hC 5 6 48 dX11_init_26 rfl rfl rfl (by omega) (by omega) (fun c_26 => ?_) (fun c_26 => ?_)
            · exact absurd c_26 (by decide)
            · refine V.aload_n hC (x := h) dX11_init_29 rfl ?_
              refine V.getf hC (T := TX11) q4_ 1 q7_ rfl (0) rfl rfl (by decide) (.ref q_15) rfl dX11_init_30 ?_
              refine V.iload_n hC (x := nI 5) dX11_init_33 rfl ?_
              refine V.newO hC (T := TX10) (N := 3) (ci := 10) q10_ tyX10 tyX10_ok q6_ q8_ q9_ rfl (fs := [.null, .int 0, .int 0]) (by decide) (by decide) (by decide) dX11_init_34 (fun q_34_5 => ?_)
              show V G K 2 13 72 37 [some (.ref h), some (.int (nI 5))] [.ref q_34_5, .int (nI 5), .ref q_15] [(h, .inr (11, [.ref q_7, .ref q_15, .int 0, .int 0, .int 0, .long 0])), (q_7, .inl (gI G, 8, .inl (fun _ => 0))), (q_15, .inl (gSec G, 6, .inr (.inr (.inr (.inr (va_up (va_up (va_up (va_up (va_up (fun _ => none) 0 (some q_34)) 1 (some q_34_1)) 2 (some q_34_2)) 3 (some q_34_3)) 4 (some q_34_4))))))), (q_34, .inr (10, [.ref u_38, .int 0, .int 0])), (u_38, .inl (gI G, 8, .inl (fun _ => 0))), (q_34_1, .inr (10, [.ref u_38_1, .int 0, .int 0])), (u_38_1, .inl (gI G, 8, .inl (fun _ => 0))), (q_34_2, .inr (10, [.ref u_38_2, .int 0, .int 0])), (u_38_2, .inl (gI G, 8, .inl (fun _ => 0))), (q_34_3, .inr (10, [.ref u_38_3, .int 0, .int 0])), (u_38_3, .inl (gI G, 8, .inl (fun _ => 0))), (q_34_4, .inr (10, [.ref u_38_4, .int 0, .int 0])), (u_38_4, .inl (gI G, 8, .inl (fun _ => 0))), (q_34_5, .inr (10, [.null, .int 0, .int 0]))]
              refine V.dup hC dX11_init_37 rfl ?_
              refine V.callIN (n := 0) (As := []) (rest := [.ref q_34_5, .int (nI 5), .ref q_15]) hC (c_secInit (kl K) G q_34_5) (fun u_ => [(q_34_5, .inr (10, [.ref u_, .int 0, .int 0]))]) (fun u_ => [(u_, .inl (gI G, 8, .inl (fun _ => 0)))]) (fun _ => rfl) SFk0 SFgo0 gX11_init_X10_init_n21 rfl ⟨rfl, rfl⟩ q11_ (hSFt.ns (RX11, 21, yX10_init) (by decide)) q12_ rfl (by decide +kernel) ⟨by decide, by decide, by decide, by decide⟩ [13] rfl (by decide) (fun _ => rfl) rfl rfl (Nat.le_of_ble_eq_true rfl) dX11_init_38 (fun r_38_5 u_38_5 hp_38_5 => ?_)
              show V G K 2 14 80 41 [some (.ref h), some (.int (nI 5))] [.ref q_34_5, .int (nI 5), .ref q_15] [(h, .inr (11, [.ref q_7, .ref q_15, .int 0, .int 0, .int 0, .long 0])), (q_7, .inl (gI G, 8, .inl (fun _ => 0))), (q_15, .inl (gSec G, 6, .inr (.inr (.inr (.inr (va_up (va_up (va_up (va_up (va_up (fun _ => none) 0 (some q_34)) 1 (some q_34_1)) 2 (some q_34_2)) 3 (some q_34_3)) 4 (some q_34_4))))))), (q_34, .inr (10, [.ref u_38, .int 0, .int 0])), (u_38, .inl (gI G, 8, .inl (fun _ => 0))), (q_34_1, .inr (10, [.ref u_38_1, .int 0, .int 0])), (u_38_1, .inl (gI G, 8, .inl (fun _ => 0))), (q_34_2, .inr (10, [.ref u_38_2, .int 0, .int 0])), (u_38_2, .inl (gI G, 8, .inl (fun _ => 0))), (q_34_3, .inr (10, [.ref u_38_3, .int 0, .int 0])), (u_38_3, .inl (gI G, 8, .inl (fun _ => 0))), (q_34_4, .inr (10, [.ref u_38_4, .int 0, .int 0])), (u_38_4, .inl (gI G, 8, .inl (fun _ => 0))), (q_34_5, .inr (10, [.ref u_38_5, .int 0, .int 0])), (u_38_5, .inl (gI G, 8, .inl (fun _ => 0)))]
              refine V.aastS hC dX11_init_41 (2) (13) rfl rfl 5 rfl (by omega) (by decide) [(h, .inr (11, [.ref q_7, .ref q_15, .int 0, .int 0, .int 0, .long 0])), (q_7, .inl (gI G, 8, .inl (fun _ => 0))), (q_15, .inl (gSec G, 6, .inr (.inr (.inr (.inr (va_up (va_up (va_up (va_up (va_up (va_up (fun _ => none) 0 (some q_34)) 1 (some q_34_1)) 2 (some q_34_2)) 3 (some q_34_3)) 4 (some q_34_4)) 5 (some q_34_5))))))), (q_34, .inr (10, [.ref u_38, .int 0, .int 0])), (u_38, .inl (gI G, 8, .inl (fun _ => 0))), (q_34_1, .inr (10, [.ref u_38_1, .int 0, .int 0])), (u_38_1, .inl (gI G, 8, .inl (fun _ => 0))), (q_34_2, .inr (10, [.ref u_38_2, .int 0, .int 0])), (u_38_2, .inl (gI G, 8, .inl (fun _ => 0))), (q_34_3, .inr (10, [.ref u_38_3, .int 0, .int 0])), (u_38_3, .inl (gI G, 8, .inl (fun _ => 0))), (q_34_4, .inr (10, [.ref u_38_4, .int 0, .int 0])), (u_38_4, .inl (gI G, 8, .inl (fun _ => 0))), (q_34_5, .inr (10, [.ref u_38_5, .int 0, .int 0])), (u_38_5, .inl (gI G, 8, .inl (fun _ => 0)))] rfl ?_
              refine V.iincN hC 5 1 dX11_init_42 rfl [some (.ref h), some (.int (nI 6))] (Nat.le_of_ble_eq_true rfl) rfl rfl rfl ?_
              refine V.goto hC 23 dX11_init_45 rfl ?_
              refine V.iload_n hC (x := nI 6) dX11_init_23 rfl ?_
              refine V.bipush hC 6 dX11_init_24 rfl ?_
              refine V.icmpN_ge hC 6 6 48 dX11_init_26 rfl rfl rfl (by omega) (by omega) (fun c_26 => ?_) (fun c_26 => ?_)
              · refine V.extQ (2) (g := (fun k => some ((fun k => [q_34, q_34_1, q_34_2, q_34_3, q_34_4, q_34_5].getD k 0) k))) rfl (fun z hz => by rcases (lt6 hz) with rfl | rfl | rfl | rfl | rfl | rfl <;> rfl) (ws' := [(h, .inr (11, [.ref q_7, .ref q_15, .int 0, .int 0, .int 0, .long 0])), (q_7, .inl (gI G, 8, .inl (fun _ => 0))), (q_15, .inl (gSec G, 6, .inr (.inr (.inr (.inr (fun k => some ((fun k => [q_34, q_34_1, q_34_2, q_34_3, q_34_4, q_34_5].getD k 0) k))))))), (q_34, .inr (10, [.ref u_38, .int 0, .int 0])), (u_38, .inl (gI G, 8, .inl (fun _ => 0))), (q_34_1, .inr (10, [.ref u_38_1, .int 0, .int 0])), (u_38_1, .inl (gI G, 8, .inl (fun _ => 0))), (q_34_2, .inr (10, [.ref u_38_2, .int 0, .int 0])), (u_38_2, .inl (gI G, 8, .inl (fun _ => 0))), (q_34_3, .inr (10, [.ref u_38_3, .int 0, .int 0])), (u_38_3, .inl (gI G, 8, .inl (fun _ => 0))), (q_34_4, .inr (10, [.ref u_38_4, .int 0, .int 0])), (u_38_4, .inl (gI G, 8, .inl (fun _ => 0))), (q_34_5, .inr (10, [.ref u_38_5, .int 0, .int 0])), (u_38_5, .inl (gI G, 8, .inl (fun _ => 0)))]) rfl ?_
                refine V.eqw (ws' := (stW G h q_7 q_15 (fun k => [q_34, q_34_1, q_34_2, q_34_3, q_34_4, q_34_5].getD k 0) (fun k => [u_38, u_38_1, u_38_2, u_38_3, u_38_4, u_38_5].getD k 0) (fun _ => 0) 0 0 0 0 (fun _ => 0) (fun _ => 0) (fun _ _ => 0))) rfl ?_
                exact hE 48 _ (q_7, q_15, (fun k => [q_34, q_34_1, q_34_2, q_34_3, q_34_4, q_34_5].getD k 0), (fun k => [u_38, u_38_1, u_38_2, u_38_3, u_38_4, u_38_5].getD k 0)) dX11_init_48 trivial
              · exact absurd c_26 (by decide)
