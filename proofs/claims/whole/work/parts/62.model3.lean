/-! the document's model: values by fractions of places (printed by gen/s62.py) -/
def isr (n : Nat) : Nat → Nat
  | 0 => 1
  | i + 1 => if n * (i + 2) % 97 = 1 then i + 2 else isr n i
set_option maxRecDepth 100000 in
theorem isr_inv : ∀ n, n < 97 → 1 ≤ n → isr n 95 = inv97 n := by decide +kernel
theorem isr_le (n : Nat) : ∀ i, i ≤ 95 → isr n i ≤ 96
  | 0, _ => by show 1 ≤ 96; decide
  | i + 1, h => by
    have := isr_le n i (by omega)
    rw [isr]
    split <;> omega
set_option maxRecDepth 100000 in
theorem md_ok : ∀ x, x < 10 → ∀ y, y < 10 → ((nI x - nI y) - (nI x - nI y) / 97 * 97 + 97) - ((nI x - nI y) - (nI x - nI y) / 97 * 97 + 97) / 97 * 97 = nI (dif97 x y) := by decide +kernel
theorem dif_s : ∀ b, b < 8 → ∀ j, j < 8 → dif97 b j = dif97 (b + 1) (j + 1) := by decide +kernel
theorem dif_p : ∀ b, b < 8 → ∀ j, j < 8 → b ≠ j → 1 ≤ dif97 (b + 1) (j + 1) := by decide +kernel
set_option maxRecDepth 100000 in
theorem mul_p : ∀ a, a < 97 → ∀ c, c < 97 → 1 ≤ a → 1 ≤ c → 1 ≤ a * c % 97 := by decide +kernel
theorem fab_lt (S x b : Nat) : ∀ j, (fab S x b j).1 < 97 ∧ (fab S x b j).2 < 97
  | 0 => ⟨by show 1 < 97; decide, by show 1 < 97; decide⟩
  | j + 1 => by
    rw [fab]
    split
    · exact ⟨Nat.mod_lt _ (by decide), Nat.mod_lt _ (by decide)⟩
    · exact fab_lt S x b j
theorem fab_p (S x : Nat) {b : Nat} (hb : b < 8) : ∀ j, j ≤ 8 → 1 ≤ (fab S x b j).2
  | 0, _ => Nat.le_refl 1
  | j + 1, h => by
    have ih := fab_p S x hb j (by omega)
    rw [fab]
    split
    · rename_i h1
      exact mul_p _ (fab_lt S x b j).2 _ (dif97_lt _ _) ih (dif_p b hb j (by omega) (fun z => h1.2 z.symm))
    · exact ih
theorem fab_y {S x b j : Nat} (h : S / 2 ^ j % 2 = 1) (h2 : ¬ j = b) : fab S x b (j + 1) = ((fab S x b j).1 * dif97 x (j + 1) % 97, (fab S x b j).2 * dif97 (b + 1) (j + 1) % 97) := by rw [fab, if_pos ⟨h, h2⟩]
theorem fab_e {S x b j : Nat} (h2 : j = b) : fab S x b (j + 1) = fab S x b j := by rw [fab, if_neg (fun z => z.2 h2)]
theorem fab_n {S x b j : Nat} (h : ¬ S / 2 ^ j % 2 = 1) : fab S x b (j + 1) = fab S x b j := by rw [fab, if_neg (fun z => h z.1)]
theorem frac_lt (S b x : Nat) : frac S b x < 97 := Nat.mod_lt _ (by decide)
theorem lsum_y {S : Nat} {v : Nat → Nat} {x b : Nat} (h : S / 2 ^ b % 2 = 1) : lsum S v x (b + 1) = (lsum S v x b + v b * frac S b x) % 97 := by rw [lsum, if_pos h]
theorem lsum_n {S : Nat} {v : Nat → Nat} {x b : Nat} (h : ¬ S / 2 ^ b % 2 = 1) : lsum S v x (b + 1) = lsum S v x b := by rw [lsum, if_neg h]
theorem unf_s {S : Nat} {v : Nat → Nat} {T b : Nat} : unf S v T (b + 1) = unf S v T b + (if T / 2 ^ b % 2 = 1 ∧ ¬ lagS S v (b + 1) = v b then 1 else 0) := by rw [unf]
theorem nI_sub1 {x j : Nat} : nI x - nI j - 1 = nI x - nI (j + 1) := by
  rw [nI_succ, Int32.sub_eq_add_neg, Int32.sub_eq_add_neg, Int32.sub_eq_add_neg, Int32.neg_add, Int32.sub_eq_add_neg, Int32.add_assoc]
set_option maxHeartbeats 4000000 in
set_option maxRecDepth 100000 in
theorem m_modulo (l : Launch) (G : Gx) (x y : Nat) (hx : x < 10) (hy : y < 10) : Ct l G SF0 yX13_modulo wsX13_modulo ({ frames := 0, cells := 0, slots := 0, locals := 0 }) [.int (nI x - nI y)] [] mkI (fun (r : Int32) (_ : Unit) => r = nI (dif97 x y)) (fun _ : Unit => []) 0 0 := by
  refine Ct.ofI (cc := cX13_modulo) (maxL := 1) (by decide) rfl ⟨by simp [Value.category], Nat.le_of_ble_eq_true rfl⟩ ?_
  intro K hl hC hSF hnm hE
  subst hl
  show V G K 1 0 0 0 [some (.int (nI x - nI y))] [] []
  refine V.iload_n hC (x := nI x - nI y) dX13_modulo_0 rfl ?_
  refine V.bipush hC 97 dX13_modulo_1 rfl ?_
  refine V.irem hC dX13_modulo_3 (by decide) ?_
  refine V.bipush hC 97 dX13_modulo_4 rfl ?_
  refine V.iadd hC dX13_modulo_6 ?_
  refine V.bipush hC 97 dX13_modulo_7 rfl ?_
  refine V.irem hC dX13_modulo_9 (by decide) ?_
  exact hE 10 _ ((((nI x - nI y) - (nI x - nI y) / 97 * 97) + 97) - (((nI x - nI y) - (nI x - nI y) / 97 * 97) + 97) / 97 * 97) () dX13_modulo_10 rfl (md_ok x hx y hy)

set_option maxHeartbeats 4000000 in
set_option maxRecDepth 100000 in
theorem m_inverseOf (l : Launch) (G : Gx) (a : Nat) (ha : a < 97) (h1 : 1 ≤ a) : Ct l G SF0 yX13_inverseOf wsX13_inverseOf ({ frames := 0, cells := 0, slots := 0, locals := 0 }) [.int (nI a)] [] mkI (fun (r : Int32) (_ : Unit) => r = nI (inv97 a)) (fun _ : Unit => []) 0 0 := by
  refine Ct.ofI (cc := cX13_inverseOf) (maxL := 3) (by decide) rfl ⟨by simp [Value.category], Nat.le_of_ble_eq_true rfl⟩ ?_
  intro K hl hC hSF hnm hE
  subst hl
  show V G K 3 0 0 0 [some (.int (nI a)), none, none] [] []
  refine V.iconst hC 1 dX13_inverseOf_0 rfl ?_
  refine V.istore_n hC dX13_inverseOf_1 [some (.int (nI a)), some (.int 1), none] (Nat.le_of_ble_eq_true rfl) rfl ?_
  refine V.iconst hC 2 dX13_inverseOf_2 rfl ?_
  refine V.istore_n hC dX13_inverseOf_3 [some (.int (nI a)), some (.int 1), some (.int 2)] (Nat.le_of_ble_eq_true rfl) rfl ?_
  have loop4 : ∀ (n : Nat) (i : Nat), 95 - i < n → (i ≤ 95) → V G K 3 0 0 4 [some (.int (nI a)), some (.int (nI (isr a i))), some (.int (nI (i + 2)))] [] [] := by
    intro n
    induction n with
    | zero => intro i hlt; exact absurd hlt (Nat.not_lt_zero _)
    | succ n ih4 =>
      intro i hlt4 hi
      have hil := isr_le a i hi
      have hmu : a * (i + 2) ≤ 96 * 97 := Nat.mul_le_mul (by omega) (by omega)
      refine V.iload_n hC (x := nI (i + 2)) dX13_inverseOf_4 rfl ?_
      refine V.bipush hC 97 dX13_inverseOf_5 rfl ?_
      refine V.icmpN_ge hC (i + 2) 97 32 dX13_inverseOf_7 rfl rfl rfl (by omega) (by omega) (fun c_7 => ?_) (fun c_7 => ?_)
      · refine V.iload_n hC (x := nI (isr a i)) dX13_inverseOf_32 rfl ?_
        exact hE 33 _ (nI (isr a i)) () dX13_inverseOf_33 rfl (by rw [show i = 95 by omega, isr_inv a ha h1])
      · refine V.iload_n hC (x := nI a) dX13_inverseOf_10 rfl ?_
        refine V.iload_n hC (x := nI (i + 2)) dX13_inverseOf_11 rfl ?_
        refine V.imulN hC a (i + 2) dX13_inverseOf_12 rfl rfl ?_
        refine V.bipush hC 97 dX13_inverseOf_13 rfl ?_
        refine V.iremN hC (a * (i + 2)) 97 dX13_inverseOf_15 rfl rfl (by omega) (by decide) (by decide) ?_
        refine V.iconst hC 1 dX13_inverseOf_16 rfl ?_
        refine V.icmpN_ne hC ((a * (i + 2)) % 97) 1 24 dX13_inverseOf_17 rfl rfl rfl (by omega) (by omega) (fun c_17 => ?_) (fun c_17 => ?_)
        · refine V.iload_n hC (x := nI (isr a i)) dX13_inverseOf_24 rfl ?_
          refine V.istore_n hC dX13_inverseOf_25 [some (.int (nI a)), some (.int (nI (isr a i))), some (.int (nI (i + 2)))] (Nat.le_of_ble_eq_true rfl) rfl ?_
          refine V.lset 1 (x := .int (nI (isr a i))) (y := .int (nI (isr a (i + 1)))) (congrArg Value.int (congrArg nI (show isr a i = isr a (i + 1) by rw [isr, if_neg c_17]))) rfl (lv' := [some (.int (nI a)), some (.int (nI (isr a (i + 1)))), some (.int (nI (i + 2)))]) rfl ?_
          refine V.iincN hC (i + 2) 1 dX13_inverseOf_26 rfl [some (.int (nI a)), some (.int (nI (isr a (i + 1)))), some (.int (nI (i + 2 + 1)))] (Nat.le_of_ble_eq_true rfl) rfl rfl rfl ?_
          refine V.goto hC 4 dX13_inverseOf_29 rfl ?_
          exact ih4 (i + 1) (by omega) (by omega)
        · refine V.iload_n hC (x := nI (i + 2)) dX13_inverseOf_20 rfl ?_
          refine V.goto hC 25 dX13_inverseOf_21 rfl ?_
          refine V.istore_n hC dX13_inverseOf_25 [some (.int (nI a)), some (.int (nI (i + 2))), some (.int (nI (i + 2)))] (Nat.le_of_ble_eq_true rfl) rfl ?_
          refine V.lset 1 (x := .int (nI (i + 2))) (y := .int (nI (isr a (i + 1)))) (congrArg Value.int (congrArg nI (show i + 2 = isr a (i + 1) by rw [isr, if_pos c_17]))) rfl (lv' := [some (.int (nI a)), some (.int (nI (isr a (i + 1)))), some (.int (nI (i + 2)))]) rfl ?_
          refine V.iincN hC (i + 2) 1 dX13_inverseOf_26 rfl [some (.int (nI a)), some (.int (nI (isr a (i + 1)))), some (.int (nI (i + 2 + 1)))] (Nat.le_of_ble_eq_true rfl) rfl rfl rfl ?_
          refine V.goto hC 4 dX13_inverseOf_29 rfl ?_
          exact ih4 (i + 1) (by omega) (by omega)
  exact loop4 _ 0 (Nat.lt_succ_self _) (by omega)

set_option maxHeartbeats 4000000 in
set_option maxRecDepth 100000 in
theorem m_factor (l : Launch) (G : Gx) (S b x : Nat) (hS : S < 256) (hb : b < 8) (hx : x ≤ 8) : Ct l G SF0 yX13_factor wsX13_factor ({ frames := 1, cells := 0, slots := 0, locals := 22 }) [.int (nI S), .int (nI b), .int (nI x)] [] mkI (fun (r : Int32) (_ : Unit) => r = nI (frac S b x)) (fun _ : Unit => []) 0 0 := by
  refine Ct.ofI (cc := cX13_factor) (maxL := 6) (by decide) rfl ⟨by simp [Value.category], Nat.le_of_ble_eq_true rfl⟩ ?_
  intro K hl hC hSF hnm hE
  subst hl
  show V G K 6 0 0 0 [some (.int (nI S)), some (.int (nI b)), some (.int (nI x)), none, none, none] [] []
  refine V.iconst hC 1 dX13_factor_0 rfl ?_
  refine V.istore_n hC dX13_factor_1 [some (.int (nI S)), some (.int (nI b)), some (.int (nI x)), some (.int 1), none, none] (Nat.le_of_ble_eq_true rfl) rfl ?_
  refine V.iconst hC 1 dX13_factor_2 rfl ?_
  refine V.istore hC dX13_factor_3 [some (.int (nI S)), some (.int (nI b)), some (.int (nI x)), some (.int 1), some (.int 1), none] (Nat.le_of_ble_eq_true rfl) rfl ?_
  refine V.iconst hC 0 dX13_factor_5 rfl ?_
  refine V.istore hC dX13_factor_6 [some (.int (nI S)), some (.int (nI b)), some (.int (nI x)), some (.int 1), some (.int 1), some (.int 0)] (Nat.le_of_ble_eq_true rfl) rfl ?_
  have loop8 : ∀ (n : Nat) (j : Nat), 8 - j < n → (j ≤ 8) → V G K 6 0 0 8 [some (.int (nI S)), some (.int (nI b)), some (.int (nI x)), some (.int (nI ((fab S x b j).1))), some (.int (nI ((fab S x b j).2))), some (.int (nI j))] [] [] := by
    intro n
    induction n with
    | zero => intro j hlt; exact absurd hlt (Nat.not_lt_zero _)
    | succ n ih8 =>
      intro j hlt8 hj
      have hf1 := (fab_lt S x b j).1
      have hf2 := (fab_lt S x b j).2
      refine V.iload hC (x := nI j) dX13_factor_8 rfl ?_
      refine V.bipush hC 8 dX13_factor_10 rfl ?_
      refine V.icmpN_ge hC j 8 67 dX13_factor_12 rfl rfl rfl (by omega) (by omega) (fun c_12 => ?_) (fun c_12 => ?_)
      · have hj8 : j = 8 := by omega
        refine V.lset 3 (x := .int (nI ((fab S x b j).1))) (y := .int (nI ((fab S x b 8).1))) (congrArg Value.int (by rw [hj8])) rfl (lv' := [some (.int (nI S)), some (.int (nI b)), some (.int (nI x)), some (.int (nI ((fab S x b 8).1))), some (.int (nI ((fab S x b j).2))), some (.int (nI j))]) rfl ?_
        refine V.lset 4 (x := .int (nI ((fab S x b j).2))) (y := .int (nI ((fab S x b 8).2))) (congrArg Value.int (by rw [hj8])) rfl (lv' := [some (.int (nI S)), some (.int (nI b)), some (.int (nI x)), some (.int (nI ((fab S x b 8).1))), some (.int (nI ((fab S x b 8).2))), some (.int (nI j))]) rfl ?_
        have hf1 := (fab_lt S x b 8).1
        have hf3 := inv97_lt (fab S x b 8).2
        have hm3 : (fab S x b 8).1 * inv97 (fab S x b 8).2 ≤ 96 * 96 := Nat.mul_le_mul (by omega) (by omega)
        refine V.iload_n hC (x := nI ((fab S x b 8).1)) dX13_factor_67 rfl ?_
        refine V.iload hC (x := nI ((fab S x b 8).2)) dX13_factor_68 rfl ?_
        refine V.callSr (n := 1) (As := [.int (nI ((fab S x b 8).2))]) (rest := [.int (nI ((fab S x b 8).1))]) hC (m_inverseOf (kl K) G (fab S x b 8).2 (fab_lt S x b 8).2 (fab_p S x hb 8 (Nat.le_refl 8))) SFk0 SFgo0 gX13_factor_X13_inverseOf rfl ⟨rfl, rfl⟩ (by decide +kernel) ⟨by decide, by decide, by decide, by decide⟩ [] rfl (by decide) rfl rfl (Nat.le_of_ble_eq_true rfl) dX13_factor_70 (fun r_70 u_70 hp_70 => ?_)
        subst hp_70
        show V G K 6 0 0 73 [some (.int (nI S)), some (.int (nI b)), some (.int (nI x)), some (.int (nI ((fab S x b 8).1))), some (.int (nI ((fab S x b 8).2))), some (.int (nI j))] [.int (nI (inv97 (fab S x b 8).2)), .int (nI ((fab S x b 8).1))] []
        refine V.imulN hC ((fab S x b 8).1) (inv97 (fab S x b 8).2) dX13_factor_73 rfl rfl ?_
        refine V.bipush hC 97 dX13_factor_74 rfl ?_
        refine V.iremN hC (((fab S x b 8).1) * (inv97 (fab S x b 8).2)) 97 dX13_factor_76 rfl rfl (by omega) (by decide) (by decide) ?_
        exact hE 77 _ (nI ((((fab S x b 8).1) * (inv97 (fab S x b 8).2)) % 97)) () dX13_factor_77 rfl rfl
      · refine V.iload hC (x := nI j) dX13_factor_15 rfl ?_
        refine V.iload_n hC (x := nI b) dX13_factor_17 rfl ?_
        refine V.icmpN_eq hC j b 61 dX13_factor_18 rfl rfl rfl (by omega) (by omega) (fun c_18 => ?_) (fun c_18 => ?_)
        · refine V.lset 3 (x := .int (nI ((fab S x b j).1))) (y := .int (nI ((fab S x b (j + 1)).1))) (congrArg Value.int (by rw [fab_e c_18])) rfl (lv' := [some (.int (nI S)), some (.int (nI b)), some (.int (nI x)), some (.int (nI ((fab S x b (j + 1)).1))), some (.int (nI ((fab S x b j).2))), some (.int (nI j))]) rfl ?_
          refine V.lset 4 (x := .int (nI ((fab S x b j).2))) (y := .int (nI ((fab S x b (j + 1)).2))) (congrArg Value.int (by rw [fab_e c_18])) rfl (lv' := [some (.int (nI S)), some (.int (nI b)), some (.int (nI x)), some (.int (nI ((fab S x b (j + 1)).1))), some (.int (nI ((fab S x b (j + 1)).2))), some (.int (nI j))]) rfl ?_
          refine V.iincN hC j 1 dX13_factor_61 rfl [some (.int (nI S)), some (.int (nI b)), some (.int (nI x)), some (.int (nI ((fab S x b (j + 1)).1))), some (.int (nI ((fab S x b (j + 1)).2))), some (.int (nI (j + 1)))] (Nat.le_of_ble_eq_true rfl) rfl rfl rfl ?_
          refine V.goto hC 8 dX13_factor_64 rfl ?_
          exact ih8 (j + 1) (by omega) (by omega)
        · refine V.iload_n hC (x := nI S) dX13_factor_21 rfl ?_
          refine V.iload hC (x := nI j) dX13_factor_22 rfl ?_
          refine V.ishr hC dX13_factor_24 ?_
          refine V.iconst hC 1 dX13_factor_25 rfl ?_
          refine V.iand hC dX13_factor_26 ?_
          refine V.topeq (nI (S / 2 ^ j % 2)) (bit8 j (by omega) S hS) ?_
          refine V.iconst hC 1 dX13_factor_27 rfl ?_
          refine V.icmpN_ne hC (S / 2 ^ j % 2) 1 61 dX13_factor_28 rfl rfl rfl (by omega) (by omega) (fun c_28 => ?_) (fun c_28 => ?_)
          · refine V.lset 3 (x := .int (nI ((fab S x b j).1))) (y := .int (nI ((fab S x b (j + 1)).1))) (congrArg Value.int (by rw [fab_n c_28])) rfl (lv' := [some (.int (nI S)), some (.int (nI b)), some (.int (nI x)), some (.int (nI ((fab S x b (j + 1)).1))), some (.int (nI ((fab S x b j).2))), some (.int (nI j))]) rfl ?_
            refine V.lset 4 (x := .int (nI ((fab S x b j).2))) (y := .int (nI ((fab S x b (j + 1)).2))) (congrArg Value.int (by rw [fab_n c_28])) rfl (lv' := [some (.int (nI S)), some (.int (nI b)), some (.int (nI x)), some (.int (nI ((fab S x b (j + 1)).1))), some (.int (nI ((fab S x b (j + 1)).2))), some (.int (nI j))]) rfl ?_
            refine V.iincN hC j 1 dX13_factor_61 rfl [some (.int (nI S)), some (.int (nI b)), some (.int (nI x)), some (.int (nI ((fab S x b (j + 1)).1))), some (.int (nI ((fab S x b (j + 1)).2))), some (.int (nI (j + 1)))] (Nat.le_of_ble_eq_true rfl) rfl rfl rfl ?_
            refine V.goto hC 8 dX13_factor_64 rfl ?_
            exact ih8 (j + 1) (by omega) (by omega)
          · refine V.iload_n hC (x := nI ((fab S x b j).1)) dX13_factor_31 rfl ?_
            refine V.iload_n hC (x := nI x) dX13_factor_32 rfl ?_
            refine V.iload hC (x := nI j) dX13_factor_33 rfl ?_
            refine V.isub hC dX13_factor_35 ?_
            refine V.iconst hC 1 dX13_factor_36 rfl ?_
            refine V.isub hC dX13_factor_37 ?_
            refine V.topeq (nI x - nI (j + 1)) nI_sub1 ?_
            refine V.callSr (n := 1) (As := [.int (nI x - nI (j + 1))]) (rest := [.int (nI ((fab S x b j).1))]) hC (m_modulo (kl K) G x (j + 1) (by omega) (by omega)) SFk0 SFgo0 gX13_factor_X13_modulo rfl ⟨rfl, rfl⟩ (by decide +kernel) ⟨by decide, by decide, by decide, by decide⟩ [] rfl (by decide) rfl rfl (Nat.le_of_ble_eq_true rfl) dX13_factor_38 (fun r_38 u_38 hp_38 => ?_)
            subst hp_38
            show V G K 6 0 0 41 [some (.int (nI S)), some (.int (nI b)), some (.int (nI x)), some (.int (nI ((fab S x b j).1))), some (.int (nI ((fab S x b j).2))), some (.int (nI j))] [.int (nI (dif97 x (j + 1))), .int (nI ((fab S x b j).1))] []
            refine V.imulN hC ((fab S x b j).1) (dif97 x (j + 1)) dX13_factor_41 rfl rfl ?_
            have hd1 := dif97_lt x (j + 1)
            have hm1 : (fab S x b j).1 * dif97 x (j + 1) ≤ 96 * 96 := Nat.mul_le_mul (by omega) (by omega)
            refine V.bipush hC 97 dX13_factor_42 rfl ?_
            refine V.iremN hC (((fab S x b j).1) * (dif97 x (j + 1))) 97 dX13_factor_44 rfl rfl (by omega) (by decide) (by decide) ?_
            refine V.istore_n hC dX13_factor_45 [some (.int (nI S)), some (.int (nI b)), some (.int (nI x)), some (.int (nI ((((fab S x b j).1) * (dif97 x (j + 1))) % 97))), some (.int (nI ((fab S x b j).2))), some (.int (nI j))] (Nat.le_of_ble_eq_true rfl) rfl ?_
            refine V.iload hC (x := nI ((fab S x b j).2)) dX13_factor_46 rfl ?_
            refine V.iload_n hC (x := nI b) dX13_factor_48 rfl ?_
            refine V.iload hC (x := nI j) dX13_factor_49 rfl ?_
            refine V.isub hC dX13_factor_51 ?_
            refine V.callSr (n := 1) (As := [.int ((nI b) - (nI j))]) (rest := [.int (nI ((fab S x b j).2))]) hC (m_modulo (kl K) G b j (by omega) (by omega)) SFk0 SFgo0 gX13_factor_X13_modulo rfl ⟨rfl, rfl⟩ (by decide +kernel) ⟨by decide, by decide, by decide, by decide⟩ [] rfl (by decide) rfl rfl (Nat.le_of_ble_eq_true rfl) dX13_factor_52 (fun r_52 u_52 hp_52 => ?_)
            subst hp_52
            show V G K 6 0 0 55 [some (.int (nI S)), some (.int (nI b)), some (.int (nI x)), some (.int (nI ((((fab S x b j).1) * (dif97 x (j + 1))) % 97))), some (.int (nI ((fab S x b j).2))), some (.int (nI j))] [.int (nI (dif97 b j)), .int (nI ((fab S x b j).2))] []
            have hd2 := dif97_lt b j
            have hm2 : (fab S x b j).2 * dif97 b j ≤ 96 * 96 := Nat.mul_le_mul (by omega) (by omega)
            refine V.imulN hC ((fab S x b j).2) (dif97 b j) dX13_factor_55 rfl rfl ?_
            refine V.bipush hC 97 dX13_factor_56 rfl ?_
            refine V.iremN hC (((fab S x b j).2) * (dif97 b j)) 97 dX13_factor_58 rfl rfl (by omega) (by decide) (by decide) ?_
            refine V.istore hC dX13_factor_59 [some (.int (nI S)), some (.int (nI b)), some (.int (nI x)), some (.int (nI ((((fab S x b j).1) * (dif97 x (j + 1))) % 97))), some (.int (nI ((((fab S x b j).2) * (dif97 b j)) % 97))), some (.int (nI j))] (Nat.le_of_ble_eq_true rfl) rfl ?_
            refine V.lset 3 (x := .int (nI ((((fab S x b j).1) * (dif97 x (j + 1))) % 97))) (y := .int (nI ((fab S x b (j + 1)).1))) (congrArg Value.int (by rw [fab_y c_28 c_18])) rfl (lv' := [some (.int (nI S)), some (.int (nI b)), some (.int (nI x)), some (.int (nI ((fab S x b (j + 1)).1))), some (.int (nI ((((fab S x b j).2) * (dif97 b j)) % 97))), some (.int (nI j))]) rfl ?_
            refine V.lset 4 (x := .int (nI ((((fab S x b j).2) * (dif97 b j)) % 97))) (y := .int (nI ((fab S x b (j + 1)).2))) (congrArg Value.int (by rw [fab_y c_28 c_18, dif_s b hb j (by omega)])) rfl (lv' := [some (.int (nI S)), some (.int (nI b)), some (.int (nI x)), some (.int (nI ((fab S x b (j + 1)).1))), some (.int (nI ((fab S x b (j + 1)).2))), some (.int (nI j))]) rfl ?_
            refine V.iincN hC j 1 dX13_factor_61 rfl [some (.int (nI S)), some (.int (nI b)), some (.int (nI x)), some (.int (nI ((fab S x b (j + 1)).1))), some (.int (nI ((fab S x b (j + 1)).2))), some (.int (nI (j + 1)))] (Nat.le_of_ble_eq_true rfl) rfl rfl rfl ?_
            refine V.goto hC 8 dX13_factor_64 rfl ?_
            exact ih8 (j + 1) (by omega) (by omega)
  exact loop8 _ 0 (Nat.lt_succ_self _) (by omega)

set_option maxHeartbeats 4000000 in
set_option maxRecDepth 100000 in
theorem m_valueAt (l : Launch) (G : Gx) (m nw bf sv hy tx li nmb : Nat) (iS rmb eA fA tyd ldd thr siz spt wrg tld : Int32) (σ : Nat → Int32) (s : ASt) (B : Nat) (hR : Rel σ s) (hI : InvA B s) (hB : B < 2 ^ 30) (k : Nat) (hk : k < sNs s) (S : Nat) (hS : S < 256) (hH : HB (sSh s k) S) (x : Nat) (hx : x ≤ 8) : Ct l G SF0 yX13_valueAt wsX13_valueAt ({ frames := 2, cells := 0, slots := 0, locals := 47 }) [.ref m, .int (nI k), .int (nI S), .int (nI x)] [(m, .inr (13, [.ref nw, .ref bf, .ref sv, .ref hy, .int iS, .int rmb, .int eA, .int fA, .ref tx, .int tyd, .ref li, .int ldd, .int thr, .int siz, .int spt, .int wrg, .int tld, .ref nmb])), (nw, .inl (gI G, 72, .inl σ))] mkI (fun (r : Int32) (_ : Unit) => r = nI (lagS S (svn (sSh s k)) x)) (fun _ : Unit => [(m, .inr (13, [.ref nw, .ref bf, .ref sv, .ref hy, .int iS, .int rmb, .int eA, .int fA, .ref tx, .int tyd, .ref li, .int ldd, .int thr, .int siz, .int spt, .int wrg, .int tld, .ref nmb])), (nw, .inl (gI G, 72, .inl σ))]) 0 0 := by
  have hb8 := hI.1
  have hs6 := hI.2.1
  refine Ct.ofI (cc := cX13_valueAt) (maxL := 6) (by decide) rfl ⟨by simp [Value.category], Nat.le_of_ble_eq_true rfl⟩ ?_
  intro K hl hC hSF hnm hE
  subst hl
  show V G K 6 0 0 0 [some (.ref m), some (.int (nI k)), some (.int (nI S)), some (.int (nI x)), none, none] [] [(m, .inr (13, [.ref nw, .ref bf, .ref sv, .ref hy, .int iS, .int rmb, .int eA, .int fA, .ref tx, .int tyd, .ref li, .int ldd, .int thr, .int siz, .int spt, .int wrg, .int tld, .ref nmb])), (nw, .inl (gI G, 72, .inl σ))]
  refine V.iconst hC 0 dX13_valueAt_0 rfl ?_
  refine V.istore hC dX13_valueAt_1 [some (.ref m), some (.int (nI k)), some (.int (nI S)), some (.int (nI x)), some (.int 0), none] (Nat.le_of_ble_eq_true rfl) rfl ?_
  refine V.iconst hC 0 dX13_valueAt_3 rfl ?_
  refine V.istore hC dX13_valueAt_4 [some (.ref m), some (.int (nI k)), some (.int (nI S)), some (.int (nI x)), some (.int 0), some (.int 0)] (Nat.le_of_ble_eq_true rfl) rfl ?_
  have loop6 : ∀ (n : Nat) (b : Nat), 8 - b < n → (b ≤ 8) → V G K 6 0 0 6 [some (.ref m), some (.int (nI k)), some (.int (nI S)), some (.int (nI x)), some (.int (nI (lsum S (svn (sSh s k)) x b))), some (.int (nI b))] [] [(m, .inr (13, [.ref nw, .ref bf, .ref sv, .ref hy, .int iS, .int rmb, .int eA, .int fA, .ref tx, .int tyd, .ref li, .int ldd, .int thr, .int siz, .int spt, .int wrg, .int tld, .ref nmb])), (nw, .inl (gI G, 72, .inl σ))] := by
    intro n
    induction n with
    | zero => intro b hlt; exact absurd hlt (Nat.not_lt_zero _)
    | succ n ih6 =>
      intro b hlt6 hb
      have hls := lsum_lt S (svn (sSh s k)) x b
      refine V.iload hC (x := nI b) dX13_valueAt_6 rfl ?_
      refine V.bipush hC 8 dX13_valueAt_8 rfl ?_
      refine V.icmpN_ge hC b 8 54 dX13_valueAt_10 rfl rfl rfl (by omega) (by omega) (fun c_10 => ?_) (fun c_10 => ?_)
      · refine V.iload hC (x := nI (lsum S (svn (sSh s k)) x b)) dX13_valueAt_54 rfl ?_
        exact hE 56 _ (nI (lsum S (svn (sSh s k)) x b)) () dX13_valueAt_56 rfl (by rw [show b = 8 by omega]; rfl)
      · refine V.iload_n hC (x := nI S) dX13_valueAt_13 rfl ?_
        refine V.iload hC (x := nI b) dX13_valueAt_14 rfl ?_
        refine V.ishr hC dX13_valueAt_16 ?_
        refine V.iconst hC 1 dX13_valueAt_17 rfl ?_
        refine V.iand hC dX13_valueAt_18 ?_
        refine V.topeq (nI (S / 2 ^ b % 2)) (bit8 b (by omega) S hS) ?_
        refine V.iconst hC 1 dX13_valueAt_19 rfl ?_
        refine V.icmpN_ne hC (S / 2 ^ b % 2) 1 48 dX13_valueAt_20 rfl rfl rfl (by omega) (by omega) (fun c_20 => ?_) (fun c_20 => ?_)
        · refine V.lset 4 (x := .int (nI (lsum S (svn (sSh s k)) x b))) (y := .int (nI (lsum S (svn (sSh s k)) x (b + 1)))) (congrArg Value.int (by rw [lsum_n c_20])) rfl (lv' := [some (.ref m), some (.int (nI k)), some (.int (nI S)), some (.int (nI x)), some (.int (nI (lsum S (svn (sSh s k)) x (b + 1)))), some (.int (nI b))]) rfl ?_
          refine V.iincN hC b 1 dX13_valueAt_48 rfl [some (.ref m), some (.int (nI k)), some (.int (nI S)), some (.int (nI x)), some (.int (nI (lsum S (svn (sSh s k)) x (b + 1)))), some (.int (nI (b + 1)))] (Nat.le_of_ble_eq_true rfl) rfl rfl rfl ?_
          refine V.goto hC 6 dX13_valueAt_51 rfl ?_
          exact ih6 (b + 1) (by omega) (by omega)
        · refine V.iload hC (x := nI (lsum S (svn (sSh s k)) x b)) dX13_valueAt_23 rfl ?_
          refine V.aload_n hC (x := m) dX13_valueAt_25 rfl ?_
          refine V.iload_n hC (x := nI k) dX13_valueAt_26 rfl ?_
          refine V.iconst hC 2 dX13_valueAt_27 rfl ?_
          refine V.iload hC (x := nI b) dX13_valueAt_28 rfl ?_
          refine V.iaddN hC 2 b dX13_valueAt_30 rfl rfl ?_
          refine V.callVr (n := 2) (As := [.int (nI k), .int (nI (2 + b))]) (rest := [.int (nI (lsum S (svn (sSh s k)) x b))]) hC (m_of (kl K) G m nw bf sv hy tx li nmb iS rmb eA fA tyd ldd thr siz spt wrg tld σ k (by omega) (2 + b) (by omega)) SFk0 SFgo0 gX13_valueAt_X13_of rfl ⟨rfl, rfl⟩ (by decide +kernel) ⟨by decide, by decide, by decide, by decide⟩ [0, 1] rfl (by decide) rfl rfl rfl rfl (Nat.le_of_ble_eq_true rfl) dX13_valueAt_31 (fun r_31 u_31 hp_31 => ?_)
          have hq_31 := hp_31.trans ((show σ (12 + 10 * k + (2 + b)) = sSh s k b by rw [show 12 + 10 * k + (2 + b) = 14 + 10 * k + b by omega]; exact (hR.2.2.2.2.2 k hk).2.2 b (by omega)).trans (hH b (by omega) c_20).1)
          subst hq_31
          show V G K 6 0 0 34 [some (.ref m), some (.int (nI k)), some (.int (nI S)), some (.int (nI x)), some (.int (nI (lsum S (svn (sSh s k)) x b))), some (.int (nI b))] [.int (nI (svn (sSh s k) b)), .int (nI (lsum S (svn (sSh s k)) x b))] [(m, .inr (13, [.ref nw, .ref bf, .ref sv, .ref hy, .int iS, .int rmb, .int eA, .int fA, .ref tx, .int tyd, .ref li, .int ldd, .int thr, .int siz, .int spt, .int wrg, .int tld, .ref nmb])), (nw, .inl (gI G, 72, .inl σ))]
          refine V.iload_n hC (x := nI S) dX13_valueAt_34 rfl ?_
          refine V.iload hC (x := nI b) dX13_valueAt_35 rfl ?_
          refine V.iload_n hC (x := nI x) dX13_valueAt_37 rfl ?_
          refine V.callSr (n := 3) (As := [.int (nI S), .int (nI b), .int (nI x)]) (rest := [.int (nI (svn (sSh s k) b)), .int (nI (lsum S (svn (sSh s k)) x b))]) hC (m_factor (kl K) G S b x hS (by omega) hx) SFk0 SFgo0 gX13_valueAt_X13_factor rfl ⟨rfl, rfl⟩ (by decide +kernel) ⟨by decide, by decide, by decide, by decide⟩ [] rfl (by decide) rfl rfl (Nat.le_of_ble_eq_true rfl) dX13_valueAt_38 (fun r_38 u_38 hp_38 => ?_)
          subst hp_38
          show V G K 6 0 0 41 [some (.ref m), some (.int (nI k)), some (.int (nI S)), some (.int (nI x)), some (.int (nI (lsum S (svn (sSh s k)) x b))), some (.int (nI b))] [.int (nI (frac S b x)), .int (nI (svn (sSh s k) b)), .int (nI (lsum S (svn (sSh s k)) x b))] [(m, .inr (13, [.ref nw, .ref bf, .ref sv, .ref hy, .int iS, .int rmb, .int eA, .int fA, .ref tx, .int tyd, .ref li, .int ldd, .int thr, .int siz, .int spt, .int wrg, .int tld, .ref nmb])), (nw, .inl (gI G, 72, .inl σ))]
          have hs97 := (hH b (by omega) c_20).2
          have hfr := frac_lt S b x
          have hm1 : svn (sSh s k) b * frac S b x ≤ 96 * 96 := Nat.mul_le_mul (by omega) (by omega)
          refine V.imulN hC (svn (sSh s k) b) (frac S b x) dX13_valueAt_41 rfl rfl ?_
          refine V.iaddN hC (lsum S (svn (sSh s k)) x b) ((svn (sSh s k) b) * (frac S b x)) dX13_valueAt_42 rfl rfl ?_
          refine V.bipush hC 97 dX13_valueAt_43 rfl ?_
          refine V.iremN hC ((lsum S (svn (sSh s k)) x b) + ((svn (sSh s k) b) * (frac S b x))) 97 dX13_valueAt_45 rfl rfl (by omega) (by decide) (by decide) ?_
          refine V.istore hC dX13_valueAt_46 [some (.ref m), some (.int (nI k)), some (.int (nI S)), some (.int (nI x)), some (.int (nI (((lsum S (svn (sSh s k)) x b) + ((svn (sSh s k) b) * (frac S b x))) % 97))), some (.int (nI b))] (Nat.le_of_ble_eq_true rfl) rfl ?_
          refine V.lset 4 (x := .int (nI (((lsum S (svn (sSh s k)) x b) + ((svn (sSh s k) b) * (frac S b x))) % 97))) (y := .int (nI (lsum S (svn (sSh s k)) x (b + 1)))) (congrArg Value.int (by rw [lsum_y c_20])) rfl (lv' := [some (.ref m), some (.int (nI k)), some (.int (nI S)), some (.int (nI x)), some (.int (nI (lsum S (svn (sSh s k)) x (b + 1)))), some (.int (nI b))]) rfl ?_
          refine V.iincN hC b 1 dX13_valueAt_48 rfl [some (.ref m), some (.int (nI k)), some (.int (nI S)), some (.int (nI x)), some (.int (nI (lsum S (svn (sSh s k)) x (b + 1)))), some (.int (nI (b + 1)))] (Nat.le_of_ble_eq_true rfl) rfl rfl rfl ?_
          refine V.goto hC 6 dX13_valueAt_51 rfl ?_
          exact ih6 (b + 1) (by omega) (by omega)
  exact loop6 _ 0 (Nat.lt_succ_self _) (by omega)

set_option maxHeartbeats 4000000 in
set_option maxRecDepth 100000 in
theorem m_unfit (l : Launch) (G : Gx) (m nw bf sv hy tx li nmb : Nat) (iS rmb eA fA tyd ldd thr siz spt wrg tld : Int32) (σ : Nat → Int32) (s : ASt) (B : Nat) (hR : Rel σ s) (hI : InvA B s) (hB : B < 2 ^ 30) (k : Nat) (hk : k < sNs s) (T S : Nat) (hT : T < 256) (hHT : HB (sSh s k) T) (hS : S < 256) (hH : HB (sSh s k) S) : Ct l G SF0 yX13_unfit wsX13_unfit ({ frames := 3, cells := 0, slots := 0, locals := 72 }) [.ref m, .int (nI k), .int (nI T), .int (nI S)] [(m, .inr (13, [.ref nw, .ref bf, .ref sv, .ref hy, .int iS, .int rmb, .int eA, .int fA, .ref tx, .int tyd, .ref li, .int ldd, .int thr, .int siz, .int spt, .int wrg, .int tld, .ref nmb])), (nw, .inl (gI G, 72, .inl σ))] mkI (fun (r : Int32) (_ : Unit) => r = nI (unf S (svn (sSh s k)) T 8)) (fun _ : Unit => [(m, .inr (13, [.ref nw, .ref bf, .ref sv, .ref hy, .int iS, .int rmb, .int eA, .int fA, .ref tx, .int tyd, .ref li, .int ldd, .int thr, .int siz, .int spt, .int wrg, .int tld, .ref nmb])), (nw, .inl (gI G, 72, .inl σ))]) 0 0 := by
  have hb8 := hI.1
  have hs6 := hI.2.1
  refine Ct.ofI (cc := cX13_unfit) (maxL := 6) (by decide) rfl ⟨by simp [Value.category], Nat.le_of_ble_eq_true rfl⟩ ?_
  intro K hl hC hSF hnm hE
  subst hl
  show V G K 6 0 0 0 [some (.ref m), some (.int (nI k)), some (.int (nI T)), some (.int (nI S)), none, none] [] [(m, .inr (13, [.ref nw, .ref bf, .ref sv, .ref hy, .int iS, .int rmb, .int eA, .int fA, .ref tx, .int tyd, .ref li, .int ldd, .int thr, .int siz, .int spt, .int wrg, .int tld, .ref nmb])), (nw, .inl (gI G, 72, .inl σ))]
  refine V.iconst hC 0 dX13_unfit_0 rfl ?_
  refine V.istore hC dX13_unfit_1 [some (.ref m), some (.int (nI k)), some (.int (nI T)), some (.int (nI S)), some (.int 0), none] (Nat.le_of_ble_eq_true rfl) rfl ?_
  refine V.iconst hC 0 dX13_unfit_3 rfl ?_
  refine V.istore hC dX13_unfit_4 [some (.ref m), some (.int (nI k)), some (.int (nI T)), some (.int (nI S)), some (.int 0), some (.int 0)] (Nat.le_of_ble_eq_true rfl) rfl ?_
  have loop6 : ∀ (n : Nat) (b : Nat), 8 - b < n → (b ≤ 8) → V G K 6 0 0 6 [some (.ref m), some (.int (nI k)), some (.int (nI T)), some (.int (nI S)), some (.int (nI (unf S (svn (sSh s k)) T b))), some (.int (nI b))] [] [(m, .inr (13, [.ref nw, .ref bf, .ref sv, .ref hy, .int iS, .int rmb, .int eA, .int fA, .ref tx, .int tyd, .ref li, .int ldd, .int thr, .int siz, .int spt, .int wrg, .int tld, .ref nmb])), (nw, .inl (gI G, 72, .inl σ))] := by
    intro n
    induction n with
    | zero => intro b hlt; exact absurd hlt (Nat.not_lt_zero _)
    | succ n ih6 =>
      intro b hlt6 hb
      have hul := unf_le S (svn (sSh s k)) T b
      refine V.iload hC (x := nI b) dX13_unfit_6 rfl ?_
      refine V.bipush hC 8 dX13_unfit_8 rfl ?_
      refine V.icmpN_ge hC b 8 61 dX13_unfit_10 rfl rfl rfl (by omega) (by omega) (fun c_10 => ?_) (fun c_10 => ?_)
      · refine V.iload hC (x := nI (unf S (svn (sSh s k)) T b)) dX13_unfit_61 rfl ?_
        exact hE 63 _ (nI (unf S (svn (sSh s k)) T b)) () dX13_unfit_63 rfl (by rw [show b = 8 by omega])
      · refine V.iload hC (x := nI (unf S (svn (sSh s k)) T b)) dX13_unfit_13 rfl ?_
        refine V.iload_n hC (x := nI T) dX13_unfit_15 rfl ?_
        refine V.iload hC (x := nI b) dX13_unfit_16 rfl ?_
        refine V.ishr hC dX13_unfit_18 ?_
        refine V.iconst hC 1 dX13_unfit_19 rfl ?_
        refine V.iand hC dX13_unfit_20 ?_
        refine V.topeq (nI (T / 2 ^ b % 2)) (bit8 b (by omega) T hT) ?_
        refine V.iconst hC 1 dX13_unfit_21 rfl ?_
        refine V.icmpN_ne hC (T / 2 ^ b % 2) 1 51 dX13_unfit_22 rfl rfl rfl (by omega) (by omega) (fun c_22 => ?_) (fun c_22 => ?_)
        · refine V.iconst hC 0 dX13_unfit_51 rfl ?_
          refine V.iaddN hC (unf S (svn (sSh s k)) T b) 0 dX13_unfit_52 rfl rfl ?_
          refine V.topeq (nI (unf S (svn (sSh s k)) T (b + 1))) (by rw [unf_s, if_neg (fun z => c_22 z.1)]) ?_
          refine V.istore hC dX13_unfit_53 [some (.ref m), some (.int (nI k)), some (.int (nI T)), some (.int (nI S)), some (.int (nI (unf S (svn (sSh s k)) T (b + 1)))), some (.int (nI b))] (Nat.le_of_ble_eq_true rfl) rfl ?_
          refine V.iincN hC b 1 dX13_unfit_55 rfl [some (.ref m), some (.int (nI k)), some (.int (nI T)), some (.int (nI S)), some (.int (nI (unf S (svn (sSh s k)) T (b + 1)))), some (.int (nI (b + 1)))] (Nat.le_of_ble_eq_true rfl) rfl rfl rfl ?_
          refine V.goto hC 6 dX13_unfit_58 rfl ?_
          exact ih6 (b + 1) (by omega) (by omega)
        · refine V.aload_n hC (x := m) dX13_unfit_25 rfl ?_
          refine V.iload_n hC (x := nI k) dX13_unfit_26 rfl ?_
          refine V.iload_n hC (x := nI S) dX13_unfit_27 rfl ?_
          refine V.iload hC (x := nI b) dX13_unfit_28 rfl ?_
          refine V.iconst hC 1 dX13_unfit_30 rfl ?_
          refine V.iaddN hC b 1 dX13_unfit_31 rfl rfl ?_
          refine V.callVr (n := 3) (As := [.int (nI k), .int (nI S), .int (nI (b + 1))]) (rest := [.int (nI (unf S (svn (sSh s k)) T b))]) hC (m_valueAt (kl K) G m nw bf sv hy tx li nmb iS rmb eA fA tyd ldd thr siz spt wrg tld σ s B hR hI hB k hk S hS hH (b + 1) (by omega)) SFk0 SFgo0 gX13_unfit_X13_valueAt rfl ⟨rfl, rfl⟩ (by decide +kernel) ⟨by decide, by decide, by decide, by decide⟩ [0, 1] rfl (by decide) rfl rfl rfl rfl (Nat.le_of_ble_eq_true rfl) dX13_unfit_32 (fun r_32 u_32 hp_32 => ?_)
          subst hp_32
          show V G K 6 0 0 35 [some (.ref m), some (.int (nI k)), some (.int (nI T)), some (.int (nI S)), some (.int (nI (unf S (svn (sSh s k)) T b))), some (.int (nI b))] [.int (nI (lagS S (svn (sSh s k)) (b + 1))), .int (nI (unf S (svn (sSh s k)) T b))] [(m, .inr (13, [.ref nw, .ref bf, .ref sv, .ref hy, .int iS, .int rmb, .int eA, .int fA, .ref tx, .int tyd, .ref li, .int ldd, .int thr, .int siz, .int spt, .int wrg, .int tld, .ref nmb])), (nw, .inl (gI G, 72, .inl σ))]
          refine V.aload_n hC (x := m) dX13_unfit_35 rfl ?_
          refine V.iload_n hC (x := nI k) dX13_unfit_36 rfl ?_
          refine V.iconst hC 2 dX13_unfit_37 rfl ?_
          refine V.iload hC (x := nI b) dX13_unfit_38 rfl ?_
          refine V.iaddN hC 2 b dX13_unfit_40 rfl rfl ?_
          refine V.callVr (n := 2) (As := [.int (nI k), .int (nI (2 + b))]) (rest := [.int (nI (lagS S (svn (sSh s k)) (b + 1))), .int (nI (unf S (svn (sSh s k)) T b))]) hC (m_of (kl K) G m nw bf sv hy tx li nmb iS rmb eA fA tyd ldd thr siz spt wrg tld σ k (by omega) (2 + b) (by omega)) SFk0 SFgo0 gX13_unfit_X13_of rfl ⟨rfl, rfl⟩ (by decide +kernel) ⟨by decide, by decide, by decide, by decide⟩ [0, 1] rfl (by decide) rfl rfl rfl rfl (Nat.le_of_ble_eq_true rfl) dX13_unfit_41 (fun r_41 u_41 hp_41 => ?_)
          have hq_41 := hp_41.trans ((show σ (12 + 10 * k + (2 + b)) = sSh s k b by rw [show 12 + 10 * k + (2 + b) = 14 + 10 * k + b by omega]; exact (hR.2.2.2.2.2 k hk).2.2 b (by omega)).trans (hHT b (by omega) c_22).1)
          subst hq_41
          show V G K 6 0 0 44 [some (.ref m), some (.int (nI k)), some (.int (nI T)), some (.int (nI S)), some (.int (nI (unf S (svn (sSh s k)) T b))), some (.int (nI b))] [.int (nI (svn (sSh s k) b)), .int (nI (lagS S (svn (sSh s k)) (b + 1))), .int (nI (unf S (svn (sSh s k)) T b))] [(m, .inr (13, [.ref nw, .ref bf, .ref sv, .ref hy, .int iS, .int rmb, .int eA, .int fA, .ref tx, .int tyd, .ref li, .int ldd, .int thr, .int siz, .int spt, .int wrg, .int tld, .ref nmb])), (nw, .inl (gI G, 72, .inl σ))]
          have hl97 := lagS_lt S (svn (sSh s k)) (b + 1)
          have hs97 := (hHT b (by omega) c_22).2
          refine V.icmpN_eq hC (lagS S (svn (sSh s k)) (b + 1)) (svn (sSh s k) b) 51 dX13_unfit_44 rfl rfl rfl (by omega) (by omega) (fun c_44 => ?_) (fun c_44 => ?_)
          · refine V.iconst hC 0 dX13_unfit_51 rfl ?_
            refine V.iaddN hC (unf S (svn (sSh s k)) T b) 0 dX13_unfit_52 rfl rfl ?_
            refine V.topeq (nI (unf S (svn (sSh s k)) T (b + 1))) (by rw [unf_s, if_neg (fun z => z.2 c_44)]) ?_
            refine V.istore hC dX13_unfit_53 [some (.ref m), some (.int (nI k)), some (.int (nI T)), some (.int (nI S)), some (.int (nI (unf S (svn (sSh s k)) T (b + 1)))), some (.int (nI b))] (Nat.le_of_ble_eq_true rfl) rfl ?_
            refine V.iincN hC b 1 dX13_unfit_55 rfl [some (.ref m), some (.int (nI k)), some (.int (nI T)), some (.int (nI S)), some (.int (nI (unf S (svn (sSh s k)) T (b + 1)))), some (.int (nI (b + 1)))] (Nat.le_of_ble_eq_true rfl) rfl rfl rfl ?_
            refine V.goto hC 6 dX13_unfit_58 rfl ?_
            exact ih6 (b + 1) (by omega) (by omega)
          · refine V.iconst hC 1 dX13_unfit_47 rfl ?_
            refine V.goto hC 52 dX13_unfit_48 rfl ?_
            refine V.iaddN hC (unf S (svn (sSh s k)) T b) 1 dX13_unfit_52 rfl rfl ?_
            refine V.topeq (nI (unf S (svn (sSh s k)) T (b + 1))) (by rw [unf_s, if_pos ⟨c_22, c_44⟩]) ?_
            refine V.istore hC dX13_unfit_53 [some (.ref m), some (.int (nI k)), some (.int (nI T)), some (.int (nI S)), some (.int (nI (unf S (svn (sSh s k)) T (b + 1)))), some (.int (nI b))] (Nat.le_of_ble_eq_true rfl) rfl ?_
            refine V.iincN hC b 1 dX13_unfit_55 rfl [some (.ref m), some (.int (nI k)), some (.int (nI T)), some (.int (nI S)), some (.int (nI (unf S (svn (sSh s k)) T (b + 1)))), some (.int (nI (b + 1)))] (Nat.le_of_ble_eq_true rfl) rfl rfl rfl ?_
            refine V.goto hC 6 dX13_unfit_58 rfl ?_
            exact ih6 (b + 1) (by omega) (by omega)
  exact loop6 _ 0 (Nat.lt_succ_self _) (by omega)
