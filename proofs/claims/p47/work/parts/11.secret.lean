/-! Integer.bitCount over sets of eight; Residues; Secret (printed by gen/s11.py) -/
def bc1 (x : Int32) : Int32 := x - (((x.toUInt32 >>> ((1 : Int32).toUInt32 &&& Int32.toUInt32 31)).toInt32) &&& 1431655765)
def bc2 (x : Int32) : Int32 := (x &&& 858993459) + (((x.toUInt32 >>> ((2 : Int32).toUInt32 &&& Int32.toUInt32 31)).toInt32) &&& 858993459)
def bc3 (x : Int32) : Int32 := (x + ((x.toUInt32 >>> ((4 : Int32).toUInt32 &&& Int32.toUInt32 31)).toInt32)) &&& 252645135
def bc4 (x : Int32) : Int32 := x + ((x.toUInt32 >>> ((8 : Int32).toUInt32 &&& Int32.toUInt32 31)).toInt32)
def bc5 (x : Int32) : Int32 := x + ((x.toUInt32 >>> ((16 : Int32).toUInt32 &&& Int32.toUInt32 31)).toInt32)
set_option maxRecDepth 100000 in
theorem bc8 : ∀ x, x < 256 → bc5 (bc4 (bc3 (bc2 (bc1 (nI x))))) &&& 63 = nI (pop8 x) := by decide +kernel
set_option maxHeartbeats 4000000 in
set_option maxRecDepth 100000 in
theorem c_bitCount (l : Launch) (G : Gx) (x : Nat) (hx : x < 256) : Ct l G SF0 yJ6_bitCount_0f7a4 wsJ6_bitCount_0f7a4 ({ frames := 0, cells := 0, slots := 0, locals := 0 }) [.int (nI x)] [] mkI (fun (r : Int32) (_ : Unit) => r = nI (pop8 x)) (fun _ : Unit => []) 0 0 := by
  refine Ct.ofI (cc := cJ6_bitCount_0f7a4) (maxL := 1) (by decide) rfl ⟨by simp [Value.category], Nat.le_of_ble_eq_true rfl⟩ ?_
  intro K hl hC hSF hnm hE
  subst hl
  have q0_ : Cond.constant RJ6 265 (1431655765) ∈ wsJ6_bitCount_0f7a4 := by decide +kernel
  have q1_ : Cond.constant RJ6 266 (858993459) ∈ wsJ6_bitCount_0f7a4 := by decide +kernel
  have q2_ : Cond.constant RJ6 267 (252645135) ∈ wsJ6_bitCount_0f7a4 := by decide +kernel
  show V G K 1 0 0 0 [some (.int (nI x))] [] []
  refine V.iload_n hC (x := (nI x)) dJ6_bitCount_0f7a4_0 rfl ?_
  refine V.iload_n hC (x := (nI x)) dJ6_bitCount_0f7a4_1 rfl ?_
  refine V.iconst hC 1 dJ6_bitCount_0f7a4_2 rfl ?_
  refine V.iushr hC dJ6_bitCount_0f7a4_3 ?_
  refine V.ldcw hC 1431655765 dJ6_bitCount_0f7a4_4 q0_ ?_
  refine V.iand hC dJ6_bitCount_0f7a4_7 ?_
  refine V.isub hC dJ6_bitCount_0f7a4_8 ?_
  refine V.topeq (bc1 (nI x)) rfl ?_
  refine V.istore_n hC dJ6_bitCount_0f7a4_9 [some (.int (bc1 (nI x)))] (Nat.le_of_ble_eq_true rfl) rfl ?_
  refine V.iload_n hC (x := bc1 (nI x)) dJ6_bitCount_0f7a4_10 rfl ?_
  refine V.ldcw hC 858993459 dJ6_bitCount_0f7a4_11 q1_ ?_
  refine V.iand hC dJ6_bitCount_0f7a4_14 ?_
  refine V.iload_n hC (x := bc1 (nI x)) dJ6_bitCount_0f7a4_15 rfl ?_
  refine V.iconst hC 2 dJ6_bitCount_0f7a4_16 rfl ?_
  refine V.iushr hC dJ6_bitCount_0f7a4_17 ?_
  refine V.ldcw hC 858993459 dJ6_bitCount_0f7a4_18 q1_ ?_
  refine V.iand hC dJ6_bitCount_0f7a4_21 ?_
  refine V.iadd hC dJ6_bitCount_0f7a4_22 ?_
  refine V.topeq (bc2 (bc1 (nI x))) rfl ?_
  refine V.istore_n hC dJ6_bitCount_0f7a4_23 [some (.int (bc2 (bc1 (nI x))))] (Nat.le_of_ble_eq_true rfl) rfl ?_
  refine V.iload_n hC (x := bc2 (bc1 (nI x))) dJ6_bitCount_0f7a4_24 rfl ?_
  refine V.iload_n hC (x := bc2 (bc1 (nI x))) dJ6_bitCount_0f7a4_25 rfl ?_
  refine V.iconst hC 4 dJ6_bitCount_0f7a4_26 rfl ?_
  refine V.iushr hC dJ6_bitCount_0f7a4_27 ?_
  refine V.iadd hC dJ6_bitCount_0f7a4_28 ?_
  refine V.ldcw hC 252645135 dJ6_bitCount_0f7a4_29 q2_ ?_
  refine V.iand hC dJ6_bitCount_0f7a4_32 ?_
  refine V.topeq (bc3 (bc2 (bc1 (nI x)))) rfl ?_
  refine V.istore_n hC dJ6_bitCount_0f7a4_33 [some (.int (bc3 (bc2 (bc1 (nI x)))))] (Nat.le_of_ble_eq_true rfl) rfl ?_
  refine V.iload_n hC (x := bc3 (bc2 (bc1 (nI x)))) dJ6_bitCount_0f7a4_34 rfl ?_
  refine V.iload_n hC (x := bc3 (bc2 (bc1 (nI x)))) dJ6_bitCount_0f7a4_35 rfl ?_
  refine V.bipush hC 8 dJ6_bitCount_0f7a4_36 rfl ?_
  refine V.iushr hC dJ6_bitCount_0f7a4_38 ?_
  refine V.iadd hC dJ6_bitCount_0f7a4_39 ?_
  refine V.topeq (bc4 (bc3 (bc2 (bc1 (nI x))))) rfl ?_
  refine V.istore_n hC dJ6_bitCount_0f7a4_40 [some (.int (bc4 (bc3 (bc2 (bc1 (nI x))))))] (Nat.le_of_ble_eq_true rfl) rfl ?_
  refine V.iload_n hC (x := bc4 (bc3 (bc2 (bc1 (nI x))))) dJ6_bitCount_0f7a4_41 rfl ?_
  refine V.iload_n hC (x := bc4 (bc3 (bc2 (bc1 (nI x))))) dJ6_bitCount_0f7a4_42 rfl ?_
  refine V.bipush hC 16 dJ6_bitCount_0f7a4_43 rfl ?_
  refine V.iushr hC dJ6_bitCount_0f7a4_45 ?_
  refine V.iadd hC dJ6_bitCount_0f7a4_46 ?_
  refine V.topeq (bc5 (bc4 (bc3 (bc2 (bc1 (nI x)))))) rfl ?_
  refine V.istore_n hC dJ6_bitCount_0f7a4_47 [some (.int (bc5 (bc4 (bc3 (bc2 (bc1 (nI x)))))))] (Nat.le_of_ble_eq_true rfl) rfl ?_
  refine V.iload_n hC (x := bc5 (bc4 (bc3 (bc2 (bc1 (nI x)))))) dJ6_bitCount_0f7a4_48 rfl ?_
  refine V.bipush hC 63 dJ6_bitCount_0f7a4_49 rfl ?_
  refine V.iand hC dJ6_bitCount_0f7a4_51 ?_
  exact hE 52 _ ((bc5 (bc4 (bc3 (bc2 (bc1 (nI x)))))) &&& 63) () dJ6_bitCount_0f7a4_52 rfl (bc8 x hx)

set_option maxHeartbeats 4000000 in
set_option maxRecDepth 100000 in
theorem c_difference (l : Launch) (G : Gx) (a b : Nat) (ha : a < 1000000) (hb : b < 1000000) : Ct l G SF0 yX9_difference wsX9_difference ({ frames := 0, cells := 0, slots := 0, locals := 0 }) [.int (nI a), .int (nI b)] [] mkI (fun (r : Int32) (_ : Unit) => r = nI (dif97 a b)) (fun _ : Unit => []) 0 0 := by
  refine Ct.ofI (cc := cX9_difference) (maxL := 2) (by decide) rfl ⟨by simp [Value.category], Nat.le_of_ble_eq_true rfl⟩ ?_
  intro K hl hC hSF hnm hE
  subst hl
  show V G K 2 0 0 0 [some (.int (nI a)), some (.int (nI b))] [] []
  refine V.iload_n hC (x := nI a) dX9_difference_0 rfl ?_
  refine V.bipush hC 97 dX9_difference_1 rfl ?_
  refine V.iaddN hC a 97 dX9_difference_3 rfl rfl ?_
  refine V.iload_n hC (x := nI b) dX9_difference_4 rfl ?_
  refine V.bipush hC 97 dX9_difference_5 rfl ?_
  refine V.iremN hC b 97 dX9_difference_7 rfl rfl (by omega) (by decide) (by decide) ?_
  refine V.isubN hC (a + 97) (b % 97) dX9_difference_8 rfl rfl (by have := Nat.mod_lt b (show 0 < 97 by decide); omega) ?_
  refine V.bipush hC 97 dX9_difference_9 rfl ?_
  refine V.iremN hC ((a + 97) - (b % 97)) 97 dX9_difference_11 rfl rfl (by omega) (by decide) (by decide) ?_
  exact hE 12 _ (nI (((a + 97) - (b % 97)) % 97)) () dX9_difference_12 rfl rfl

set_option maxHeartbeats 4000000 in
set_option maxRecDepth 100000 in
theorem c_inverseOf (l : Launch) (G : Gx) (a : Nat) (ha : a < 1000000) : Ct l G SF0 yX9_inverseOf wsX9_inverseOf ({ frames := 0, cells := 0, slots := 0, locals := 0 }) [.int (nI a)] [] mkI (fun (r : Int32) (_ : Unit) => r = nI (inv97 a)) (fun _ : Unit => []) 0 0 := by
  refine Ct.ofI (cc := cX9_inverseOf) (maxL := 4) (by decide) rfl ⟨by simp [Value.category], Nat.le_of_ble_eq_true rfl⟩ ?_
  intro K hl hC hSF hnm hE
  subst hl
  show V G K 4 0 0 0 [some (.int (nI a)), none, none, none] [] []
  refine V.iload_n hC (x := nI a) dX9_inverseOf_0 rfl ?_
  refine V.bipush hC 97 dX9_inverseOf_1 rfl ?_
  refine V.iremN hC a 97 dX9_inverseOf_3 rfl rfl (by omega) (by decide) (by decide) ?_
  refine V.istore_n hC dX9_inverseOf_4 [some (.int (nI a)), some (.int (nI (a % 97))), none, none] (Nat.le_of_ble_eq_true rfl) rfl ?_
  refine V.iconst hC 1 dX9_inverseOf_5 rfl ?_
  refine V.istore_n hC dX9_inverseOf_6 [some (.int (nI a)), some (.int (nI (a % 97))), some (.int 1), none] (Nat.le_of_ble_eq_true rfl) rfl ?_
  refine V.iconst hC 0 dX9_inverseOf_7 rfl ?_
  refine V.istore_n hC dX9_inverseOf_8 [some (.int (nI a)), some (.int (nI (a % 97))), some (.int 1), some (.int 0)] (Nat.le_of_ble_eq_true rfl) rfl ?_
  have loop9 : ∀ (n : Nat) (k : Nat), 8 - k < n → (k ≤ 7) → V G K 4 0 0 9 [some (.int (nI a)), some (.int (nI ((ivl a k).2))), some (.int (nI ((ivl a k).1))), some (.int (nI k))] [] [] := by
    intro n
    induction n with
    | zero => intro k hlt; exact absurd hlt (Nat.not_lt_zero _)
    | succ n ih9 =>
      intro k hlt9 hk
      have hv := ivl_lt a k
      refine V.iload_n hC (x := nI k) dX9_inverseOf_9 rfl ?_
      refine V.bipush hC 7 dX9_inverseOf_10 rfl ?_
      refine V.icmpN_ge hC k 7 45 dX9_inverseOf_12 rfl rfl rfl (by omega) (by omega) (fun c_12 => ?_) (fun c_12 => ?_)
      · refine V.iload_n hC (x := nI ((ivl a k).1)) dX9_inverseOf_45 rfl ?_
        exact hE 46 _ (nI ((ivl a k).1)) () dX9_inverseOf_46 rfl (congrArg (fun z => nI (ivl a z).1) (show k = 7 by omega))
      · refine V.bipush hC 95 dX9_inverseOf_15 rfl ?_
        refine V.iload_n hC (x := nI k) dX9_inverseOf_17 rfl ?_
        refine V.ishr hC dX9_inverseOf_18 ?_
        refine V.iconst hC 1 dX9_inverseOf_19 rfl ?_
        refine V.iand hC dX9_inverseOf_20 ?_
        refine V.topeq (nI (95 / 2 ^ k % 2)) (bit95 k (by omega)) ?_
        refine V.iconst hC 1 dX9_inverseOf_21 rfl ?_
        refine V.icmpN_ne hC (95 / 2 ^ k % 2) 1 32 dX9_inverseOf_22 rfl rfl rfl (r31 (by decide) (by decide)) (by omega) (fun c_22 => ?_) (fun c_22 => ?_)
        · refine V.iload_n hC (x := nI ((ivl a k).2)) dX9_inverseOf_32 rfl ?_
          refine V.iload_n hC (x := nI ((ivl a k).2)) dX9_inverseOf_33 rfl ?_
          refine V.imulN hC ((ivl a k).2) ((ivl a k).2) dX9_inverseOf_34 rfl rfl ?_
          refine V.bipush hC 97 dX9_inverseOf_35 rfl ?_
          refine V.iremN hC (((ivl a k).2) * ((ivl a k).2)) 97 dX9_inverseOf_37 rfl rfl (m31 (Nat.le_of_lt hv.2) (Nat.le_of_lt hv.2) (by decide)) (by decide) (by decide) ?_
          refine V.istore_n hC dX9_inverseOf_38 [some (.int (nI a)), some (.int (nI ((((ivl a k).2) * ((ivl a k).2)) % 97))), some (.int (nI ((ivl a k).1))), some (.int (nI k))] (Nat.le_of_ble_eq_true rfl) rfl ?_
          refine V.iincN hC k 1 dX9_inverseOf_39 rfl [some (.int (nI a)), some (.int (nI ((((ivl a k).2) * ((ivl a k).2)) % 97))), some (.int (nI ((ivl a k).1))), some (.int (nI (k + 1)))] (Nat.le_of_ble_eq_true rfl) rfl rfl rfl ?_
          refine V.lset 2 (x := .int (nI ((ivl a k).1))) (y := .int (nI ((ivl a (k + 1)).1))) (congrArg Value.int (congrArg nI (if_neg c_22).symm)) rfl (lv' := [some (.int (nI a)), some (.int (nI ((((ivl a k).2) * ((ivl a k).2)) % 97))), some (.int (nI ((ivl a (k + 1)).1))), some (.int (nI (k + 1)))]) rfl ?_
          refine V.goto hC 9 dX9_inverseOf_42 rfl ?_
          exact ih9 (k + 1) (by omega) (by omega)
        · refine V.iload_n hC (x := nI ((ivl a k).1)) dX9_inverseOf_25 rfl ?_
          refine V.iload_n hC (x := nI ((ivl a k).2)) dX9_inverseOf_26 rfl ?_
          refine V.imulN hC ((ivl a k).1) ((ivl a k).2) dX9_inverseOf_27 rfl rfl ?_
          refine V.bipush hC 97 dX9_inverseOf_28 rfl ?_
          refine V.iremN hC (((ivl a k).1) * ((ivl a k).2)) 97 dX9_inverseOf_30 rfl rfl (m31 (Nat.le_of_lt hv.1) (Nat.le_of_lt hv.2) (by decide)) (by decide) (by decide) ?_
          refine V.istore_n hC dX9_inverseOf_31 [some (.int (nI a)), some (.int (nI ((ivl a k).2))), some (.int (nI ((((ivl a k).1) * ((ivl a k).2)) % 97))), some (.int (nI k))] (Nat.le_of_ble_eq_true rfl) rfl ?_
          refine V.iload_n hC (x := nI ((ivl a k).2)) dX9_inverseOf_32 rfl ?_
          refine V.iload_n hC (x := nI ((ivl a k).2)) dX9_inverseOf_33 rfl ?_
          refine V.imulN hC ((ivl a k).2) ((ivl a k).2) dX9_inverseOf_34 rfl rfl ?_
          refine V.bipush hC 97 dX9_inverseOf_35 rfl ?_
          refine V.iremN hC (((ivl a k).2) * ((ivl a k).2)) 97 dX9_inverseOf_37 rfl rfl (m31 (Nat.le_of_lt hv.2) (Nat.le_of_lt hv.2) (by decide)) (by decide) (by decide) ?_
          refine V.istore_n hC dX9_inverseOf_38 [some (.int (nI a)), some (.int (nI ((((ivl a k).2) * ((ivl a k).2)) % 97))), some (.int (nI ((((ivl a k).1) * ((ivl a k).2)) % 97))), some (.int (nI k))] (Nat.le_of_ble_eq_true rfl) rfl ?_
          refine V.iincN hC k 1 dX9_inverseOf_39 rfl [some (.int (nI a)), some (.int (nI ((((ivl a k).2) * ((ivl a k).2)) % 97))), some (.int (nI ((((ivl a k).1) * ((ivl a k).2)) % 97))), some (.int (nI (k + 1)))] (Nat.le_of_ble_eq_true rfl) rfl rfl rfl ?_
          refine V.lset 2 (x := .int (nI ((((ivl a k).1) * ((ivl a k).2)) % 97))) (y := .int (nI ((ivl a (k + 1)).1))) (congrArg Value.int (congrArg nI (if_pos c_22).symm)) rfl (lv' := [some (.int (nI a)), some (.int (nI ((((ivl a k).2) * ((ivl a k).2)) % 97))), some (.int (nI ((ivl a (k + 1)).1))), some (.int (nI (k + 1)))]) rfl ?_
          refine V.goto hC 9 dX9_inverseOf_42 rfl ?_
          exact ih9 (k + 1) (by omega) (by omega)
  exact loop9 _ 0 (Nat.lt_succ_self _) (by omega)

set_option maxHeartbeats 4000000 in
set_option maxRecDepth 100000 in
theorem c_seededValue (l : Launch) (G : Gx) (c seed off th place : Nat) (hc : c < 97) (hs : seed < 97) (ho : off < 1000) (ht : 1 ≤ th) (ht4 : th ≤ 4) (hp : place ≤ 8) : Ct l G SF0 yX9_seededValue wsX9_seededValue ({ frames := 0, cells := 0, slots := 0, locals := 0 }) [.int (nI c), .int (nI seed), .int (nI off), .int (nI th), .int (nI place)] [] mkI (fun (r : Int32) (_ : Unit) => r = nI (spr c seed off place (th - 1)).1) (fun _ : Unit => []) 0 0 := by
  refine Ct.ofI (cc := cX9_seededValue) (maxL := 8) (by decide) rfl ⟨by simp [Value.category], Nat.le_of_ble_eq_true rfl⟩ ?_
  intro K hl hC hSF hnm hE
  subst hl
  show V G K 8 0 0 0 [some (.int (nI c)), some (.int (nI seed)), some (.int (nI off)), some (.int (nI th)), some (.int (nI place)), none, none, none] [] []
  refine V.iload_n hC (x := nI c) dX9_seededValue_0 rfl ?_
  refine V.istore hC dX9_seededValue_1 [some (.int (nI c)), some (.int (nI seed)), some (.int (nI off)), some (.int (nI th)), some (.int (nI place)), some (.int (nI c)), none, none] (Nat.le_of_ble_eq_true rfl) rfl ?_
  refine V.iconst hC 1 dX9_seededValue_3 rfl ?_
  refine V.istore hC dX9_seededValue_4 [some (.int (nI c)), some (.int (nI seed)), some (.int (nI off)), some (.int (nI th)), some (.int (nI place)), some (.int (nI c)), some (.int 1), none] (Nat.le_of_ble_eq_true rfl) rfl ?_
  refine V.iconst hC 1 dX9_seededValue_6 rfl ?_
  refine V.istore hC dX9_seededValue_7 [some (.int (nI c)), some (.int (nI seed)), some (.int (nI off)), some (.int (nI th)), some (.int (nI place)), some (.int (nI c)), some (.int 1), some (.int 1)] (Nat.le_of_ble_eq_true rfl) rfl ?_
  have loop9 : ∀ (n : Nat) (k : Nat), th - k < n → (k < th) → V G K 8 0 0 9 [some (.int (nI c)), some (.int (nI seed)), some (.int (nI off)), some (.int (nI th)), some (.int (nI place)), some (.int (nI ((spr c seed off place k).1))), some (.int (nI ((spr c seed off place k).2))), some (.int (nI (k + 1)))] [] [] := by
    intro n
    induction n with
    | zero => intro k hlt; exact absurd hlt (Nat.not_lt_zero _)
    | succ n ih9 =>
      intro k hlt9 hk
      have hv := spr_lt (seed := seed) (off := off) (place := place) hc k
      have hm := Nat.mul_le_mul (Nat.le_of_lt hs) (show k + 1 ≤ 5 by omega)
      have hq := Nat.mul_le_mul (Nat.le_of_lt (Nat.mod_lt (seed * (k + 1) + off) (show 0 < 97 by decide))) (Nat.le_of_lt (Nat.mod_lt ((spr c seed off place k).2 * place) (show 0 < 97 by decide)))
      refine V.iload hC (x := nI (k + 1)) dX9_seededValue_9 rfl ?_
      refine V.iload_n hC (x := nI th) dX9_seededValue_11 rfl ?_
      refine V.icmpN_ge hC (k + 1) th 51 dX9_seededValue_12 rfl rfl rfl (by omega) (by omega) (fun c_12 => ?_) (fun c_12 => ?_)
      · refine V.iload hC (x := nI ((spr c seed off place k).1)) dX9_seededValue_51 rfl ?_
        exact hE 53 _ (nI ((spr c seed off place k).1)) () dX9_seededValue_53 rfl (by rw [show th - 1 = k by omega])
      · refine V.iload hC (x := nI ((spr c seed off place k).2)) dX9_seededValue_15 rfl ?_
        refine V.iload hC (x := nI place) dX9_seededValue_17 rfl ?_
        refine V.imulN hC ((spr c seed off place k).2) place dX9_seededValue_19 rfl rfl ?_
        refine V.bipush hC 97 dX9_seededValue_20 rfl ?_
        refine V.iremN hC (((spr c seed off place k).2) * place) 97 dX9_seededValue_22 rfl rfl (m31 (Nat.le_of_lt hv.2) hp (by decide)) (by decide) (by decide) ?_
        refine V.istore hC dX9_seededValue_23 [some (.int (nI c)), some (.int (nI seed)), some (.int (nI off)), some (.int (nI th)), some (.int (nI place)), some (.int (nI ((spr c seed off place k).1))), some (.int (nI ((((spr c seed off place k).2) * place) % 97))), some (.int (nI (k + 1)))] (Nat.le_of_ble_eq_true rfl) rfl ?_
        refine V.iload hC (x := nI ((spr c seed off place k).1)) dX9_seededValue_25 rfl ?_
        refine V.iload_n hC (x := nI seed) dX9_seededValue_27 rfl ?_
        refine V.iload hC (x := nI (k + 1)) dX9_seededValue_28 rfl ?_
        refine V.imulN hC seed (k + 1) dX9_seededValue_30 rfl rfl ?_
        refine V.iload_n hC (x := nI off) dX9_seededValue_31 rfl ?_
        refine V.iaddN hC (seed * (k + 1)) off dX9_seededValue_32 rfl rfl ?_
        refine V.bipush hC 97 dX9_seededValue_33 rfl ?_
        refine V.iremN hC ((seed * (k + 1)) + off) 97 dX9_seededValue_35 rfl rfl (by omega) (by decide) (by decide) ?_
        refine V.iload hC (x := nI ((((spr c seed off place k).2) * place) % 97)) dX9_seededValue_36 rfl ?_
        refine V.imulN hC (((seed * (k + 1)) + off) % 97) ((((spr c seed off place k).2) * place) % 97) dX9_seededValue_38 rfl rfl ?_
        refine V.iaddN hC ((spr c seed off place k).1) ((((seed * (k + 1)) + off) % 97) * ((((spr c seed off place k).2) * place) % 97)) dX9_seededValue_39 rfl rfl ?_
        refine V.bipush hC 97 dX9_seededValue_40 rfl ?_
        refine V.iremN hC (((spr c seed off place k).1) + ((((seed * (k + 1)) + off) % 97) * ((((spr c seed off place k).2) * place) % 97))) 97 dX9_seededValue_42 rfl rfl (by omega) (by decide) (by decide) ?_
        refine V.istore hC dX9_seededValue_43 [some (.int (nI c)), some (.int (nI seed)), some (.int (nI off)), some (.int (nI th)), some (.int (nI place)), some (.int (nI ((((spr c seed off place k).1) + ((((seed * (k + 1)) + off) % 97) * ((((spr c seed off place k).2) * place) % 97))) % 97))), some (.int (nI ((((spr c seed off place k).2) * place) % 97))), some (.int (nI (k + 1)))] (Nat.le_of_ble_eq_true rfl) rfl ?_
        refine V.iincN hC (k + 1) 1 dX9_seededValue_45 rfl [some (.int (nI c)), some (.int (nI seed)), some (.int (nI off)), some (.int (nI th)), some (.int (nI place)), some (.int (nI ((((spr c seed off place k).1) + ((((seed * (k + 1)) + off) % 97) * ((((spr c seed off place k).2) * place) % 97))) % 97))), some (.int (nI ((((spr c seed off place k).2) * place) % 97))), some (.int (nI (k + 1 + 1)))] (Nat.le_of_ble_eq_true rfl) rfl rfl rfl ?_
        refine V.goto hC 9 dX9_seededValue_48 rfl ?_
        exact ih9 (k + 1) (by omega) (by omega)
  exact loop9 _ 0 (Nat.lt_succ_self _) (by omega)

set_option maxHeartbeats 4000000 in
set_option maxRecDepth 100000 in
theorem c_ownNumber (l : Launch) (G : Gx) (h a : Nat) (sh : Nat → Int32) (nu th : Int32) : Ct l G SF0 yX10_ownNumber wsX10_ownNumber ({ frames := 0, cells := 0, slots := 0, locals := 0 }) [.ref h] [(h, .inr (10, [.ref a, .int nu, .int th])), (a, .inl (gI G, 8, .inl sh))] mkI (fun (r : Int32) (_ : Unit) => r = nu) (fun _ : Unit => [(h, .inr (10, [.ref a, .int nu, .int th])), (a, .inl (gI G, 8, .inl sh))]) 0 0 := by
  refine Ct.ofI (cc := cX10_ownNumber) (maxL := 1) (by decide) rfl ⟨by simp [Value.category], Nat.le_of_ble_eq_true rfl⟩ ?_
  intro K hl hC hSF hnm hE
  subst hl
  have q0_ : ∀ w ∈ u_ws RX10 TX10 3, w ∈ wsX10_ownNumber := by decide +kernel
  have q1_ : Cond.fieldLink RX10 15 "FeatherShares$Secret" "number" "I" ∈ wsX10_ownNumber := by decide +kernel
  show V G K 1 0 0 0 [some (.ref h)] [] [(h, .inr (10, [.ref a, .int nu, .int th])), (a, .inl (gI G, 8, .inl sh))]
  refine V.aload_n hC (x := h) dX10_ownNumber_0 rfl ?_
  refine V.getf hC (T := TX10) q0_ 1 q1_ rfl (0) rfl rfl (by decide) (.int nu) rfl dX10_ownNumber_1 ?_
  exact hE 4 _ nu () dX10_ownNumber_4 rfl rfl

set_option maxHeartbeats 4000000 in
set_option maxRecDepth 100000 in
theorem c_need (l : Launch) (G : Gx) (h a : Nat) (sh : Nat → Int32) (nu th : Int32) : Ct l G SF0 yX10_need wsX10_need ({ frames := 0, cells := 0, slots := 0, locals := 0 }) [.ref h] [(h, .inr (10, [.ref a, .int nu, .int th])), (a, .inl (gI G, 8, .inl sh))] mkI (fun (r : Int32) (_ : Unit) => r = th) (fun _ : Unit => [(h, .inr (10, [.ref a, .int nu, .int th])), (a, .inl (gI G, 8, .inl sh))]) 0 0 := by
  refine Ct.ofI (cc := cX10_need) (maxL := 1) (by decide) rfl ⟨by simp [Value.category], Nat.le_of_ble_eq_true rfl⟩ ?_
  intro K hl hC hSF hnm hE
  subst hl
  have q0_ : ∀ w ∈ u_ws RX10 TX10 3, w ∈ wsX10_need := by decide +kernel
  have q1_ : Cond.fieldLink RX10 19 "FeatherShares$Secret" "threshold" "I" ∈ wsX10_need := by decide +kernel
  show V G K 1 0 0 0 [some (.ref h)] [] [(h, .inr (10, [.ref a, .int nu, .int th])), (a, .inl (gI G, 8, .inl sh))]
  refine V.aload_n hC (x := h) dX10_need_0 rfl ?_
  refine V.getf hC (T := TX10) q0_ 2 q1_ rfl (0) rfl rfl (by decide) (.int th) rfl dX10_need_1 ?_
  exact hE 4 _ th () dX10_need_4 rfl rfl

set_option maxHeartbeats 4000000 in
set_option maxRecDepth 100000 in
theorem c_isHeldBy (l : Launch) (G : Gx) (h a : Nat) (sh : Nat → Int32) (nu th : Int32) (b : Nat) (hb : b < 8) : Ct l G SF0 yX10_isHeldBy wsX10_isHeldBy ({ frames := 0, cells := 0, slots := 0, locals := 0 }) [.ref h, .int (nI b)] [(h, .inr (10, [.ref a, .int nu, .int th])), (a, .inl (gI G, 8, .inl sh))] mkI (fun (r : Int32) (_ : Unit) => r = if sh b = -1 then 0 else 1) (fun _ : Unit => [(h, .inr (10, [.ref a, .int nu, .int th])), (a, .inl (gI G, 8, .inl sh))]) 0 0 := by
  refine Ct.ofI (cc := cX10_isHeldBy) (maxL := 2) (by decide) rfl ⟨by simp [Value.category], Nat.le_of_ble_eq_true rfl⟩ ?_
  intro K hl hC hSF hnm hE
  subst hl
  have q0_ : ∀ w ∈ u_ws RX10 TX10 3, w ∈ wsX10_isHeldBy := by decide +kernel
  have q1_ : Cond.fieldLink RX10 9 "FeatherShares$Secret" "shares" "[I" ∈ wsX10_isHeldBy := by decide +kernel
  show V G K 2 0 0 0 [some (.ref h), some (.int (nI b))] [] [(h, .inr (10, [.ref a, .int nu, .int th])), (a, .inl (gI G, 8, .inl sh))]
  refine V.iload_n hC (x := nI b) dX10_isHeldBy_0 rfl ?_
  refine V.ifN_lt hC b 24 dX10_isHeldBy_1 rfl rfl (by omega) ?_
  refine V.iload_n hC (x := nI b) dX10_isHeldBy_4 rfl ?_
  refine V.bipush hC 8 dX10_isHeldBy_5 rfl ?_
  refine V.icmpN_ge hC b 8 24 dX10_isHeldBy_7 rfl rfl rfl (by omega) (by omega) (fun c_7 => ?_) (fun c_7 => ?_)
  · refine V.iconst hC 0 dX10_isHeldBy_24 rfl ?_
    exact hE 25 _ 0 () dX10_isHeldBy_25 rfl (absurd hb (by omega))
  · refine V.aload_n hC (x := h) dX10_isHeldBy_10 rfl ?_
    refine V.getf hC (T := TX10) q0_ 0 q1_ rfl (0) rfl rfl (by decide) (.ref a) rfl dX10_isHeldBy_11 ?_
    refine V.iload_n hC (x := nI b) dX10_isHeldBy_14 rfl ?_
    refine V.iald hC dX10_isHeldBy_15 (1) rfl b rfl (by omega) (by decide) ?_
    refine V.iconst hC (-1) dX10_isHeldBy_16 rfl ?_
    refine V.icmp_eq hC 24 dX10_isHeldBy_17 rfl (fun c_17 => ?_) (fun c_17 => ?_)
    · refine V.iconst hC 0 dX10_isHeldBy_24 rfl ?_
      exact hE 25 _ 0 () dX10_isHeldBy_25 rfl ((if_pos c_17).symm)
    · refine V.iconst hC 1 dX10_isHeldBy_20 rfl ?_
      refine V.goto hC 25 dX10_isHeldBy_21 rfl ?_
      exact hE 25 _ 1 () dX10_isHeldBy_25 rfl ((if_neg c_17).symm)

set_option maxHeartbeats 4000000 in
set_option maxRecDepth 100000 in
theorem c_shareWith (l : Launch) (G : Gx) (h a : Nat) (sh : Nat → Int32) (nu th : Int32) (b : Nat) (hb : b < 8) : Ct l G SF0 yX10_shareWith wsX10_shareWith ({ frames := 0, cells := 0, slots := 0, locals := 0 }) [.ref h, .int (nI b)] [(h, .inr (10, [.ref a, .int nu, .int th])), (a, .inl (gI G, 8, .inl sh))] mkI (fun (r : Int32) (_ : Unit) => r = sh b) (fun _ : Unit => [(h, .inr (10, [.ref a, .int nu, .int th])), (a, .inl (gI G, 8, .inl sh))]) 0 0 := by
  refine Ct.ofI (cc := cX10_shareWith) (maxL := 2) (by decide) rfl ⟨by simp [Value.category], Nat.le_of_ble_eq_true rfl⟩ ?_
  intro K hl hC hSF hnm hE
  subst hl
  have q0_ : ∀ w ∈ u_ws RX10 TX10 3, w ∈ wsX10_shareWith := by decide +kernel
  have q1_ : Cond.fieldLink RX10 9 "FeatherShares$Secret" "shares" "[I" ∈ wsX10_shareWith := by decide +kernel
  show V G K 2 0 0 0 [some (.ref h), some (.int (nI b))] [] [(h, .inr (10, [.ref a, .int nu, .int th])), (a, .inl (gI G, 8, .inl sh))]
  refine V.iload_n hC (x := nI b) dX10_shareWith_0 rfl ?_
  refine V.ifN_lt hC b 19 dX10_shareWith_1 rfl rfl (by omega) ?_
  refine V.iload_n hC (x := nI b) dX10_shareWith_4 rfl ?_
  refine V.bipush hC 8 dX10_shareWith_5 rfl ?_
  refine V.icmpN_ge hC b 8 19 dX10_shareWith_7 rfl rfl rfl (by omega) (by omega) (fun c_7 => ?_) (fun c_7 => ?_)
  · refine V.iconst hC (-1) dX10_shareWith_19 rfl ?_
    exact hE 20 _ (-1) () dX10_shareWith_20 rfl (absurd hb (by omega))
  · refine V.aload_n hC (x := h) dX10_shareWith_10 rfl ?_
    refine V.getf hC (T := TX10) q0_ 0 q1_ rfl (0) rfl rfl (by decide) (.ref a) rfl dX10_shareWith_11 ?_
    refine V.iload_n hC (x := nI b) dX10_shareWith_14 rfl ?_
    refine V.iald hC dX10_shareWith_15 (1) rfl b rfl (by omega) (by decide) ?_
    refine V.goto hC 20 dX10_shareWith_16 rfl ?_
    exact hE 20 _ (sh b) () dX10_shareWith_20 rfl rfl

set_option maxHeartbeats 4000000 in
set_option maxRecDepth 100000 in
theorem c_give (l : Launch) (G : Gx) (h a : Nat) (sh : Nat → Int32) (nu th : Int32) (b : Nat) (hb : b < 8) (x : Int32) : Ct l G SF0 yX10_give wsX10_give ({ frames := 0, cells := 0, slots := 0, locals := 0 }) [.ref h, .int (nI b), .int x] [(h, .inr (10, [.ref a, .int nu, .int th])), (a, .inl (gI G, 8, .inl sh))] mkV (fun (_ : Unit) (_ : Unit) => True) (fun _ : Unit => [(h, .inr (10, [.ref a, .int nu, .int th])), (a, .inl (gI G, 8, .inl (upd sh b x)))]) 0 0 := by
  refine Ct.ofV (cc := cX10_give) (maxL := 3) (by decide) rfl ⟨by simp [Value.category], Nat.le_of_ble_eq_true rfl⟩ ?_
  intro K hl hC hSF hnm hE
  subst hl
  have q0_ : ∀ w ∈ u_ws RX10 TX10 3, w ∈ wsX10_give := by decide +kernel
  have q1_ : Cond.fieldLink RX10 9 "FeatherShares$Secret" "shares" "[I" ∈ wsX10_give := by decide +kernel
  show V G K 3 0 0 0 [some (.ref h), some (.int (nI b)), some (.int x)] [] [(h, .inr (10, [.ref a, .int nu, .int th])), (a, .inl (gI G, 8, .inl sh))]
  refine V.iload_n hC (x := nI b) dX10_give_0 rfl ?_
  refine V.ifN_lt hC b 17 dX10_give_1 rfl rfl (by omega) ?_
  refine V.iload_n hC (x := nI b) dX10_give_4 rfl ?_
  refine V.bipush hC 8 dX10_give_5 rfl ?_
  refine V.icmpN_ge hC b 8 17 dX10_give_7 rfl rfl rfl (by omega) (by omega) (fun c_7 => ?_) (fun c_7 => ?_)
  · exact absurd hb (by omega)
  · refine V.aload_n hC (x := h) dX10_give_10 rfl ?_
    refine V.getf hC (T := TX10) q0_ 0 q1_ rfl (0) rfl rfl (by decide) (.ref a) rfl dX10_give_11 ?_
    refine V.iload_n hC (x := nI b) dX10_give_14 rfl ?_
    refine V.iload_n hC (x := x) dX10_give_15 rfl ?_
    refine V.iast hC dX10_give_16 (1) rfl b rfl (by omega) (by decide) [(h, .inr (10, [.ref a, .int nu, .int th])), (a, .inl (gI G, 8, .inl (upd sh b x)))] rfl ?_
    exact hE 17 _ () dX10_give_17 trivial

set_option maxHeartbeats 4000000 in
set_option maxRecDepth 100000 in
theorem c_firstHolders (l : Launch) (G : Gx) (h a : Nat) (sh : Nat → Int32) (nu th : Int32) (mo : Nat) (hm : mo ≤ 8) : Ct l G SF0 yX10_firstHolders wsX10_firstHolders ({ frames := 0, cells := 0, slots := 0, locals := 0 }) [.ref h, .int (nI mo)] [(h, .inr (10, [.ref a, .int nu, .int th])), (a, .inl (gI G, 8, .inl sh))] mkI (fun (r : Int32) (_ : Unit) => r = nI (fh sh mo 8)) (fun _ : Unit => [(h, .inr (10, [.ref a, .int nu, .int th])), (a, .inl (gI G, 8, .inl sh))]) 0 0 := by
  refine Ct.ofI (cc := cX10_firstHolders) (maxL := 5) (by decide) rfl ⟨by simp [Value.category], Nat.le_of_ble_eq_true rfl⟩ ?_
  intro K hl hC hSF hnm hE
  subst hl
  have q0_ : ∀ w ∈ u_ws RX10 TX10 3, w ∈ wsX10_firstHolders := by decide +kernel
  have q1_ : Cond.fieldLink RX10 9 "FeatherShares$Secret" "shares" "[I" ∈ wsX10_firstHolders := by decide +kernel
  show V G K 5 0 0 0 [some (.ref h), some (.int (nI mo)), none, none, none] [] [(h, .inr (10, [.ref a, .int nu, .int th])), (a, .inl (gI G, 8, .inl sh))]
  refine V.iconst hC 0 dX10_firstHolders_0 rfl ?_
  refine V.istore_n hC dX10_firstHolders_1 [some (.ref h), some (.int (nI mo)), some (.int 0), none, none] (Nat.le_of_ble_eq_true rfl) rfl ?_
  refine V.iconst hC 0 dX10_firstHolders_2 rfl ?_
  refine V.istore_n hC dX10_firstHolders_3 [some (.ref h), some (.int (nI mo)), some (.int 0), some (.int 0), none] (Nat.le_of_ble_eq_true rfl) rfl ?_
  refine V.iconst hC 0 dX10_firstHolders_4 rfl ?_
  refine V.istore hC dX10_firstHolders_5 [some (.ref h), some (.int (nI mo)), some (.int 0), some (.int 0), some (.int 0)] (Nat.le_of_ble_eq_true rfl) rfl ?_
  have loop7 : ∀ (n : Nat) (b : Nat), 9 - b < n → (b ≤ 8) → (hc sh b ≤ mo) → V G K 5 0 0 7 [some (.ref h), some (.int (nI mo)), some (.int (nI (fh sh mo b))), some (.int (nI (hc sh b))), some (.int (nI b))] [] [(h, .inr (10, [.ref a, .int nu, .int th])), (a, .inl (gI G, 8, .inl sh))] := by
    intro n
    induction n with
    | zero => intro b hlt; exact absurd hlt (Nat.not_lt_zero _)
    | succ n ih7 =>
      intro b hlt7 hb hh
      refine V.iload hC (x := nI b) dX10_firstHolders_7 rfl ?_
      refine V.bipush hC 8 dX10_firstHolders_9 rfl ?_
      refine V.icmpN_ge hC b 8 46 dX10_firstHolders_11 rfl rfl rfl (by omega) (by omega) (fun c_11 => ?_) (fun c_11 => ?_)
      · refine V.iload_n hC (x := nI (fh sh mo b)) dX10_firstHolders_46 rfl ?_
        exact hE 47 _ (nI (fh sh mo b)) () dX10_firstHolders_47 rfl (by rw [show b = 8 by omega])
      · refine V.iload_n hC (x := nI (hc sh b)) dX10_firstHolders_14 rfl ?_
        refine V.iload_n hC (x := nI mo) dX10_firstHolders_15 rfl ?_
        refine V.icmpN_ge hC (hc sh b) mo 46 dX10_firstHolders_16 rfl rfl rfl (by omega) (by omega) (fun c_16 => ?_) (fun c_16 => ?_)
        · refine V.iload_n hC (x := nI (fh sh mo b)) dX10_firstHolders_46 rfl ?_
          exact hE 47 _ (nI (fh sh mo b)) () dX10_firstHolders_47 rfl (by rw [fh_end hb (by omega)])
        · refine V.aload_n hC (x := h) dX10_firstHolders_19 rfl ?_
          refine V.getf hC (T := TX10) q0_ 0 q1_ rfl (0) rfl rfl (by decide) (.ref a) rfl dX10_firstHolders_20 ?_
          refine V.iload hC (x := nI b) dX10_firstHolders_23 rfl ?_
          refine V.iald hC dX10_firstHolders_25 (1) rfl b rfl (by omega) (by decide) ?_
          refine V.iconst hC (-1) dX10_firstHolders_26 rfl ?_
          refine V.icmp_eq hC 40 dX10_firstHolders_27 rfl (fun c_27 => ?_) (fun c_27 => ?_)
          · refine V.iincN hC b 1 dX10_firstHolders_40 rfl [some (.ref h), some (.int (nI mo)), some (.int (nI (fh sh mo b))), some (.int (nI (hc sh b))), some (.int (nI (b + 1)))] (Nat.le_of_ble_eq_true rfl) rfl rfl rfl ?_
            refine V.lset 2 (x := .int (nI (fh sh mo b))) (y := .int (nI (fh sh mo (b + 1)))) (congrArg Value.int (congrArg nI (fh_no c_27).symm)) rfl (lv' := [some (.ref h), some (.int (nI mo)), some (.int (nI (fh sh mo (b + 1)))), some (.int (nI (hc sh b))), some (.int (nI (b + 1)))]) rfl ?_
            refine V.lset 3 (x := .int (nI (hc sh b))) (y := .int (nI (hc sh (b + 1)))) (congrArg Value.int (congrArg nI (hc_no c_27).symm)) rfl (lv' := [some (.ref h), some (.int (nI mo)), some (.int (nI (fh sh mo (b + 1)))), some (.int (nI (hc sh (b + 1)))), some (.int (nI (b + 1)))]) rfl ?_
            refine V.goto hC 7 dX10_firstHolders_43 rfl ?_
            exact ih7 (b + 1) (by omega) (by omega) (by rw [hc_no c_27]; exact hh)
          · refine V.iload_n hC (x := nI (fh sh mo b)) dX10_firstHolders_30 rfl ?_
            refine V.iconst hC 1 dX10_firstHolders_31 rfl ?_
            refine V.iload hC (x := nI b) dX10_firstHolders_32 rfl ?_
            refine V.ishl hC dX10_firstHolders_34 ?_
            refine V.ior hC dX10_firstHolders_35 ?_
            refine V.topeq (nI (fh sh mo b + 2 ^ b)) (or_bit8 b (by omega) _ (fh_256 sh mo b hb) (fh_lt sh mo b)) ?_
            refine V.istore_n hC dX10_firstHolders_36 [some (.ref h), some (.int (nI mo)), some (.int (nI (fh sh mo b + 2 ^ b))), some (.int (nI (hc sh b))), some (.int (nI b))] (Nat.le_of_ble_eq_true rfl) rfl ?_
            refine V.iincN hC (hc sh b) 1 dX10_firstHolders_37 rfl [some (.ref h), some (.int (nI mo)), some (.int (nI (fh sh mo b + 2 ^ b))), some (.int (nI (hc sh b + 1))), some (.int (nI b))] (Nat.le_of_ble_eq_true rfl) rfl rfl rfl ?_
            refine V.iincN hC b 1 dX10_firstHolders_40 rfl [some (.ref h), some (.int (nI mo)), some (.int (nI (fh sh mo b + 2 ^ b))), some (.int (nI (hc sh b + 1))), some (.int (nI (b + 1)))] (Nat.le_of_ble_eq_true rfl) rfl rfl rfl ?_
            refine V.lset 2 (x := .int (nI (fh sh mo b + 2 ^ b))) (y := .int (nI (fh sh mo (b + 1)))) (congrArg Value.int (congrArg nI (fh_yes c_27 (by omega)).symm)) rfl (lv' := [some (.ref h), some (.int (nI mo)), some (.int (nI (fh sh mo (b + 1)))), some (.int (nI (hc sh b + 1))), some (.int (nI (b + 1)))]) rfl ?_
            refine V.lset 3 (x := .int (nI (hc sh b + 1))) (y := .int (nI (hc sh (b + 1)))) (congrArg Value.int (congrArg nI (hc_yes c_27).symm)) rfl (lv' := [some (.ref h), some (.int (nI mo)), some (.int (nI (fh sh mo (b + 1)))), some (.int (nI (hc sh (b + 1)))), some (.int (nI (b + 1)))]) rfl ?_
            refine V.goto hC 7 dX10_firstHolders_43 rfl ?_
            exact ih7 (b + 1) (by omega) (by omega) (by rw [hc_yes c_27]; omega)
  exact loop7 _ 0 (Nat.lt_succ_self _) (by omega) (Nat.zero_le _)

set_option maxHeartbeats 4000000 in
set_option maxRecDepth 100000 in
theorem c_holderTally (l : Launch) (G : Gx) (h a : Nat) (sh : Nat → Int32) (nu th : Int32) : Ct l G SF0 yX10_holderTally wsX10_holderTally ({ frames := 1, cells := 0, slots := 0, locals := 24 }) [.ref h] [(h, .inr (10, [.ref a, .int nu, .int th])), (a, .inl (gI G, 8, .inl sh))] mkI (fun (r : Int32) (_ : Unit) => r = nI (hc sh 8)) (fun _ : Unit => [(h, .inr (10, [.ref a, .int nu, .int th])), (a, .inl (gI G, 8, .inl sh))]) 0 0 := by
  refine Ct.ofI (cc := cX10_holderTally) (maxL := 1) (by decide) rfl ⟨by simp [Value.category], Nat.le_of_ble_eq_true rfl⟩ ?_
  intro K hl hC hSF hnm hE
  subst hl
  show V G K 1 0 0 0 [some (.ref h)] [] [(h, .inr (10, [.ref a, .int nu, .int th])), (a, .inl (gI G, 8, .inl sh))]
  refine V.aload_n hC (x := h) dX10_holderTally_0 rfl ?_
  refine V.bipush hC 8 dX10_holderTally_1 rfl ?_
  refine V.callVr (n := 1) (As := [.int 8]) (rest := []) hC (c_firstHolders (kl K) G h a sh nu th 8 (by decide)) SFk0 SFgo0 gX10_holderTally_X10_firstHolders rfl ⟨rfl, rfl⟩ (by decide +kernel) ⟨by decide, by decide, by decide, by decide⟩ [0, 1] rfl (by decide) rfl rfl rfl rfl (Nat.le_of_ble_eq_true rfl) dX10_holderTally_3 (fun r_3 u_3 hp_3 => ?_)
  subst hp_3
  show V G K 1 0 0 6 [some (.ref h)] [.int (nI (fh sh 8 8))] [(h, .inr (10, [.ref a, .int nu, .int th])), (a, .inl (gI G, 8, .inl sh))]
  refine V.callSr (n := 1) (As := [.int (nI (fh sh 8 8))]) (rest := []) hC (c_bitCount (kl K) G (fh sh 8 8) (fh_256 sh 8 8 (by decide))) SFk0 SFgo0 gX10_holderTally_J6_bitCount_0f7a4 rfl ⟨rfl, rfl⟩ (by decide +kernel) ⟨by decide, by decide, by decide, by decide⟩ [] rfl (by decide) rfl rfl (Nat.le_of_ble_eq_true rfl) dX10_holderTally_6 (fun r_6 u_6 hp_6 => ?_)
  subst hp_6
  show V G K 1 0 0 9 [some (.ref h)] [.int (nI (pop8 (fh sh 8 8)))] [(h, .inr (10, [.ref a, .int nu, .int th])), (a, .inl (gI G, 8, .inl sh))]
  exact hE 9 _ (nI (pop8 (fh sh 8 8))) () dX10_holderTally_9 rfl (by rw [pop_fh8])

set_option maxHeartbeats 4000000 in
set_option maxRecDepth 100000 in
theorem c_isRebuildable (l : Launch) (G : Gx) (h a : Nat) (sh : Nat → Int32) (nu : Int32) (t : Nat) (ht : t ≤ 4) : Ct l G SF0 yX10_isRebuildable wsX10_isRebuildable ({ frames := 2, cells := 0, slots := 0, locals := 44 }) [.ref h] [(h, .inr (10, [.ref a, .int nu, .int (nI t)])), (a, .inl (gI G, 8, .inl sh))] mkI (fun (r : Int32) (_ : Unit) => r = if t ≤ hc sh 8 then 1 else 0) (fun _ : Unit => [(h, .inr (10, [.ref a, .int nu, .int (nI t)])), (a, .inl (gI G, 8, .inl sh))]) 0 0 := by
  have hc8 := hc_le sh 8
  refine Ct.ofI (cc := cX10_isRebuildable) (maxL := 1) (by decide) rfl ⟨by simp [Value.category], Nat.le_of_ble_eq_true rfl⟩ ?_
  intro K hl hC hSF hnm hE
  subst hl
  have q0_ : ∀ w ∈ u_ws RX10 TX10 3, w ∈ wsX10_isRebuildable := by decide +kernel
  have q1_ : Cond.fieldLink RX10 19 "FeatherShares$Secret" "threshold" "I" ∈ wsX10_isRebuildable := by decide +kernel
  show V G K 1 0 0 0 [some (.ref h)] [] [(h, .inr (10, [.ref a, .int nu, .int (nI t)])), (a, .inl (gI G, 8, .inl sh))]
  refine V.aload_n hC (x := h) dX10_isRebuildable_0 rfl ?_
  refine V.callVr (n := 0) (As := []) (rest := []) hC (c_holderTally (kl K) G h a sh nu (nI t)) SFk0 SFgo0 gX10_isRebuildable_X10_holderTally rfl ⟨rfl, rfl⟩ (by decide +kernel) ⟨by decide, by decide, by decide, by decide⟩ [0, 1] rfl (by decide) rfl rfl rfl rfl (Nat.le_of_ble_eq_true rfl) dX10_isRebuildable_1 (fun r_1 u_1 hp_1 => ?_)
  subst hp_1
  show V G K 1 0 0 4 [some (.ref h)] [.int (nI (hc sh 8))] [(h, .inr (10, [.ref a, .int nu, .int (nI t)])), (a, .inl (gI G, 8, .inl sh))]
  refine V.aload_n hC (x := h) dX10_isRebuildable_4 rfl ?_
  refine V.getf hC (T := TX10) q0_ 2 q1_ rfl (0) rfl rfl (by decide) (.int (nI t)) rfl dX10_isRebuildable_5 ?_
  refine V.icmpN_lt hC (hc sh 8) t 15 dX10_isRebuildable_8 rfl rfl rfl (by omega) (by omega) (fun c_8 => ?_) (fun c_8 => ?_)
  · refine V.iconst hC 0 dX10_isRebuildable_15 rfl ?_
    exact hE 16 _ 0 () dX10_isRebuildable_16 rfl ((if_neg (by omega)).symm)
  · refine V.iconst hC 1 dX10_isRebuildable_11 rfl ?_
    refine V.goto hC 16 dX10_isRebuildable_12 rfl ?_
    exact hE 16 _ 1 () dX10_isRebuildable_16 rfl ((if_pos c_8).symm)
