/-! the law's texts: StringBuilder, String (printed by gen/s60p.py) -/
/-- the sizes that the row of bytes may have -/
def capQ (m : Nat) : Prop := 16 ≤ m ∧ m ≤ 98
theorem capQ16 : capQ 16 := ⟨by decide, by decide⟩
set_option maxHeartbeats 4000000 in
set_option maxRecDepth 100000 in
theorem d_sbLatin (l : Launch) (G : Gx) (sb b cap : Nat) (f : Nat → Nat) (n : Nat) (ml : Int32) (hcap : capQ cap) (hn : n ≤ cap) (hf : ∀ j, f j < 128) : Ct l G (SFx G) yJ5_isLatin1_aae02 wsJ5_isLatin1_aae02 ({ frames := 0, cells := 0, slots := 0, locals := 0 }) [.ref sb] [(sb, .inr (1, [.ref b, .int 0, .int ml, .int (nI n)])), (b, .inl (gB G, cap, .inl (fun j => nI (f j))))] mkI (fun (r : Int32) (_ : Unit) => r = 1) (fun _ : Unit => [(sb, .inr (1, [.ref b, .int 0, .int ml, .int (nI n)])), (b, .inl (gB G, cap, .inl (fun j => nI (f j))))]) 0 0 := by
  refine Ct.ofI (cc := cJ5_isLatin1_aae02) (maxL := 1) (by decide) rfl ⟨by simp [Value.category], Nat.le_of_ble_eq_true rfl⟩ ?_
  intro K hl hC hSF hnm hE
  subst hl
  have hgo := SFgoS (SFx.k G) hSF
  have q0_ : Cond.fieldLink RJ5 18 "java/lang/String" "COMPACT_STRINGS" "Z" ∈ wsJ5_isLatin1_aae02 := by decide +kernel
  have q1_ : ∀ w ∈ u_ws RJ4 TJ4 4, w ∈ wsJ5_isLatin1_aae02 := by decide +kernel
  have q2_ : Cond.fieldLink RJ5 22 "java/lang/AbstractStringBuilder" "coder" "B" ∈ wsJ5_isLatin1_aae02 := by decide +kernel
  show V G K 1 0 0 0 [some (.ref sb)] [] [(sb, .inr (1, [.ref b, .int 0, .int ml, .int (nI n)])), (b, .inl (gB G, cap, .inl (fun j => nI (f j))))]
  refine V.gets hC (n := "COMPACT_STRINGS") hSF.2.2.2.2.2.2.2.2.2.2.1 q0_ rfl dJ5_isLatin1_aae02_0 ?_
  refine V.ifN_eq hC 1 17 dJ5_isLatin1_aae02_3 rfl rfl (by omega) (fun c_3 => ?_) (fun c_3 => ?_)
  · exact absurd c_3 (by decide)
  · refine V.aload_n hC (x := sb) dJ5_isLatin1_aae02_6 rfl ?_
    refine V.getf hC (T := TJ4) q1_ 1 q2_ rfl (0) rfl rfl (by decide) (.int 0) rfl dJ5_isLatin1_aae02_7 ?_
    refine V.ifN_ne hC 0 17 dJ5_isLatin1_aae02_10 rfl rfl (by omega) (fun c_10 => ?_) (fun c_10 => ?_)
    · exact absurd rfl c_10
    · refine V.iconst hC 1 dJ5_isLatin1_aae02_13 rfl ?_
      refine V.goto hC 18 dJ5_isLatin1_aae02_14 rfl ?_
      exact hE 18 _ 1 () dJ5_isLatin1_aae02_18 rfl rfl

set_option maxHeartbeats 4000000 in
set_option maxRecDepth 100000 in
theorem d_newLength (l : Launch) (G : Gx) (a m q : Nat) (ha : a < 1000) (hm : m < 1000) (hq : q < 1000) (h1 : 1 ≤ a + max m q) : Ct l G SF0 yJ8_newLength_cabcc wsJ8_newLength_cabcc ({ frames := 1, cells := 0, slots := 0, locals := 14 }) [.int (nI a), .int (nI m), .int (nI q)] [] mkI (fun (r : Int32) (_ : Unit) => r = nI (a + max m q)) (fun _ : Unit => []) 0 0 := by
  refine Ct.ofI (cc := cJ8_newLength_cabcc) (maxL := 4) (by decide) rfl ⟨by simp [Value.category], Nat.le_of_ble_eq_true rfl⟩ ?_
  intro K hl hC hSF hnm hE
  subst hl
  have q0_ : Cond.methodLink RJ8 194 Lib.Math.max.name ∈ wsJ8_newLength_cabcc := by decide +kernel
  have q1_ : Cond.static Lib.Math.max.name ∈ wsJ8_newLength_cabcc := by decide +kernel
  have q2_ : Cond.initialized "java/lang/Math" ∈ wsJ8_newLength_cabcc := by decide +kernel
  have q3_ : Cond.code Lib.Math.max.name Lib.Math.max.code 2 (some .int) ∈ wsJ8_newLength_cabcc := by decide +kernel
  have q4_ : Cond.constant RJ8 200 (2147483639) ∈ wsJ8_newLength_cabcc := by decide +kernel
  show V G K 4 0 0 0 [some (.int (nI a)), some (.int (nI m)), some (.int (nI q)), none] [] []
  refine V.iload_n hC (x := nI a) dJ8_newLength_cabcc_0 rfl ?_
  refine V.iload_n hC (x := nI m) dJ8_newLength_cabcc_1 rfl ?_
  refine V.iload_n hC (x := nI q) dJ8_newLength_cabcc_2 rfl ?_
  refine V.mmax hC q0_ q1_ q2_ q3_ ⟨Nat.le_of_ble_eq_true rfl, Nat.le_of_ble_eq_true rfl, Nat.le_of_ble_eq_true rfl, Nat.le_of_ble_eq_true rfl⟩ dJ8_newLength_cabcc_3 ?_
  refine V.topeq (nI (max m q)) (by rcases Nat.lt_or_ge m q with z | z; rw [if_pos (nI_lt z (by omega)), Nat.max_eq_right (Nat.le_of_lt z)]; rw [if_neg (nI_nlt z (by omega)), Nat.max_eq_left z]) ?_
  refine V.iaddN hC a (max m q) dJ8_newLength_cabcc_6 rfl rfl ?_
  refine V.istore_n hC dJ8_newLength_cabcc_7 [some (.int (nI a)), some (.int (nI m)), some (.int (nI q)), some (.int (nI (a + (max m q))))] (Nat.le_of_ble_eq_true rfl) rfl ?_
  refine V.iconst hC 0 dJ8_newLength_cabcc_8 rfl ?_
  refine V.iload_n hC (x := nI (a + (max m q))) dJ8_newLength_cabcc_9 rfl ?_
  refine V.icmpN_ge hC 0 (a + (max m q)) 21 dJ8_newLength_cabcc_10 rfl rfl rfl (by omega) (by omega) (fun c_10 => ?_) (fun c_10 => ?_)
  · exact absurd c_10 (by omega)
  · refine V.iload_n hC (x := nI (a + (max m q))) dJ8_newLength_cabcc_13 rfl ?_
    refine V.ldc hC 2147483639 dJ8_newLength_cabcc_14 q4_ ?_
    refine V.icmpN_gt hC (a + (max m q)) 2147483639 21 dJ8_newLength_cabcc_16 rfl rfl rfl (by omega) (by omega) (fun c_16 => ?_) (fun c_16 => ?_)
    · exact absurd c_16 (by omega)
    · refine V.iload_n hC (x := nI (a + (max m q))) dJ8_newLength_cabcc_19 rfl ?_
      exact hE 20 _ (nI (a + (max m q))) () dJ8_newLength_cabcc_20 rfl rfl

set_option maxHeartbeats 4000000 in
set_option maxRecDepth 100000 in
theorem d_newCapacity (l : Launch) (G : Gx) (sb b cap : Nat) (f : Nat → Nat) (n : Nat) (ml : Int32) (hcap : capQ cap) (hn : n ≤ cap) (hf : ∀ j, f j < 128) (q : Nat) (h1 : cap < q) (h2 : q ≤ 49) : Ct l G (SFx G) yJ5_newCapacity_0f7a4 wsJ5_newCapacity_0f7a4 ({ frames := 2, cells := 0, slots := 0, locals := 37 }) [.ref sb, .int (nI q)] [(sb, .inr (1, [.ref b, .int 0, .int ml, .int (nI n)])), (b, .inl (gB G, cap, .inl (fun j => nI (f j))))] mkI (fun (r : Int32) (_ : Unit) => r = nI (cap + max (q - cap) (cap + 2))) (fun _ : Unit => [(sb, .inr (1, [.ref b, .int 0, .int ml, .int (nI n)])), (b, .inl (gB G, cap, .inl (fun j => nI (f j))))]) 0 0 := by
  refine Ct.ofI (cc := cJ5_newCapacity_0f7a4) (maxL := 6) (by decide) rfl ⟨by simp [Value.category], Nat.le_of_ble_eq_true rfl⟩ ?_
  intro K hl hC hSF hnm hE
  subst hl
  have hgo := SFgoS (SFx.k G) hSF
  have q0_ : ∀ w ∈ u_ws RJ4 TJ4 4, w ∈ wsJ5_newCapacity_0f7a4 := by decide +kernel
  have q1_ : Cond.fieldLink RJ5 15 "java/lang/AbstractStringBuilder" "value" "[B" ∈ wsJ5_newCapacity_0f7a4 := by decide +kernel
  have q2_ : Cond.fieldLink RJ5 22 "java/lang/AbstractStringBuilder" "coder" "B" ∈ wsJ5_newCapacity_0f7a4 := by decide +kernel
  have q3_ : Cond.constant RJ5 39 (2147483647) ∈ wsJ5_newCapacity_0f7a4 := by decide +kernel
  show V G K 6 0 0 0 [some (.ref sb), some (.int (nI q)), none, none, none, none] [] [(sb, .inr (1, [.ref b, .int 0, .int ml, .int (nI n)])), (b, .inl (gB G, cap, .inl (fun j => nI (f j))))]
  have hcl := hcap.2
  have hcg := hcap.1
  refine V.aload_n hC (x := sb) dJ5_newCapacity_0f7a4_0 rfl ?_
  refine V.getf hC (T := TJ4) q0_ 0 q1_ rfl (0) rfl rfl (by decide) (.ref b) rfl dJ5_newCapacity_0f7a4_1 ?_
  refine V.alen hC dJ5_newCapacity_0f7a4_4 (1) 6 rfl rfl (nI cap) rfl ?_
  refine V.istore_n hC dJ5_newCapacity_0f7a4_5 [some (.ref sb), some (.int (nI q)), some (.int (nI cap)), none, none, none] (Nat.le_of_ble_eq_true rfl) rfl ?_
  refine V.iload_n hC (x := nI q) dJ5_newCapacity_0f7a4_6 rfl ?_
  refine V.aload_n hC (x := sb) dJ5_newCapacity_0f7a4_7 rfl ?_
  refine V.getf hC (T := TJ4) q0_ 1 q2_ rfl (0) rfl rfl (by decide) (.int 0) rfl dJ5_newCapacity_0f7a4_8 ?_
  refine V.ishl hC dJ5_newCapacity_0f7a4_11 ?_
  refine V.topeq (nI q) (shl_0 (by omega)) ?_
  refine V.istore_n hC dJ5_newCapacity_0f7a4_12 [some (.ref sb), some (.int (nI q)), some (.int (nI cap)), some (.int (nI q)), none, none] (Nat.le_of_ble_eq_true rfl) rfl ?_
  refine V.iload_n hC (x := nI q) dJ5_newCapacity_0f7a4_13 rfl ?_
  refine V.iload_n hC (x := nI cap) dJ5_newCapacity_0f7a4_14 rfl ?_
  refine V.isubN hC q cap dJ5_newCapacity_0f7a4_15 rfl rfl (by omega) ?_
  refine V.istore hC dJ5_newCapacity_0f7a4_16 [some (.ref sb), some (.int (nI q)), some (.int (nI cap)), some (.int (nI q)), some (.int (nI (q - cap))), none] (Nat.le_of_ble_eq_true rfl) rfl ?_
  refine V.iload_n hC (x := nI cap) dJ5_newCapacity_0f7a4_18 rfl ?_
  refine V.iload hC (x := nI (q - cap)) dJ5_newCapacity_0f7a4_19 rfl ?_
  refine V.iload_n hC (x := nI cap) dJ5_newCapacity_0f7a4_21 rfl ?_
  refine V.iconst hC 2 dJ5_newCapacity_0f7a4_22 rfl ?_
  refine V.aload_n hC (x := sb) dJ5_newCapacity_0f7a4_23 rfl ?_
  refine V.getf hC (T := TJ4) q0_ 1 q2_ rfl (0) rfl rfl (by decide) (.int 0) rfl dJ5_newCapacity_0f7a4_24 ?_
  refine V.ishl hC dJ5_newCapacity_0f7a4_27 ?_
  refine V.topeq (nI 2) (by decide) ?_
  refine V.iaddN hC cap 2 dJ5_newCapacity_0f7a4_28 rfl rfl ?_
  refine V.callSr (n := 3) (As := [.int (nI cap), .int (nI (q - cap)), .int (nI (cap + 2))]) (rest := []) hC (d_newLength (kl K) G cap (q - cap) (cap + 2) (by omega) (by omega) (by omega) (by omega)) SFk0 SFgo0 gJ5_newCapacity_0f7a4_J8_newLength_cabcc rfl ⟨rfl, rfl⟩ (by decide +kernel) ⟨by decide, by decide, by decide, by decide⟩ [] rfl (by decide) rfl rfl (Nat.le_of_ble_eq_true rfl) dJ5_newCapacity_0f7a4_29 (fun r_29 u_29 hp_29 => ?_)
  subst hp_29
  show V G K 6 0 0 32 [some (.ref sb), some (.int (nI q)), some (.int (nI cap)), some (.int (nI q)), some (.int (nI (q - cap))), none] [.int (nI (cap + max (q - cap) (cap + 2)))] [(sb, .inr (1, [.ref b, .int 0, .int ml, .int (nI n)])), (b, .inl (gB G, cap, .inl (fun j => nI (f j))))]
  refine V.istore hC dJ5_newCapacity_0f7a4_32 [some (.ref sb), some (.int (nI q)), some (.int (nI cap)), some (.int (nI q)), some (.int (nI (q - cap))), some (.int (nI (cap + max (q - cap) (cap + 2))))] (Nat.le_of_ble_eq_true rfl) rfl ?_
  refine V.iload hC (x := nI (cap + max (q - cap) (cap + 2))) dJ5_newCapacity_0f7a4_34 rfl ?_
  refine V.ldc hC 2147483647 dJ5_newCapacity_0f7a4_36 q3_ ?_
  refine V.icmpN_ne hC (cap + max (q - cap) (cap + 2)) 2147483647 51 dJ5_newCapacity_0f7a4_38 rfl rfl rfl (by omega) (by omega) (fun c_38 => ?_) (fun c_38 => ?_)
  · refine V.iload hC (x := nI (cap + max (q - cap) (cap + 2))) dJ5_newCapacity_0f7a4_51 rfl ?_
    refine V.aload_n hC (x := sb) dJ5_newCapacity_0f7a4_53 rfl ?_
    refine V.getf hC (T := TJ4) q0_ 1 q2_ rfl (0) rfl rfl (by decide) (.int 0) rfl dJ5_newCapacity_0f7a4_54 ?_
    refine V.ishr hC dJ5_newCapacity_0f7a4_57 ?_
    refine V.topeq (nI (cap + max (q - cap) (cap + 2))) (shr_0 (by omega)) ?_
    exact hE 58 _ (nI (cap + max (q - cap) (cap + 2))) () dJ5_newCapacity_0f7a4_58 rfl rfl
  · exact absurd c_38 (by omega)

set_option maxHeartbeats 4000000 in
set_option maxRecDepth 100000 in
theorem d_copyOf (l : Launch) (G : Gx) (b cap : Nat) (f : Nat → Nat) (hf : ∀ j, f j < 128) (hcap : cap < 100) (q : Nat) (h1 : cap < q) (h2 : q ≤ 98) : Ct l G SF0 yJ7_copyOf_9075b wsJ7_copyOf_9075b ({ frames := 1, cells := 1, slots := 98, locals := 18 }) [.ref b, .int (nI q)] [(b, .inl (gB G, cap, .inl (fun j => nI (f j))))] mkA (fun (r : Option Nat) (u : Nat × (Nat → Nat)) => r = some u.1 ∧ (∀ j, u.2 j < 128) ∧ ∀ j, j < cap → u.2 j = f j) (fun u : Nat × (Nat → Nat) => [(b, .inl (gB G, cap, .inl (fun j => nI (f j)))), (u.1, .inl (gB G, q, .inl (fun j => nI (u.2 j))))]) 1 98 := by
  refine Ct.ofA (mk := fun r : Option Nat => va_rf r) (fun r => va_rf_or r) (Or.inr ⟨_, rfl⟩) (cc := cJ7_copyOf_9075b) (maxL := 3) (by decide) rfl ⟨by simp [Value.category], Nat.le_of_ble_eq_true rfl⟩ ?_
  intro K hl hC hSF hnm hE
  subst hl
  have q0_ : Cond.arrayClass .byte ∈ wsJ7_copyOf_9075b := by decide +kernel
  have q1_ : Cond.methodLink RJ7 304 Lib.Math.min.name ∈ wsJ7_copyOf_9075b := by decide +kernel
  have q2_ : Cond.static Lib.Math.min.name ∈ wsJ7_copyOf_9075b := by decide +kernel
  have q3_ : Cond.initialized "java/lang/Math" ∈ wsJ7_copyOf_9075b := by decide +kernel
  have q4_ : Cond.code Lib.Math.min.name Lib.Math.min.code 2 (some .int) ∈ wsJ7_copyOf_9075b := by decide +kernel
  have q5_ : Cond.methodLink RJ7 150 arraycopyName ∈ wsJ7_copyOf_9075b := by decide +kernel
  have q6_ : Cond.native arraycopyName ∈ wsJ7_copyOf_9075b := by decide +kernel
  have q7_ : Cond.static arraycopyName ∈ wsJ7_copyOf_9075b := by decide +kernel
  have q8_ : Cond.initialized "java/lang/System" ∈ wsJ7_copyOf_9075b := by decide +kernel
  show V G K 3 0 0 0 [some (.ref b), some (.int (nI q)), none] [] [(b, .inl (gB G, cap, .inl (fun j => nI (f j))))]
  refine V.iload_n hC (x := nI q) dJ7_copyOf_9075b_0 rfl ?_
  refine V.aload_n hC (x := b) dJ7_copyOf_9075b_1 rfl ?_
  refine V.alen hC dJ7_copyOf_9075b_2 (0) 6 rfl rfl (nI cap) rfl ?_
  refine V.icmpN_ne hC q cap 14 dJ7_copyOf_9075b_3 rfl rfl rfl (by omega) (by omega) (fun c_3 => ?_) (fun c_3 => ?_)
  · refine V.iload_n hC (x := nI q) dJ7_copyOf_9075b_14 rfl ?_
    refine V.newA hC (atype := .byte) 6 (cA := gB G) q0_ rfl q (q, .inl (fun j => nI ((fun _ => 0) j))) (fun _ => rfl) rfl (by omega) (by decide) (by show _ ≤ _; simp only []; omega) dJ7_copyOf_9075b_15 (fun q_15 => ?_)
    refine V.widen (k := 1) (n := 98) (Nat.le_refl _) (by omega) ?_
    show V G K 3 1 98 17 [some (.ref b), some (.int (nI q)), none] [.ref q_15] [(b, .inl (gB G, cap, .inl (fun j => nI (f j)))), (q_15, .inl (gB G, q, .inl (fun j => nI ((fun _ => 0) j))))]
    refine V.astore_n hC dJ7_copyOf_9075b_17 [some (.ref b), some (.int (nI q)), some (.ref q_15)] (Nat.le_of_ble_eq_true rfl) rfl ?_
    refine V.aload_n hC (x := b) dJ7_copyOf_9075b_18 rfl ?_
    refine V.iconst hC 0 dJ7_copyOf_9075b_19 rfl ?_
    refine V.aload_n hC (x := q_15) dJ7_copyOf_9075b_20 rfl ?_
    refine V.iconst hC 0 dJ7_copyOf_9075b_21 rfl ?_
    refine V.aload_n hC (x := b) dJ7_copyOf_9075b_22 rfl ?_
    refine V.alen hC dJ7_copyOf_9075b_23 (0) 6 rfl rfl (nI cap) rfl ?_
    refine V.iload_n hC (x := nI q) dJ7_copyOf_9075b_24 rfl ?_
    refine V.mmin hC q1_ q2_ q3_ q4_ ⟨Nat.le_of_ble_eq_true rfl, Nat.le_of_ble_eq_true rfl, Nat.le_of_ble_eq_true rfl, Nat.le_of_ble_eq_true rfl⟩ dJ7_copyOf_9075b_25 ?_
    refine V.topeq (nI cap) (if_neg (nI_nlt (by omega) (by omega))) ?_
    refine V.copyB hC q5_ q6_ q7_ q8_ (0) (1) (N0 := cap) (N1 := q) (f := f) (g := (fun _ => 0)) hf rfl rfl cap rfl (by omega) (by omega) (by omega) ⟨Nat.le_of_ble_eq_true rfl, Nat.le_of_ble_eq_true rfl⟩ dJ7_copyOf_9075b_28 [(b, .inl (gB G, cap, .inl (fun j => nI (f j)))), (q_15, .inl (gB G, q, .inl (fun j => nI ((fun j => if j < cap then f j else (fun _ => 0) j) j))))] rfl ?_
    refine V.aload_n hC (x := q_15) dJ7_copyOf_9075b_31 rfl ?_
    exact hE 32 _ (some q_15) (q_15, fun j => if j < cap then f j else (fun _ => 0) j) dJ7_copyOf_9075b_32 ⟨rfl, fun j => by show (if j < cap then f j else 0) < 128; split; exact hf j; omega, fun j hj => if_pos hj⟩
  · exact absurd c_3 (by omega)

set_option maxHeartbeats 4000000 in
set_option maxRecDepth 100000 in
theorem d_ensure (l : Launch) (G : Gx) (sb b cap : Nat) (f : Nat → Nat) (n : Nat) (ml : Int32) (hcap : capQ cap) (hn : n ≤ cap) (hf : ∀ j, f j < 128) (q : Nat) (h2 : q ≤ 49) : Ct l G (SFx G) yJ5_ensureCapacityInternal_d00df wsJ5_ensureCapacityInternal_d00df ({ frames := 3, cells := 1, slots := 98, locals := 62 }) [.ref sb, .int (nI q)] [(sb, .inr (1, [.ref b, .int 0, .int ml, .int (nI n)])), (b, .inl (gB G, cap, .inl (fun j => nI (f j))))] mkV (fun (_ : Unit) (u : Nat × Nat × (Nat → Nat)) => capQ u.2.1 ∧ (∀ j, u.2.2 j < 128) ∧ q ≤ u.2.1 ∧ (∀ j, j < cap → u.2.2 j = f j)) (fun u : Nat × Nat × (Nat → Nat) => [(sb, .inr (1, [.ref (u.1), .int 0, .int ml, .int (nI n)])), (u.1, .inl (gB G, u.2.1, .inl (fun j => nI ((u.2.2) j))))]) 1 98 := by
  refine Ct.ofV (cc := cJ5_ensureCapacityInternal_d00df) (maxL := 3) (by decide) rfl ⟨by simp [Value.category], Nat.le_of_ble_eq_true rfl⟩ ?_
  intro K hl hC hSF hnm hE
  subst hl
  have hgo := SFgoS (SFx.k G) hSF
  have q0_ : ∀ w ∈ u_ws RJ4 TJ4 4, w ∈ wsJ5_ensureCapacityInternal_d00df := by decide +kernel
  have q1_ : Cond.fieldLink RJ5 15 "java/lang/AbstractStringBuilder" "value" "[B" ∈ wsJ5_ensureCapacityInternal_d00df := by decide +kernel
  have q2_ : Cond.fieldLink RJ5 22 "java/lang/AbstractStringBuilder" "coder" "B" ∈ wsJ5_ensureCapacityInternal_d00df := by decide +kernel
  show V G K 3 0 0 0 [some (.ref sb), some (.int (nI q)), none] [] [(sb, .inr (1, [.ref b, .int 0, .int ml, .int (nI n)])), (b, .inl (gB G, cap, .inl (fun j => nI (f j))))]
  have hcl := hcap.2
  have hcg := hcap.1
  refine V.aload_n hC (x := sb) dJ5_ensureCapacityInternal_d00df_0 rfl ?_
  refine V.getf hC (T := TJ4) q0_ 0 q1_ rfl (0) rfl rfl (by decide) (.ref b) rfl dJ5_ensureCapacityInternal_d00df_1 ?_
  refine V.alen hC dJ5_ensureCapacityInternal_d00df_4 (1) 6 rfl rfl (nI cap) rfl ?_
  refine V.aload_n hC (x := sb) dJ5_ensureCapacityInternal_d00df_5 rfl ?_
  refine V.getf hC (T := TJ4) q0_ 1 q2_ rfl (0) rfl rfl (by decide) (.int 0) rfl dJ5_ensureCapacityInternal_d00df_6 ?_
  refine V.ishr hC dJ5_ensureCapacityInternal_d00df_9 ?_
  refine V.topeq (nI cap) (shr_0 (by omega)) ?_
  refine V.istore_n hC dJ5_ensureCapacityInternal_d00df_10 [some (.ref sb), some (.int (nI q)), some (.int (nI cap))] (Nat.le_of_ble_eq_true rfl) rfl ?_
  refine V.iload_n hC (x := nI q) dJ5_ensureCapacityInternal_d00df_11 rfl ?_
  refine V.iload_n hC (x := nI cap) dJ5_ensureCapacityInternal_d00df_12 rfl ?_
  refine V.isub hC dJ5_ensureCapacityInternal_d00df_13 ?_
  refine V.if_le hC 38 dJ5_ensureCapacityInternal_d00df_14 rfl (fun c_14 => ?_) (fun c_14 => ?_)
  · have c14 := (sub_le0 (by omega) (by omega)).mp c_14
    refine V.widen (k := 1) (n := 98) (Nat.le_of_ble_eq_true rfl) (Nat.le_of_ble_eq_true rfl) ?_
    exact hE 38 _ (b, cap, f) dJ5_ensureCapacityInternal_d00df_38 ⟨hcap, hf, by omega, fun j _ => rfl⟩
  · have c14 : cap < q := Nat.lt_of_not_le (fun z => c_14 ((sub_le0 (by omega) (by omega)).mpr z))
    refine V.aload_n hC (x := sb) dJ5_ensureCapacityInternal_d00df_17 rfl ?_
    refine V.aload_n hC (x := sb) dJ5_ensureCapacityInternal_d00df_18 rfl ?_
    refine V.getf hC (T := TJ4) q0_ 0 q1_ rfl (0) rfl rfl (by decide) (.ref b) rfl dJ5_ensureCapacityInternal_d00df_19 ?_
    refine V.aload_n hC (x := sb) dJ5_ensureCapacityInternal_d00df_22 rfl ?_
    refine V.iload_n hC (x := nI q) dJ5_ensureCapacityInternal_d00df_23 rfl ?_
    refine V.callUG (n := 1) (As := [.int (nI q)]) (rest := [.ref b, .ref sb]) (wr := []) (x := ⟨"java/lang/AbstractStringBuilder", "newCapacity", "(I)I"⟩) (owner := "java/lang/AbstractStringBuilder") hC (d_newCapacity (kl K) G sb b cap f n ml hcap hn hf q c14 h2) (SFx.k G) hgo gJ5_ensureCapacityInternal_d00df_J5_newCapacity_0f7a4_u104J4 rfl ⟨rfl, rfl⟩ rfl (by decide +kernel) ⟨by decide, by decide, by decide, by decide⟩ [0, 1] [] rfl (by decide) rfl (by decide) (by decide) rfl rfl rfl rfl (Nat.le_of_ble_eq_true rfl) dJ5_ensureCapacityInternal_d00df_24 (fun r_24 u_24 hp_24 => ?_)
    subst hp_24
    show V G K 3 0 0 27 [some (.ref sb), some (.int (nI q)), some (.int (nI cap))] [.int (nI (cap + max (q - cap) (cap + 2))), .ref b, .ref sb] [(sb, .inr (1, [.ref b, .int 0, .int ml, .int (nI n)])), (b, .inl (gB G, cap, .inl (fun j => nI (f j))))]
    refine V.aload_n hC (x := sb) dJ5_ensureCapacityInternal_d00df_27 rfl ?_
    refine V.getf hC (T := TJ4) q0_ 1 q2_ rfl (0) rfl rfl (by decide) (.int 0) rfl dJ5_ensureCapacityInternal_d00df_28 ?_
    refine V.ishl hC dJ5_ensureCapacityInternal_d00df_31 ?_
    refine V.topeq (nI (cap + max (q - cap) (cap + 2))) (shl_0 (by omega)) ?_
    refine V.callSG (n := 2) (As := [.ref b, .int (nI (cap + max (q - cap) (cap + 2)))]) (rest := [.ref sb]) (wr := [(sb, .inr (1, [.ref b, .int 0, .int ml, .int (nI n)]))]) hC (d_copyOf (kl K) G b cap f hf (by omega) (cap + max (q - cap) (cap + 2)) (by omega) (by omega)) SFk0 SFgo0 gJ5_ensureCapacityInternal_d00df_J7_copyOf_9075b rfl ⟨rfl, rfl⟩ (by decide +kernel) ⟨by decide, by decide, by decide, by decide⟩ [1] [0] rfl (by decide) rfl (by decide) (by decide) rfl rfl (Nat.le_of_ble_eq_true rfl) dJ5_ensureCapacityInternal_d00df_32 (fun r_32 u_32 hp_32 => ?_)
    obtain ⟨e_32, hu1_, hu2_⟩ := hp_32
    subst e_32
    show V G K 3 1 98 35 [some (.ref sb), some (.int (nI q)), some (.int (nI cap))] [.ref (u_32.1), .ref sb] [(sb, .inr (1, [.ref b, .int 0, .int ml, .int (nI n)])), (b, .inl (gB G, cap, .inl (fun j => nI (f j)))), (u_32.1, .inl (gB G, cap + max (q - cap) (cap + 2), .inl (fun j => nI ((u_32.2) j))))]
    refine V.putf hC (T := TJ4) q0_ tyJ4 tyJ4_ok nmJ4 0 q1_ rfl rfl (0) rfl rfl (by decide) (by simp) rfl rfl dJ5_ensureCapacityInternal_d00df_35 [(sb, .inr (1, [.ref (u_32.1), .int 0, .int ml, .int (nI n)])), (b, .inl (gB G, cap, .inl (fun j => nI (f j)))), (u_32.1, .inl (gB G, cap + max (q - cap) (cap + 2), .inl (fun j => nI ((u_32.2) j))))] rfl ?_
    refine V.perm (ws' := [(sb, .inr (1, [.ref (u_32.1), .int 0, .int ml, .int (nI n)])), (u_32.1, .inl (gB G, cap + max (q - cap) (cap + 2), .inl (fun j => nI ((u_32.2) j))))]) [0, 2] rfl (by decide) ?_
    exact hE 38 _ (u_32.1, cap + max (q - cap) (cap + 2), u_32.2) dJ5_ensureCapacityInternal_d00df_38 ⟨(show capQ (cap + max (q - cap) (cap + 2)) from ⟨by omega, by omega⟩), hu1_, (show q ≤ cap + max (q - cap) (cap + 2) by omega), hu2_⟩

set_option maxHeartbeats 4000000 in
set_option maxRecDepth 100000 in
theorem d_appendI5 (l : Launch) (G : Gx) (sb b cap : Nat) (f : Nat → Nat) (n : Nat) (ml : Int32) (hcap : capQ cap) (hn : n ≤ cap) (hf : ∀ j, f j < 128) (x : Nat) (hx : x < 10000) (hq : n + dgc x ≤ 49) : Ct l G (SFt G) yJ5_append_c97b9 wsJ5_append_c97b9 ({ frames := 4, cells := 1, slots := 98, locals := 84 }) [.ref sb, .int (nI x)] [(sb, .inr (1, [.ref b, .int 0, .int ml, .int (nI n)])), (b, .inl (gB G, cap, .inl (fun j => nI (f j))))] mkA (fun (r : Option Nat) (u : Nat × Nat × (Nat → Nat)) => r = some sb ∧ capQ u.2.1 ∧ (∀ j, u.2.2 j < 128) ∧ n + dgc x ≤ u.2.1 ∧ (∀ j, j < n → u.2.2 j = f j) ∧ ∀ j, j < dgc x → u.2.2 (n + j) = dgt x j) (fun u : Nat × Nat × (Nat → Nat) => [(sb, .inr (1, [.ref (u.1), .int 0, .int ml, .int (nI (n + dgc x))])), (u.1, .inl (gB G, u.2.1, .inl (fun j => nI ((u.2.2) j))))]) 1 98 := by
  refine Ct.ofA (mk := fun r : Option Nat => va_rf r) (fun r => va_rf_or r) (Or.inl ⟨_, rfl⟩) (cc := cJ5_append_c97b9) (maxL := 4) (by decide) rfl ⟨by simp [Value.category], Nat.le_of_ble_eq_true rfl⟩ ?_
  intro K hl hC hSF hnm hE
  subst hl
  have hgot := SFgoS (SFt.k G) hSF
  have hgo := SFgo.x hgot
  have hSFt := hSF
  replace hSF := hSF.1
  have q0_ : ∀ w ∈ u_ws RJ4 TJ4 4, w ∈ wsJ5_append_c97b9 := by decide +kernel
  have q1_ : Cond.fieldLink RJ5 79 "java/lang/AbstractStringBuilder" "count" "I" ∈ wsJ5_append_c97b9 := by decide +kernel
  have q2_ : Cond.fieldLink RJ5 15 "java/lang/AbstractStringBuilder" "value" "[B" ∈ wsJ5_append_c97b9 := by decide +kernel
  show V G K 4 0 0 0 [some (.ref sb), some (.int (nI x)), none, none] [] [(sb, .inr (1, [.ref b, .int 0, .int ml, .int (nI n)])), (b, .inl (gB G, cap, .inl (fun j => nI (f j))))]
  have hcl := hcap.2
  have hcg := hcap.1
  have hdl := dgc_le x
  refine V.aload_n hC (x := sb) dJ5_append_c97b9_0 rfl ?_
  refine V.getf hC (T := TJ4) q0_ 3 q1_ rfl (0) rfl rfl (by decide) (.int (nI n)) rfl dJ5_append_c97b9_1 ?_
  refine V.istore_n hC dJ5_append_c97b9_4 [some (.ref sb), some (.int (nI x)), some (.int (nI n)), none] (Nat.le_of_ble_eq_true rfl) rfl ?_
  refine V.iload_n hC (x := nI n) dJ5_append_c97b9_5 rfl ?_
  refine V.iload_n hC (x := nI x) dJ5_append_c97b9_6 rfl ?_
  refine V.callSr (n := 1) (As := [.int (nI x)]) (rest := [.int (nI n)]) hC (c_stringSize (kl K) G x hx) SFk0 SFgo0 gJ5_append_c97b9_J6_stringSize_0f7a4 rfl ⟨rfl, rfl⟩ (by decide +kernel) ⟨by decide, by decide, by decide, by decide⟩ [] rfl (by decide) rfl rfl (Nat.le_of_ble_eq_true rfl) dJ5_append_c97b9_7 (fun r_7 u_7 hp_7 => ?_)
  subst hp_7
  show V G K 4 0 0 10 [some (.ref sb), some (.int (nI x)), some (.int (nI n)), none] [.int (nI (dgc x)), .int (nI n)] [(sb, .inr (1, [.ref b, .int 0, .int ml, .int (nI n)])), (b, .inl (gB G, cap, .inl (fun j => nI (f j))))]
  refine V.iaddN hC n (dgc x) dJ5_append_c97b9_10 rfl rfl ?_
  refine V.istore_n hC dJ5_append_c97b9_11 [some (.ref sb), some (.int (nI x)), some (.int (nI n)), some (.int (nI (n + (dgc x))))] (Nat.le_of_ble_eq_true rfl) rfl ?_
  refine V.aload_n hC (x := sb) dJ5_append_c97b9_12 rfl ?_
  refine V.iload_n hC (x := nI (n + (dgc x))) dJ5_append_c97b9_13 rfl ?_
  refine V.callUG (n := 1) (As := [.int (nI (n + (dgc x)))]) (rest := []) (wr := []) (x := ⟨"java/lang/AbstractStringBuilder", "ensureCapacityInternal", "(I)V"⟩) (owner := "java/lang/AbstractStringBuilder") hC (d_ensure (kl K) G sb b cap f n ml hcap hn hf (n + dgc x) hq) (SFx.k G) hgo gJ5_append_c97b9_J5_ensureCapacityInternal_d00df_u100J4 rfl ⟨rfl, rfl⟩ rfl (by decide +kernel) ⟨by decide, by decide, by decide, by decide⟩ [0, 1] [] rfl (by decide) rfl (by decide) (by decide) rfl rfl rfl rfl (Nat.le_of_ble_eq_true rfl) dJ5_append_c97b9_14 (fun r_14 u_14 hp_14 => ?_)
  obtain ⟨hu1_, hu2_, hu3_, hu4_⟩ := hp_14
  have hul_ := hu1_.2
  show V G K 4 1 98 17 [some (.ref sb), some (.int (nI x)), some (.int (nI n)), some (.int (nI (n + (dgc x))))] [] [(sb, .inr (1, [.ref (u_14.1), .int 0, .int ml, .int (nI n)])), (u_14.1, .inl (gB G, u_14.2.1, .inl (fun j => nI ((u_14.2.2) j))))]
  refine V.aload_n hC (x := sb) dJ5_append_c97b9_17 rfl ?_
  refine V.callUG (n := 0) (As := []) (rest := []) (wr := []) (x := ⟨"java/lang/AbstractStringBuilder", "isLatin1", "()Z"⟩) (owner := "java/lang/AbstractStringBuilder") hC (d_sbLatin (kl K) G sb u_14.1 u_14.2.1 u_14.2.2 n ml hu1_ (by omega) hu2_) (SFx.k G) hgo gJ5_append_c97b9_J5_isLatin1_aae02_u83J4 rfl ⟨rfl, rfl⟩ rfl (by decide +kernel) ⟨by decide, by decide, by decide, by decide⟩ [0, 1] [] rfl (by decide) rfl (by decide) (by decide) rfl rfl rfl rfl (Nat.le_of_ble_eq_true rfl) dJ5_append_c97b9_18 (fun r_18 u_18 hp_18 => ?_)
  subst hp_18
  show V G K 4 1 98 21 [some (.ref sb), some (.int (nI x)), some (.int (nI n)), some (.int (nI (n + (dgc x))))] [.int (nI 1)] [(sb, .inr (1, [.ref (u_14.1), .int 0, .int ml, .int (nI n)])), (u_14.1, .inl (gB G, u_14.2.1, .inl (fun j => nI ((u_14.2.2) j))))]
  refine V.ifN_eq hC 1 37 dJ5_append_c97b9_21 rfl rfl (by omega) (fun c_21 => ?_) (fun c_21 => ?_)
  · exact absurd c_21 (by decide)
  · refine V.iload_n hC (x := nI x) dJ5_append_c97b9_24 rfl ?_
    refine V.iload_n hC (x := nI (n + (dgc x))) dJ5_append_c97b9_25 rfl ?_
    refine V.aload_n hC (x := sb) dJ5_append_c97b9_26 rfl ?_
    refine V.getf hC (T := TJ4) q0_ 0 q2_ rfl (0) rfl rfl (by decide) (.ref (u_14.1)) rfl dJ5_append_c97b9_27 ?_
    refine V.callSG (n := 3) (As := [.int (nI x), .int (nI (n + (dgc x))), .ref (u_14.1)]) (rest := []) (wr := [(sb, .inr (1, [.ref (u_14.1), .int 0, .int ml, .int (nI n)]))]) hC (c_getChars (kl K) G x (n + dgc x) u_14.1 u_14.2.1 u_14.2.2 hu2_ hx (by omega) (by omega) (by omega)) (SFt.k G) hgot gJ5_append_c97b9_J6_getChars_ba4f3 rfl ⟨rfl, rfl⟩ (by decide +kernel) ⟨by decide, by decide, by decide, by decide⟩ [1] [0] rfl (by decide) rfl (by decide) (by decide) rfl rfl (Nat.le_of_ble_eq_true rfl) dJ5_append_c97b9_30 (fun r_30 u_30 hp_30 => ?_)
    obtain ⟨hv1_, hv2_, hv3_⟩ := hp_30
    rw [Nat.add_sub_cancel] at hv2_ hv3_
    show V G K 4 1 98 33 [some (.ref sb), some (.int (nI x)), some (.int (nI n)), some (.int (nI (n + (dgc x))))] [.int r_30] [(sb, .inr (1, [.ref (u_14.1), .int 0, .int ml, .int (nI n)])), (u_14.1, .inl (gB G, u_14.2.1, .inl (fun j => nI (u_30 j))))]
    refine V.pop hC dJ5_append_c97b9_33 rfl ?_
    refine V.goto hC 48 dJ5_append_c97b9_34 rfl ?_
    refine V.aload_n hC (x := sb) dJ5_append_c97b9_48 rfl ?_
    refine V.iload_n hC (x := nI (n + (dgc x))) dJ5_append_c97b9_49 rfl ?_
    refine V.putf hC (T := TJ4) q0_ tyJ4 tyJ4_ok nmJ4 3 q1_ rfl rfl (0) rfl rfl (by decide) (by simp) rfl rfl dJ5_append_c97b9_50 [(sb, .inr (1, [.ref (u_14.1), .int 0, .int ml, .int (nI (n + (dgc x)))])), (u_14.1, .inl (gB G, u_14.2.1, .inl (fun j => nI (u_30 j))))] rfl ?_
    refine V.aload_n hC (x := sb) dJ5_append_c97b9_53 rfl ?_
    exact hE 54 _ (some sb) (u_14.1, u_14.2.1, u_30) dJ5_append_c97b9_54 ⟨rfl, hu1_, hv1_, hu3_, fun j hj => (hv2_ j hj).trans (hu4_ j (by omega)), hv3_⟩

set_option maxHeartbeats 4000000 in
set_option maxRecDepth 100000 in
theorem d_appendI (l : Launch) (G : Gx) (sb b cap : Nat) (f : Nat → Nat) (n : Nat) (ml : Int32) (hcap : capQ cap) (hn : n ≤ cap) (hf : ∀ j, f j < 128) (x : Nat) (hx : x < 10000) (hq : n + dgc x ≤ 49) : Ct l G (SFt G) yJ4_append_bf812 wsJ4_append_bf812 ({ frames := 5, cells := 1, slots := 98, locals := 107 }) [.ref sb, .int (nI x)] [(sb, .inr (1, [.ref b, .int 0, .int ml, .int (nI n)])), (b, .inl (gB G, cap, .inl (fun j => nI (f j))))] mkA (fun (r : Option Nat) (u : Nat × Nat × (Nat → Nat)) => r = some sb ∧ capQ u.2.1 ∧ (∀ j, u.2.2 j < 128) ∧ n + dgc x ≤ u.2.1 ∧ (∀ j, j < n → u.2.2 j = f j) ∧ ∀ j, j < dgc x → u.2.2 (n + j) = dgt x j) (fun u : Nat × Nat × (Nat → Nat) => [(sb, .inr (1, [.ref (u.1), .int 0, .int ml, .int (nI (n + dgc x))])), (u.1, .inl (gB G, u.2.1, .inl (fun j => nI ((u.2.2) j))))]) 1 98 := by
  refine Ct.ofA (mk := fun r : Option Nat => va_rf r) (fun r => va_rf_or r) (Or.inl ⟨_, rfl⟩) (cc := cJ4_append_bf812) (maxL := 2) (by decide) rfl ⟨by simp [Value.category], Nat.le_of_ble_eq_true rfl⟩ ?_
  intro K hl hC hSF hnm hE
  subst hl
  have hgot := SFgoS (SFt.k G) hSF
  have hgo := SFgo.x hgot
  have hSFt := hSF
  replace hSF := hSF.1
  show V G K 2 0 0 0 [some (.ref sb), some (.int (nI x))] [] [(sb, .inr (1, [.ref b, .int 0, .int ml, .int (nI n)])), (b, .inl (gB G, cap, .inl (fun j => nI (f j))))]
  refine V.aload_n hC (x := sb) dJ4_append_bf812_0 rfl ?_
  refine V.iload_n hC (x := nI x) dJ4_append_bf812_1 rfl ?_
  refine V.callPG (n := 1) (As := [.int (nI x)]) (rest := []) (wr := []) hC (d_appendI5 (kl K) G sb b cap f n ml hcap hn hf x hx hq) (SFt.k G) hgot gJ4_append_bf812_J5_append_c97b9_s53 rfl ⟨rfl, rfl⟩ (by decide +kernel) ⟨by decide, by decide, by decide, by decide⟩ [0, 1] [] rfl (by decide) rfl (by decide) (by decide) rfl rfl rfl rfl (Nat.le_of_ble_eq_true rfl) dJ4_append_bf812_2 (fun r_2 u_2 hp_2 => ?_)
  obtain ⟨e_2, hu_2⟩ := hp_2
  subst e_2
  show V G K 2 1 98 5 [some (.ref sb), some (.int (nI x))] [.ref sb] [(sb, .inr (1, [.ref (u_2.1), .int 0, .int ml, .int (nI (n + dgc x))])), (u_2.1, .inl (gB G, u_2.2.1, .inl (fun j => nI ((u_2.2.2) j))))]
  refine V.pop hC dJ4_append_bf812_5 rfl ?_
  refine V.aload_n hC (x := sb) dJ4_append_bf812_6 rfl ?_
  exact hE 7 _ (some sb) u_2 dJ4_append_bf812_7 ⟨rfl, hu_2⟩

set_option maxHeartbeats 4000000 in
set_option maxRecDepth 100000 in
theorem d_coderS (l : Launch) (G : Gx) (i : Nat) (hi : i < 6) : Ct l G (SFt G) yJ0_coder_7d493 wsJ0_coder_7d493 ({ frames := 0, cells := 0, slots := 0, locals := 0 }) [.ref (adS G i)] [] mkI (fun (r : Int32) (_ : Unit) => r = 0) (fun _ : Unit => []) 0 0 := by
  refine Ct.ofI (cc := cJ0_coder_7d493) (maxL := 1) (by decide) rfl ⟨by simp [Value.category], Nat.le_of_ble_eq_true rfl⟩ ?_
  intro K hl hC hSF hnm hE
  subst hl
  have hgot := SFgoS (SFt.k G) hSF
  have hgo := SFgo.x hgot
  have hSFt := hSF
  replace hSF := hSF.1
  have q0_ : Cond.fieldLink RJ0 38 "java/lang/String" "COMPACT_STRINGS" "Z" ∈ wsJ0_coder_7d493 := by decide +kernel
  have q1_ : Cond.fieldLink RJ0 15 "java/lang/String" "coder" "B" ∈ wsJ0_coder_7d493 := by decide +kernel
  show V G K 1 0 0 0 [some (.ref (adS G i))] [] []
  refine V.gets hC (n := "COMPACT_STRINGS") hSF.2.2.2.2.2.2.2.2.2.2.1 q0_ rfl dJ0_coder_7d493_0 ?_
  refine V.ifN_eq hC 1 13 dJ0_coder_7d493_3 rfl rfl (by omega) (fun c_3 => ?_) (fun c_3 => ?_)
  · exact absurd c_3 (by decide)
  · refine V.aload_n hC (x := adS G i) dJ0_coder_7d493_6 rfl ?_
    refine V.getOF hC (hSFt.2.1.2.2.2.2.2.2.1 i hi).2.1 q1_ rfl dJ0_coder_7d493_7 ?_
    refine V.goto hC 14 dJ0_coder_7d493_10 rfl ?_
    exact hE 14 _ (nI 0) () dJ0_coder_7d493_14 rfl rfl

set_option maxHeartbeats 4000000 in
set_option maxRecDepth 100000 in
theorem d_strLenS (l : Launch) (G : Gx) (i : Nat) (hi : i < 6) : Ct l G (SFt G) yJ0_length_8abf5 wsJ0_length_8abf5 ({ frames := 1, cells := 0, slots := 0, locals := 20 }) [.ref (adS G i)] [] mkI (fun (r : Int32) (_ : Unit) => r = nI (sLen.getD i 0)) (fun _ : Unit => []) 0 0 := by
  refine Ct.ofI (cc := cJ0_length_8abf5) (maxL := 1) (by decide) rfl ⟨by simp [Value.category], Nat.le_of_ble_eq_true rfl⟩ ?_
  intro K hl hC hSF hnm hE
  subst hl
  have hgot := SFgoS (SFt.k G) hSF
  have hgo := SFgo.x hgot
  have hSFt := hSF
  replace hSF := hSF.1
  have q0_ : Cond.fieldLink RJ0 9 "java/lang/String" "value" "[B" ∈ wsJ0_length_8abf5 := by decide +kernel
  show V G K 1 0 0 0 [some (.ref (adS G i))] [] []
  have hln := sLen_le i hi
  refine V.aload_n hC (x := adS G i) dJ0_length_8abf5_0 rfl ?_
  refine V.getOF hC (hSFt.2.1.2.2.2.2.2.2.1 i hi).2.2.1 q0_ rfl dJ0_length_8abf5_1 ?_
  refine V.tlen hC (hSFt.2.1.2.2.2.2.2.2.1 i hi).2.2.2 (nI (sLen.getD i 0)) rfl dJ0_length_8abf5_4 ?_
  refine V.aload_n hC (x := adS G i) dJ0_length_8abf5_5 rfl ?_
  refine V.callO (n := 0) (As := []) (rest := [.int (nI (sLen.getD i 0))]) hC (d_coderS (kl K) G i hi) (SFt.k G) hgot (hSFt.2.1.2.2.2.2.2.2.1 i hi).1 gJ0_length_8abf5_J0_coder_7d493 rfl ⟨rfl, rfl⟩ (by decide +kernel) ⟨by decide, by decide, by decide, by decide⟩ [] rfl (by decide) (fun _ => rfl) rfl rfl (Nat.le_of_ble_eq_true rfl) dJ0_length_8abf5_6 (fun r_6 u_6 hp_6 => ?_)
  subst hp_6
  show V G K 1 0 0 9 [some (.ref (adS G i))] [.int (nI 0), .int (nI (sLen.getD i 0))] []
  refine V.ishr hC dJ0_length_8abf5_9 ?_
  refine V.topeq (nI (sLen.getD i 0)) (shr_0 (by omega)) ?_
  exact hE 10 _ (nI (sLen.getD i 0)) () dJ0_length_8abf5_10 rfl rfl

set_option maxHeartbeats 4000000 in
set_option maxRecDepth 100000 in
theorem d_getBytesS (l : Launch) (G : Gx) (i : Nat) (hi : i < 6) (q N : Nat) (h : Nat → Nat) (hh_ : ∀ j, h j < 128) (o : Nat) (ho : o + sLen.getD i 0 ≤ N) (hN : N < 100) : Ct l G (SFt G) yJ0_getBytes_840e7 wsJ0_getBytes_840e7 ({ frames := 1, cells := 0, slots := 0, locals := 20 }) [.ref (adS G i), .ref q, .int (nI o), .int (nI 0)] [(q, .inl (gB G, N, .inl (fun j => nI (h j))))] mkV (fun (_ : Unit) (_ : Unit) => True) (fun _ : Unit => [(q, .inl (gB G, N, .inl (fun j => nI ((fun j => if o ≤ j ∧ j < o + sLen.getD i 0 then chS i (j - o) else h j) j))))]) 0 0 := by
  refine Ct.ofV (cc := cJ0_getBytes_840e7) (maxL := 4) (by decide) rfl ⟨by simp [Value.category], Nat.le_of_ble_eq_true rfl⟩ ?_
  intro K hl hC hSF hnm hE
  subst hl
  have hgot := SFgoS (SFt.k G) hSF
  have hgo := SFgo.x hgot
  have hSFt := hSF
  replace hSF := hSF.1
  have q0_ : Cond.fieldLink RJ0 9 "java/lang/String" "value" "[B" ∈ wsJ0_getBytes_840e7 := by decide +kernel
  have q1_ : Cond.methodLink RJ0 212 arraycopyName ∈ wsJ0_getBytes_840e7 := by decide +kernel
  have q2_ : Cond.native arraycopyName ∈ wsJ0_getBytes_840e7 := by decide +kernel
  have q3_ : Cond.static arraycopyName ∈ wsJ0_getBytes_840e7 := by decide +kernel
  have q4_ : Cond.initialized "java/lang/System" ∈ wsJ0_getBytes_840e7 := by decide +kernel
  show V G K 4 0 0 0 [some (.ref (adS G i)), some (.ref q), some (.int (nI o)), some (.int (nI 0))] [] [(q, .inl (gB G, N, .inl (fun j => nI (h j))))]
  have hln := sLen_le i hi
  refine V.aload_n hC (x := adS G i) dJ0_getBytes_840e7_0 rfl ?_
  refine V.callO (n := 0) (As := []) (rest := []) hC (d_coderS (kl K) G i hi) (SFt.k G) hgot (hSFt.2.1.2.2.2.2.2.2.1 i hi).1 gJ0_getBytes_840e7_J0_coder_7d493 rfl ⟨rfl, rfl⟩ (by decide +kernel) ⟨by decide, by decide, by decide, by decide⟩ [] rfl (by decide) (fun _ => rfl) rfl rfl (Nat.le_of_ble_eq_true rfl) dJ0_getBytes_840e7_1 (fun r_1 u_1 hp_1 => ?_)
  subst hp_1
  show V G K 4 0 0 4 [some (.ref (adS G i)), some (.ref q), some (.int (nI o)), some (.int (nI 0))] [.int (nI 0)] [(q, .inl (gB G, N, .inl (fun j => nI (h j))))]
  refine V.iload_n hC (x := nI 0) dJ0_getBytes_840e7_4 rfl ?_
  refine V.icmpN_ne hC 0 0 28 dJ0_getBytes_840e7_5 rfl rfl rfl (by omega) (by omega) (fun c_5 => ?_) (fun c_5 => ?_)
  · exact absurd rfl c_5
  · refine V.aload_n hC (x := adS G i) dJ0_getBytes_840e7_8 rfl ?_
    refine V.getOF hC (hSFt.2.1.2.2.2.2.2.2.1 i hi).2.2.1 q0_ rfl dJ0_getBytes_840e7_9 ?_
    refine V.iconst hC 0 dJ0_getBytes_840e7_12 rfl ?_
    refine V.aload_n hC (x := q) dJ0_getBytes_840e7_13 rfl ?_
    refine V.iload_n hC (x := nI o) dJ0_getBytes_840e7_14 rfl ?_
    refine V.iload_n hC (x := nI 0) dJ0_getBytes_840e7_15 rfl ?_
    refine V.ishl hC dJ0_getBytes_840e7_16 ?_
    refine V.topeq (nI o) (shl_0 (by omega)) ?_
    refine V.aload_n hC (x := adS G i) dJ0_getBytes_840e7_17 rfl ?_
    refine V.getOF hC (hSFt.2.1.2.2.2.2.2.2.1 i hi).2.2.1 q0_ rfl dJ0_getBytes_840e7_18 ?_
    refine V.tlen hC (hSFt.2.1.2.2.2.2.2.2.1 i hi).2.2.2 (nI (sLen.getD i 0)) rfl dJ0_getBytes_840e7_21 ?_
    refine V.copyT hC q1_ q2_ q3_ q4_ i hi (hSFt.2.1.2.2.2.2.2.2.1 i hi).2.2.2 (0) (N1 := N) (g := h) rfl o rfl rfl (by omega) (by omega) ⟨Nat.le_of_ble_eq_true rfl, Nat.le_of_ble_eq_true rfl⟩ dJ0_getBytes_840e7_22 [(q, .inl (gB G, N, .inl (fun j => nI ((fun j => if o ≤ j ∧ j < o + sLen.getD i 0 then chS i (j - o) else h j) j))))] rfl ?_
    refine V.goto hC 43 dJ0_getBytes_840e7_25 rfl ?_
    exact hE 43 _ () dJ0_getBytes_840e7_43 trivial

set_option maxHeartbeats 4000000 in
set_option maxRecDepth 100000 in
theorem d_inflateS (l : Launch) (G : Gx) (sb b cap : Nat) (f : Nat → Nat) (n : Nat) (ml : Int32) (hcap : capQ cap) (hn : n ≤ cap) (hf : ∀ j, f j < 128) (i : Nat) (hi : i < 6) : Ct l G (SFt G) yJ5_inflateIfNeededFor_a7421 wsJ5_inflateIfNeededFor_a7421 ({ frames := 1, cells := 0, slots := 0, locals := 20 }) [.ref sb, .ref (adS G i)] [(sb, .inr (1, [.ref b, .int 0, .int ml, .int (nI n)])), (b, .inl (gB G, cap, .inl (fun j => nI (f j))))] mkV (fun (_ : Unit) (_ : Unit) => True) (fun _ : Unit => [(sb, .inr (1, [.ref b, .int 0, .int ml, .int (nI n)])), (b, .inl (gB G, cap, .inl (fun j => nI (f j))))]) 0 0 := by
  refine Ct.ofV (cc := cJ5_inflateIfNeededFor_a7421) (maxL := 2) (by decide) rfl ⟨by simp [Value.category], Nat.le_of_ble_eq_true rfl⟩ ?_
  intro K hl hC hSF hnm hE
  subst hl
  have hgot := SFgoS (SFt.k G) hSF
  have hgo := SFgo.x hgot
  have hSFt := hSF
  replace hSF := hSF.1
  have q0_ : Cond.fieldLink RJ5 18 "java/lang/String" "COMPACT_STRINGS" "Z" ∈ wsJ5_inflateIfNeededFor_a7421 := by decide +kernel
  have q1_ : ∀ w ∈ u_ws RJ4 TJ4 4, w ∈ wsJ5_inflateIfNeededFor_a7421 := by decide +kernel
  have q2_ : Cond.fieldLink RJ5 22 "java/lang/AbstractStringBuilder" "coder" "B" ∈ wsJ5_inflateIfNeededFor_a7421 := by decide +kernel
  show V G K 2 0 0 0 [some (.ref sb), some (.ref (adS G i))] [] [(sb, .inr (1, [.ref b, .int 0, .int ml, .int (nI n)])), (b, .inl (gB G, cap, .inl (fun j => nI (f j))))]
  refine V.gets hC (n := "COMPACT_STRINGS") hSF.2.2.2.2.2.2.2.2.2.2.1 q0_ rfl dJ5_inflateIfNeededFor_a7421_0 ?_
  refine V.ifN_eq hC 1 21 dJ5_inflateIfNeededFor_a7421_3 rfl rfl (by omega) (fun c_3 => ?_) (fun c_3 => ?_)
  · exact absurd c_3 (by decide)
  · refine V.aload_n hC (x := sb) dJ5_inflateIfNeededFor_a7421_6 rfl ?_
    refine V.getf hC (T := TJ4) q1_ 1 q2_ rfl (0) rfl rfl (by decide) (.int 0) rfl dJ5_inflateIfNeededFor_a7421_7 ?_
    refine V.aload_n hC (x := adS G i) dJ5_inflateIfNeededFor_a7421_10 rfl ?_
    refine V.callO (n := 0) (As := []) (rest := [.int 0]) hC (d_coderS (kl K) G i hi) (SFt.k G) hgot (hSFt.2.1.2.2.2.2.2.2.1 i hi).1 gJ5_inflateIfNeededFor_a7421_J0_coder_7d493 rfl ⟨rfl, rfl⟩ (by decide +kernel) ⟨by decide, by decide, by decide, by decide⟩ [] rfl (by decide) (fun _ => rfl) rfl rfl (Nat.le_of_ble_eq_true rfl) dJ5_inflateIfNeededFor_a7421_11 (fun r_11 u_11 hp_11 => ?_)
    subst hp_11
    show V G K 2 0 0 14 [some (.ref sb), some (.ref (adS G i))] [.int (nI 0), .int 0] [(sb, .inr (1, [.ref b, .int 0, .int ml, .int (nI n)])), (b, .inl (gB G, cap, .inl (fun j => nI (f j))))]
    refine V.icmpN_eq hC 0 0 21 dJ5_inflateIfNeededFor_a7421_14 rfl rfl rfl (by omega) (by omega) (fun c_14 => ?_) (fun c_14 => ?_)
    · exact hE 21 _ () dJ5_inflateIfNeededFor_a7421_21 trivial
    · exact absurd rfl c_14

set_option maxHeartbeats 4000000 in
set_option maxRecDepth 100000 in
theorem d_putStrS (l : Launch) (G : Gx) (sb b cap : Nat) (f : Nat → Nat) (n : Nat) (ml : Int32) (hcap : capQ cap) (hn : n ≤ cap) (hf : ∀ j, f j < 128) (i : Nat) (hi : i < 6) (o : Nat) (ho : o + sLen.getD i 0 ≤ cap) : Ct l G (SFt G) yJ5_putStringAt_47b60 wsJ5_putStringAt_47b60 ({ frames := 2, cells := 0, slots := 0, locals := 43 }) [.ref sb, .int (nI o), .ref (adS G i)] [(sb, .inr (1, [.ref b, .int 0, .int ml, .int (nI n)])), (b, .inl (gB G, cap, .inl (fun j => nI (f j))))] mkV (fun (_ : Unit) (_ : Unit) => True) (fun _ : Unit => [(sb, .inr (1, [.ref b, .int 0, .int ml, .int (nI n)])), (b, .inl (gB G, cap, .inl (fun j => nI ((fun j => if o ≤ j ∧ j < o + sLen.getD i 0 then chS i (j - o) else f j) j))))]) 0 0 := by
  refine Ct.ofV (cc := cJ5_putStringAt_47b60) (maxL := 3) (by decide) rfl ⟨by simp [Value.category], Nat.le_of_ble_eq_true rfl⟩ ?_
  intro K hl hC hSF hnm hE
  subst hl
  have hgot := SFgoS (SFt.k G) hSF
  have hgo := SFgo.x hgot
  have hSFt := hSF
  replace hSF := hSF.1
  have q0_ : ∀ w ∈ u_ws RJ4 TJ4 4, w ∈ wsJ5_putStringAt_47b60 := by decide +kernel
  have q1_ : Cond.fieldLink RJ5 15 "java/lang/AbstractStringBuilder" "value" "[B" ∈ wsJ5_putStringAt_47b60 := by decide +kernel
  have q2_ : Cond.fieldLink RJ5 22 "java/lang/AbstractStringBuilder" "coder" "B" ∈ wsJ5_putStringAt_47b60 := by decide +kernel
  show V G K 3 0 0 0 [some (.ref sb), some (.int (nI o)), some (.ref (adS G i))] [] [(sb, .inr (1, [.ref b, .int 0, .int ml, .int (nI n)])), (b, .inl (gB G, cap, .inl (fun j => nI (f j))))]
  have hcl := hcap.2
  have hcg := hcap.1
  refine V.aload_n hC (x := sb) dJ5_putStringAt_47b60_0 rfl ?_
  refine V.aload_n hC (x := adS G i) dJ5_putStringAt_47b60_1 rfl ?_
  refine V.callUG (n := 1) (As := [.ref (adS G i)]) (rest := []) (wr := []) (x := ⟨"java/lang/AbstractStringBuilder", "inflateIfNeededFor", "(Ljava/lang/String;)V"⟩) (owner := "java/lang/AbstractStringBuilder") hC (d_inflateS (kl K) G sb b cap f n ml hcap hn hf i hi) (SFt.k G) hgot gJ5_putStringAt_47b60_J5_inflateIfNeededFor_a7421_u397J4 rfl ⟨rfl, rfl⟩ rfl (by decide +kernel) ⟨by decide, by decide, by decide, by decide⟩ [0, 1] [] rfl (by decide) rfl (by decide) (by decide) rfl rfl rfl rfl (Nat.le_of_ble_eq_true rfl) dJ5_putStringAt_47b60_2 (fun r_2 u_2 hp_2 => ?_)
  show V G K 3 0 0 5 [some (.ref sb), some (.int (nI o)), some (.ref (adS G i))] [] [(sb, .inr (1, [.ref b, .int 0, .int ml, .int (nI n)])), (b, .inl (gB G, cap, .inl (fun j => nI (f j))))]
  refine V.aload_n hC (x := adS G i) dJ5_putStringAt_47b60_5 rfl ?_
  refine V.aload_n hC (x := sb) dJ5_putStringAt_47b60_6 rfl ?_
  refine V.getf hC (T := TJ4) q0_ 0 q1_ rfl (0) rfl rfl (by decide) (.ref b) rfl dJ5_putStringAt_47b60_7 ?_
  refine V.iload_n hC (x := nI o) dJ5_putStringAt_47b60_10 rfl ?_
  refine V.aload_n hC (x := sb) dJ5_putStringAt_47b60_11 rfl ?_
  refine V.getf hC (T := TJ4) q0_ 1 q2_ rfl (0) rfl rfl (by decide) (.int 0) rfl dJ5_putStringAt_47b60_12 ?_
  refine V.callO (n := 3) (As := [.ref b, .int (nI o), .int 0]) (rest := []) hC (d_getBytesS (kl K) G i hi b cap f hf o ho (by omega)) (SFt.k G) hgot (hSFt.2.1.2.2.2.2.2.2.1 i hi).1 gJ5_putStringAt_47b60_J0_getBytes_840e7 rfl ⟨rfl, rfl⟩ (by decide +kernel) ⟨by decide, by decide, by decide, by decide⟩ [1] rfl (by decide) (fun _ => rfl) rfl rfl (Nat.le_of_ble_eq_true rfl) dJ5_putStringAt_47b60_15 (fun r_15 u_15 hp_15 => ?_)
  show V G K 3 0 0 18 [some (.ref sb), some (.int (nI o)), some (.ref (adS G i))] [] [(sb, .inr (1, [.ref b, .int 0, .int ml, .int (nI n)])), (b, .inl (gB G, cap, .inl (fun j => nI ((fun j => if o ≤ j ∧ j < o + sLen.getD i 0 then chS i (j - o) else f j) j))))]
  exact hE 18 _ () dJ5_putStringAt_47b60_18 trivial

set_option maxHeartbeats 4000000 in
set_option maxRecDepth 100000 in
theorem d_appendT5S (l : Launch) (G : Gx) (sb b cap : Nat) (f : Nat → Nat) (n : Nat) (ml : Int32) (hcap : capQ cap) (hn : n ≤ cap) (hf : ∀ j, f j < 128) (i : Nat) (hi : i < 6) (hq : n + sLen.getD i 0 ≤ 49) : Ct l G (SFt G) yJ5_append_cf1ce wsJ5_append_cf1ce ({ frames := 4, cells := 1, slots := 98, locals := 84 }) [.ref sb, .ref (adS G i)] [(sb, .inr (1, [.ref b, .int 0, .int ml, .int (nI n)])), (b, .inl (gB G, cap, .inl (fun j => nI (f j))))] mkA (fun (r : Option Nat) (u : Nat × Nat × (Nat → Nat)) => r = some sb ∧ capQ u.2.1 ∧ (∀ j, u.2.2 j < 128) ∧ n + sLen.getD i 0 ≤ u.2.1 ∧ (∀ j, j < n → u.2.2 j = f j) ∧ ∀ j, j < sLen.getD i 0 → u.2.2 (n + j) = chS i j) (fun u : Nat × Nat × (Nat → Nat) => [(sb, .inr (1, [.ref (u.1), .int 0, .int ml, .int (nI (n + sLen.getD i 0))])), (u.1, .inl (gB G, u.2.1, .inl (fun j => nI ((u.2.2) j))))]) 1 98 := by
  refine Ct.ofA (mk := fun r : Option Nat => va_rf r) (fun r => va_rf_or r) (Or.inl ⟨_, rfl⟩) (cc := cJ5_append_cf1ce) (maxL := 3) (by decide) rfl ⟨by simp [Value.category], Nat.le_of_ble_eq_true rfl⟩ ?_
  intro K hl hC hSF hnm hE
  subst hl
  have hgot := SFgoS (SFt.k G) hSF
  have hgo := SFgo.x hgot
  have hSFt := hSF
  replace hSF := hSF.1
  have q0_ : ∀ w ∈ u_ws RJ4 TJ4 4, w ∈ wsJ5_append_cf1ce := by decide +kernel
  have q1_ : Cond.fieldLink RJ5 79 "java/lang/AbstractStringBuilder" "count" "I" ∈ wsJ5_append_cf1ce := by decide +kernel
  show V G K 3 0 0 0 [some (.ref sb), some (.ref (adS G i)), none] [] [(sb, .inr (1, [.ref b, .int 0, .int ml, .int (nI n)])), (b, .inl (gB G, cap, .inl (fun j => nI (f j))))]
  have hcl := hcap.2
  have hcg := hcap.1
  refine V.aload_n hC (x := adS G i) dJ5_append_cf1ce_0 rfl ?_
  refine V.ifnonnull hC 9 dJ5_append_cf1ce_1 rfl ?_
  refine V.aload_n hC (x := adS G i) dJ5_append_cf1ce_9 rfl ?_
  refine V.callO (n := 0) (As := []) (rest := []) hC (d_strLenS (kl K) G i hi) (SFt.k G) hgot (hSFt.2.1.2.2.2.2.2.2.1 i hi).1 gJ5_append_cf1ce_J0_length_8abf5 rfl ⟨rfl, rfl⟩ (by decide +kernel) ⟨by decide, by decide, by decide, by decide⟩ [] rfl (by decide) (fun _ => rfl) rfl rfl (Nat.le_of_ble_eq_true rfl) dJ5_append_cf1ce_10 (fun r_10 u_10 hp_10 => ?_)
  subst hp_10
  show V G K 3 0 0 13 [some (.ref sb), some (.ref (adS G i)), none] [.int (nI (sLen.getD i 0))] [(sb, .inr (1, [.ref b, .int 0, .int ml, .int (nI n)])), (b, .inl (gB G, cap, .inl (fun j => nI (f j))))]
  refine V.istore_n hC dJ5_append_cf1ce_13 [some (.ref sb), some (.ref (adS G i)), some (.int (nI (sLen.getD i 0)))] (Nat.le_of_ble_eq_true rfl) rfl ?_
  refine V.aload_n hC (x := sb) dJ5_append_cf1ce_14 rfl ?_
  refine V.aload_n hC (x := sb) dJ5_append_cf1ce_15 rfl ?_
  refine V.getf hC (T := TJ4) q0_ 3 q1_ rfl (0) rfl rfl (by decide) (.int (nI n)) rfl dJ5_append_cf1ce_16 ?_
  refine V.iload_n hC (x := nI (sLen.getD i 0)) dJ5_append_cf1ce_19 rfl ?_
  refine V.iaddN hC n (sLen.getD i 0) dJ5_append_cf1ce_20 rfl rfl ?_
  refine V.callUG (n := 1) (As := [.int (nI (n + (sLen.getD i 0)))]) (rest := []) (wr := []) (x := ⟨"java/lang/AbstractStringBuilder", "ensureCapacityInternal", "(I)V"⟩) (owner := "java/lang/AbstractStringBuilder") hC (d_ensure (kl K) G sb b cap f n ml hcap hn hf (n + sLen.getD i 0) hq) (SFx.k G) hgo gJ5_append_cf1ce_J5_ensureCapacityInternal_d00df_u100J4 rfl ⟨rfl, rfl⟩ rfl (by decide +kernel) ⟨by decide, by decide, by decide, by decide⟩ [0, 1] [] rfl (by decide) rfl (by decide) (by decide) rfl rfl rfl rfl (Nat.le_of_ble_eq_true rfl) dJ5_append_cf1ce_21 (fun r_21 u_21 hp_21 => ?_)
  obtain ⟨hu1_, hu2_, hu3_, hu4_⟩ := hp_21
  have hul_ := hu1_.2
  show V G K 3 1 98 24 [some (.ref sb), some (.ref (adS G i)), some (.int (nI (sLen.getD i 0)))] [] [(sb, .inr (1, [.ref (u_21.1), .int 0, .int ml, .int (nI n)])), (u_21.1, .inl (gB G, u_21.2.1, .inl (fun j => nI ((u_21.2.2) j))))]
  refine V.aload_n hC (x := sb) dJ5_append_cf1ce_24 rfl ?_
  refine V.aload_n hC (x := sb) dJ5_append_cf1ce_25 rfl ?_
  refine V.getf hC (T := TJ4) q0_ 3 q1_ rfl (0) rfl rfl (by decide) (.int (nI n)) rfl dJ5_append_cf1ce_26 ?_
  refine V.aload_n hC (x := adS G i) dJ5_append_cf1ce_29 rfl ?_
  refine V.callUG (n := 2) (As := [.int (nI n), .ref (adS G i)]) (rest := []) (wr := []) (x := ⟨"java/lang/AbstractStringBuilder", "putStringAt", "(ILjava/lang/String;)V"⟩) (owner := "java/lang/AbstractStringBuilder") hC (d_putStrS (kl K) G sb u_21.1 u_21.2.1 u_21.2.2 n ml hu1_ (by omega) hu2_ i hi n hu3_) (SFt.k G) hgot gJ5_append_cf1ce_J5_putStringAt_47b60_u208J4 rfl ⟨rfl, rfl⟩ rfl (by decide +kernel) ⟨by decide, by decide, by decide, by decide⟩ [0, 1] [] rfl (by decide) rfl (by decide) (by decide) rfl rfl rfl rfl (Nat.le_of_ble_eq_true rfl) dJ5_append_cf1ce_30 (fun r_30 u_30 hp_30 => ?_)
  show V G K 3 1 98 33 [some (.ref sb), some (.ref (adS G i)), some (.int (nI (sLen.getD i 0)))] [] [(sb, .inr (1, [.ref (u_21.1), .int 0, .int ml, .int (nI n)])), (u_21.1, .inl (gB G, u_21.2.1, .inl (fun j => nI ((fun j => if n ≤ j ∧ j < n + sLen.getD i 0 then chS i (j - n) else u_21.2.2 j) j))))]
  refine V.aload_n hC (x := sb) dJ5_append_cf1ce_33 rfl ?_
  refine V.dup hC dJ5_append_cf1ce_34 rfl ?_
  refine V.getf hC (T := TJ4) q0_ 3 q1_ rfl (0) rfl rfl (by decide) (.int (nI n)) rfl dJ5_append_cf1ce_35 ?_
  refine V.iload_n hC (x := nI (sLen.getD i 0)) dJ5_append_cf1ce_38 rfl ?_
  refine V.iaddN hC n (sLen.getD i 0) dJ5_append_cf1ce_39 rfl rfl ?_
  refine V.putf hC (T := TJ4) q0_ tyJ4 tyJ4_ok nmJ4 3 q1_ rfl rfl (0) rfl rfl (by decide) (by simp) rfl rfl dJ5_append_cf1ce_40 [(sb, .inr (1, [.ref (u_21.1), .int 0, .int ml, .int (nI (n + (sLen.getD i 0)))])), (u_21.1, .inl (gB G, u_21.2.1, .inl (fun j => nI ((fun j => if n ≤ j ∧ j < n + sLen.getD i 0 then chS i (j - n) else u_21.2.2 j) j))))] rfl ?_
  refine V.aload_n hC (x := sb) dJ5_append_cf1ce_43 rfl ?_
  exact hE 44 _ (some sb) (u_21.1, u_21.2.1, (fun j => if n ≤ j ∧ j < n + sLen.getD i 0 then chS i (j - n) else u_21.2.2 j)) dJ5_append_cf1ce_44 ⟨rfl, hu1_, fun j => (by show (if _ then _ else _) < 128; split; exact chS_lt i (j - n); exact hu2_ j), hu3_, fun j hj => (if_neg (by omega)).trans (hu4_ j (by omega)), fun j hj => (if_pos (show n ≤ n + j ∧ n + j < n + sLen.getD i 0 from ⟨Nat.le_add_right n j, by omega⟩)).trans (by rw [Nat.add_sub_cancel_left])⟩

set_option maxHeartbeats 4000000 in
set_option maxRecDepth 100000 in
theorem d_appendTS (l : Launch) (G : Gx) (sb b cap : Nat) (f : Nat → Nat) (n : Nat) (ml : Int32) (hcap : capQ cap) (hn : n ≤ cap) (hf : ∀ j, f j < 128) (i : Nat) (hi : i < 6) (hq : n + sLen.getD i 0 ≤ 49) : Ct l G (SFt G) yJ4_append_15ec4 wsJ4_append_15ec4 ({ frames := 5, cells := 1, slots := 98, locals := 106 }) [.ref sb, .ref (adS G i)] [(sb, .inr (1, [.ref b, .int 0, .int ml, .int (nI n)])), (b, .inl (gB G, cap, .inl (fun j => nI (f j))))] mkA (fun (r : Option Nat) (u : Nat × Nat × (Nat → Nat)) => r = some sb ∧ capQ u.2.1 ∧ (∀ j, u.2.2 j < 128) ∧ n + sLen.getD i 0 ≤ u.2.1 ∧ (∀ j, j < n → u.2.2 j = f j) ∧ ∀ j, j < sLen.getD i 0 → u.2.2 (n + j) = chS i j) (fun u : Nat × Nat × (Nat → Nat) => [(sb, .inr (1, [.ref (u.1), .int 0, .int ml, .int (nI (n + sLen.getD i 0))])), (u.1, .inl (gB G, u.2.1, .inl (fun j => nI ((u.2.2) j))))]) 1 98 := by
  refine Ct.ofA (mk := fun r : Option Nat => va_rf r) (fun r => va_rf_or r) (Or.inl ⟨_, rfl⟩) (cc := cJ4_append_15ec4) (maxL := 2) (by decide) rfl ⟨by simp [Value.category], Nat.le_of_ble_eq_true rfl⟩ ?_
  intro K hl hC hSF hnm hE
  subst hl
  have hgot := SFgoS (SFt.k G) hSF
  have hgo := SFgo.x hgot
  have hSFt := hSF
  replace hSF := hSF.1
  show V G K 2 0 0 0 [some (.ref sb), some (.ref (adS G i))] [] [(sb, .inr (1, [.ref b, .int 0, .int ml, .int (nI n)])), (b, .inl (gB G, cap, .inl (fun j => nI (f j))))]
  refine V.aload_n hC (x := sb) dJ4_append_15ec4_0 rfl ?_
  refine V.aload_n hC (x := adS G i) dJ4_append_15ec4_1 rfl ?_
  refine V.callPG (n := 1) (As := [.ref (adS G i)]) (rest := []) (wr := []) hC (d_appendT5S (kl K) G sb b cap f n ml hcap hn hf i hi hq) (SFt.k G) hgot gJ4_append_15ec4_J5_append_cf1ce_s29 rfl ⟨rfl, rfl⟩ (by decide +kernel) ⟨by decide, by decide, by decide, by decide⟩ [0, 1] [] rfl (by decide) rfl (by decide) (by decide) rfl rfl rfl rfl (Nat.le_of_ble_eq_true rfl) dJ4_append_15ec4_2 (fun r_2 u_2 hp_2 => ?_)
  obtain ⟨e_2, hu_2⟩ := hp_2
  subst e_2
  show V G K 2 1 98 5 [some (.ref sb), some (.ref (adS G i))] [.ref sb] [(sb, .inr (1, [.ref (u_2.1), .int 0, .int ml, .int (nI (n + sLen.getD i 0))])), (u_2.1, .inl (gB G, u_2.2.1, .inl (fun j => nI ((u_2.2.2) j))))]
  refine V.pop hC dJ4_append_15ec4_5 rfl ?_
  refine V.aload_n hC (x := sb) dJ4_append_15ec4_6 rfl ?_
  exact hE 7 _ (some sb) u_2 dJ4_append_15ec4_7 ⟨rfl, hu_2⟩

set_option maxHeartbeats 4000000 in
set_option maxRecDepth 100000 in
theorem d_coderD (l : Launch) (G : Gx) (t tv k : Nat) (g : Nat → Nat) (hh hz : Int32) (hk : k ≤ 49) (hg : ∀ j, g j < 128) : Ct l G (SFt G) yJ0_coder_7d493 wsJ0_coder_7d493 ({ frames := 0, cells := 0, slots := 0, locals := 0 }) [.ref t] [(t, .inr (0, [.ref tv, .int 0, .int hh, .int hz])), (tv, .inl (gB G, k, .inl (fun j => nI (g j))))] mkI (fun (r : Int32) (_ : Unit) => r = 0) (fun _ : Unit => [(t, .inr (0, [.ref tv, .int 0, .int hh, .int hz])), (tv, .inl (gB G, k, .inl (fun j => nI (g j))))]) 0 0 := by
  refine Ct.ofI (cc := cJ0_coder_7d493) (maxL := 1) (by decide) rfl ⟨by simp [Value.category], Nat.le_of_ble_eq_true rfl⟩ ?_
  intro K hl hC hSF hnm hE
  subst hl
  have hgot := SFgoS (SFt.k G) hSF
  have hgo := SFgo.x hgot
  have hSFt := hSF
  replace hSF := hSF.1
  have q0_ : Cond.fieldLink RJ0 38 "java/lang/String" "COMPACT_STRINGS" "Z" ∈ wsJ0_coder_7d493 := by decide +kernel
  have q1_ : ∀ w ∈ u_ws RJ0 TJ0 4, w ∈ wsJ0_coder_7d493 := by decide +kernel
  have q2_ : Cond.fieldLink RJ0 15 "java/lang/String" "coder" "B" ∈ wsJ0_coder_7d493 := by decide +kernel
  show V G K 1 0 0 0 [some (.ref t)] [] [(t, .inr (0, [.ref tv, .int 0, .int hh, .int hz])), (tv, .inl (gB G, k, .inl (fun j => nI (g j))))]
  refine V.gets hC (n := "COMPACT_STRINGS") hSF.2.2.2.2.2.2.2.2.2.2.1 q0_ rfl dJ0_coder_7d493_0 ?_
  refine V.ifN_eq hC 1 13 dJ0_coder_7d493_3 rfl rfl (by omega) (fun c_3 => ?_) (fun c_3 => ?_)
  · exact absurd c_3 (by decide)
  · refine V.aload_n hC (x := t) dJ0_coder_7d493_6 rfl ?_
    refine V.getf hC (T := TJ0) q1_ 1 q2_ rfl (0) rfl rfl (by decide) (.int 0) rfl dJ0_coder_7d493_7 ?_
    refine V.goto hC 14 dJ0_coder_7d493_10 rfl ?_
    exact hE 14 _ 0 () dJ0_coder_7d493_14 rfl rfl

set_option maxHeartbeats 4000000 in
set_option maxRecDepth 100000 in
theorem d_strLenD (l : Launch) (G : Gx) (t tv k : Nat) (g : Nat → Nat) (hh hz : Int32) (hk : k ≤ 49) (hg : ∀ j, g j < 128) : Ct l G (SFt G) yJ0_length_8abf5 wsJ0_length_8abf5 ({ frames := 1, cells := 0, slots := 0, locals := 20 }) [.ref t] [(t, .inr (0, [.ref tv, .int 0, .int hh, .int hz])), (tv, .inl (gB G, k, .inl (fun j => nI (g j))))] mkI (fun (r : Int32) (_ : Unit) => r = nI (k)) (fun _ : Unit => [(t, .inr (0, [.ref tv, .int 0, .int hh, .int hz])), (tv, .inl (gB G, k, .inl (fun j => nI (g j))))]) 0 0 := by
  refine Ct.ofI (cc := cJ0_length_8abf5) (maxL := 1) (by decide) rfl ⟨by simp [Value.category], Nat.le_of_ble_eq_true rfl⟩ ?_
  intro K hl hC hSF hnm hE
  subst hl
  have hgot := SFgoS (SFt.k G) hSF
  have hgo := SFgo.x hgot
  have hSFt := hSF
  replace hSF := hSF.1
  have q0_ : ∀ w ∈ u_ws RJ0 TJ0 4, w ∈ wsJ0_length_8abf5 := by decide +kernel
  have q1_ : Cond.fieldLink RJ0 9 "java/lang/String" "value" "[B" ∈ wsJ0_length_8abf5 := by decide +kernel
  show V G K 1 0 0 0 [some (.ref t)] [] [(t, .inr (0, [.ref tv, .int 0, .int hh, .int hz])), (tv, .inl (gB G, k, .inl (fun j => nI (g j))))]
  refine V.aload_n hC (x := t) dJ0_length_8abf5_0 rfl ?_
  refine V.getf hC (T := TJ0) q0_ 0 q1_ rfl (0) rfl rfl (by decide) (.ref tv) rfl dJ0_length_8abf5_1 ?_
  refine V.alen hC dJ0_length_8abf5_4 (1) 6 rfl rfl (nI k) rfl ?_
  refine V.aload_n hC (x := t) dJ0_length_8abf5_5 rfl ?_
  refine V.callVr (n := 0) (As := []) (rest := [.int (nI k)]) hC (d_coderD (kl K) G t tv k g hh hz hk hg) (SFt.k G) hgot gJ0_length_8abf5_J0_coder_7d493 rfl ⟨rfl, rfl⟩ (by decide +kernel) ⟨by decide, by decide, by decide, by decide⟩ [0, 1] rfl (by decide) rfl rfl rfl rfl (Nat.le_of_ble_eq_true rfl) dJ0_length_8abf5_6 (fun r_6 u_6 hp_6 => ?_)
  subst hp_6
  show V G K 1 0 0 9 [some (.ref t)] [.int (nI 0), .int (nI k)] [(t, .inr (0, [.ref tv, .int 0, .int hh, .int hz])), (tv, .inl (gB G, k, .inl (fun j => nI (g j))))]
  refine V.ishr hC dJ0_length_8abf5_9 ?_
  refine V.topeq (nI k) (shr_0 (by omega)) ?_
  exact hE 10 _ (nI k) () dJ0_length_8abf5_10 rfl rfl

set_option maxHeartbeats 4000000 in
set_option maxRecDepth 100000 in
theorem d_getBytesD (l : Launch) (G : Gx) (t tv k : Nat) (g : Nat → Nat) (hh hz : Int32) (hk : k ≤ 49) (hg : ∀ j, g j < 128) (q N : Nat) (h : Nat → Nat) (hh_ : ∀ j, h j < 128) (o : Nat) (ho : o + k ≤ N) (hN : N < 100) : Ct l G (SFt G) yJ0_getBytes_840e7 wsJ0_getBytes_840e7 ({ frames := 1, cells := 0, slots := 0, locals := 20 }) [.ref t, .ref q, .int (nI o), .int (nI 0)] [(t, .inr (0, [.ref tv, .int 0, .int hh, .int hz])), (tv, .inl (gB G, k, .inl (fun j => nI (g j)))), (q, .inl (gB G, N, .inl (fun j => nI (h j))))] mkV (fun (_ : Unit) (_ : Unit) => True) (fun _ : Unit => [(t, .inr (0, [.ref tv, .int 0, .int hh, .int hz])), (tv, .inl (gB G, k, .inl (fun j => nI (g j)))), (q, .inl (gB G, N, .inl (fun j => nI ((fun j => if o ≤ j ∧ j < o + k then g (j - o) else h j) j))))]) 0 0 := by
  refine Ct.ofV (cc := cJ0_getBytes_840e7) (maxL := 4) (by decide) rfl ⟨by simp [Value.category], Nat.le_of_ble_eq_true rfl⟩ ?_
  intro K hl hC hSF hnm hE
  subst hl
  have hgot := SFgoS (SFt.k G) hSF
  have hgo := SFgo.x hgot
  have hSFt := hSF
  replace hSF := hSF.1
  have q0_ : ∀ w ∈ u_ws RJ0 TJ0 4, w ∈ wsJ0_getBytes_840e7 := by decide +kernel
  have q1_ : Cond.fieldLink RJ0 9 "java/lang/String" "value" "[B" ∈ wsJ0_getBytes_840e7 := by decide +kernel
  have q2_ : Cond.methodLink RJ0 212 arraycopyName ∈ wsJ0_getBytes_840e7 := by decide +kernel
  have q3_ : Cond.native arraycopyName ∈ wsJ0_getBytes_840e7 := by decide +kernel
  have q4_ : Cond.static arraycopyName ∈ wsJ0_getBytes_840e7 := by decide +kernel
  have q5_ : Cond.initialized "java/lang/System" ∈ wsJ0_getBytes_840e7 := by decide +kernel
  show V G K 4 0 0 0 [some (.ref t), some (.ref q), some (.int (nI o)), some (.int (nI 0))] [] [(t, .inr (0, [.ref tv, .int 0, .int hh, .int hz])), (tv, .inl (gB G, k, .inl (fun j => nI (g j)))), (q, .inl (gB G, N, .inl (fun j => nI (h j))))]
  refine V.aload_n hC (x := t) dJ0_getBytes_840e7_0 rfl ?_
  refine V.callVr (n := 0) (As := []) (rest := []) hC (d_coderD (kl K) G t tv k g hh hz hk hg) (SFt.k G) hgot gJ0_getBytes_840e7_J0_coder_7d493 rfl ⟨rfl, rfl⟩ (by decide +kernel) ⟨by decide, by decide, by decide, by decide⟩ [0, 1] rfl (by decide) rfl rfl rfl rfl (Nat.le_of_ble_eq_true rfl) dJ0_getBytes_840e7_1 (fun r_1 u_1 hp_1 => ?_)
  subst hp_1
  show V G K 4 0 0 4 [some (.ref t), some (.ref q), some (.int (nI o)), some (.int (nI 0))] [.int (nI 0)] [(t, .inr (0, [.ref tv, .int 0, .int hh, .int hz])), (tv, .inl (gB G, k, .inl (fun j => nI (g j)))), (q, .inl (gB G, N, .inl (fun j => nI (h j))))]
  refine V.iload_n hC (x := nI 0) dJ0_getBytes_840e7_4 rfl ?_
  refine V.icmpN_ne hC 0 0 28 dJ0_getBytes_840e7_5 rfl rfl rfl (by omega) (by omega) (fun c_5 => ?_) (fun c_5 => ?_)
  · exact absurd rfl c_5
  · refine V.aload_n hC (x := t) dJ0_getBytes_840e7_8 rfl ?_
    refine V.getf hC (T := TJ0) q0_ 0 q1_ rfl (0) rfl rfl (by decide) (.ref tv) rfl dJ0_getBytes_840e7_9 ?_
    refine V.iconst hC 0 dJ0_getBytes_840e7_12 rfl ?_
    refine V.aload_n hC (x := q) dJ0_getBytes_840e7_13 rfl ?_
    refine V.iload_n hC (x := nI o) dJ0_getBytes_840e7_14 rfl ?_
    refine V.iload_n hC (x := nI 0) dJ0_getBytes_840e7_15 rfl ?_
    refine V.ishl hC dJ0_getBytes_840e7_16 ?_
    refine V.topeq (nI o) (shl_0 (by omega)) ?_
    refine V.aload_n hC (x := t) dJ0_getBytes_840e7_17 rfl ?_
    refine V.getf hC (T := TJ0) q0_ 0 q1_ rfl (0) rfl rfl (by decide) (.ref tv) rfl dJ0_getBytes_840e7_18 ?_
    refine V.alen hC dJ0_getBytes_840e7_21 (1) 6 rfl rfl (nI k) rfl ?_
    refine V.copyBo hC q2_ q3_ q4_ q5_ (1) (2) (N0 := k) (N1 := N) (f := g) (g := h) hg rfl rfl k o rfl rfl (by omega) (by omega) (by omega) (by omega) ⟨Nat.le_of_ble_eq_true rfl, Nat.le_of_ble_eq_true rfl⟩ dJ0_getBytes_840e7_22 [(t, .inr (0, [.ref tv, .int 0, .int hh, .int hz])), (tv, .inl (gB G, k, .inl (fun j => nI (g j)))), (q, .inl (gB G, N, .inl (fun j => nI ((fun j => if o ≤ j ∧ j < o + k then g (j - o) else h j) j))))] rfl ?_
    refine V.goto hC 43 dJ0_getBytes_840e7_25 rfl ?_
    exact hE 43 _ () dJ0_getBytes_840e7_43 trivial

set_option maxHeartbeats 4000000 in
set_option maxRecDepth 100000 in
theorem d_inflateD (l : Launch) (G : Gx) (sb b cap : Nat) (f : Nat → Nat) (n : Nat) (ml : Int32) (hcap : capQ cap) (hn : n ≤ cap) (hf : ∀ j, f j < 128) (t tv k : Nat) (g : Nat → Nat) (hh hz : Int32) (hk : k ≤ 49) (hg : ∀ j, g j < 128) : Ct l G (SFt G) yJ5_inflateIfNeededFor_a7421 wsJ5_inflateIfNeededFor_a7421 ({ frames := 1, cells := 0, slots := 0, locals := 20 }) [.ref sb, .ref t] [(sb, .inr (1, [.ref b, .int 0, .int ml, .int (nI n)])), (b, .inl (gB G, cap, .inl (fun j => nI (f j)))), (t, .inr (0, [.ref tv, .int 0, .int hh, .int hz])), (tv, .inl (gB G, k, .inl (fun j => nI (g j))))] mkV (fun (_ : Unit) (_ : Unit) => True) (fun _ : Unit => [(sb, .inr (1, [.ref b, .int 0, .int ml, .int (nI n)])), (b, .inl (gB G, cap, .inl (fun j => nI (f j)))), (t, .inr (0, [.ref tv, .int 0, .int hh, .int hz])), (tv, .inl (gB G, k, .inl (fun j => nI (g j))))]) 0 0 := by
  refine Ct.ofV (cc := cJ5_inflateIfNeededFor_a7421) (maxL := 2) (by decide) rfl ⟨by simp [Value.category], Nat.le_of_ble_eq_true rfl⟩ ?_
  intro K hl hC hSF hnm hE
  subst hl
  have hgot := SFgoS (SFt.k G) hSF
  have hgo := SFgo.x hgot
  have hSFt := hSF
  replace hSF := hSF.1
  have q0_ : Cond.fieldLink RJ5 18 "java/lang/String" "COMPACT_STRINGS" "Z" ∈ wsJ5_inflateIfNeededFor_a7421 := by decide +kernel
  have q1_ : ∀ w ∈ u_ws RJ4 TJ4 4, w ∈ wsJ5_inflateIfNeededFor_a7421 := by decide +kernel
  have q2_ : Cond.fieldLink RJ5 22 "java/lang/AbstractStringBuilder" "coder" "B" ∈ wsJ5_inflateIfNeededFor_a7421 := by decide +kernel
  show V G K 2 0 0 0 [some (.ref sb), some (.ref t)] [] [(sb, .inr (1, [.ref b, .int 0, .int ml, .int (nI n)])), (b, .inl (gB G, cap, .inl (fun j => nI (f j)))), (t, .inr (0, [.ref tv, .int 0, .int hh, .int hz])), (tv, .inl (gB G, k, .inl (fun j => nI (g j))))]
  refine V.gets hC (n := "COMPACT_STRINGS") hSF.2.2.2.2.2.2.2.2.2.2.1 q0_ rfl dJ5_inflateIfNeededFor_a7421_0 ?_
  refine V.ifN_eq hC 1 21 dJ5_inflateIfNeededFor_a7421_3 rfl rfl (by omega) (fun c_3 => ?_) (fun c_3 => ?_)
  · exact absurd c_3 (by decide)
  · refine V.aload_n hC (x := sb) dJ5_inflateIfNeededFor_a7421_6 rfl ?_
    refine V.getf hC (T := TJ4) q1_ 1 q2_ rfl (0) rfl rfl (by decide) (.int 0) rfl dJ5_inflateIfNeededFor_a7421_7 ?_
    refine V.aload_n hC (x := t) dJ5_inflateIfNeededFor_a7421_10 rfl ?_
    refine V.callVr (n := 0) (As := []) (rest := [.int 0]) hC (d_coderD (kl K) G t tv k g hh hz hk hg) (SFt.k G) hgot gJ5_inflateIfNeededFor_a7421_J0_coder_7d493 rfl ⟨rfl, rfl⟩ (by decide +kernel) ⟨by decide, by decide, by decide, by decide⟩ [2, 3] rfl (by decide) rfl rfl rfl rfl (Nat.le_of_ble_eq_true rfl) dJ5_inflateIfNeededFor_a7421_11 (fun r_11 u_11 hp_11 => ?_)
    subst hp_11
    show V G K 2 0 0 14 [some (.ref sb), some (.ref t)] [.int (nI 0), .int 0] [(sb, .inr (1, [.ref b, .int 0, .int ml, .int (nI n)])), (b, .inl (gB G, cap, .inl (fun j => nI (f j)))), (t, .inr (0, [.ref tv, .int 0, .int hh, .int hz])), (tv, .inl (gB G, k, .inl (fun j => nI (g j))))]
    refine V.icmpN_eq hC 0 0 21 dJ5_inflateIfNeededFor_a7421_14 rfl rfl rfl (by omega) (by omega) (fun c_14 => ?_) (fun c_14 => ?_)
    · exact hE 21 _ () dJ5_inflateIfNeededFor_a7421_21 trivial
    · exact absurd rfl c_14

set_option maxHeartbeats 4000000 in
set_option maxRecDepth 100000 in
theorem d_putStrD (l : Launch) (G : Gx) (sb b cap : Nat) (f : Nat → Nat) (n : Nat) (ml : Int32) (hcap : capQ cap) (hn : n ≤ cap) (hf : ∀ j, f j < 128) (t tv k : Nat) (g : Nat → Nat) (hh hz : Int32) (hk : k ≤ 49) (hg : ∀ j, g j < 128) (o : Nat) (ho : o + k ≤ cap) : Ct l G (SFt G) yJ5_putStringAt_47b60 wsJ5_putStringAt_47b60 ({ frames := 2, cells := 0, slots := 0, locals := 43 }) [.ref sb, .int (nI o), .ref t] [(sb, .inr (1, [.ref b, .int 0, .int ml, .int (nI n)])), (b, .inl (gB G, cap, .inl (fun j => nI (f j)))), (t, .inr (0, [.ref tv, .int 0, .int hh, .int hz])), (tv, .inl (gB G, k, .inl (fun j => nI (g j))))] mkV (fun (_ : Unit) (_ : Unit) => True) (fun _ : Unit => [(sb, .inr (1, [.ref b, .int 0, .int ml, .int (nI n)])), (b, .inl (gB G, cap, .inl (fun j => nI ((fun j => if o ≤ j ∧ j < o + k then g (j - o) else f j) j)))), (t, .inr (0, [.ref tv, .int 0, .int hh, .int hz])), (tv, .inl (gB G, k, .inl (fun j => nI (g j))))]) 0 0 := by
  refine Ct.ofV (cc := cJ5_putStringAt_47b60) (maxL := 3) (by decide) rfl ⟨by simp [Value.category], Nat.le_of_ble_eq_true rfl⟩ ?_
  intro K hl hC hSF hnm hE
  subst hl
  have hgot := SFgoS (SFt.k G) hSF
  have hgo := SFgo.x hgot
  have hSFt := hSF
  replace hSF := hSF.1
  have q0_ : ∀ w ∈ u_ws RJ4 TJ4 4, w ∈ wsJ5_putStringAt_47b60 := by decide +kernel
  have q1_ : Cond.fieldLink RJ5 15 "java/lang/AbstractStringBuilder" "value" "[B" ∈ wsJ5_putStringAt_47b60 := by decide +kernel
  have q2_ : Cond.fieldLink RJ5 22 "java/lang/AbstractStringBuilder" "coder" "B" ∈ wsJ5_putStringAt_47b60 := by decide +kernel
  show V G K 3 0 0 0 [some (.ref sb), some (.int (nI o)), some (.ref t)] [] [(sb, .inr (1, [.ref b, .int 0, .int ml, .int (nI n)])), (b, .inl (gB G, cap, .inl (fun j => nI (f j)))), (t, .inr (0, [.ref tv, .int 0, .int hh, .int hz])), (tv, .inl (gB G, k, .inl (fun j => nI (g j))))]
  have hcl := hcap.2
  have hcg := hcap.1
  refine V.aload_n hC (x := sb) dJ5_putStringAt_47b60_0 rfl ?_
  refine V.aload_n hC (x := t) dJ5_putStringAt_47b60_1 rfl ?_
  refine V.callUG (n := 1) (As := [.ref t]) (rest := []) (wr := []) (x := ⟨"java/lang/AbstractStringBuilder", "inflateIfNeededFor", "(Ljava/lang/String;)V"⟩) (owner := "java/lang/AbstractStringBuilder") hC (d_inflateD (kl K) G sb b cap f n ml hcap hn hf t tv k g hh hz hk hg) (SFt.k G) hgot gJ5_putStringAt_47b60_J5_inflateIfNeededFor_a7421_u397J4 rfl ⟨rfl, rfl⟩ rfl (by decide +kernel) ⟨by decide, by decide, by decide, by decide⟩ [0, 1, 2, 3] [] rfl (by decide) rfl (by decide) (by decide) rfl rfl rfl rfl (Nat.le_of_ble_eq_true rfl) dJ5_putStringAt_47b60_2 (fun r_2 u_2 hp_2 => ?_)
  show V G K 3 0 0 5 [some (.ref sb), some (.int (nI o)), some (.ref t)] [] [(sb, .inr (1, [.ref b, .int 0, .int ml, .int (nI n)])), (b, .inl (gB G, cap, .inl (fun j => nI (f j)))), (t, .inr (0, [.ref tv, .int 0, .int hh, .int hz])), (tv, .inl (gB G, k, .inl (fun j => nI (g j))))]
  refine V.aload_n hC (x := t) dJ5_putStringAt_47b60_5 rfl ?_
  refine V.aload_n hC (x := sb) dJ5_putStringAt_47b60_6 rfl ?_
  refine V.getf hC (T := TJ4) q0_ 0 q1_ rfl (0) rfl rfl (by decide) (.ref b) rfl dJ5_putStringAt_47b60_7 ?_
  refine V.iload_n hC (x := nI o) dJ5_putStringAt_47b60_10 rfl ?_
  refine V.aload_n hC (x := sb) dJ5_putStringAt_47b60_11 rfl ?_
  refine V.getf hC (T := TJ4) q0_ 1 q2_ rfl (0) rfl rfl (by decide) (.int 0) rfl dJ5_putStringAt_47b60_12 ?_
  refine V.callV (n := 3) (As := [.ref b, .int (nI o), .int 0]) (rest := []) hC (d_getBytesD (kl K) G t tv k g hh hz hk hg b cap f hf o ho (by omega)) (SFt.k G) hgot gJ5_putStringAt_47b60_J0_getBytes_840e7 rfl ⟨rfl, rfl⟩ (by decide +kernel) ⟨by decide, by decide, by decide, by decide⟩ [2, 3, 1] rfl (by decide) (fun _ => rfl) rfl rfl rfl rfl (Nat.le_of_ble_eq_true rfl) dJ5_putStringAt_47b60_15 (fun r_15 u_15 hp_15 => ?_)
  show V G K 3 0 0 18 [some (.ref sb), some (.int (nI o)), some (.ref t)] [] [(sb, .inr (1, [.ref b, .int 0, .int ml, .int (nI n)])), (b, .inl (gB G, cap, .inl (fun j => nI ((fun j => if o ≤ j ∧ j < o + k then g (j - o) else f j) j)))), (t, .inr (0, [.ref tv, .int 0, .int hh, .int hz])), (tv, .inl (gB G, k, .inl (fun j => nI (g j))))]
  exact hE 18 _ () dJ5_putStringAt_47b60_18 trivial

set_option maxHeartbeats 4000000 in
set_option maxRecDepth 100000 in
theorem d_appendT5D (l : Launch) (G : Gx) (sb b cap : Nat) (f : Nat → Nat) (n : Nat) (ml : Int32) (hcap : capQ cap) (hn : n ≤ cap) (hf : ∀ j, f j < 128) (t tv k : Nat) (g : Nat → Nat) (hh hz : Int32) (hk : k ≤ 49) (hg : ∀ j, g j < 128) (hq : n + k ≤ 49) : Ct l G (SFt G) yJ5_append_cf1ce wsJ5_append_cf1ce ({ frames := 4, cells := 1, slots := 98, locals := 84 }) [.ref sb, .ref t] [(sb, .inr (1, [.ref b, .int 0, .int ml, .int (nI n)])), (b, .inl (gB G, cap, .inl (fun j => nI (f j)))), (t, .inr (0, [.ref tv, .int 0, .int hh, .int hz])), (tv, .inl (gB G, k, .inl (fun j => nI (g j))))] mkA (fun (r : Option Nat) (u : Nat × Nat × (Nat → Nat)) => r = some sb ∧ capQ u.2.1 ∧ (∀ j, u.2.2 j < 128) ∧ n + k ≤ u.2.1 ∧ (∀ j, j < n → u.2.2 j = f j) ∧ ∀ j, j < k → u.2.2 (n + j) = g j) (fun u : Nat × Nat × (Nat → Nat) => [(sb, .inr (1, [.ref (u.1), .int 0, .int ml, .int (nI (n + k))])), (u.1, .inl (gB G, u.2.1, .inl (fun j => nI ((u.2.2) j)))), (t, .inr (0, [.ref tv, .int 0, .int hh, .int hz])), (tv, .inl (gB G, k, .inl (fun j => nI (g j))))]) 1 98 := by
  refine Ct.ofA (mk := fun r : Option Nat => va_rf r) (fun r => va_rf_or r) (Or.inl ⟨_, rfl⟩) (cc := cJ5_append_cf1ce) (maxL := 3) (by decide) rfl ⟨by simp [Value.category], Nat.le_of_ble_eq_true rfl⟩ ?_
  intro K hl hC hSF hnm hE
  subst hl
  have hgot := SFgoS (SFt.k G) hSF
  have hgo := SFgo.x hgot
  have hSFt := hSF
  replace hSF := hSF.1
  have q0_ : ∀ w ∈ u_ws RJ4 TJ4 4, w ∈ wsJ5_append_cf1ce := by decide +kernel
  have q1_ : Cond.fieldLink RJ5 79 "java/lang/AbstractStringBuilder" "count" "I" ∈ wsJ5_append_cf1ce := by decide +kernel
  show V G K 3 0 0 0 [some (.ref sb), some (.ref t), none] [] [(sb, .inr (1, [.ref b, .int 0, .int ml, .int (nI n)])), (b, .inl (gB G, cap, .inl (fun j => nI (f j)))), (t, .inr (0, [.ref tv, .int 0, .int hh, .int hz])), (tv, .inl (gB G, k, .inl (fun j => nI (g j))))]
  have hcl := hcap.2
  have hcg := hcap.1
  refine V.aload_n hC (x := t) dJ5_append_cf1ce_0 rfl ?_
  refine V.ifnonnull hC 9 dJ5_append_cf1ce_1 rfl ?_
  refine V.aload_n hC (x := t) dJ5_append_cf1ce_9 rfl ?_
  refine V.callVr (n := 0) (As := []) (rest := []) hC (d_strLenD (kl K) G t tv k g hh hz hk hg) (SFt.k G) hgot gJ5_append_cf1ce_J0_length_8abf5 rfl ⟨rfl, rfl⟩ (by decide +kernel) ⟨by decide, by decide, by decide, by decide⟩ [2, 3] rfl (by decide) rfl rfl rfl rfl (Nat.le_of_ble_eq_true rfl) dJ5_append_cf1ce_10 (fun r_10 u_10 hp_10 => ?_)
  subst hp_10
  show V G K 3 0 0 13 [some (.ref sb), some (.ref t), none] [.int (nI k)] [(sb, .inr (1, [.ref b, .int 0, .int ml, .int (nI n)])), (b, .inl (gB G, cap, .inl (fun j => nI (f j)))), (t, .inr (0, [.ref tv, .int 0, .int hh, .int hz])), (tv, .inl (gB G, k, .inl (fun j => nI (g j))))]
  refine V.istore_n hC dJ5_append_cf1ce_13 [some (.ref sb), some (.ref t), some (.int (nI k))] (Nat.le_of_ble_eq_true rfl) rfl ?_
  refine V.aload_n hC (x := sb) dJ5_append_cf1ce_14 rfl ?_
  refine V.aload_n hC (x := sb) dJ5_append_cf1ce_15 rfl ?_
  refine V.getf hC (T := TJ4) q0_ 3 q1_ rfl (0) rfl rfl (by decide) (.int (nI n)) rfl dJ5_append_cf1ce_16 ?_
  refine V.iload_n hC (x := nI k) dJ5_append_cf1ce_19 rfl ?_
  refine V.iaddN hC n k dJ5_append_cf1ce_20 rfl rfl ?_
  refine V.callUG (n := 1) (As := [.int (nI (n + k))]) (rest := []) (wr := [(t, .inr (0, [.ref tv, .int 0, .int hh, .int hz])), (tv, .inl (gB G, k, .inl (fun j => nI (g j))))]) (x := ⟨"java/lang/AbstractStringBuilder", "ensureCapacityInternal", "(I)V"⟩) (owner := "java/lang/AbstractStringBuilder") hC (d_ensure (kl K) G sb b cap f n ml hcap hn hf (n + k) hq) (SFx.k G) hgo gJ5_append_cf1ce_J5_ensureCapacityInternal_d00df_u100J4 rfl ⟨rfl, rfl⟩ rfl (by decide +kernel) ⟨by decide, by decide, by decide, by decide⟩ [0, 1] [2, 3] rfl (by decide) rfl (by decide) (by decide) rfl rfl rfl rfl (Nat.le_of_ble_eq_true rfl) dJ5_append_cf1ce_21 (fun r_21 u_21 hp_21 => ?_)
  obtain ⟨hu1_, hu2_, hu3_, hu4_⟩ := hp_21
  have hul_ := hu1_.2
  show V G K 3 1 98 24 [some (.ref sb), some (.ref t), some (.int (nI k))] [] [(t, .inr (0, [.ref tv, .int 0, .int hh, .int hz])), (tv, .inl (gB G, k, .inl (fun j => nI (g j)))), (sb, .inr (1, [.ref (u_21.1), .int 0, .int ml, .int (nI n)])), (u_21.1, .inl (gB G, u_21.2.1, .inl (fun j => nI ((u_21.2.2) j))))]
  refine V.aload_n hC (x := sb) dJ5_append_cf1ce_24 rfl ?_
  refine V.aload_n hC (x := sb) dJ5_append_cf1ce_25 rfl ?_
  refine V.getf hC (T := TJ4) q0_ 3 q1_ rfl (2) rfl rfl (by decide) (.int (nI n)) rfl dJ5_append_cf1ce_26 ?_
  refine V.aload_n hC (x := t) dJ5_append_cf1ce_29 rfl ?_
  refine V.callUG (n := 2) (As := [.int (nI n), .ref t]) (rest := []) (wr := []) (x := ⟨"java/lang/AbstractStringBuilder", "putStringAt", "(ILjava/lang/String;)V"⟩) (owner := "java/lang/AbstractStringBuilder") hC (d_putStrD (kl K) G sb u_21.1 u_21.2.1 u_21.2.2 n ml hu1_ (by omega) hu2_ t tv k g hh hz hk hg n hu3_) (SFt.k G) hgot gJ5_append_cf1ce_J5_putStringAt_47b60_u208J4 rfl ⟨rfl, rfl⟩ rfl (by decide +kernel) ⟨by decide, by decide, by decide, by decide⟩ [2, 3, 0, 1] [] rfl (by decide) rfl (by decide) (by decide) rfl rfl rfl rfl (Nat.le_of_ble_eq_true rfl) dJ5_append_cf1ce_30 (fun r_30 u_30 hp_30 => ?_)
  show V G K 3 1 98 33 [some (.ref sb), some (.ref t), some (.int (nI k))] [] [(sb, .inr (1, [.ref (u_21.1), .int 0, .int ml, .int (nI n)])), (u_21.1, .inl (gB G, u_21.2.1, .inl (fun j => nI ((fun j => if n ≤ j ∧ j < n + k then g (j - n) else u_21.2.2 j) j)))), (t, .inr (0, [.ref tv, .int 0, .int hh, .int hz])), (tv, .inl (gB G, k, .inl (fun j => nI (g j))))]
  refine V.aload_n hC (x := sb) dJ5_append_cf1ce_33 rfl ?_
  refine V.dup hC dJ5_append_cf1ce_34 rfl ?_
  refine V.getf hC (T := TJ4) q0_ 3 q1_ rfl (0) rfl rfl (by decide) (.int (nI n)) rfl dJ5_append_cf1ce_35 ?_
  refine V.iload_n hC (x := nI k) dJ5_append_cf1ce_38 rfl ?_
  refine V.iaddN hC n k dJ5_append_cf1ce_39 rfl rfl ?_
  refine V.putf hC (T := TJ4) q0_ tyJ4 tyJ4_ok nmJ4 3 q1_ rfl rfl (0) rfl rfl (by decide) (by simp) rfl rfl dJ5_append_cf1ce_40 [(sb, .inr (1, [.ref (u_21.1), .int 0, .int ml, .int (nI (n + k))])), (u_21.1, .inl (gB G, u_21.2.1, .inl (fun j => nI ((fun j => if n ≤ j ∧ j < n + k then g (j - n) else u_21.2.2 j) j)))), (t, .inr (0, [.ref tv, .int 0, .int hh, .int hz])), (tv, .inl (gB G, k, .inl (fun j => nI (g j))))] rfl ?_
  refine V.aload_n hC (x := sb) dJ5_append_cf1ce_43 rfl ?_
  exact hE 44 _ (some sb) (u_21.1, u_21.2.1, (fun j => if n ≤ j ∧ j < n + k then g (j - n) else u_21.2.2 j)) dJ5_append_cf1ce_44 ⟨rfl, hu1_, fun j => (by show (if _ then _ else _) < 128; split; exact hg (j - n); exact hu2_ j), hu3_, fun j hj => (if_neg (by omega)).trans (hu4_ j (by omega)), fun j hj => (if_pos (show n ≤ n + j ∧ n + j < n + k from ⟨Nat.le_add_right n j, by omega⟩)).trans (by rw [Nat.add_sub_cancel_left])⟩

set_option maxHeartbeats 4000000 in
set_option maxRecDepth 100000 in
theorem d_appendTD (l : Launch) (G : Gx) (sb b cap : Nat) (f : Nat → Nat) (n : Nat) (ml : Int32) (hcap : capQ cap) (hn : n ≤ cap) (hf : ∀ j, f j < 128) (t tv k : Nat) (g : Nat → Nat) (hh hz : Int32) (hk : k ≤ 49) (hg : ∀ j, g j < 128) (hq : n + k ≤ 49) : Ct l G (SFt G) yJ4_append_15ec4 wsJ4_append_15ec4 ({ frames := 5, cells := 1, slots := 98, locals := 106 }) [.ref sb, .ref t] [(sb, .inr (1, [.ref b, .int 0, .int ml, .int (nI n)])), (b, .inl (gB G, cap, .inl (fun j => nI (f j)))), (t, .inr (0, [.ref tv, .int 0, .int hh, .int hz])), (tv, .inl (gB G, k, .inl (fun j => nI (g j))))] mkA (fun (r : Option Nat) (u : Nat × Nat × (Nat → Nat)) => r = some sb ∧ capQ u.2.1 ∧ (∀ j, u.2.2 j < 128) ∧ n + k ≤ u.2.1 ∧ (∀ j, j < n → u.2.2 j = f j) ∧ ∀ j, j < k → u.2.2 (n + j) = g j) (fun u : Nat × Nat × (Nat → Nat) => [(sb, .inr (1, [.ref (u.1), .int 0, .int ml, .int (nI (n + k))])), (u.1, .inl (gB G, u.2.1, .inl (fun j => nI ((u.2.2) j)))), (t, .inr (0, [.ref tv, .int 0, .int hh, .int hz])), (tv, .inl (gB G, k, .inl (fun j => nI (g j))))]) 1 98 := by
  refine Ct.ofA (mk := fun r : Option Nat => va_rf r) (fun r => va_rf_or r) (Or.inl ⟨_, rfl⟩) (cc := cJ4_append_15ec4) (maxL := 2) (by decide) rfl ⟨by simp [Value.category], Nat.le_of_ble_eq_true rfl⟩ ?_
  intro K hl hC hSF hnm hE
  subst hl
  have hgot := SFgoS (SFt.k G) hSF
  have hgo := SFgo.x hgot
  have hSFt := hSF
  replace hSF := hSF.1
  show V G K 2 0 0 0 [some (.ref sb), some (.ref t)] [] [(sb, .inr (1, [.ref b, .int 0, .int ml, .int (nI n)])), (b, .inl (gB G, cap, .inl (fun j => nI (f j)))), (t, .inr (0, [.ref tv, .int 0, .int hh, .int hz])), (tv, .inl (gB G, k, .inl (fun j => nI (g j))))]
  refine V.aload_n hC (x := sb) dJ4_append_15ec4_0 rfl ?_
  refine V.aload_n hC (x := t) dJ4_append_15ec4_1 rfl ?_
  refine V.callPG (n := 1) (As := [.ref t]) (rest := []) (wr := []) hC (d_appendT5D (kl K) G sb b cap f n ml hcap hn hf t tv k g hh hz hk hg hq) (SFt.k G) hgot gJ4_append_15ec4_J5_append_cf1ce_s29 rfl ⟨rfl, rfl⟩ (by decide +kernel) ⟨by decide, by decide, by decide, by decide⟩ [0, 1, 2, 3] [] rfl (by decide) rfl (by decide) (by decide) rfl rfl rfl rfl (Nat.le_of_ble_eq_true rfl) dJ4_append_15ec4_2 (fun r_2 u_2 hp_2 => ?_)
  obtain ⟨e_2, hu_2⟩ := hp_2
  subst e_2
  show V G K 2 1 98 5 [some (.ref sb), some (.ref t)] [.ref sb] [(sb, .inr (1, [.ref (u_2.1), .int 0, .int ml, .int (nI (n + k))])), (u_2.1, .inl (gB G, u_2.2.1, .inl (fun j => nI ((u_2.2.2) j)))), (t, .inr (0, [.ref tv, .int 0, .int hh, .int hz])), (tv, .inl (gB G, k, .inl (fun j => nI (g j))))]
  refine V.pop hC dJ4_append_15ec4_5 rfl ?_
  refine V.aload_n hC (x := sb) dJ4_append_15ec4_6 rfl ?_
  exact hE 7 _ (some sb) u_2 dJ4_append_15ec4_7 ⟨rfl, hu_2⟩

set_option maxHeartbeats 4000000 in
set_option maxRecDepth 100000 in
theorem d_getValue (l : Launch) (G : Gx) (sb b cap : Nat) (f : Nat → Nat) (n : Nat) (ml : Int32) (hcap : capQ cap) (hn : n ≤ cap) (hf : ∀ j, f j < 128) : Ct l G SF0 yJ5_getValue_6d5f1 wsJ5_getValue_6d5f1 ({ frames := 0, cells := 0, slots := 0, locals := 0 }) [.ref sb] [(sb, .inr (1, [.ref b, .int 0, .int ml, .int (nI n)])), (b, .inl (gB G, cap, .inl (fun j => nI (f j))))] mkA (fun (r : Option Nat) (_ : Unit) => r = some b) (fun _ : Unit => [(sb, .inr (1, [.ref b, .int 0, .int ml, .int (nI n)])), (b, .inl (gB G, cap, .inl (fun j => nI (f j))))]) 0 0 := by
  refine Ct.ofA (mk := fun r : Option Nat => va_rf r) (fun r => va_rf_or r) (Or.inr ⟨_, rfl⟩) (cc := cJ5_getValue_6d5f1) (maxL := 1) (by decide) rfl ⟨by simp [Value.category], Nat.le_of_ble_eq_true rfl⟩ ?_
  intro K hl hC hSF hnm hE
  subst hl
  have q0_ : ∀ w ∈ u_ws RJ4 TJ4 4, w ∈ wsJ5_getValue_6d5f1 := by decide +kernel
  have q1_ : Cond.fieldLink RJ5 15 "java/lang/AbstractStringBuilder" "value" "[B" ∈ wsJ5_getValue_6d5f1 := by decide +kernel
  show V G K 1 0 0 0 [some (.ref sb)] [] [(sb, .inr (1, [.ref b, .int 0, .int ml, .int (nI n)])), (b, .inl (gB G, cap, .inl (fun j => nI (f j))))]
  refine V.aload_n hC (x := sb) dJ5_getValue_6d5f1_0 rfl ?_
  refine V.getf hC (T := TJ4) q0_ 0 q1_ rfl (0) rfl rfl (by decide) (.ref b) rfl dJ5_getValue_6d5f1_1 ?_
  exact hE 4 _ (some b) () dJ5_getValue_6d5f1_4 rfl

set_option maxHeartbeats 4000000 in
set_option maxRecDepth 100000 in
theorem d_sbLength5 (l : Launch) (G : Gx) (sb b cap : Nat) (f : Nat → Nat) (n : Nat) (ml : Int32) (hcap : capQ cap) (hn : n ≤ cap) (hf : ∀ j, f j < 128) : Ct l G SF0 yJ5_length_8abf5 wsJ5_length_8abf5 ({ frames := 0, cells := 0, slots := 0, locals := 0 }) [.ref sb] [(sb, .inr (1, [.ref b, .int 0, .int ml, .int (nI n)])), (b, .inl (gB G, cap, .inl (fun j => nI (f j))))] mkI (fun (r : Int32) (_ : Unit) => r = nI n) (fun _ : Unit => [(sb, .inr (1, [.ref b, .int 0, .int ml, .int (nI n)])), (b, .inl (gB G, cap, .inl (fun j => nI (f j))))]) 0 0 := by
  refine Ct.ofI (cc := cJ5_length_8abf5) (maxL := 1) (by decide) rfl ⟨by simp [Value.category], Nat.le_of_ble_eq_true rfl⟩ ?_
  intro K hl hC hSF hnm hE
  subst hl
  have q0_ : ∀ w ∈ u_ws RJ4 TJ4 4, w ∈ wsJ5_length_8abf5 := by decide +kernel
  have q1_ : Cond.fieldLink RJ5 79 "java/lang/AbstractStringBuilder" "count" "I" ∈ wsJ5_length_8abf5 := by decide +kernel
  show V G K 1 0 0 0 [some (.ref sb)] [] [(sb, .inr (1, [.ref b, .int 0, .int ml, .int (nI n)])), (b, .inl (gB G, cap, .inl (fun j => nI (f j))))]
  refine V.aload_n hC (x := sb) dJ5_length_8abf5_0 rfl ?_
  refine V.getf hC (T := TJ4) q0_ 3 q1_ rfl (0) rfl rfl (by decide) (.int (nI n)) rfl dJ5_length_8abf5_1 ?_
  exact hE 4 _ (nI n) () dJ5_length_8abf5_4 rfl rfl

set_option maxHeartbeats 4000000 in
set_option maxRecDepth 100000 in
theorem d_sbLength (l : Launch) (G : Gx) (sb b cap : Nat) (f : Nat → Nat) (n : Nat) (ml : Int32) (hcap : capQ cap) (hn : n ≤ cap) (hf : ∀ j, f j < 128) : Ct l G SF0 yJ4_length_8abf5 wsJ4_length_8abf5 ({ frames := 1, cells := 0, slots := 0, locals := 20 }) [.ref sb] [(sb, .inr (1, [.ref b, .int 0, .int ml, .int (nI n)])), (b, .inl (gB G, cap, .inl (fun j => nI (f j))))] mkI (fun (r : Int32) (_ : Unit) => r = nI n) (fun _ : Unit => [(sb, .inr (1, [.ref b, .int 0, .int ml, .int (nI n)])), (b, .inl (gB G, cap, .inl (fun j => nI (f j))))]) 0 0 := by
  refine Ct.ofI (cc := cJ4_length_8abf5) (maxL := 1) (by decide) rfl ⟨by simp [Value.category], Nat.le_of_ble_eq_true rfl⟩ ?_
  intro K hl hC hSF hnm hE
  subst hl
  show V G K 1 0 0 0 [some (.ref sb)] [] [(sb, .inr (1, [.ref b, .int 0, .int ml, .int (nI n)])), (b, .inl (gB G, cap, .inl (fun j => nI (f j))))]
  refine V.aload_n hC (x := sb) dJ4_length_8abf5_0 rfl ?_
  refine V.callPG (n := 0) (As := []) (rest := []) (wr := []) hC (d_sbLength5 (kl K) G sb b cap f n ml hcap hn hf) SFk0 SFgo0 gJ4_length_8abf5_J5_length_8abf5_s343 rfl ⟨rfl, rfl⟩ (by decide +kernel) ⟨by decide, by decide, by decide, by decide⟩ [0, 1] [] rfl (by decide) rfl (by decide) (by decide) rfl rfl rfl rfl (Nat.le_of_ble_eq_true rfl) dJ4_length_8abf5_1 (fun r_1 u_1 hp_1 => ?_)
  subst hp_1
  show V G K 1 0 0 4 [some (.ref sb)] [.int (nI n)] [(sb, .inr (1, [.ref b, .int 0, .int ml, .int (nI n)])), (b, .inl (gB G, cap, .inl (fun j => nI (f j))))]
  exact hE 4 _ (nI n) () dJ4_length_8abf5_4 rfl rfl

set_option maxHeartbeats 4000000 in
set_option maxRecDepth 100000 in
theorem d_checkLength (l : Launch) (G : Gx) (n : Nat) (hn : n < 1000) : Ct l G SF0 yJ7_checkLength_df160 wsJ7_checkLength_df160 ({ frames := 0, cells := 0, slots := 0, locals := 0 }) [.int (nI 0), .int (nI n)] [] mkV (fun (_ : Unit) (_ : Unit) => True) (fun _ : Unit => []) 0 0 := by
  refine Ct.ofV (cc := cJ7_checkLength_df160) (maxL := 2) (by decide) rfl ⟨by simp [Value.category], Nat.le_of_ble_eq_true rfl⟩ ?_
  intro K hl hC hSF hnm hE
  subst hl
  show V G K 2 0 0 0 [some (.int (nI 0)), some (.int (nI n))] [] []
  refine V.iload_n hC (x := nI n) dJ7_checkLength_df160_0 rfl ?_
  refine V.iload_n hC (x := nI 0) dJ7_checkLength_df160_1 rfl ?_
  refine V.icmpN_ge hC n 0 37 dJ7_checkLength_df160_2 rfl rfl rfl (by omega) (by omega) (fun c_2 => ?_) (fun c_2 => ?_)
  · exact hE 37 _ () dJ7_checkLength_df160_37 trivial
  · exact absurd c_2 (by omega)

set_option maxHeartbeats 4000000 in
set_option maxRecDepth 100000 in
theorem d_copyRangeB (l : Launch) (G : Gx) (b cap : Nat) (f : Nat → Nat) (hf : ∀ j, f j < 128) (hcap : cap ≤ 98) (n : Nat) (hn : n ≤ cap) : Ct l G (SFt G) yJ7_copyOfRangeByte_39247 wsJ7_copyOfRangeByte_39247 ({ frames := 1, cells := 1, slots := 98, locals := 21 }) [.ref b, .int (nI 0), .int (nI n)] [(b, .inl (gB G, cap, .inl (fun j => nI (f j))))] mkA (fun (r : Option Nat) (u : Nat × (Nat → Nat)) => r = some u.1 ∧ (∀ j, u.2 j < 128) ∧ ∀ j, j < n → u.2 j = f j) (fun u : Nat × (Nat → Nat) => [(b, .inl (gB G, cap, .inl (fun j => nI (f j)))), (u.1, .inl (gB G, n, .inl (fun j => nI (u.2 j))))]) 1 98 := by
  refine Ct.ofA (mk := fun r : Option Nat => va_rf r) (fun r => va_rf_or r) (Or.inr ⟨_, rfl⟩) (cc := cJ7_copyOfRangeByte_39247) (maxL := 5) (by decide) rfl ⟨by simp [Value.category], Nat.le_of_ble_eq_true rfl⟩ ?_
  intro K hl hC hSF hnm hE
  subst hl
  have hgot := SFgoS (SFt.k G) hSF
  have hgo := SFgo.x hgot
  have hSFt := hSF
  replace hSF := hSF.1
  have q0_ : Cond.arrayClass .byte ∈ wsJ7_copyOfRangeByte_39247 := by decide +kernel
  have q1_ : Cond.methodLink RJ7 304 Lib.Math.min.name ∈ wsJ7_copyOfRangeByte_39247 := by decide +kernel
  have q2_ : Cond.static Lib.Math.min.name ∈ wsJ7_copyOfRangeByte_39247 := by decide +kernel
  have q3_ : Cond.initialized "java/lang/Math" ∈ wsJ7_copyOfRangeByte_39247 := by decide +kernel
  have q4_ : Cond.code Lib.Math.min.name Lib.Math.min.code 2 (some .int) ∈ wsJ7_copyOfRangeByte_39247 := by decide +kernel
  have q5_ : Cond.methodLink RJ7 150 arraycopyName ∈ wsJ7_copyOfRangeByte_39247 := by decide +kernel
  have q6_ : Cond.native arraycopyName ∈ wsJ7_copyOfRangeByte_39247 := by decide +kernel
  have q7_ : Cond.static arraycopyName ∈ wsJ7_copyOfRangeByte_39247 := by decide +kernel
  have q8_ : Cond.initialized "java/lang/System" ∈ wsJ7_copyOfRangeByte_39247 := by decide +kernel
  show V G K 5 0 0 0 [some (.ref b), some (.int (nI 0)), some (.int (nI n)), none, none] [] [(b, .inl (gB G, cap, .inl (fun j => nI (f j))))]
  refine V.iload_n hC (x := nI 0) dJ7_copyOfRangeByte_39247_0 rfl ?_
  refine V.iload_n hC (x := nI n) dJ7_copyOfRangeByte_39247_1 rfl ?_
  refine V.callSr (n := 2) (As := [.int (nI 0), .int (nI n)]) (rest := []) hC (d_checkLength (kl K) G n (by omega)) SFk0 SFgo0 gJ7_copyOfRangeByte_39247_J7_checkLength_df160 rfl ⟨rfl, rfl⟩ (by decide +kernel) ⟨by decide, by decide, by decide, by decide⟩ [] rfl (by decide) rfl rfl (Nat.le_of_ble_eq_true rfl) dJ7_copyOfRangeByte_39247_2 (fun r_2 u_2 hp_2 => ?_)
  show V G K 5 0 0 5 [some (.ref b), some (.int (nI 0)), some (.int (nI n)), none, none] [] [(b, .inl (gB G, cap, .inl (fun j => nI (f j))))]
  refine V.iload_n hC (x := nI n) dJ7_copyOfRangeByte_39247_5 rfl ?_
  refine V.iload_n hC (x := nI 0) dJ7_copyOfRangeByte_39247_6 rfl ?_
  refine V.isubN hC n 0 dJ7_copyOfRangeByte_39247_7 rfl rfl (Nat.zero_le _) ?_
  refine V.topeq (nI n) (by rw [Nat.sub_zero]) ?_
  refine V.istore_n hC dJ7_copyOfRangeByte_39247_8 [some (.ref b), some (.int (nI 0)), some (.int (nI n)), some (.int (nI n)), none] (Nat.le_of_ble_eq_true rfl) rfl ?_
  refine V.iload_n hC (x := nI n) dJ7_copyOfRangeByte_39247_9 rfl ?_
  refine V.newA hC (atype := .byte) 6 (cA := gB G) q0_ rfl n (n, .inl (fun j => nI ((fun _ => 0) j))) (fun _ => rfl) rfl (by omega) (by decide) (by show _ ≤ _; simp only []; omega) dJ7_copyOfRangeByte_39247_10 (fun q_10 => ?_)
  refine V.widen (k := 1) (n := 98) (Nat.le_refl _) (by omega) ?_
  show V G K 5 1 98 12 [some (.ref b), some (.int (nI 0)), some (.int (nI n)), some (.int (nI n)), none] [.ref q_10] [(b, .inl (gB G, cap, .inl (fun j => nI (f j)))), (q_10, .inl (gB G, n, .inl (fun j => nI ((fun _ => 0) j))))]
  refine V.astore hC dJ7_copyOfRangeByte_39247_12 [some (.ref b), some (.int (nI 0)), some (.int (nI n)), some (.int (nI n)), some (.ref q_10)] (Nat.le_of_ble_eq_true rfl) rfl ?_
  refine V.aload_n hC (x := b) dJ7_copyOfRangeByte_39247_14 rfl ?_
  refine V.iload_n hC (x := nI 0) dJ7_copyOfRangeByte_39247_15 rfl ?_
  refine V.aload hC (x := q_10) dJ7_copyOfRangeByte_39247_16 rfl ?_
  refine V.iconst hC 0 dJ7_copyOfRangeByte_39247_18 rfl ?_
  refine V.aload_n hC (x := b) dJ7_copyOfRangeByte_39247_19 rfl ?_
  refine V.alen hC dJ7_copyOfRangeByte_39247_20 (0) 6 rfl rfl (nI cap) rfl ?_
  refine V.iload_n hC (x := nI 0) dJ7_copyOfRangeByte_39247_21 rfl ?_
  refine V.isubN hC cap 0 dJ7_copyOfRangeByte_39247_22 rfl rfl (Nat.zero_le _) ?_
  refine V.topeq (nI cap) (by rw [Nat.sub_zero]) ?_
  refine V.iload_n hC (x := nI n) dJ7_copyOfRangeByte_39247_23 rfl ?_
  refine V.mmin hC q1_ q2_ q3_ q4_ ⟨Nat.le_of_ble_eq_true rfl, Nat.le_of_ble_eq_true rfl, Nat.le_of_ble_eq_true rfl, Nat.le_of_ble_eq_true rfl⟩ dJ7_copyOfRangeByte_39247_24 ?_
  refine V.topeq (nI n) (by rcases Nat.lt_or_ge n cap with z | z; exact if_pos (nI_lt z (by omega)); obtain rfl : n = cap := (by omega); exact if_neg (nI_nlt (Nat.le_refl _) (by omega))) ?_
  refine V.copyB hC q5_ q6_ q7_ q8_ (0) (1) (N0 := cap) (N1 := n) (f := f) (g := (fun _ => 0)) hf rfl rfl n rfl (by omega) (by omega) (by omega) ⟨Nat.le_of_ble_eq_true rfl, Nat.le_of_ble_eq_true rfl⟩ dJ7_copyOfRangeByte_39247_27 [(b, .inl (gB G, cap, .inl (fun j => nI (f j)))), (q_10, .inl (gB G, n, .inl (fun j => nI ((fun j => if j < n then f j else (fun _ => 0) j) j))))] rfl ?_
  refine V.aload hC (x := q_10) dJ7_copyOfRangeByte_39247_30 rfl ?_
  exact hE 32 _ (some q_10) (q_10, fun j => if j < n then f j else (fun _ => 0) j) dJ7_copyOfRangeByte_39247_32 ⟨rfl, fun j => by show (if j < n then f j else 0) < 128; split; exact hf j; omega, fun j hj => if_pos hj⟩

set_option maxHeartbeats 4000000 in
set_option maxRecDepth 100000 in
theorem d_copyRange (l : Launch) (G : Gx) (b cap : Nat) (f : Nat → Nat) (hf : ∀ j, f j < 128) (hcap : cap ≤ 98) (n : Nat) (hn : n ≤ cap) : Ct l G (SFt G) yJ7_copyOfRange_39247 wsJ7_copyOfRange_39247 ({ frames := 2, cells := 1, slots := 98, locals := 45 }) [.ref b, .int (nI 0), .int (nI n)] [(b, .inl (gB G, cap, .inl (fun j => nI (f j))))] mkA (fun (r : Option Nat) (u : Nat × (Nat → Nat)) => r = some u.1 ∧ (∀ j, u.2 j < 128) ∧ ∀ j, j < n → u.2 j = f j) (fun u : Nat × (Nat → Nat) => [(b, .inl (gB G, cap, .inl (fun j => nI (f j)))), (u.1, .inl (gB G, n, .inl (fun j => nI (u.2 j))))]) 1 98 := by
  refine Ct.ofA (mk := fun r : Option Nat => va_rf r) (fun r => va_rf_or r) (Or.inr ⟨_, rfl⟩) (cc := cJ7_copyOfRange_39247) (maxL := 3) (by decide) rfl ⟨by simp [Value.category], Nat.le_of_ble_eq_true rfl⟩ ?_
  intro K hl hC hSF hnm hE
  subst hl
  have hgot := SFgoS (SFt.k G) hSF
  have hgo := SFgo.x hgot
  have hSFt := hSF
  replace hSF := hSF.1
  have q0_ : Cond.methodLink RJ7 310 ⟨"[B", "clone", "()Ljava/lang/Object;"⟩ ∈ wsJ7_copyOfRange_39247 := by decide +kernel
  have q1_ : Cond.sameMethod "[B" "java/lang/Object" "clone" "()Ljava/lang/Object;" ∈ wsJ7_copyOfRange_39247 := by decide +kernel
  have q2_ : Cond.native ⟨"java/lang/Object", "clone", "()Ljava/lang/Object;"⟩ ∈ wsJ7_copyOfRange_39247 := by decide +kernel
  have q3_ : Cond.instanceMethod ⟨"java/lang/Object", "clone", "()Ljava/lang/Object;"⟩ ∈ wsJ7_copyOfRange_39247 := by decide +kernel
  have q4_ : Cond.selects "[B" ⟨"[B", "clone", "()Ljava/lang/Object;"⟩ ⟨"java/lang/Object", "clone", "()Ljava/lang/Object;"⟩ ∈ wsJ7_copyOfRange_39247 := by decide +kernel
  have q5_ : Cond.classLink RJ7 311 "[B" ∈ wsJ7_copyOfRange_39247 := by decide +kernel
  show V G K 3 0 0 0 [some (.ref b), some (.int (nI 0)), some (.int (nI n))] [] [(b, .inl (gB G, cap, .inl (fun j => nI (f j))))]
  refine V.iload_n hC (x := nI 0) dJ7_copyOfRange_39247_0 rfl ?_
  refine V.ifN_ne hC 0 10 dJ7_copyOfRange_39247_1 rfl rfl (by omega) (fun c_1 => ?_) (fun c_1 => ?_)
  · exact absurd rfl c_1
  · refine V.iload_n hC (x := nI n) dJ7_copyOfRange_39247_4 rfl ?_
    refine V.aload_n hC (x := b) dJ7_copyOfRange_39247_5 rfl ?_
    refine V.alen hC dJ7_copyOfRange_39247_6 (0) 6 rfl rfl (nI cap) rfl ?_
    refine V.icmpN_eq hC n cap 17 dJ7_copyOfRange_39247_7 rfl rfl rfl (by omega) (by omega) (fun c_7 => ?_) (fun c_7 => ?_)
    · obtain rfl : cap = n := c_7.symm
      refine V.aload_n hC (x := b) dJ7_copyOfRange_39247_17 rfl ?_
      refine V.cloneB hC hSFt.2.2.2.2 q0_ q1_ q2_ q3_ q4_ (0) (M := cap) (f := f) rfl hf ⟨Nat.le_of_ble_eq_true rfl, Nat.le_of_ble_eq_true rfl⟩ (by decide) (by show _ ≤ _; simp only []; omega) dJ7_copyOfRange_39247_18 (fun q_18 => ?_)
      refine V.widen (k := 1) (n := 98) (Nat.le_refl _) (by omega) ?_
      show V G K 3 1 98 21 [some (.ref b), some (.int (nI 0)), some (.int (nI cap))] [.ref q_18] [(b, .inl (gB G, cap, .inl (fun j => nI (f j)))), (q_18, .inl (gB G, cap, .inl (fun j => nI (f j))))]
      refine V.castB hC q5_ (1) (M := cap) (f := f) rfl dJ7_copyOfRange_39247_21 ?_
      exact hE 24 _ (some q_18) (q_18, f) dJ7_copyOfRange_39247_24 ⟨rfl, hf, fun _ _ => rfl⟩
    · refine V.aload_n hC (x := b) dJ7_copyOfRange_39247_10 rfl ?_
      refine V.iload_n hC (x := nI 0) dJ7_copyOfRange_39247_11 rfl ?_
      refine V.iload_n hC (x := nI n) dJ7_copyOfRange_39247_12 rfl ?_
      refine V.callSG (n := 3) (As := [.ref b, .int (nI 0), .int (nI n)]) (rest := []) (wr := []) hC (d_copyRangeB (kl K) G b cap f hf hcap n hn) (SFt.k G) hgot gJ7_copyOfRange_39247_J7_copyOfRangeByte_39247 rfl ⟨rfl, rfl⟩ (by decide +kernel) ⟨by decide, by decide, by decide, by decide⟩ [0] [] rfl (by decide) rfl (by decide) (by decide) rfl rfl (Nat.le_of_ble_eq_true rfl) dJ7_copyOfRange_39247_13 (fun r_13 u_13 hp_13 => ?_)
      obtain ⟨e_13, hu1_, hu2_⟩ := hp_13
      subst e_13
      show V G K 3 1 98 16 [some (.ref b), some (.int (nI 0)), some (.int (nI n))] [.ref (u_13.1)] [(b, .inl (gB G, cap, .inl (fun j => nI (f j)))), (u_13.1, .inl (gB G, n, .inl (fun j => nI ((u_13.2) j))))]
      exact hE 16 _ (some (u_13.1)) u_13 dJ7_copyOfRange_39247_16 ⟨rfl, hu1_, hu2_⟩

set_option maxHeartbeats 4000000 in
set_option maxRecDepth 100000 in
theorem d_strInit5 (l : Launch) (G : Gx) (sb b cap : Nat) (f : Nat → Nat) (n : Nat) (ml : Int32) (hcap : capQ cap) (hn : n ≤ cap) (hf : ∀ j, f j < 128) (t : Nat) : Ct l G (SFt G) yJ0_init_db425 wsJ0_init_db425 ({ frames := 3, cells := 1, slots := 98, locals := 67 }) [.ref t, .ref sb, .null] [(t, .inr (0, [.null, .int 0, .int 0, .int 0])), (sb, .inr (1, [.ref b, .int 0, .int ml, .int (nI n)])), (b, .inl (gB G, cap, .inl (fun j => nI (f j))))] mkV (fun (_ : Unit) (u : Nat × (Nat → Nat)) => (∀ j, u.2 j < 128) ∧ ∀ j, j < n → u.2 j = f j) (fun u : Nat × (Nat → Nat) => [(t, .inr (0, [.ref (u.1), .int 0, .int 0, .int 0])), (u.1, .inl (gB G, n, .inl (fun j => nI ((u.2) j)))), (sb, .inr (1, [.ref b, .int 0, .int ml, .int (nI n)])), (b, .inl (gB G, cap, .inl (fun j => nI (f j))))]) 1 98 := by
  refine Ct.ofV (cc := cJ0_init_db425) (maxL := 5) (by decide) rfl ⟨by simp [Value.category], Nat.le_of_ble_eq_true rfl⟩ ?_
  intro K hl hC hSF hnm hE
  subst hl
  have hgot := SFgoS (SFt.k G) hSF
  have hgo := SFgo.x hgot
  have hSFt := hSF
  replace hSF := hSF.1
  have q0_ : Cond.methodLink RJ0 1 objectInit ∈ wsJ0_init_db425 := by decide +kernel
  have q1_ : Cond.instanceMethod objectInit ∈ wsJ0_init_db425 := by decide +kernel
  have q2_ : Cond.code objectInit ⟨#[0xb1]⟩ 1 none ∈ wsJ0_init_db425 := by decide +kernel
  have q3_ : ∀ w ∈ u_ws RJ0 TJ0 4, w ∈ wsJ0_init_db425 := by decide +kernel
  have q4_ : Cond.fieldLink RJ0 15 "java/lang/String" "coder" "B" ∈ wsJ0_init_db425 := by decide +kernel
  have q5_ : Cond.fieldLink RJ0 9 "java/lang/String" "value" "[B" ∈ wsJ0_init_db425 := by decide +kernel
  show V G K 5 0 0 0 [some (.ref t), some (.ref sb), some (.null), none, none] [] [(t, .inr (0, [.null, .int 0, .int 0, .int 0])), (sb, .inr (1, [.ref b, .int 0, .int ml, .int (nI n)])), (b, .inl (gB G, cap, .inl (fun j => nI (f j))))]
  have hcl := hcap.2
  refine V.aload_n hC (x := t) dJ0_init_db425_0 rfl ?_
  refine V.objInit hC (a := t) q0_ q1_ q2_ ⟨by decide, by decide⟩ dJ0_init_db425_1 ?_
  refine V.aload_n hC (x := sb) dJ0_init_db425_4 rfl ?_
  refine V.callUG (n := 0) (As := []) (rest := []) (wr := [(t, .inr (0, [.null, .int 0, .int 0, .int 0]))]) (x := ⟨"java/lang/AbstractStringBuilder", "getValue", "()[B"⟩) (owner := "java/lang/AbstractStringBuilder") hC (d_getValue (kl K) G sb b cap f n ml hcap hn hf) SFk0 SFgo0 gJ0_init_db425_J5_getValue_6d5f1_u552J4 rfl ⟨rfl, rfl⟩ rfl (by decide +kernel) ⟨by decide, by decide, by decide, by decide⟩ [1, 2] [0] rfl (by decide) rfl (by decide) (by decide) rfl rfl rfl rfl (Nat.le_of_ble_eq_true rfl) dJ0_init_db425_5 (fun r_5 u_5 hp_5 => ?_)
  subst hp_5
  show V G K 5 0 0 8 [some (.ref t), some (.ref sb), some (.null), none, none] [.ref b] [(t, .inr (0, [.null, .int 0, .int 0, .int 0])), (sb, .inr (1, [.ref b, .int 0, .int ml, .int (nI n)])), (b, .inl (gB G, cap, .inl (fun j => nI (f j))))]
  refine V.astore_n hC dJ0_init_db425_8 [some (.ref t), some (.ref sb), some (.null), some (.ref b), none] (Nat.le_of_ble_eq_true rfl) rfl ?_
  refine V.aload_n hC (x := sb) dJ0_init_db425_9 rfl ?_
  refine V.callOG (n := 0) (As := []) (rest := []) (wr := [(t, .inr (0, [.null, .int 0, .int 0, .int 0]))]) (x := ⟨"java/lang/AbstractStringBuilder", "length", "()I"⟩) (owner := "java/lang/AbstractStringBuilder") hC (d_sbLength (kl K) G sb b cap f n ml hcap hn hf) SFk0 SFgo0 gJ0_init_db425_J4_length_8abf5_u549J4 rfl ⟨rfl, rfl⟩ (show Cond.code ⟨"java/lang/AbstractStringBuilder", "length", "()I"⟩ cJ5_length_8abf5 1 (some .int) ∈ wsJ0_init_db425 by decide +kernel) (by decide +kernel) ⟨by decide, by decide, by decide, by decide⟩ [1, 2] [0] rfl (by decide) rfl (by decide) (by decide) rfl rfl rfl rfl (Nat.le_of_ble_eq_true rfl) dJ0_init_db425_10 (fun r_10 u_10 hp_10 => ?_)
  subst hp_10
  show V G K 5 0 0 13 [some (.ref t), some (.ref sb), some (.null), some (.ref b), none] [.int (nI n)] [(t, .inr (0, [.null, .int 0, .int 0, .int 0])), (sb, .inr (1, [.ref b, .int 0, .int ml, .int (nI n)])), (b, .inl (gB G, cap, .inl (fun j => nI (f j))))]
  refine V.istore hC dJ0_init_db425_13 [some (.ref t), some (.ref sb), some (.null), some (.ref b), some (.int (nI n))] (Nat.le_of_ble_eq_true rfl) rfl ?_
  refine V.aload_n hC (x := sb) dJ0_init_db425_15 rfl ?_
  refine V.callUG (n := 0) (As := []) (rest := []) (wr := [(t, .inr (0, [.null, .int 0, .int 0, .int 0]))]) (x := ⟨"java/lang/AbstractStringBuilder", "isLatin1", "()Z"⟩) (owner := "java/lang/AbstractStringBuilder") hC (d_sbLatin (kl K) G sb b cap f n ml hcap hn hf) (SFx.k G) hgo gJ0_init_db425_J5_isLatin1_aae02_u1047J4 rfl ⟨rfl, rfl⟩ rfl (by decide +kernel) ⟨by decide, by decide, by decide, by decide⟩ [1, 2] [0] rfl (by decide) rfl (by decide) (by decide) rfl rfl rfl rfl (Nat.le_of_ble_eq_true rfl) dJ0_init_db425_16 (fun r_16 u_16 hp_16 => ?_)
  subst hp_16
  show V G K 5 0 0 19 [some (.ref t), some (.ref sb), some (.null), some (.ref b), some (.int (nI n))] [.int (nI 1)] [(t, .inr (0, [.null, .int 0, .int 0, .int 0])), (sb, .inr (1, [.ref b, .int 0, .int ml, .int (nI n)])), (b, .inl (gB G, cap, .inl (fun j => nI (f j))))]
  refine V.ifN_eq hC 1 41 dJ0_init_db425_19 rfl rfl (by omega) (fun c_19 => ?_) (fun c_19 => ?_)
  · exact absurd c_19 (by decide)
  · refine V.aload_n hC (x := t) dJ0_init_db425_22 rfl ?_
    refine V.iconst hC 0 dJ0_init_db425_23 rfl ?_
    refine V.putfF hC (T := TJ0) q3_ tyJ0 tyJ0_ok nmJ0 1 q4_ rfl rfl hnm rfl (0) rfl rfl (by decide) (by simp) rfl rfl dJ0_init_db425_24 [(t, .inr (0, [.null, .int 0, .int 0, .int 0])), (sb, .inr (1, [.ref b, .int 0, .int ml, .int (nI n)])), (b, .inl (gB G, cap, .inl (fun j => nI (f j))))] rfl ?_
    refine V.aload_n hC (x := t) dJ0_init_db425_27 rfl ?_
    refine V.aload_n hC (x := b) dJ0_init_db425_28 rfl ?_
    refine V.iconst hC 0 dJ0_init_db425_29 rfl ?_
    refine V.iload hC (x := nI n) dJ0_init_db425_30 rfl ?_
    refine V.callSG (n := 3) (As := [.ref b, .int 0, .int (nI n)]) (rest := [.ref t]) (wr := [(t, .inr (0, [.null, .int 0, .int 0, .int 0])), (sb, .inr (1, [.ref b, .int 0, .int ml, .int (nI n)]))]) hC (d_copyRange (kl K) G b cap f hf hcl n hn) (SFt.k G) hgot gJ0_init_db425_J7_copyOfRange_39247 rfl ⟨rfl, rfl⟩ (by decide +kernel) ⟨by decide, by decide, by decide, by decide⟩ [2] [0, 1] rfl (by decide) rfl (by decide) (by decide) rfl rfl (Nat.le_of_ble_eq_true rfl) dJ0_init_db425_32 (fun r_32 u_32 hp_32 => ?_)
    obtain ⟨e_32, hu1_, hu2_⟩ := hp_32
    subst e_32
    show V G K 5 1 98 35 [some (.ref t), some (.ref sb), some (.null), some (.ref b), some (.int (nI n))] [.ref (u_32.1), .ref t] [(t, .inr (0, [.null, .int 0, .int 0, .int 0])), (sb, .inr (1, [.ref b, .int 0, .int ml, .int (nI n)])), (b, .inl (gB G, cap, .inl (fun j => nI (f j)))), (u_32.1, .inl (gB G, n, .inl (fun j => nI ((u_32.2) j))))]
    refine V.putfF hC (T := TJ0) q3_ tyJ0 tyJ0_ok nmJ0 0 q5_ rfl rfl hnm rfl (0) rfl rfl (by decide) (by simp) rfl rfl dJ0_init_db425_35 [(t, .inr (0, [.ref (u_32.1), .int 0, .int 0, .int 0])), (sb, .inr (1, [.ref b, .int 0, .int ml, .int (nI n)])), (b, .inl (gB G, cap, .inl (fun j => nI (f j)))), (u_32.1, .inl (gB G, n, .inl (fun j => nI ((u_32.2) j))))] rfl ?_
    refine V.goto hC 97 dJ0_init_db425_38 rfl ?_
    refine V.perm (ws' := [(t, .inr (0, [.ref (u_32.1), .int 0, .int 0, .int 0])), (u_32.1, .inl (gB G, n, .inl (fun j => nI ((u_32.2) j)))), (sb, .inr (1, [.ref b, .int 0, .int ml, .int (nI n)])), (b, .inl (gB G, cap, .inl (fun j => nI (f j))))]) [0, 3, 1, 2] rfl (by decide) ?_
    exact hE 97 _ u_32 dJ0_init_db425_97 ⟨hu1_, hu2_⟩

set_option maxHeartbeats 4000000 in
set_option maxRecDepth 100000 in
theorem d_strInit (l : Launch) (G : Gx) (sb b cap : Nat) (f : Nat → Nat) (n : Nat) (ml : Int32) (hcap : capQ cap) (hn : n ≤ cap) (hf : ∀ j, f j < 128) (t : Nat) : Ct l G (SFt G) yJ0_init_81219 wsJ0_init_81219 ({ frames := 4, cells := 1, slots := 98, locals := 91 }) [.ref t, .ref sb] [(t, .inr (0, [.null, .int 0, .int 0, .int 0])), (sb, .inr (1, [.ref b, .int 0, .int ml, .int (nI n)])), (b, .inl (gB G, cap, .inl (fun j => nI (f j))))] mkV (fun (_ : Unit) (u : Nat × (Nat → Nat)) => (∀ j, u.2 j < 128) ∧ ∀ j, j < n → u.2 j = f j) (fun u : Nat × (Nat → Nat) => [(t, .inr (0, [.ref (u.1), .int 0, .int 0, .int 0])), (u.1, .inl (gB G, n, .inl (fun j => nI ((u.2) j)))), (sb, .inr (1, [.ref b, .int 0, .int ml, .int (nI n)])), (b, .inl (gB G, cap, .inl (fun j => nI (f j))))]) 1 98 := by
  refine Ct.ofV (cc := cJ0_init_81219) (maxL := 2) (by decide) rfl ⟨by simp [Value.category], Nat.le_of_ble_eq_true rfl⟩ ?_
  intro K hl hC hSF hnm hE
  subst hl
  have hgot := SFgoS (SFt.k G) hSF
  have hgo := SFgo.x hgot
  have hSFt := hSF
  replace hSF := hSF.1
  show V G K 2 0 0 0 [some (.ref t), some (.ref sb)] [] [(t, .inr (0, [.null, .int 0, .int 0, .int 0])), (sb, .inr (1, [.ref b, .int 0, .int ml, .int (nI n)])), (b, .inl (gB G, cap, .inl (fun j => nI (f j))))]
  refine V.aload_n hC (x := t) dJ0_init_81219_0 rfl ?_
  refine V.aload_n hC (x := sb) dJ0_init_81219_1 rfl ?_
  refine V.null hC dJ0_init_81219_2 ?_
  show V G K 2 0 0 3 [some (.ref t), some (.ref sb)] [.null, .ref sb, .ref t] ([(t, .inr (0, [.null, .int 0, .int 0, .int 0])), (sb, .inr (1, [.ref b, .int 0, .int ml, .int (nI n)])), (b, .inl (gB G, cap, .inl (fun j => nI (f j))))] ++ [])
  refine V.callIG (n := 2) (As := [.ref sb, .null]) (rest := []) hC (d_strInit5 (kl K) G sb b cap f n ml hcap hn hf t) (SFt.k G) hgot gJ0_init_81219_J0_init_db425 rfl ⟨rfl, rfl⟩ (by decide +kernel) (by decide +kernel) (by decide +kernel) rfl (by decide +kernel) ⟨by decide, by decide, by decide, by decide⟩ [] rfl rfl (Nat.le_of_ble_eq_true rfl) dJ0_init_81219_3 (fun r_3 u_3 hp_3 => ?_)
  show V G K 2 1 98 6 [some (.ref t), some (.ref sb)] [] [(t, .inr (0, [.ref (u_3.1), .int 0, .int 0, .int 0])), (u_3.1, .inl (gB G, n, .inl (fun j => nI ((u_3.2) j)))), (sb, .inr (1, [.ref b, .int 0, .int ml, .int (nI n)])), (b, .inl (gB G, cap, .inl (fun j => nI (f j))))]
  exact hE 6 _ u_3 dJ0_init_81219_6 hp_3

set_option maxHeartbeats 4000000 in
set_option maxRecDepth 100000 in
theorem d_isLatin (l : Launch) (G : Gx) (t tv k : Nat) (g : Nat → Nat) (hh hz : Int32) (hk : k ≤ 49) (hg : ∀ j, g j < 128) : Ct l G (SFt G) yJ0_isLatin1_aae02 wsJ0_isLatin1_aae02 ({ frames := 0, cells := 0, slots := 0, locals := 0 }) [.ref t] [(t, .inr (0, [.ref tv, .int 0, .int hh, .int hz])), (tv, .inl (gB G, k, .inl (fun j => nI (g j))))] mkI (fun (r : Int32) (_ : Unit) => r = 1) (fun _ : Unit => [(t, .inr (0, [.ref tv, .int 0, .int hh, .int hz])), (tv, .inl (gB G, k, .inl (fun j => nI (g j))))]) 0 0 := by
  refine Ct.ofI (cc := cJ0_isLatin1_aae02) (maxL := 1) (by decide) rfl ⟨by simp [Value.category], Nat.le_of_ble_eq_true rfl⟩ ?_
  intro K hl hC hSF hnm hE
  subst hl
  have hgot := SFgoS (SFt.k G) hSF
  have hgo := SFgo.x hgot
  have hSFt := hSF
  replace hSF := hSF.1
  have q0_ : Cond.fieldLink RJ0 38 "java/lang/String" "COMPACT_STRINGS" "Z" ∈ wsJ0_isLatin1_aae02 := by decide +kernel
  have q1_ : ∀ w ∈ u_ws RJ0 TJ0 4, w ∈ wsJ0_isLatin1_aae02 := by decide +kernel
  have q2_ : Cond.fieldLink RJ0 15 "java/lang/String" "coder" "B" ∈ wsJ0_isLatin1_aae02 := by decide +kernel
  show V G K 1 0 0 0 [some (.ref t)] [] [(t, .inr (0, [.ref tv, .int 0, .int hh, .int hz])), (tv, .inl (gB G, k, .inl (fun j => nI (g j))))]
  refine V.gets hC (n := "COMPACT_STRINGS") hSF.2.2.2.2.2.2.2.2.2.2.1 q0_ rfl dJ0_isLatin1_aae02_0 ?_
  refine V.ifN_eq hC 1 17 dJ0_isLatin1_aae02_3 rfl rfl (by omega) (fun c_3 => ?_) (fun c_3 => ?_)
  · exact absurd c_3 (by decide)
  · refine V.aload_n hC (x := t) dJ0_isLatin1_aae02_6 rfl ?_
    refine V.getf hC (T := TJ0) q1_ 1 q2_ rfl (0) rfl rfl (by decide) (.int 0) rfl dJ0_isLatin1_aae02_7 ?_
    refine V.ifN_ne hC 0 17 dJ0_isLatin1_aae02_10 rfl rfl (by omega) (fun c_10 => ?_) (fun c_10 => ?_)
    · exact absurd rfl c_10
    · refine V.iconst hC 1 dJ0_isLatin1_aae02_13 rfl ?_
      refine V.goto hC 18 dJ0_isLatin1_aae02_14 rfl ?_
      exact hE 18 _ 1 () dJ0_isLatin1_aae02_18 rfl rfl

set_option maxHeartbeats 4000000 in
set_option maxRecDepth 100000 in
theorem d_latinAt (l : Launch) (G : Gx) (tv k : Nat) (g : Nat → Nat) (hk : k ≤ 49) (hg : ∀ j, g j < 128) (j : Nat) (hj : j < k) : Ct l G (SFx G) yJ1_charAt_3b067 wsJ1_charAt_3b067 ({ frames := 2, cells := 0, slots := 0, locals := 43 }) [.ref tv, .int (nI j)] [(tv, .inl (gB G, k, .inl (fun j => nI (g j))))] mkI (fun (r : Int32) (_ : Unit) => r = nI (g j)) (fun _ : Unit => [(tv, .inl (gB G, k, .inl (fun j => nI (g j))))]) 0 0 := by
  refine Ct.ofI (cc := cJ1_charAt_3b067) (maxL := 2) (by decide) rfl ⟨by simp [Value.category], Nat.le_of_ble_eq_true rfl⟩ ?_
  intro K hl hC hSF hnm hE
  subst hl
  have hgo := SFgoS (SFx.k G) hSF
  show V G K 2 0 0 0 [some (.ref tv), some (.int (nI j))] [] [(tv, .inl (gB G, k, .inl (fun j => nI (g j))))]
  refine V.iload_n hC (x := nI j) dJ1_charAt_3b067_0 rfl ?_
  refine V.aload_n hC (x := tv) dJ1_charAt_3b067_1 rfl ?_
  refine V.alen hC dJ1_charAt_3b067_2 (0) 6 rfl rfl (nI k) rfl ?_
  refine V.callSr (n := 2) (As := [.int (nI j), .int (nI k)]) (rest := []) hC (c_checkIx0 (kl K) G j k hj (by omega)) (SFx.k G) hgo gJ1_charAt_3b067_J0_checkIndex_df160 rfl ⟨rfl, rfl⟩ (by decide +kernel) ⟨by decide, by decide, by decide, by decide⟩ [] rfl (by decide) rfl rfl (Nat.le_of_ble_eq_true rfl) dJ1_charAt_3b067_3 (fun r_3 u_3 hp_3 => ?_)
  show V G K 2 0 0 6 [some (.ref tv), some (.int (nI j))] [] [(tv, .inl (gB G, k, .inl (fun j => nI (g j))))]
  refine V.aload_n hC (x := tv) dJ1_charAt_3b067_6 rfl ?_
  refine V.iload_n hC (x := nI j) dJ1_charAt_3b067_7 rfl ?_
  refine V.baldN hC dJ1_charAt_3b067_8 (0) (f := g) rfl j rfl (by omega) (by omega) ?_
  refine V.sipush hC 255 dJ1_charAt_3b067_9 rfl ?_
  refine V.iand hC dJ1_charAt_3b067_12 ?_
  refine V.i2c hC dJ1_charAt_3b067_13 ?_
  refine V.topeq (nI (g j)) (asc_c (g j) (hg j)) ?_
  exact hE 14 _ (nI (g j)) () dJ1_charAt_3b067_14 (asc_nar (hg j)) rfl

set_option maxHeartbeats 4000000 in
set_option maxRecDepth 100000 in
theorem d_charAt (l : Launch) (G : Gx) (t tv k : Nat) (g : Nat → Nat) (hh hz : Int32) (hk : k ≤ 49) (hg : ∀ j, g j < 128) (j : Nat) (hj : j < k) : Ct l G (SFt G) yJ0_charAt_5068e wsJ0_charAt_5068e ({ frames := 3, cells := 0, slots := 0, locals := 64 }) [.ref t, .int (nI j)] [(t, .inr (0, [.ref tv, .int 0, .int hh, .int hz])), (tv, .inl (gB G, k, .inl (fun j => nI (g j))))] mkI (fun (r : Int32) (_ : Unit) => r = nI (g j)) (fun _ : Unit => [(t, .inr (0, [.ref tv, .int 0, .int hh, .int hz])), (tv, .inl (gB G, k, .inl (fun j => nI (g j))))]) 0 0 := by
  refine Ct.ofI (cc := cJ0_charAt_5068e) (maxL := 2) (by decide) rfl ⟨by simp [Value.category], Nat.le_of_ble_eq_true rfl⟩ ?_
  intro K hl hC hSF hnm hE
  subst hl
  have hgot := SFgoS (SFt.k G) hSF
  have hgo := SFgo.x hgot
  have hSFt := hSF
  replace hSF := hSF.1
  have q0_ : ∀ w ∈ u_ws RJ0 TJ0 4, w ∈ wsJ0_charAt_5068e := by decide +kernel
  have q1_ : Cond.fieldLink RJ0 9 "java/lang/String" "value" "[B" ∈ wsJ0_charAt_5068e := by decide +kernel
  show V G K 2 0 0 0 [some (.ref t), some (.int (nI j))] [] [(t, .inr (0, [.ref tv, .int 0, .int hh, .int hz])), (tv, .inl (gB G, k, .inl (fun j => nI (g j))))]
  refine V.aload_n hC (x := t) dJ0_charAt_5068e_0 rfl ?_
  refine V.callVr (n := 0) (As := []) (rest := []) hC (d_isLatin (kl K) G t tv k g hh hz hk hg) (SFt.k G) hgot gJ0_charAt_5068e_J0_isLatin1_aae02 rfl ⟨rfl, rfl⟩ (by decide +kernel) ⟨by decide, by decide, by decide, by decide⟩ [0, 1] rfl (by decide) rfl rfl rfl rfl (Nat.le_of_ble_eq_true rfl) dJ0_charAt_5068e_1 (fun r_1 u_1 hp_1 => ?_)
  subst hp_1
  show V G K 2 0 0 4 [some (.ref t), some (.int (nI j))] [.int (nI 1)] [(t, .inr (0, [.ref tv, .int 0, .int hh, .int hz])), (tv, .inl (gB G, k, .inl (fun j => nI (g j))))]
  refine V.ifN_eq hC 1 16 dJ0_charAt_5068e_4 rfl rfl (by omega) (fun c_4 => ?_) (fun c_4 => ?_)
  · exact absurd c_4 (by decide)
  · refine V.aload_n hC (x := t) dJ0_charAt_5068e_7 rfl ?_
    refine V.getf hC (T := TJ0) q0_ 0 q1_ rfl (0) rfl rfl (by decide) (.ref tv) rfl dJ0_charAt_5068e_8 ?_
    refine V.iload_n hC (x := nI j) dJ0_charAt_5068e_11 rfl ?_
    refine V.callSr (n := 2) (As := [.ref tv, .int (nI j)]) (rest := []) hC (d_latinAt (kl K) G tv k g hk hg j hj) (SFx.k G) hgo gJ0_charAt_5068e_J1_charAt_3b067 rfl ⟨rfl, rfl⟩ (by decide +kernel) ⟨by decide, by decide, by decide, by decide⟩ [1] rfl (by decide) rfl rfl (Nat.le_of_ble_eq_true rfl) dJ0_charAt_5068e_12 (fun r_12 u_12 hp_12 => ?_)
    subst hp_12
    show V G K 2 0 0 15 [some (.ref t), some (.int (nI j))] [.int (nI (g j))] [(t, .inr (0, [.ref tv, .int 0, .int hh, .int hz])), (tv, .inl (gB G, k, .inl (fun j => nI (g j))))]
    exact hE 15 _ (nI (g j)) () dJ0_charAt_5068e_15 (asc_nar (hg j)) rfl
