/-! StringBuilder over ASCII texts: the JDK's own methods (printed by gen/s096.py) -/
/-- the sizes that the row of bytes may have -/
def capOK (m : Nat) : Prop := m = 16 ∨ m = 34 ∨ m = 70
theorem capOK.lt {m : Nat} (h : capOK m) : m < 100 := by rcases h with h | h | h <;> omega
theorem capOK.ge {m : Nat} (h : capOK m) : 16 ≤ m := by rcases h with h | h | h <;> omega
theorem capOK.up {m q : Nat} (h : capOK m) (h1 : m < q) (h2 : q ≤ 68) (h3 : q ≤ m + 10) : capOK (m + (m + 2)) ∧ q ≤ m + (m + 2) := by rcases h with h | h | h <;> refine ⟨?_, by omega⟩ <;> first | (left; omega) | (right; left; omega) | (right; right; omega)
theorem sub_le0 {a b : Nat} (ha : a < 2 ^ 30) (hb : b < 2 ^ 30) : nI a - nI b ≤ 0 ↔ a ≤ b := by
  rw [Int32.le_iff_toInt_le, pk_sub_toInt ha hb, Int32.toInt_zero]
  omega
theorem upd128 {f : Nat → Nat} {n c : Nat} (hf : ∀ j, f j < 128) (hc : c < 128) : ∀ j, va_up f n c j < 128 := by
  intro j
  by_cases h : j = n
  · rw [h, va_up_self]; exact hc
  · rw [show va_up f n c j = f j from if_neg h]; exact hf j
theorem neg_le {a b : Nat} (ha : a < 2 ^ 30) (hb : b < 2 ^ 30) : -nI a ≤ -nI b ↔ b ≤ a := by
  rw [← Int32.zero_sub, ← Int32.zero_sub, show (0 : Int32) = nI 0 from rfl, Int32.le_iff_toInt_le, pk_sub_toInt (by decide) ha, pk_sub_toInt (by decide) hb]
  omega
theorem neg_toInt {a : Nat} (ha : a < 2 ^ 30) : (-nI a).toInt = -(a : Int) := by
  rw [← Int32.zero_sub, show (0 : Int32) = nI 0 from rfl, pk_sub_toInt (by decide) ha]
  omega
theorem neg_neg_nI {a : Nat} : - -nI a = nI a := Int32.neg_neg
theorem nI_dec {k : Nat} (h : 1 ≤ k) : nI k + (-1) = nI (k - 1) := by
  obtain ⟨m, rfl⟩ : ∃ m, k = m + 1 := ⟨k - 1, by omega⟩
  exact pk_m1 m
/-- how many digits, and which, for numbers below 10000 -/
def dgc (x : Nat) : Nat := if x < 10 then 1 else if x < 100 then 2 else if x < 1000 then 3 else 4
def dgt (x j : Nat) : Nat := if j + 1 = dgc x then 48 + x % 10 else if j + 2 = dgc x then 48 + x / 10 % 10 else if j + 3 = dgc x then 48 + x / 100 % 10 else 48 + x / 1000 % 10
theorem dgc_1 {x : Nat} (h : x < 10) : dgc x = 1 := if_pos h
theorem dgc_2 {x : Nat} (h : 10 ≤ x) (h2 : x < 100) : dgc x = 2 := by rw [dgc, if_neg (by omega), if_pos h2]
theorem dgc_3 {x : Nat} (h : 100 ≤ x) (h2 : x < 1000) : dgc x = 3 := by rw [dgc, if_neg (by omega), if_neg (by omega), if_pos h2]
theorem dgc_4 {x : Nat} (h : 1000 ≤ x) (_ : x < 10000) : dgc x = 4 := by rw [dgc, if_neg (by omega), if_neg (by omega), if_neg (by omega)]
theorem dgc_g2 {x : Nat} (h : 10 ≤ x) : 2 ≤ dgc x := by
  rw [dgc, if_neg (by omega)]
  repeat' split
  all_goals omega
theorem dgc_g3 {x : Nat} (h : 100 ≤ x) : 3 ≤ dgc x := by
  rw [dgc, if_neg (by omega), if_neg (by omega)]
  repeat' split
  all_goals omega
theorem dgc_g4 {x : Nat} (h : 1000 ≤ x) : 4 ≤ dgc x := by rw [dgc, if_neg (by omega), if_neg (by omega), if_neg (by omega)]; exact Nat.le_refl 4
theorem neg_div100 : ∀ a, a < 100 → ∀ b, b < 100 → -nI (100 * a + b) / 100 = -nI a := by decide +kernel
theorem neg_div {x : Nat} (h : x < 10000) : -nI x / 100 = -nI (x / 100) := by
  have := neg_div100 (x / 100) (by omega) (x % 100) (by omega)
  rw [Nat.div_add_mod] at this
  exact this
theorem neg_rem {x : Nat} (h : x < 10000) : -nI (x / 100) * 100 - -nI x = nI (x % 100) := by
  rw [← Int32.zero_sub (nI (x / 100)), ← Int32.zero_sub (nI x)]
  have e : nI x = nI (x / 100) * 100 + nI (x % 100) := by
    rw [show (100 : Int32) = nI 100 from rfl, pk_mul, nI_add, Nat.mul_comm, Nat.div_add_mod]
  rw [e]
  have : ∀ a b c : Int32, (0 - a) * c - (0 - (a * c + b)) = b := by
    intro a b c
    rw [Int32.zero_sub, Int32.zero_sub, Int32.neg_mul, Int32.sub_eq_add_neg, Int32.neg_neg, ← Int32.add_assoc, Int32.add_comm (-(a * c)), Int32.add_right_neg, Int32.zero_add]
  exact this _ _ _
theorem dgc_le (x : Nat) : 1 ≤ dgc x ∧ dgc x ≤ 4 := by
  unfold dgc
  repeat' split
  all_goals omega
theorem dgt_lt (x j : Nat) : dgt x j < 128 := by
  unfold dgt
  repeat' split
  all_goals omega
theorem shr_0 {n : Nat} (h : n < 2 ^ 31) : nI n >>> ((0 : Int32) &&& 31) = nI n := by
  rw [show ((0 : Int32) &&& 31) = 0 by decide, pk_shrN h 0 0 (by decide), Nat.pow_zero, Nat.div_one]
theorem shl_0 {n : Nat} (h : n < 2 ^ 31) : nI n <<< ((0 : Int32) &&& 31) = nI n := by
  rw [show ((0 : Int32) &&& 31) = 0 by decide, pk_shlN 0 0 (by decide) (by omega), Nat.pow_zero, Nat.mul_one]
set_option maxHeartbeats 4000000 in
set_option maxRecDepth 100000 in
theorem c_sbLatin (l : Launch) (G : Gx) (sb b cap : Nat) (f : Nat → Nat) (n : Nat) (ml : Int32) (hcap : capOK cap) (hn : n ≤ cap) (hf : ∀ j, f j < 128) : Ct l G (SFx G) yJ5_isLatin1_aae02 wsJ5_isLatin1_aae02 ({ frames := 0, cells := 0, slots := 0, locals := 0 }) [.ref sb] [(sb, .inr (1, [.ref b, .int 0, .int ml, .int (nI n)])), (b, .inl (gB G, cap, .inl (fun j => nI (f j))))] mkI (fun (r : Int32) (_ : Unit) => r = 1) (fun _ : Unit => [(sb, .inr (1, [.ref b, .int 0, .int ml, .int (nI n)])), (b, .inl (gB G, cap, .inl (fun j => nI (f j))))]) 0 0 := by
  refine Ct.ofI (cc := cJ5_isLatin1_aae02) (maxL := 1) (by decide) rfl ⟨by simp [Value.category], Nat.le_of_ble_eq_true rfl⟩ ?_
  intro K hl hC hSF hnm hE
  subst hl
  have hgo := SFgoS (SFx.k G) hSF
  have q0_ : Cond.fieldLink RJ5 18 "java/lang/String" "COMPACT_STRINGS" "Z" ∈ wsJ5_isLatin1_aae02 := by decide +kernel
  have q1_ : ∀ w ∈ u_ws RJ4 TJ4 4, w ∈ wsJ5_isLatin1_aae02 := by decide +kernel
  have q2_ : Cond.fieldLink RJ5 22 "java/lang/AbstractStringBuilder" "coder" "B" ∈ wsJ5_isLatin1_aae02 := by decide +kernel
  show V G K 1 0 0 0 [some (.ref sb)] [] [(sb, .inr (1, [.ref b, .int 0, .int ml, .int (nI n)])), (b, .inl (gB G, cap, .inl (fun j => nI (f j))))]
  refine V.gets hC (n := "COMPACT_STRINGS") hSF.2.2.2.2.2.2.2.2.2.2.1 q0_ rfl dJ5_isLatin1_aae02_0 ?_
  refine V.ifN_eq hC 1 17 dJ5_isLatin1_aae02_3 rfl rfl (by omega) (fun c_3 => ?_) (fun c_3 => ?_)
  · exact absurd c_3 (by decide)
  · refine V.aload_n hC (x := sb) dJ5_isLatin1_aae02_6 rfl ?_
    refine V.getf hC (T := TJ4) q1_ 1 q2_ rfl (0) rfl rfl (by decide) (.int 0) rfl dJ5_isLatin1_aae02_7 ?_
    refine V.ifN_ne hC 0 17 dJ5_isLatin1_aae02_10 rfl rfl (by omega) (fun c_10 => ?_) (fun c_10 => ?_)
    · exact absurd rfl c_10
    · refine V.iconst hC 1 dJ5_isLatin1_aae02_13 rfl ?_
      refine V.goto hC 18 dJ5_isLatin1_aae02_14 rfl ?_
      exact hE 18 _ 1 () dJ5_isLatin1_aae02_18 rfl rfl

set_option maxHeartbeats 4000000 in
set_option maxRecDepth 100000 in
theorem c_canEncode (l : Launch) (G : Gx) (c : Nat) (hc : c < 128) : Ct l G SF0 yJ1_canEncode_fc78d wsJ1_canEncode_fc78d ({ frames := 0, cells := 0, slots := 0, locals := 0 }) [.int (nI c)] [] mkI (fun (r : Int32) (_ : Unit) => r = 1) (fun _ : Unit => []) 0 0 := by
  refine Ct.ofI (cc := cJ1_canEncode_fc78d) (maxL := 1) (by decide) rfl ⟨by simp [Value.category], Nat.le_of_ble_eq_true rfl⟩ ?_
  intro K hl hC hSF hnm hE
  subst hl
  show V G K 1 0 0 0 [some (.int (nI c))] [] []
  refine V.iload_n hC (x := nI c) dJ1_canEncode_fc78d_0 rfl ?_
  refine V.sipush hC 255 dJ1_canEncode_fc78d_1 rfl ?_
  refine V.icmpN_gt hC c 255 11 dJ1_canEncode_fc78d_4 rfl rfl rfl (by omega) (by omega) (fun c_4 => ?_) (fun c_4 => ?_)
  · exact absurd c_4 (by omega)
  · refine V.iconst hC 1 dJ1_canEncode_fc78d_7 rfl ?_
    refine V.goto hC 12 dJ1_canEncode_fc78d_8 rfl ?_
    exact hE 12 _ 1 () dJ1_canEncode_fc78d_12 rfl rfl

set_option maxHeartbeats 4000000 in
set_option maxRecDepth 100000 in
theorem c_newLength (l : Launch) (G : Gx) (a m q : Nat) (ha : a < 1000) (hm : m ≤ q) (hq : q < 1000) (h1 : 1 ≤ a + q) : Ct l G SF0 yJ8_newLength_cabcc wsJ8_newLength_cabcc ({ frames := 1, cells := 0, slots := 0, locals := 14 }) [.int (nI a), .int (nI m), .int (nI q)] [] mkI (fun (r : Int32) (_ : Unit) => r = nI (a + q)) (fun _ : Unit => []) 0 0 := by
  refine Ct.ofI (cc := cJ8_newLength_cabcc) (maxL := 4) (by decide) rfl ⟨by simp [Value.category], Nat.le_of_ble_eq_true rfl⟩ ?_
  intro K hl hC hSF hnm hE
  subst hl
  have q0_ : Cond.methodLink RJ8 194 Lib.Math.max.name ∈ wsJ8_newLength_cabcc := by decide +kernel
  have q1_ : Cond.static Lib.Math.max.name ∈ wsJ8_newLength_cabcc := by decide +kernel
  have q2_ : Cond.initialized "java/lang/Math" ∈ wsJ8_newLength_cabcc := by decide +kernel
  have q3_ : Cond.code Lib.Math.max.name Lib.Math.max.code 2 (some .int) ∈ wsJ8_newLength_cabcc := by decide +kernel
  have q4_ : Cond.constant RJ8 200 (2147483639) ∈ wsJ8_newLength_cabcc := by decide +kernel
  show V G K 4 0 0 0 [some (.int (nI a)), some (.int (nI m)), some (.int (nI q)), none] [] []
  refine V.iload_n hC (x := nI a) dJ8_newLength_cabcc_0 rfl ?_
  refine V.iload_n hC (x := nI m) dJ8_newLength_cabcc_1 rfl ?_
  refine V.iload_n hC (x := nI q) dJ8_newLength_cabcc_2 rfl ?_
  refine V.mmax hC q0_ q1_ q2_ q3_ ⟨Nat.le_of_ble_eq_true rfl, Nat.le_of_ble_eq_true rfl, Nat.le_of_ble_eq_true rfl, Nat.le_of_ble_eq_true rfl⟩ dJ8_newLength_cabcc_3 ?_
  refine V.topeq (nI q) (by rcases Nat.lt_or_ge m q with z | z; exact if_pos (nI_lt z (by omega)); obtain rfl : m = q := (by omega); exact if_neg (nI_nlt (Nat.le_refl _) (by omega))) ?_
  refine V.iaddN hC a q dJ8_newLength_cabcc_6 rfl rfl ?_
  refine V.istore_n hC dJ8_newLength_cabcc_7 [some (.int (nI a)), some (.int (nI m)), some (.int (nI q)), some (.int (nI (a + q)))] (Nat.le_of_ble_eq_true rfl) rfl ?_
  refine V.iconst hC 0 dJ8_newLength_cabcc_8 rfl ?_
  refine V.iload_n hC (x := nI (a + q)) dJ8_newLength_cabcc_9 rfl ?_
  refine V.icmpN_ge hC 0 (a + q) 21 dJ8_newLength_cabcc_10 rfl rfl rfl (by omega) (by omega) (fun c_10 => ?_) (fun c_10 => ?_)
  · exact absurd c_10 (by omega)
  · refine V.iload_n hC (x := nI (a + q)) dJ8_newLength_cabcc_13 rfl ?_
    refine V.ldc hC 2147483639 dJ8_newLength_cabcc_14 q4_ ?_
    refine V.icmpN_gt hC (a + q) 2147483639 21 dJ8_newLength_cabcc_16 rfl rfl rfl (by omega) (by omega) (fun c_16 => ?_) (fun c_16 => ?_)
    · exact absurd c_16 (by omega)
    · refine V.iload_n hC (x := nI (a + q)) dJ8_newLength_cabcc_19 rfl ?_
      exact hE 20 _ (nI (a + q)) () dJ8_newLength_cabcc_20 rfl rfl

set_option maxHeartbeats 4000000 in
set_option maxRecDepth 100000 in
theorem c_newCapacity (l : Launch) (G : Gx) (sb b cap : Nat) (f : Nat → Nat) (n : Nat) (ml : Int32) (hcap : capOK cap) (hn : n ≤ cap) (hf : ∀ j, f j < 128) (q : Nat) (h1 : cap < q) (h2 : q ≤ 68) (h3 : q ≤ cap + 10) : Ct l G (SFx G) yJ5_newCapacity_0f7a4 wsJ5_newCapacity_0f7a4 ({ frames := 2, cells := 0, slots := 0, locals := 37 }) [.ref sb, .int (nI q)] [(sb, .inr (1, [.ref b, .int 0, .int ml, .int (nI n)])), (b, .inl (gB G, cap, .inl (fun j => nI (f j))))] mkI (fun (r : Int32) (_ : Unit) => r = nI (cap + (cap + 2))) (fun _ : Unit => [(sb, .inr (1, [.ref b, .int 0, .int ml, .int (nI n)])), (b, .inl (gB G, cap, .inl (fun j => nI (f j))))]) 0 0 := by
  refine Ct.ofI (cc := cJ5_newCapacity_0f7a4) (maxL := 6) (by decide) rfl ⟨by simp [Value.category], Nat.le_of_ble_eq_true rfl⟩ ?_
  intro K hl hC hSF hnm hE
  subst hl
  have hgo := SFgoS (SFx.k G) hSF
  have q0_ : ∀ w ∈ u_ws RJ4 TJ4 4, w ∈ wsJ5_newCapacity_0f7a4 := by decide +kernel
  have q1_ : Cond.fieldLink RJ5 15 "java/lang/AbstractStringBuilder" "value" "[B" ∈ wsJ5_newCapacity_0f7a4 := by decide +kernel
  have q2_ : Cond.fieldLink RJ5 22 "java/lang/AbstractStringBuilder" "coder" "B" ∈ wsJ5_newCapacity_0f7a4 := by decide +kernel
  have q3_ : Cond.constant RJ5 39 (2147483647) ∈ wsJ5_newCapacity_0f7a4 := by decide +kernel
  show V G K 6 0 0 0 [some (.ref sb), some (.int (nI q)), none, none, none, none] [] [(sb, .inr (1, [.ref b, .int 0, .int ml, .int (nI n)])), (b, .inl (gB G, cap, .inl (fun j => nI (f j))))]
  have hcl := hcap.lt
  have hcg := hcap.ge
  refine V.aload_n hC (x := sb) dJ5_newCapacity_0f7a4_0 rfl ?_
  refine V.getf hC (T := TJ4) q0_ 0 q1_ rfl (0) rfl rfl (by decide) (.ref b) rfl dJ5_newCapacity_0f7a4_1 ?_
  refine V.alen hC dJ5_newCapacity_0f7a4_4 (1) 6 rfl rfl (nI cap) rfl ?_
  refine V.istore_n hC dJ5_newCapacity_0f7a4_5 [some (.ref sb), some (.int (nI q)), some (.int (nI cap)), none, none, none] (Nat.le_of_ble_eq_true rfl) rfl ?_
  refine V.iload_n hC (x := nI q) dJ5_newCapacity_0f7a4_6 rfl ?_
  refine V.aload_n hC (x := sb) dJ5_newCapacity_0f7a4_7 rfl ?_
  refine V.getf hC (T := TJ4) q0_ 1 q2_ rfl (0) rfl rfl (by decide) (.int 0) rfl dJ5_newCapacity_0f7a4_8 ?_
  refine V.ishl hC dJ5_newCapacity_0f7a4_11 ?_
  refine V.topeq (nI q) (shl_0 (by omega)) ?_
  refine V.istore_n hC dJ5_newCapacity_0f7a4_12 [some (.ref sb), some (.int (nI q)), some (.int (nI cap)), some (.int (nI q)), none, none] (Nat.le_of_ble_eq_true rfl) rfl ?_
  refine V.iload_n hC (x := nI q) dJ5_newCapacity_0f7a4_13 rfl ?_
  refine V.iload_n hC (x := nI cap) dJ5_newCapacity_0f7a4_14 rfl ?_
  refine V.isubN hC q cap dJ5_newCapacity_0f7a4_15 rfl rfl (by omega) ?_
  refine V.istore hC dJ5_newCapacity_0f7a4_16 [some (.ref sb), some (.int (nI q)), some (.int (nI cap)), some (.int (nI q)), some (.int (nI (q - cap))), none] (Nat.le_of_ble_eq_true rfl) rfl ?_
  refine V.iload_n hC (x := nI cap) dJ5_newCapacity_0f7a4_18 rfl ?_
  refine V.iload hC (x := nI (q - cap)) dJ5_newCapacity_0f7a4_19 rfl ?_
  refine V.iload_n hC (x := nI cap) dJ5_newCapacity_0f7a4_21 rfl ?_
  refine V.iconst hC 2 dJ5_newCapacity_0f7a4_22 rfl ?_
  refine V.aload_n hC (x := sb) dJ5_newCapacity_0f7a4_23 rfl ?_
  refine V.getf hC (T := TJ4) q0_ 1 q2_ rfl (0) rfl rfl (by decide) (.int 0) rfl dJ5_newCapacity_0f7a4_24 ?_
  refine V.ishl hC dJ5_newCapacity_0f7a4_27 ?_
  refine V.topeq (nI 2) (by decide) ?_
  refine V.iaddN hC cap 2 dJ5_newCapacity_0f7a4_28 rfl rfl ?_
  refine V.callSr (n := 3) (As := [.int (nI cap), .int (nI (q - cap)), .int (nI (cap + 2))]) (rest := []) hC (c_newLength (kl K) G cap (q - cap) (cap + 2) (by omega) (by omega) (by omega) (by omega)) SFk0 SFgo0 gJ5_newCapacity_0f7a4_J8_newLength_cabcc rfl ⟨rfl, rfl⟩ (by decide +kernel) ⟨by decide, by decide, by decide, by decide⟩ [] rfl (by decide) rfl rfl (Nat.le_of_ble_eq_true rfl) dJ5_newCapacity_0f7a4_29 (fun r_29 u_29 hp_29 => ?_)
  subst hp_29
  show V G K 6 0 0 32 [some (.ref sb), some (.int (nI q)), some (.int (nI cap)), some (.int (nI q)), some (.int (nI (q - cap))), none] [.int (nI (cap + (cap + 2)))] [(sb, .inr (1, [.ref b, .int 0, .int ml, .int (nI n)])), (b, .inl (gB G, cap, .inl (fun j => nI (f j))))]
  refine V.istore hC dJ5_newCapacity_0f7a4_32 [some (.ref sb), some (.int (nI q)), some (.int (nI cap)), some (.int (nI q)), some (.int (nI (q - cap))), some (.int (nI (cap + (cap + 2))))] (Nat.le_of_ble_eq_true rfl) rfl ?_
  refine V.iload hC (x := nI (cap + (cap + 2))) dJ5_newCapacity_0f7a4_34 rfl ?_
  refine V.ldc hC 2147483647 dJ5_newCapacity_0f7a4_36 q3_ ?_
  refine V.icmpN_ne hC (cap + (cap + 2)) 2147483647 51 dJ5_newCapacity_0f7a4_38 rfl rfl rfl (by omega) (by omega) (fun c_38 => ?_) (fun c_38 => ?_)
  · refine V.iload hC (x := nI (cap + (cap + 2))) dJ5_newCapacity_0f7a4_51 rfl ?_
    refine V.aload_n hC (x := sb) dJ5_newCapacity_0f7a4_53 rfl ?_
    refine V.getf hC (T := TJ4) q0_ 1 q2_ rfl (0) rfl rfl (by decide) (.int 0) rfl dJ5_newCapacity_0f7a4_54 ?_
    refine V.ishr hC dJ5_newCapacity_0f7a4_57 ?_
    refine V.topeq (nI (cap + (cap + 2))) (shr_0 (by omega)) ?_
    exact hE 58 _ (nI (cap + (cap + 2))) () dJ5_newCapacity_0f7a4_58 rfl rfl
  · exact absurd c_38 (by omega)

set_option maxHeartbeats 4000000 in
set_option maxRecDepth 100000 in
theorem c_copyOf (l : Launch) (G : Gx) (b cap : Nat) (f : Nat → Nat) (hf : ∀ j, f j < 128) (hcap : cap < 100) (q : Nat) (h1 : cap < q) (h2 : q ≤ 70) : Ct l G SF0 yJ7_copyOf_9075b wsJ7_copyOf_9075b ({ frames := 1, cells := 1, slots := 70, locals := 18 }) [.ref b, .int (nI q)] [(b, .inl (gB G, cap, .inl (fun j => nI (f j))))] mkA (fun (r : Option Nat) (u : Nat × (Nat → Nat)) => r = some u.1 ∧ (∀ j, u.2 j < 128) ∧ ∀ j, j < cap → u.2 j = f j) (fun u : Nat × (Nat → Nat) => [(b, .inl (gB G, cap, .inl (fun j => nI (f j)))), (u.1, .inl (gB G, q, .inl (fun j => nI (u.2 j))))]) 1 70 := by
  refine Ct.ofA (mk := fun r : Option Nat => va_rf r) (fun r => va_rf_or r) (Or.inr ⟨_, rfl⟩) (cc := cJ7_copyOf_9075b) (maxL := 3) (by decide) rfl ⟨by simp [Value.category], Nat.le_of_ble_eq_true rfl⟩ ?_
  intro K hl hC hSF hnm hE
  subst hl
  have q0_ : Cond.arrayClass .byte ∈ wsJ7_copyOf_9075b := by decide +kernel
  have q1_ : Cond.methodLink RJ7 304 Lib.Math.min.name ∈ wsJ7_copyOf_9075b := by decide +kernel
  have q2_ : Cond.static Lib.Math.min.name ∈ wsJ7_copyOf_9075b := by decide +kernel
  have q3_ : Cond.initialized "java/lang/Math" ∈ wsJ7_copyOf_9075b := by decide +kernel
  have q4_ : Cond.code Lib.Math.min.name Lib.Math.min.code 2 (some .int) ∈ wsJ7_copyOf_9075b := by decide +kernel
  have q5_ : Cond.methodLink RJ7 150 arraycopyName ∈ wsJ7_copyOf_9075b := by decide +kernel
  have q6_ : Cond.native arraycopyName ∈ wsJ7_copyOf_9075b := by decide +kernel
  have q7_ : Cond.static arraycopyName ∈ wsJ7_copyOf_9075b := by decide +kernel
  have q8_ : Cond.initialized "java/lang/System" ∈ wsJ7_copyOf_9075b := by decide +kernel
  show V G K 3 0 0 0 [some (.ref b), some (.int (nI q)), none] [] [(b, .inl (gB G, cap, .inl (fun j => nI (f j))))]
  refine V.iload_n hC (x := nI q) dJ7_copyOf_9075b_0 rfl ?_
  refine V.aload_n hC (x := b) dJ7_copyOf_9075b_1 rfl ?_
  refine V.alen hC dJ7_copyOf_9075b_2 (0) 6 rfl rfl (nI cap) rfl ?_
  refine V.icmpN_ne hC q cap 14 dJ7_copyOf_9075b_3 rfl rfl rfl (by omega) (by omega) (fun c_3 => ?_) (fun c_3 => ?_)
  · refine V.iload_n hC (x := nI q) dJ7_copyOf_9075b_14 rfl ?_
    refine V.newA hC (atype := .byte) 6 (cA := gB G) q0_ rfl q (q, .inl (fun j => nI ((fun _ => 0) j))) (fun _ => rfl) rfl (by omega) (by decide) (by show _ ≤ _; simp only []; omega) dJ7_copyOf_9075b_15 (fun q_15 => ?_)
    refine V.widen (k := 1) (n := 70) (Nat.le_refl _) (by omega) ?_
    show V G K 3 1 70 17 [some (.ref b), some (.int (nI q)), none] [.ref q_15] [(b, .inl (gB G, cap, .inl (fun j => nI (f j)))), (q_15, .inl (gB G, q, .inl (fun j => nI ((fun _ => 0) j))))]
    refine V.astore_n hC dJ7_copyOf_9075b_17 [some (.ref b), some (.int (nI q)), some (.ref q_15)] (Nat.le_of_ble_eq_true rfl) rfl ?_
    refine V.aload_n hC (x := b) dJ7_copyOf_9075b_18 rfl ?_
    refine V.iconst hC 0 dJ7_copyOf_9075b_19 rfl ?_
    refine V.aload_n hC (x := q_15) dJ7_copyOf_9075b_20 rfl ?_
    refine V.iconst hC 0 dJ7_copyOf_9075b_21 rfl ?_
    refine V.aload_n hC (x := b) dJ7_copyOf_9075b_22 rfl ?_
    refine V.alen hC dJ7_copyOf_9075b_23 (0) 6 rfl rfl (nI cap) rfl ?_
    refine V.iload_n hC (x := nI q) dJ7_copyOf_9075b_24 rfl ?_
    refine V.mmin hC q1_ q2_ q3_ q4_ ⟨Nat.le_of_ble_eq_true rfl, Nat.le_of_ble_eq_true rfl, Nat.le_of_ble_eq_true rfl, Nat.le_of_ble_eq_true rfl⟩ dJ7_copyOf_9075b_25 ?_
    refine V.topeq (nI cap) (if_neg (nI_nlt (by omega) (by omega))) ?_
    refine V.copyB hC q5_ q6_ q7_ q8_ (0) (1) (N0 := cap) (N1 := q) (f := f) (g := (fun _ => 0)) hf rfl rfl cap rfl (by omega) (by omega) (by omega) ⟨Nat.le_of_ble_eq_true rfl, Nat.le_of_ble_eq_true rfl⟩ dJ7_copyOf_9075b_28 [(b, .inl (gB G, cap, .inl (fun j => nI (f j)))), (q_15, .inl (gB G, q, .inl (fun j => nI ((fun j => if j < cap then f j else (fun _ => 0) j) j))))] rfl ?_
    refine V.aload_n hC (x := q_15) dJ7_copyOf_9075b_31 rfl ?_
    exact hE 32 _ (some q_15) (q_15, fun j => if j < cap then f j else (fun _ => 0) j) dJ7_copyOf_9075b_32 ⟨rfl, fun j => by show (if j < cap then f j else 0) < 128; split; exact hf j; omega, fun j hj => if_pos hj⟩
  · exact absurd c_3 (by omega)

set_option maxHeartbeats 4000000 in
set_option maxRecDepth 100000 in
theorem c_ensure (l : Launch) (G : Gx) (sb b cap : Nat) (f : Nat → Nat) (n : Nat) (ml : Int32) (hcap : capOK cap) (hn : n ≤ cap) (hf : ∀ j, f j < 128) (q : Nat) (h2 : q ≤ 68) (h3 : q ≤ cap + 10) : Ct l G (SFx G) yJ5_ensureCapacityInternal_d00df wsJ5_ensureCapacityInternal_d00df ({ frames := 3, cells := 1, slots := 70, locals := 62 }) [.ref sb, .int (nI q)] [(sb, .inr (1, [.ref b, .int 0, .int ml, .int (nI n)])), (b, .inl (gB G, cap, .inl (fun j => nI (f j))))] mkV (fun (_ : Unit) (u : Nat × Nat × (Nat → Nat)) => capOK u.2.1 ∧ (∀ j, u.2.2 j < 128) ∧ q ≤ u.2.1 ∧ (∀ j, j < cap → u.2.2 j = f j)) (fun u : Nat × Nat × (Nat → Nat) => [(sb, .inr (1, [.ref (u.1), .int 0, .int ml, .int (nI n)])), (u.1, .inl (gB G, u.2.1, .inl (fun j => nI ((u.2.2) j))))]) 1 70 := by
  refine Ct.ofV (cc := cJ5_ensureCapacityInternal_d00df) (maxL := 3) (by decide) rfl ⟨by simp [Value.category], Nat.le_of_ble_eq_true rfl⟩ ?_
  intro K hl hC hSF hnm hE
  subst hl
  have hgo := SFgoS (SFx.k G) hSF
  have q0_ : ∀ w ∈ u_ws RJ4 TJ4 4, w ∈ wsJ5_ensureCapacityInternal_d00df := by decide +kernel
  have q1_ : Cond.fieldLink RJ5 15 "java/lang/AbstractStringBuilder" "value" "[B" ∈ wsJ5_ensureCapacityInternal_d00df := by decide +kernel
  have q2_ : Cond.fieldLink RJ5 22 "java/lang/AbstractStringBuilder" "coder" "B" ∈ wsJ5_ensureCapacityInternal_d00df := by decide +kernel
  show V G K 3 0 0 0 [some (.ref sb), some (.int (nI q)), none] [] [(sb, .inr (1, [.ref b, .int 0, .int ml, .int (nI n)])), (b, .inl (gB G, cap, .inl (fun j => nI (f j))))]
  have hcl := hcap.lt
  have hcg := hcap.ge
  refine V.aload_n hC (x := sb) dJ5_ensureCapacityInternal_d00df_0 rfl ?_
  refine V.getf hC (T := TJ4) q0_ 0 q1_ rfl (0) rfl rfl (by decide) (.ref b) rfl dJ5_ensureCapacityInternal_d00df_1 ?_
  refine V.alen hC dJ5_ensureCapacityInternal_d00df_4 (1) 6 rfl rfl (nI cap) rfl ?_
  refine V.aload_n hC (x := sb) dJ5_ensureCapacityInternal_d00df_5 rfl ?_
  refine V.getf hC (T := TJ4) q0_ 1 q2_ rfl (0) rfl rfl (by decide) (.int 0) rfl dJ5_ensureCapacityInternal_d00df_6 ?_
  refine V.ishr hC dJ5_ensureCapacityInternal_d00df_9 ?_
  refine V.topeq (nI cap) (shr_0 (by omega)) ?_
  refine V.istore_n hC dJ5_ensureCapacityInternal_d00df_10 [some (.ref sb), some (.int (nI q)), some (.int (nI cap))] (Nat.le_of_ble_eq_true rfl) rfl ?_
  refine V.iload_n hC (x := nI q) dJ5_ensureCapacityInternal_d00df_11 rfl ?_
  refine V.iload_n hC (x := nI cap) dJ5_ensureCapacityInternal_d00df_12 rfl ?_
  refine V.isub hC dJ5_ensureCapacityInternal_d00df_13 ?_
  refine V.if_le hC 38 dJ5_ensureCapacityInternal_d00df_14 rfl (fun c_14 => ?_) (fun c_14 => ?_)
  · have c14 := (sub_le0 (by omega) (by omega)).mp c_14
    refine V.widen (k := 1) (n := 70) (Nat.le_of_ble_eq_true rfl) (Nat.le_of_ble_eq_true rfl) ?_
    exact hE 38 _ (b, cap, f) dJ5_ensureCapacityInternal_d00df_38 ⟨hcap, hf, by omega, fun j _ => rfl⟩
  · have c14 : cap < q := Nat.lt_of_not_le (fun z => c_14 ((sub_le0 (by omega) (by omega)).mpr z))
    refine V.aload_n hC (x := sb) dJ5_ensureCapacityInternal_d00df_17 rfl ?_
    refine V.aload_n hC (x := sb) dJ5_ensureCapacityInternal_d00df_18 rfl ?_
    refine V.getf hC (T := TJ4) q0_ 0 q1_ rfl (0) rfl rfl (by decide) (.ref b) rfl dJ5_ensureCapacityInternal_d00df_19 ?_
    refine V.aload_n hC (x := sb) dJ5_ensureCapacityInternal_d00df_22 rfl ?_
    refine V.iload_n hC (x := nI q) dJ5_ensureCapacityInternal_d00df_23 rfl ?_
    refine V.callUG (n := 1) (As := [.int (nI q)]) (rest := [.ref b, .ref sb]) (wr := []) (x := ⟨"java/lang/AbstractStringBuilder", "newCapacity", "(I)I"⟩) (owner := "java/lang/AbstractStringBuilder") hC (c_newCapacity (kl K) G sb b cap f n ml hcap hn hf q c14 h2 h3) (SFx.k G) hgo gJ5_ensureCapacityInternal_d00df_J5_newCapacity_0f7a4_u104J4 rfl ⟨rfl, rfl⟩ rfl (by decide +kernel) ⟨by decide, by decide, by decide, by decide⟩ [0, 1] [] rfl (by decide) rfl (by decide) (by decide) rfl rfl rfl rfl (Nat.le_of_ble_eq_true rfl) dJ5_ensureCapacityInternal_d00df_24 (fun r_24 u_24 hp_24 => ?_)
    subst hp_24
    show V G K 3 0 0 27 [some (.ref sb), some (.int (nI q)), some (.int (nI cap))] [.int (nI (cap + (cap + 2))), .ref b, .ref sb] [(sb, .inr (1, [.ref b, .int 0, .int ml, .int (nI n)])), (b, .inl (gB G, cap, .inl (fun j => nI (f j))))]
    refine V.aload_n hC (x := sb) dJ5_ensureCapacityInternal_d00df_27 rfl ?_
    refine V.getf hC (T := TJ4) q0_ 1 q2_ rfl (0) rfl rfl (by decide) (.int 0) rfl dJ5_ensureCapacityInternal_d00df_28 ?_
    refine V.ishl hC dJ5_ensureCapacityInternal_d00df_31 ?_
    refine V.topeq (nI (cap + (cap + 2))) (shl_0 (by omega)) ?_
    refine V.callSG (n := 2) (As := [.ref b, .int (nI (cap + (cap + 2)))]) (rest := [.ref sb]) (wr := [(sb, .inr (1, [.ref b, .int 0, .int ml, .int (nI n)]))]) hC (c_copyOf (kl K) G b cap f hf (by omega) (cap + (cap + 2)) (by omega) (by have := (hcap.up c14 h2 h3).1.lt; rcases (hcap.up c14 h2 h3).1 with z | z | z <;> omega)) SFk0 SFgo0 gJ5_ensureCapacityInternal_d00df_J7_copyOf_9075b rfl ⟨rfl, rfl⟩ (by decide +kernel) ⟨by decide, by decide, by decide, by decide⟩ [1] [0] rfl (by decide) rfl (by decide) (by decide) rfl rfl (Nat.le_of_ble_eq_true rfl) dJ5_ensureCapacityInternal_d00df_32 (fun r_32 u_32 hp_32 => ?_)
    obtain ⟨e_32, hu1_, hu2_⟩ := hp_32
    subst e_32
    show V G K 3 1 70 35 [some (.ref sb), some (.int (nI q)), some (.int (nI cap))] [.ref (u_32.1), .ref sb] [(sb, .inr (1, [.ref b, .int 0, .int ml, .int (nI n)])), (b, .inl (gB G, cap, .inl (fun j => nI (f j)))), (u_32.1, .inl (gB G, cap + (cap + 2), .inl (fun j => nI ((u_32.2) j))))]
    refine V.putf hC (T := TJ4) q0_ tyJ4 tyJ4_ok nmJ4 0 q1_ rfl rfl (0) rfl rfl (by decide) (by simp) rfl rfl dJ5_ensureCapacityInternal_d00df_35 [(sb, .inr (1, [.ref (u_32.1), .int 0, .int ml, .int (nI n)])), (b, .inl (gB G, cap, .inl (fun j => nI (f j)))), (u_32.1, .inl (gB G, cap + (cap + 2), .inl (fun j => nI ((u_32.2) j))))] rfl ?_
    refine V.perm (ws' := [(sb, .inr (1, [.ref (u_32.1), .int 0, .int ml, .int (nI n)])), (u_32.1, .inl (gB G, cap + (cap + 2), .inl (fun j => nI ((u_32.2) j))))]) [0, 2] rfl (by decide) ?_
    exact hE 38 _ (u_32.1, cap + (cap + 2), u_32.2) dJ5_ensureCapacityInternal_d00df_38 ⟨(hcap.up (by omega) h2 h3).1, hu1_, (hcap.up (by omega) h2 h3).2, hu2_⟩

set_option maxHeartbeats 4000000 in
set_option maxRecDepth 100000 in
theorem c_appendC5 (l : Launch) (G : Gx) (sb b cap : Nat) (f : Nat → Nat) (n : Nat) (ml : Int32) (hcap : capOK cap) (hn : n ≤ cap) (hf : ∀ j, f j < 128) (c : Nat) (hc : c < 128) (hn60 : n ≤ 60) : Ct l G (SFx G) yJ5_append_3fe6f wsJ5_append_3fe6f ({ frames := 4, cells := 1, slots := 70, locals := 84 }) [.ref sb, .int (nI c)] [(sb, .inr (1, [.ref b, .int 0, .int ml, .int (nI n)])), (b, .inl (gB G, cap, .inl (fun j => nI (f j))))] mkA (fun (r : Option Nat) (u : Nat × Nat × (Nat → Nat)) => r = some sb ∧ capOK u.2.1 ∧ (∀ j, u.2.2 j < 128) ∧ n + 1 ≤ u.2.1 ∧ (∀ j, j < n → u.2.2 j = f j) ∧ u.2.2 n = c) (fun u : Nat × Nat × (Nat → Nat) => [(sb, .inr (1, [.ref (u.1), .int 0, .int ml, .int (nI (n + 1))])), (u.1, .inl (gB G, u.2.1, .inl (fun j => nI ((u.2.2) j))))]) 1 70 := by
  refine Ct.ofA (mk := fun r : Option Nat => va_rf r) (fun r => va_rf_or r) (Or.inl ⟨_, rfl⟩) (cc := cJ5_append_3fe6f) (maxL := 2) (by decide) rfl ⟨by simp [Value.category], Nat.le_of_ble_eq_true rfl⟩ ?_
  intro K hl hC hSF hnm hE
  subst hl
  have hgo := SFgoS (SFx.k G) hSF
  have q0_ : ∀ w ∈ u_ws RJ4 TJ4 4, w ∈ wsJ5_append_3fe6f := by decide +kernel
  have q1_ : Cond.fieldLink RJ5 79 "java/lang/AbstractStringBuilder" "count" "I" ∈ wsJ5_append_3fe6f := by decide +kernel
  have q2_ : Cond.fieldLink RJ5 15 "java/lang/AbstractStringBuilder" "value" "[B" ∈ wsJ5_append_3fe6f := by decide +kernel
  show V G K 2 0 0 0 [some (.ref sb), some (.int (nI c))] [] [(sb, .inr (1, [.ref b, .int 0, .int ml, .int (nI n)])), (b, .inl (gB G, cap, .inl (fun j => nI (f j))))]
  have hcl := hcap.lt
  have hcg := hcap.ge
  refine V.aload_n hC (x := sb) dJ5_append_3fe6f_0 rfl ?_
  refine V.aload_n hC (x := sb) dJ5_append_3fe6f_1 rfl ?_
  refine V.getf hC (T := TJ4) q0_ 3 q1_ rfl (0) rfl rfl (by decide) (.int (nI n)) rfl dJ5_append_3fe6f_2 ?_
  refine V.iconst hC 1 dJ5_append_3fe6f_5 rfl ?_
  refine V.iaddN hC n 1 dJ5_append_3fe6f_6 rfl rfl ?_
  refine V.callUG (n := 1) (As := [.int (nI (n + 1))]) (rest := []) (wr := []) (x := ⟨"java/lang/AbstractStringBuilder", "ensureCapacityInternal", "(I)V"⟩) (owner := "java/lang/AbstractStringBuilder") hC (c_ensure (kl K) G sb b cap f n ml hcap hn hf (n + 1) (by omega) (by omega)) (SFx.k G) hgo gJ5_append_3fe6f_J5_ensureCapacityInternal_d00df_u100J4 rfl ⟨rfl, rfl⟩ rfl (by decide +kernel) ⟨by decide, by decide, by decide, by decide⟩ [0, 1] [] rfl (by decide) rfl (by decide) (by decide) rfl rfl rfl rfl (Nat.le_of_ble_eq_true rfl) dJ5_append_3fe6f_7 (fun r_7 u_7 hp_7 => ?_)
  obtain ⟨hu1_, hu2_, hu3_, hu4_⟩ := hp_7
  have hul_ := hu1_.lt
  show V G K 2 1 70 10 [some (.ref sb), some (.int (nI c))] [] [(sb, .inr (1, [.ref (u_7.1), .int 0, .int ml, .int (nI n)])), (u_7.1, .inl (gB G, u_7.2.1, .inl (fun j => nI ((u_7.2.2) j))))]
  refine V.aload_n hC (x := sb) dJ5_append_3fe6f_10 rfl ?_
  refine V.callUG (n := 0) (As := []) (rest := []) (wr := []) (x := ⟨"java/lang/AbstractStringBuilder", "isLatin1", "()Z"⟩) (owner := "java/lang/AbstractStringBuilder") hC (c_sbLatin (kl K) G sb u_7.1 u_7.2.1 u_7.2.2 n ml hu1_ (by omega) hu2_) (SFx.k G) hgo gJ5_append_3fe6f_J5_isLatin1_aae02_u83J4 rfl ⟨rfl, rfl⟩ rfl (by decide +kernel) ⟨by decide, by decide, by decide, by decide⟩ [0, 1] [] rfl (by decide) rfl (by decide) (by decide) rfl rfl rfl rfl (Nat.le_of_ble_eq_true rfl) dJ5_append_3fe6f_11 (fun r_11 u_11 hp_11 => ?_)
  subst hp_11
  show V G K 2 1 70 14 [some (.ref sb), some (.int (nI c))] [.int (nI 1)] [(sb, .inr (1, [.ref (u_7.1), .int 0, .int ml, .int (nI n)])), (u_7.1, .inl (gB G, u_7.2.1, .inl (fun j => nI ((u_7.2.2) j))))]
  refine V.ifN_eq hC 1 45 dJ5_append_3fe6f_14 rfl rfl (by omega) (fun c_14 => ?_) (fun c_14 => ?_)
  · exact absurd c_14 (by decide)
  · refine V.iload_n hC (x := nI c) dJ5_append_3fe6f_17 rfl ?_
    refine V.callSr (n := 1) (As := [.int (nI c)]) (rest := []) hC (c_canEncode (kl K) G c hc) SFk0 SFgo0 gJ5_append_3fe6f_J1_canEncode_fc78d rfl ⟨rfl, rfl⟩ (by decide +kernel) ⟨by decide, by decide, by decide, by decide⟩ [] rfl (by decide) rfl rfl (Nat.le_of_ble_eq_true rfl) dJ5_append_3fe6f_18 (fun r_18 u_18 hp_18 => ?_)
    subst hp_18
    show V G K 2 1 70 21 [some (.ref sb), some (.int (nI c))] [.int (nI 1)] [(sb, .inr (1, [.ref (u_7.1), .int 0, .int ml, .int (nI n)])), (u_7.1, .inl (gB G, u_7.2.1, .inl (fun j => nI ((u_7.2.2) j))))]
    refine V.ifN_eq hC 1 45 dJ5_append_3fe6f_21 rfl rfl (by omega) (fun c_21 => ?_) (fun c_21 => ?_)
    · exact absurd c_21 (by decide)
    · refine V.aload_n hC (x := sb) dJ5_append_3fe6f_24 rfl ?_
      refine V.getf hC (T := TJ4) q0_ 0 q2_ rfl (0) rfl rfl (by decide) (.ref (u_7.1)) rfl dJ5_append_3fe6f_25 ?_
      refine V.aload_n hC (x := sb) dJ5_append_3fe6f_28 rfl ?_
      refine V.dup hC dJ5_append_3fe6f_29 rfl ?_
      refine V.getf hC (T := TJ4) q0_ 3 q1_ rfl (0) rfl rfl (by decide) (.int (nI n)) rfl dJ5_append_3fe6f_30 ?_
      refine V.dup_x1 hC dJ5_append_3fe6f_33 rfl rfl ?_
      refine V.iconst hC 1 dJ5_append_3fe6f_34 rfl ?_
      refine V.iaddN hC n 1 dJ5_append_3fe6f_35 rfl rfl ?_
      refine V.putf hC (T := TJ4) q0_ tyJ4 tyJ4_ok nmJ4 3 q1_ rfl rfl (0) rfl rfl (by decide) (by simp) rfl rfl dJ5_append_3fe6f_36 [(sb, .inr (1, [.ref (u_7.1), .int 0, .int ml, .int (nI (n + 1))])), (u_7.1, .inl (gB G, u_7.2.1, .inl (fun j => nI ((u_7.2.2) j))))] rfl ?_
      refine V.iload_n hC (x := nI c) dJ5_append_3fe6f_39 rfl ?_
      refine V.i2b hC (nI c) dJ5_append_3fe6f_40 (b8i c hc) ?_
      refine V.bastN hC dJ5_append_3fe6f_41 (1) (f := u_7.2.2) rfl n c rfl (by omega) (by omega) rfl hc [(sb, .inr (1, [.ref (u_7.1), .int 0, .int ml, .int (nI (n + 1))])), (u_7.1, .inl (gB G, u_7.2.1, .inl (fun j => nI ((va_up (u_7.2.2) n c) j))))] rfl ?_
      refine V.goto hC 75 dJ5_append_3fe6f_42 rfl ?_
      refine V.aload_n hC (x := sb) dJ5_append_3fe6f_75 rfl ?_
      exact hE 76 _ (some sb) (u_7.1, u_7.2.1, va_up u_7.2.2 n c) dJ5_append_3fe6f_76 ⟨rfl, hu1_, upd128 hu2_ hc, hu3_, fun j hj => (if_neg (by omega)).trans (hu4_ j (by omega)), if_pos rfl⟩

set_option maxHeartbeats 4000000 in
set_option maxRecDepth 100000 in
theorem c_appendC (l : Launch) (G : Gx) (sb b cap : Nat) (f : Nat → Nat) (n : Nat) (ml : Int32) (hcap : capOK cap) (hn : n ≤ cap) (hf : ∀ j, f j < 128) (c : Nat) (hc : c < 128) (hn60 : n ≤ 60) : Ct l G (SFx G) yJ4_append_cf468 wsJ4_append_cf468 ({ frames := 5, cells := 1, slots := 70, locals := 105 }) [.ref sb, .int (nI c)] [(sb, .inr (1, [.ref b, .int 0, .int ml, .int (nI n)])), (b, .inl (gB G, cap, .inl (fun j => nI (f j))))] mkA (fun (r : Option Nat) (u : Nat × Nat × (Nat → Nat)) => r = some sb ∧ capOK u.2.1 ∧ (∀ j, u.2.2 j < 128) ∧ n + 1 ≤ u.2.1 ∧ (∀ j, j < n → u.2.2 j = f j) ∧ u.2.2 n = c) (fun u : Nat × Nat × (Nat → Nat) => [(sb, .inr (1, [.ref (u.1), .int 0, .int ml, .int (nI (n + 1))])), (u.1, .inl (gB G, u.2.1, .inl (fun j => nI ((u.2.2) j))))]) 1 70 := by
  refine Ct.ofA (mk := fun r : Option Nat => va_rf r) (fun r => va_rf_or r) (Or.inl ⟨_, rfl⟩) (cc := cJ4_append_cf468) (maxL := 2) (by decide) rfl ⟨by simp [Value.category], Nat.le_of_ble_eq_true rfl⟩ ?_
  intro K hl hC hSF hnm hE
  subst hl
  have hgo := SFgoS (SFx.k G) hSF
  show V G K 2 0 0 0 [some (.ref sb), some (.int (nI c))] [] [(sb, .inr (1, [.ref b, .int 0, .int ml, .int (nI n)])), (b, .inl (gB G, cap, .inl (fun j => nI (f j))))]
  refine V.aload_n hC (x := sb) dJ4_append_cf468_0 rfl ?_
  refine V.iload_n hC (x := nI c) dJ4_append_cf468_1 rfl ?_
  refine V.callPG (n := 1) (As := [.int (nI c)]) (rest := []) (wr := []) hC (c_appendC5 (kl K) G sb b cap f n ml hcap hn hf c hc hn60) (SFx.k G) hgo gJ4_append_cf468_J5_append_3fe6f_s50 rfl ⟨rfl, rfl⟩ (by decide +kernel) ⟨by decide, by decide, by decide, by decide⟩ [0, 1] [] rfl (by decide) rfl (by decide) (by decide) rfl rfl rfl rfl (Nat.le_of_ble_eq_true rfl) dJ4_append_cf468_2 (fun r_2 u_2 hp_2 => ?_)
  obtain ⟨e_2, hu_2⟩ := hp_2
  subst e_2
  show V G K 2 1 70 5 [some (.ref sb), some (.int (nI c))] [.ref sb] [(sb, .inr (1, [.ref (u_2.1), .int 0, .int ml, .int (nI (n + 1))])), (u_2.1, .inl (gB G, u_2.2.1, .inl (fun j => nI ((u_2.2.2) j))))]
  refine V.pop hC dJ4_append_cf468_5 rfl ?_
  refine V.aload_n hC (x := sb) dJ4_append_cf468_6 rfl ?_
  exact hE 7 _ (some sb) u_2 dJ4_append_cf468_7 ⟨rfl, hu_2⟩

set_option maxHeartbeats 4000000 in
set_option maxRecDepth 100000 in
theorem c_stringSize (l : Launch) (G : Gx) (x : Nat) (hx : x < 10000) : Ct l G SF0 yJ6_stringSize_0f7a4 wsJ6_stringSize_0f7a4 ({ frames := 0, cells := 0, slots := 0, locals := 0 }) [.int (nI x)] [] mkI (fun (r : Int32) (_ : Unit) => r = nI (dgc x)) (fun _ : Unit => []) 0 0 := by
  refine Ct.ofI (cc := cJ6_stringSize_0f7a4) (maxL := 4) (by decide) rfl ⟨by simp [Value.category], Nat.le_of_ble_eq_true rfl⟩ ?_
  intro K hl hC hSF hnm hE
  subst hl
  show V G K 4 0 0 0 [some (.int (nI x)), none, none, none] [] []
  refine V.iconst hC 1 dJ6_stringSize_0f7a4_0 rfl ?_
  refine V.istore_n hC dJ6_stringSize_0f7a4_1 [some (.int (nI x)), some (.int 1), none, none] (Nat.le_of_ble_eq_true rfl) rfl ?_
  refine V.iload_n hC (x := nI x) dJ6_stringSize_0f7a4_2 rfl ?_
  refine V.ifN_lt hC x 11 dJ6_stringSize_0f7a4_3 rfl rfl (by omega) ?_
  refine V.iconst hC 0 dJ6_stringSize_0f7a4_6 rfl ?_
  refine V.istore_n hC dJ6_stringSize_0f7a4_7 [some (.int (nI x)), some (.int 0), none, none] (Nat.le_of_ble_eq_true rfl) rfl ?_
  refine V.iload_n hC (x := nI x) dJ6_stringSize_0f7a4_8 rfl ?_
  refine V.ineg hC dJ6_stringSize_0f7a4_9 ?_
  refine V.istore_n hC dJ6_stringSize_0f7a4_10 [some (.int (-(nI x))), some (.int 0), none, none] (Nat.le_of_ble_eq_true rfl) rfl ?_
  refine V.bipush hC (-10) dJ6_stringSize_0f7a4_11 rfl ?_
  refine V.istore_n hC dJ6_stringSize_0f7a4_13 [some (.int (-(nI x))), some (.int 0), some (.int (-10)), none] (Nat.le_of_ble_eq_true rfl) rfl ?_
  refine V.lset 2 (x := .int (-10)) (y := .int (-nI 10)) (congrArg Value.int (by decide)) rfl (lv' := [some (.int (-(nI x))), some (.int 0), some (.int (-nI 10)), none]) rfl ?_
  refine V.iconst hC 1 dJ6_stringSize_0f7a4_14 rfl ?_
  refine V.istore_n hC dJ6_stringSize_0f7a4_15 [some (.int (-(nI x))), some (.int 0), some (.int (-nI 10)), some (.int 1)] (Nat.le_of_ble_eq_true rfl) rfl ?_
  refine V.iload_n hC (x := 1) dJ6_stringSize_0f7a4_16 rfl ?_
  refine V.bipush hC 10 dJ6_stringSize_0f7a4_17 rfl ?_
  refine V.icmpN_ge hC 1 10 42 dJ6_stringSize_0f7a4_19 rfl rfl rfl (by omega) (by omega) (fun c_19 => ?_) (fun c_19 => ?_)
  · exact absurd c_19 (by decide)
  · refine V.iload_n hC (x := -(nI x)) dJ6_stringSize_0f7a4_22 rfl ?_
    refine V.iload_n hC (x := -nI 10) dJ6_stringSize_0f7a4_23 rfl ?_
    refine V.icmp_le hC 31 dJ6_stringSize_0f7a4_24 rfl (fun c_24 => ?_) (fun c_24 => ?_)
    · have k1 : 10 ≤ x := (neg_le (by omega) (by decide)).mp c_24
      refine V.bipush hC 10 dJ6_stringSize_0f7a4_31 rfl ?_
      refine V.iload_n hC (x := -nI 10) dJ6_stringSize_0f7a4_33 rfl ?_
      refine V.imul hC dJ6_stringSize_0f7a4_34 ?_
      refine V.istore_n hC dJ6_stringSize_0f7a4_35 [some (.int (-(nI x))), some (.int 0), some (.int (10 * (-nI 10))), some (.int 1)] (Nat.le_of_ble_eq_true rfl) rfl ?_
      refine V.lset 2 (x := .int (10 * (-nI 10))) (y := .int (-nI 100)) (congrArg Value.int (by decide)) rfl (lv' := [some (.int (-(nI x))), some (.int 0), some (.int (-nI 100)), some (.int 1)]) rfl ?_
      refine V.iincN hC 1 1 dJ6_stringSize_0f7a4_36 rfl [some (.int (-(nI x))), some (.int 0), some (.int (-nI 100)), some (.int (nI 2))] (Nat.le_of_ble_eq_true rfl) rfl rfl rfl ?_
      refine V.goto hC 16 dJ6_stringSize_0f7a4_39 rfl ?_
      refine V.iload_n hC (x := nI 2) dJ6_stringSize_0f7a4_16 rfl ?_
      refine V.bipush hC 10 dJ6_stringSize_0f7a4_17 rfl ?_
      refine V.icmpN_ge hC 2 10 42 dJ6_stringSize_0f7a4_19 rfl rfl rfl (by omega) (by omega) (fun c_19 => ?_) (fun c_19 => ?_)
      · exact absurd c_19 (by decide)
      · refine V.iload_n hC (x := -(nI x)) dJ6_stringSize_0f7a4_22 rfl ?_
        refine V.iload_n hC (x := -nI 100) dJ6_stringSize_0f7a4_23 rfl ?_
        refine V.icmp_le hC 31 dJ6_stringSize_0f7a4_24 rfl (fun c_24 => ?_) (fun c_24 => ?_)
        · have k2 : 100 ≤ x := (neg_le (by omega) (by decide)).mp c_24
          refine V.bipush hC 10 dJ6_stringSize_0f7a4_31 rfl ?_
          refine V.iload_n hC (x := -nI 100) dJ6_stringSize_0f7a4_33 rfl ?_
          refine V.imul hC dJ6_stringSize_0f7a4_34 ?_
          refine V.istore_n hC dJ6_stringSize_0f7a4_35 [some (.int (-(nI x))), some (.int 0), some (.int (10 * (-nI 100))), some (.int (nI 2))] (Nat.le_of_ble_eq_true rfl) rfl ?_
          refine V.lset 2 (x := .int (10 * (-nI 100))) (y := .int (-nI 1000)) (congrArg Value.int (by decide)) rfl (lv' := [some (.int (-(nI x))), some (.int 0), some (.int (-nI 1000)), some (.int (nI 2))]) rfl ?_
          refine V.iincN hC 2 1 dJ6_stringSize_0f7a4_36 rfl [some (.int (-(nI x))), some (.int 0), some (.int (-nI 1000)), some (.int (nI 3))] (Nat.le_of_ble_eq_true rfl) rfl rfl rfl ?_
          refine V.goto hC 16 dJ6_stringSize_0f7a4_39 rfl ?_
          refine V.iload_n hC (x := nI 3) dJ6_stringSize_0f7a4_16 rfl ?_
          refine V.bipush hC 10 dJ6_stringSize_0f7a4_17 rfl ?_
          refine V.icmpN_ge hC 3 10 42 dJ6_stringSize_0f7a4_19 rfl rfl rfl (by omega) (by omega) (fun c_19 => ?_) (fun c_19 => ?_)
          · exact absurd c_19 (by decide)
          · refine V.iload_n hC (x := -(nI x)) dJ6_stringSize_0f7a4_22 rfl ?_
            refine V.iload_n hC (x := -nI 1000) dJ6_stringSize_0f7a4_23 rfl ?_
            refine V.icmp_le hC 31 dJ6_stringSize_0f7a4_24 rfl (fun c_24 => ?_) (fun c_24 => ?_)
            · have k3 : 1000 ≤ x := (neg_le (by omega) (by decide)).mp c_24
              refine V.bipush hC 10 dJ6_stringSize_0f7a4_31 rfl ?_
              refine V.iload_n hC (x := -nI 1000) dJ6_stringSize_0f7a4_33 rfl ?_
              refine V.imul hC dJ6_stringSize_0f7a4_34 ?_
              refine V.istore_n hC dJ6_stringSize_0f7a4_35 [some (.int (-(nI x))), some (.int 0), some (.int (10 * (-nI 1000))), some (.int (nI 3))] (Nat.le_of_ble_eq_true rfl) rfl ?_
              refine V.lset 2 (x := .int (10 * (-nI 1000))) (y := .int (-nI 10000)) (congrArg Value.int (by decide)) rfl (lv' := [some (.int (-(nI x))), some (.int 0), some (.int (-nI 10000)), some (.int (nI 3))]) rfl ?_
              refine V.iincN hC 3 1 dJ6_stringSize_0f7a4_36 rfl [some (.int (-(nI x))), some (.int 0), some (.int (-nI 10000)), some (.int (nI 4))] (Nat.le_of_ble_eq_true rfl) rfl rfl rfl ?_
              refine V.goto hC 16 dJ6_stringSize_0f7a4_39 rfl ?_
              refine V.iload_n hC (x := nI 4) dJ6_stringSize_0f7a4_16 rfl ?_
              refine V.bipush hC 10 dJ6_stringSize_0f7a4_17 rfl ?_
              refine V.icmpN_ge hC 4 10 42 dJ6_stringSize_0f7a4_19 rfl rfl rfl (by omega) (by omega) (fun c_19 => ?_) (fun c_19 => ?_)
              · exact absurd c_19 (by decide)
              · refine V.iload_n hC (x := -(nI x)) dJ6_stringSize_0f7a4_22 rfl ?_
                refine V.iload_n hC (x := -nI 10000) dJ6_stringSize_0f7a4_23 rfl ?_
                refine V.icmp_le hC 31 dJ6_stringSize_0f7a4_24 rfl (fun c_24 => ?_) (fun c_24 => ?_)
                · exact absurd ((neg_le (by omega) (by decide)).mp c_24) (by omega)
                · have k4 : x < 10000 := Nat.lt_of_not_le (fun z => c_24 ((neg_le (by omega) (by decide)).mpr z))
                  refine V.iload_n hC (x := nI 4) dJ6_stringSize_0f7a4_27 rfl ?_
                  refine V.iload_n hC (x := 0) dJ6_stringSize_0f7a4_28 rfl ?_
                  refine V.iaddN hC 4 0 dJ6_stringSize_0f7a4_29 rfl rfl ?_
                  exact hE 30 _ (nI (4 + 0)) () dJ6_stringSize_0f7a4_30 rfl (by rw [show dgc x = 4 from dgc_4 k3 k4])
            · have k3 : x < 1000 := Nat.lt_of_not_le (fun z => c_24 ((neg_le (by omega) (by decide)).mpr z))
              refine V.iload_n hC (x := nI 3) dJ6_stringSize_0f7a4_27 rfl ?_
              refine V.iload_n hC (x := 0) dJ6_stringSize_0f7a4_28 rfl ?_
              refine V.iaddN hC 3 0 dJ6_stringSize_0f7a4_29 rfl rfl ?_
              exact hE 30 _ (nI (3 + 0)) () dJ6_stringSize_0f7a4_30 rfl (by rw [show dgc x = 3 from dgc_3 k2 k3])
        · have k2 : x < 100 := Nat.lt_of_not_le (fun z => c_24 ((neg_le (by omega) (by decide)).mpr z))
          refine V.iload_n hC (x := nI 2) dJ6_stringSize_0f7a4_27 rfl ?_
          refine V.iload_n hC (x := 0) dJ6_stringSize_0f7a4_28 rfl ?_
          refine V.iaddN hC 2 0 dJ6_stringSize_0f7a4_29 rfl rfl ?_
          exact hE 30 _ (nI (2 + 0)) () dJ6_stringSize_0f7a4_30 rfl (by rw [show dgc x = 2 from dgc_2 k1 k2])
    · have k1 : x < 10 := Nat.lt_of_not_le (fun z => c_24 ((neg_le (by omega) (by decide)).mpr z))
      refine V.iload_n hC (x := 1) dJ6_stringSize_0f7a4_27 rfl ?_
      refine V.iload_n hC (x := 0) dJ6_stringSize_0f7a4_28 rfl ?_
      refine V.iaddN hC 1 0 dJ6_stringSize_0f7a4_29 rfl rfl ?_
      exact hE 30 _ (nI (1 + 0)) () dJ6_stringSize_0f7a4_30 rfl (by rw [show dgc x = 1 from dgc_1 k1])

set_option maxHeartbeats 4000000 in
set_option maxRecDepth 100000 in
theorem c_getChars (l : Launch) (G : Gx) (x ix b cap : Nat) (f : Nat → Nat) (hf : ∀ j, f j < 128) (hx : x < 10000) (h1 : dgc x ≤ ix) (h2 : ix ≤ cap) (hcap : cap < 100) : Ct l G (SFt G) yJ6_getChars_ba4f3 wsJ6_getChars_ba4f3 ({ frames := 0, cells := 0, slots := 0, locals := 0 }) [.int (nI x), .int (nI ix), .ref b] [(b, .inl (gB G, cap, .inl (fun j => nI (f j))))] mkI (fun (_ : Int32) (u : Nat → Nat) => (∀ j, u j < 128) ∧ (∀ j, j < ix - dgc x → u j = f j) ∧ ∀ j, j < dgc x → u (ix - dgc x + j) = dgt x j) (fun u : Nat → Nat => [(b, .inl (gB G, cap, .inl (fun j => nI (u j))))]) 0 0 := by
  refine Ct.ofI (cc := cJ6_getChars_ba4f3) (maxL := 7) (by decide) rfl ⟨by simp [Value.category], Nat.le_of_ble_eq_true rfl⟩ ?_
  intro K hl hC hSF hnm hE
  subst hl
  have hgot := SFgoS (SFt.k G) hSF
  have hgo := SFgo.x hgot
  have hSFt := hSF
  replace hSF := hSF.1
  have q0_ : Cond.fieldLink RJ6 83 "java/lang/Integer" "DigitOnes" "[B" ∈ wsJ6_getChars_ba4f3 := by decide +kernel
  have q1_ : Cond.fieldLink RJ6 87 "java/lang/Integer" "DigitTens" "[B" ∈ wsJ6_getChars_ba4f3 := by decide +kernel
  show V G K 7 0 0 0 [some (.int (nI x)), some (.int (nI ix)), some (.ref b), none, none, none, none] [] [(b, .inl (gB G, cap, .inl (fun j => nI (f j))))]
  have hdl := dgc_le x
  refine V.iload_n hC (x := nI ix) dJ6_getChars_ba4f3_0 rfl ?_
  refine V.istore hC dJ6_getChars_ba4f3_1 [some (.int (nI x)), some (.int (nI ix)), some (.ref b), none, none, some (.int (nI ix)), none] (Nat.le_of_ble_eq_true rfl) rfl ?_
  refine V.iload_n hC (x := nI x) dJ6_getChars_ba4f3_3 rfl ?_
  refine V.if_ge hC 11 dJ6_getChars_ba4f3_4 rfl (fun c_4 => ?_) (fun c_4 => ?_)
  · refine V.iconst hC 0 dJ6_getChars_ba4f3_11 rfl ?_
    refine V.istore hC dJ6_getChars_ba4f3_12 [some (.int (nI x)), some (.int (nI ix)), some (.ref b), none, none, some (.int (nI ix)), some (.int 0)] (Nat.le_of_ble_eq_true rfl) rfl ?_
    refine V.iload hC (x := 0) dJ6_getChars_ba4f3_14 rfl ?_
    refine V.ifN_ne hC 0 22 dJ6_getChars_ba4f3_16 rfl rfl (by omega) (fun c_16 => ?_) (fun c_16 => ?_)
    · exact absurd c_16 (by decide)
    · refine V.iload_n hC (x := nI x) dJ6_getChars_ba4f3_19 rfl ?_
      refine V.ineg hC dJ6_getChars_ba4f3_20 ?_
      refine V.istore_n hC dJ6_getChars_ba4f3_21 [some (.int (-(nI x))), some (.int (nI ix)), some (.ref b), none, none, some (.int (nI ix)), some (.int 0)] (Nat.le_of_ble_eq_true rfl) rfl ?_
      refine V.iload_n hC (x := -(nI x)) dJ6_getChars_ba4f3_22 rfl ?_
      refine V.bipush hC (-100) dJ6_getChars_ba4f3_23 rfl ?_
      refine V.topeq (-nI 100) (by decide) ?_
      refine V.icmp_gt hC 72 dJ6_getChars_ba4f3_25 rfl (fun c_25 => ?_) (fun c_25 => ?_)
      · have s100 : x < 100 := Nat.lt_of_not_le (fun z => absurd ((neg_le (by omega) (by decide)).mpr z) (Int32.not_le.mpr c_25))
        refine V.aload_n hC (x := b) dJ6_getChars_ba4f3_72 rfl ?_
        refine V.iinc hC (nI ix + (-1)) dJ6_getChars_ba4f3_73 rfl [some (.int (-(nI x))), some (.int (nI ix)), some (.ref b), none, none, some (.int (nI ix + (-1))), some (.int 0)] (Nat.le_of_ble_eq_true rfl) rfl rfl ?_
        refine V.lset 5 (x := .int (nI ix + (-1))) (y := .int (nI (ix - 1))) (congrArg Value.int (nI_dec (by omega))) rfl (lv' := [some (.int (-(nI x))), some (.int (nI ix)), some (.ref b), none, none, some (.int (nI (ix - 1))), some (.int 0)]) rfl ?_
        refine V.iload hC (x := nI (ix - 1)) dJ6_getChars_ba4f3_76 rfl ?_
        refine V.gets hC (n := "DigitOnes") hSFt.2.1.2.2.2.2.1 q0_ rfl dJ6_getChars_ba4f3_78 ?_
        refine V.iload_n hC (x := -(nI x)) dJ6_getChars_ba4f3_81 rfl ?_
        refine V.ineg hC dJ6_getChars_ba4f3_82 ?_
        refine V.topeq (nI (x)) neg_neg_nI ?_
        refine V.tb2 hC hSFt.2.1.2.2.2.2.2.1 dJ6_getChars_ba4f3_83 x rfl (by omega) (by decide) (.int (nI (48 + x % 10))) rfl ?_
        refine V.bastN hC dJ6_getChars_ba4f3_84 (0) (f := f) rfl (ix - 1) (48 + x % 10) rfl (by omega) (by omega) rfl (by omega) [(b, .inl (gB G, cap, .inl (fun j => nI ((va_up f (ix - 1) (48 + x % 10)) j))))] rfl ?_
        refine V.iload_n hC (x := -(nI x)) dJ6_getChars_ba4f3_85 rfl ?_
        refine V.bipush hC (-9) dJ6_getChars_ba4f3_86 rfl ?_
        refine V.topeq (-nI 9) (by decide) ?_
        refine V.icmp_ge hC 104 dJ6_getChars_ba4f3_88 rfl (fun c_88 => ?_) (fun c_88 => ?_)
        · have s10 : x < 10 := by have := (neg_le (b := x) (a := 9) (by decide) (by omega)).mp c_88; omega
          refine V.iload hC (x := 0) dJ6_getChars_ba4f3_104 rfl ?_
          refine V.ifN_eq hC 0 118 dJ6_getChars_ba4f3_106 rfl rfl (by omega) (fun c_106 => ?_) (fun c_106 => ?_)
          · have hbb : ∀ j, (va_up f (ix - 1) (48 + x % 10)) j < 128 := by
              intro j; unfold va_up; repeat' split
              all_goals first | exact hf j | omega
            refine V.iload hC (x := nI (ix - 1)) dJ6_getChars_ba4f3_118 rfl ?_
            exact hE 120 _ (nI (ix - 1)) (va_up f (ix - 1) (48 + x % 10)) dJ6_getChars_ba4f3_120 rfl (by
        have hd : dgc x = 1 := dgc_1 s10
        refine ⟨hbb, fun j hj => ?_, fun j hj => ?_⟩
        · rw [hd] at hj; rw [va_up, if_neg (by omega)]
        · rw [hd] at hj ⊢; unfold dgt; rw [hd]; unfold va_up; repeat' split
          all_goals omega)
          · exact absurd c_106 (by decide)
        · have b10 : 10 ≤ x := Nat.lt_of_not_le (fun z => c_88 ((neg_le (b := x) (a := 9) (by decide) (by omega)).mpr z))
          have g10 := dgc_g2 (x := x) (by omega)
          refine V.aload_n hC (x := b) dJ6_getChars_ba4f3_91 rfl ?_
          refine V.iinc hC (nI (ix - 1) + (-1)) dJ6_getChars_ba4f3_92 rfl [some (.int (-(nI x))), some (.int (nI ix)), some (.ref b), none, none, some (.int (nI (ix - 1) + (-1))), some (.int 0)] (Nat.le_of_ble_eq_true rfl) rfl rfl ?_
          refine V.lset 5 (x := .int (nI (ix - 1) + (-1))) (y := .int (nI (ix - 2))) (congrArg Value.int (nI_dec (by omega))) rfl (lv' := [some (.int (-(nI x))), some (.int (nI ix)), some (.ref b), none, none, some (.int (nI (ix - 2))), some (.int 0)]) rfl ?_
          refine V.iload hC (x := nI (ix - 2)) dJ6_getChars_ba4f3_95 rfl ?_
          refine V.gets hC (n := "DigitTens") hSFt.2.1.2.2.1 q1_ rfl dJ6_getChars_ba4f3_97 ?_
          refine V.iload_n hC (x := -(nI x)) dJ6_getChars_ba4f3_100 rfl ?_
          refine V.ineg hC dJ6_getChars_ba4f3_101 ?_
          refine V.topeq (nI (x)) neg_neg_nI ?_
          refine V.tb2 hC hSFt.2.1.2.2.2.1 dJ6_getChars_ba4f3_102 x rfl (by omega) (by decide) (.int (nI (48 + x / 10))) rfl ?_
          refine V.bastN hC dJ6_getChars_ba4f3_103 (0) (f := va_up f (ix - 1) (48 + x % 10)) rfl (ix - 2) (48 + x / 10) rfl (by omega) (by omega) rfl (by omega) [(b, .inl (gB G, cap, .inl (fun j => nI ((va_up (va_up f (ix - 1) (48 + x % 10)) (ix - 2) (48 + x / 10)) j))))] rfl ?_
          refine V.iload hC (x := 0) dJ6_getChars_ba4f3_104 rfl ?_
          refine V.ifN_eq hC 0 118 dJ6_getChars_ba4f3_106 rfl rfl (by omega) (fun c_106 => ?_) (fun c_106 => ?_)
          · have hbb : ∀ j, (va_up (va_up f (ix - 1) (48 + x % 10)) (ix - 2) (48 + x / 10)) j < 128 := by
              intro j; unfold va_up; repeat' split
              all_goals first | exact hf j | omega
            refine V.iload hC (x := nI (ix - 2)) dJ6_getChars_ba4f3_118 rfl ?_
            exact hE 120 _ (nI (ix - 2)) (va_up (va_up f (ix - 1) (48 + x % 10)) (ix - 2) (48 + x / 10)) dJ6_getChars_ba4f3_120 rfl (by
        have hd : dgc x = 2 := dgc_2 b10 s100
        refine ⟨hbb, fun j hj => ?_, fun j hj => ?_⟩
        · rw [hd] at hj; rw [va_up, if_neg (by omega)]; rw [va_up, if_neg (by omega)]
        · rw [hd] at hj ⊢; unfold dgt; rw [hd]; unfold va_up; repeat' split
          all_goals omega)
          · exact absurd c_106 (by decide)
      · have b100 : 100 ≤ x := (neg_le (by omega) (by decide)).mp (Int32.not_lt.mp c_25)
        have g3 := dgc_g3 b100
        refine V.iload_n hC (x := -(nI x)) dJ6_getChars_ba4f3_28 rfl ?_
        refine V.bipush hC 100 dJ6_getChars_ba4f3_29 rfl ?_
        refine V.idiv hC dJ6_getChars_ba4f3_31 (by decide) ?_
        refine V.topeq (-nI (x / 100)) (neg_div hx) ?_
        refine V.istore_n hC dJ6_getChars_ba4f3_32 [some (.int (-(nI x))), some (.int (nI ix)), some (.ref b), some (.int (-nI (x / 100))), none, some (.int (nI ix)), some (.int 0)] (Nat.le_of_ble_eq_true rfl) rfl ?_
        refine V.iload_n hC (x := -nI (x / 100)) dJ6_getChars_ba4f3_33 rfl ?_
        refine V.bipush hC 100 dJ6_getChars_ba4f3_34 rfl ?_
        refine V.imul hC dJ6_getChars_ba4f3_36 ?_
        refine V.iload_n hC (x := -(nI x)) dJ6_getChars_ba4f3_37 rfl ?_
        refine V.isub hC dJ6_getChars_ba4f3_38 ?_
        refine V.topeq (nI (x % 100)) (neg_rem hx) ?_
        refine V.istore hC dJ6_getChars_ba4f3_39 [some (.int (-(nI x))), some (.int (nI ix)), some (.ref b), some (.int (-nI (x / 100))), some (.int (nI (x % 100))), some (.int (nI ix)), some (.int 0)] (Nat.le_of_ble_eq_true rfl) rfl ?_
        refine V.iload_n hC (x := -nI (x / 100)) dJ6_getChars_ba4f3_41 rfl ?_
        refine V.istore_n hC dJ6_getChars_ba4f3_42 [some (.int (-nI (x / 100))), some (.int (nI ix)), some (.ref b), some (.int (-nI (x / 100))), some (.int (nI (x % 100))), some (.int (nI ix)), some (.int 0)] (Nat.le_of_ble_eq_true rfl) rfl ?_
        refine V.aload_n hC (x := b) dJ6_getChars_ba4f3_43 rfl ?_
        refine V.iinc hC (nI ix + (-1)) dJ6_getChars_ba4f3_44 rfl [some (.int (-nI (x / 100))), some (.int (nI ix)), some (.ref b), some (.int (-nI (x / 100))), some (.int (nI (x % 100))), some (.int (nI ix + (-1))), some (.int 0)] (Nat.le_of_ble_eq_true rfl) rfl rfl ?_
        refine V.lset 5 (x := .int (nI ix + (-1))) (y := .int (nI (ix - 1))) (congrArg Value.int (nI_dec (by omega))) rfl (lv' := [some (.int (-nI (x / 100))), some (.int (nI ix)), some (.ref b), some (.int (-nI (x / 100))), some (.int (nI (x % 100))), some (.int (nI (ix - 1))), some (.int 0)]) rfl ?_
        refine V.iload hC (x := nI (ix - 1)) dJ6_getChars_ba4f3_47 rfl ?_
        refine V.gets hC (n := "DigitOnes") hSFt.2.1.2.2.2.2.1 q0_ rfl dJ6_getChars_ba4f3_49 ?_
        refine V.iload hC (x := nI (x % 100)) dJ6_getChars_ba4f3_52 rfl ?_
        refine V.tb2 hC hSFt.2.1.2.2.2.2.2.1 dJ6_getChars_ba4f3_54 (x % 100) rfl (by omega) (by decide) (.int (nI (48 + (x % 100) % 10))) rfl ?_
        refine V.bastN hC dJ6_getChars_ba4f3_55 (0) (f := f) rfl (ix - 1) (48 + (x % 100) % 10) rfl (by omega) (by omega) rfl (by omega) [(b, .inl (gB G, cap, .inl (fun j => nI ((va_up f (ix - 1) (48 + (x % 100) % 10)) j))))] rfl ?_
        refine V.aload_n hC (x := b) dJ6_getChars_ba4f3_56 rfl ?_
        refine V.iinc hC (nI (ix - 1) + (-1)) dJ6_getChars_ba4f3_57 rfl [some (.int (-nI (x / 100))), some (.int (nI ix)), some (.ref b), some (.int (-nI (x / 100))), some (.int (nI (x % 100))), some (.int (nI (ix - 1) + (-1))), some (.int 0)] (Nat.le_of_ble_eq_true rfl) rfl rfl ?_
        refine V.lset 5 (x := .int (nI (ix - 1) + (-1))) (y := .int (nI (ix - 2))) (congrArg Value.int (nI_dec (by omega))) rfl (lv' := [some (.int (-nI (x / 100))), some (.int (nI ix)), some (.ref b), some (.int (-nI (x / 100))), some (.int (nI (x % 100))), some (.int (nI (ix - 2))), some (.int 0)]) rfl ?_
        refine V.iload hC (x := nI (ix - 2)) dJ6_getChars_ba4f3_60 rfl ?_
        refine V.gets hC (n := "DigitTens") hSFt.2.1.2.2.1 q1_ rfl dJ6_getChars_ba4f3_62 ?_
        refine V.iload hC (x := nI (x % 100)) dJ6_getChars_ba4f3_65 rfl ?_
        refine V.tb2 hC hSFt.2.1.2.2.2.1 dJ6_getChars_ba4f3_67 (x % 100) rfl (by omega) (by decide) (.int (nI (48 + (x % 100) / 10))) rfl ?_
        refine V.bastN hC dJ6_getChars_ba4f3_68 (0) (f := va_up f (ix - 1) (48 + (x % 100) % 10)) rfl (ix - 2) (48 + (x % 100) / 10) rfl (by omega) (by omega) rfl (by omega) [(b, .inl (gB G, cap, .inl (fun j => nI ((va_up (va_up f (ix - 1) (48 + (x % 100) % 10)) (ix - 2) (48 + (x % 100) / 10)) j))))] rfl ?_
        refine V.goto hC 22 dJ6_getChars_ba4f3_69 rfl ?_
        refine V.iload_n hC (x := -nI (x / 100)) dJ6_getChars_ba4f3_22 rfl ?_
        refine V.bipush hC (-100) dJ6_getChars_ba4f3_23 rfl ?_
        refine V.topeq (-nI 100) (by decide) ?_
        refine V.icmp_gt hC 72 dJ6_getChars_ba4f3_25 rfl (fun c_25 => ?_) (fun c_25 => ?_)
        · have s100 : x / 100 < 100 := by omega
          refine V.aload_n hC (x := b) dJ6_getChars_ba4f3_72 rfl ?_
          refine V.iinc hC (nI (ix - 2) + (-1)) dJ6_getChars_ba4f3_73 rfl [some (.int (-nI (x / 100))), some (.int (nI ix)), some (.ref b), some (.int (-nI (x / 100))), some (.int (nI (x % 100))), some (.int (nI (ix - 2) + (-1))), some (.int 0)] (Nat.le_of_ble_eq_true rfl) rfl rfl ?_
          refine V.lset 5 (x := .int (nI (ix - 2) + (-1))) (y := .int (nI (ix - 3))) (congrArg Value.int (nI_dec (by omega))) rfl (lv' := [some (.int (-nI (x / 100))), some (.int (nI ix)), some (.ref b), some (.int (-nI (x / 100))), some (.int (nI (x % 100))), some (.int (nI (ix - 3))), some (.int 0)]) rfl ?_
          refine V.iload hC (x := nI (ix - 3)) dJ6_getChars_ba4f3_76 rfl ?_
          refine V.gets hC (n := "DigitOnes") hSFt.2.1.2.2.2.2.1 q0_ rfl dJ6_getChars_ba4f3_78 ?_
          refine V.iload_n hC (x := -nI (x / 100)) dJ6_getChars_ba4f3_81 rfl ?_
          refine V.ineg hC dJ6_getChars_ba4f3_82 ?_
          refine V.topeq (nI (x / 100)) neg_neg_nI ?_
          refine V.tb2 hC hSFt.2.1.2.2.2.2.2.1 dJ6_getChars_ba4f3_83 (x / 100) rfl (by omega) (by decide) (.int (nI (48 + (x / 100) % 10))) rfl ?_
          refine V.bastN hC dJ6_getChars_ba4f3_84 (0) (f := va_up (va_up f (ix - 1) (48 + (x % 100) % 10)) (ix - 2) (48 + (x % 100) / 10)) rfl (ix - 3) (48 + (x / 100) % 10) rfl (by omega) (by omega) rfl (by omega) [(b, .inl (gB G, cap, .inl (fun j => nI ((va_up (va_up (va_up f (ix - 1) (48 + (x % 100) % 10)) (ix - 2) (48 + (x % 100) / 10)) (ix - 3) (48 + (x / 100) % 10)) j))))] rfl ?_
          refine V.iload_n hC (x := -nI (x / 100)) dJ6_getChars_ba4f3_85 rfl ?_
          refine V.bipush hC (-9) dJ6_getChars_ba4f3_86 rfl ?_
          refine V.topeq (-nI 9) (by decide) ?_
          refine V.icmp_ge hC 104 dJ6_getChars_ba4f3_88 rfl (fun c_88 => ?_) (fun c_88 => ?_)
          · have s10 : x / 100 < 10 := by have := (neg_le (b := x / 100) (a := 9) (by decide) (by omega)).mp c_88; omega
            refine V.iload hC (x := 0) dJ6_getChars_ba4f3_104 rfl ?_
            refine V.ifN_eq hC 0 118 dJ6_getChars_ba4f3_106 rfl rfl (by omega) (fun c_106 => ?_) (fun c_106 => ?_)
            · have hbb : ∀ j, (va_up (va_up (va_up f (ix - 1) (48 + (x % 100) % 10)) (ix - 2) (48 + (x % 100) / 10)) (ix - 3) (48 + (x / 100) % 10)) j < 128 := by
                intro j; unfold va_up; repeat' split
                all_goals first | exact hf j | omega
              refine V.iload hC (x := nI (ix - 3)) dJ6_getChars_ba4f3_118 rfl ?_
              exact hE 120 _ (nI (ix - 3)) (va_up (va_up (va_up f (ix - 1) (48 + (x % 100) % 10)) (ix - 2) (48 + (x % 100) / 10)) (ix - 3) (48 + (x / 100) % 10)) dJ6_getChars_ba4f3_120 rfl (by
        have hd : dgc x = 3 := dgc_3 b100 (by omega)
        refine ⟨hbb, fun j hj => ?_, fun j hj => ?_⟩
        · rw [hd] at hj; rw [va_up, if_neg (by omega)]; rw [va_up, if_neg (by omega)]; rw [va_up, if_neg (by omega)]
        · rw [hd] at hj ⊢; unfold dgt; rw [hd]; unfold va_up; repeat' split
          all_goals omega)
            · exact absurd c_106 (by decide)
          · have b10 : 10 ≤ x / 100 := Nat.lt_of_not_le (fun z => c_88 ((neg_le (b := x / 100) (a := 9) (by decide) (by omega)).mpr z))
            have g10 := dgc_g4 (x := x) (by omega)
            refine V.aload_n hC (x := b) dJ6_getChars_ba4f3_91 rfl ?_
            refine V.iinc hC (nI (ix - 3) + (-1)) dJ6_getChars_ba4f3_92 rfl [some (.int (-nI (x / 100))), some (.int (nI ix)), some (.ref b), some (.int (-nI (x / 100))), some (.int (nI (x % 100))), some (.int (nI (ix - 3) + (-1))), some (.int 0)] (Nat.le_of_ble_eq_true rfl) rfl rfl ?_
            refine V.lset 5 (x := .int (nI (ix - 3) + (-1))) (y := .int (nI (ix - 4))) (congrArg Value.int (nI_dec (by omega))) rfl (lv' := [some (.int (-nI (x / 100))), some (.int (nI ix)), some (.ref b), some (.int (-nI (x / 100))), some (.int (nI (x % 100))), some (.int (nI (ix - 4))), some (.int 0)]) rfl ?_
            refine V.iload hC (x := nI (ix - 4)) dJ6_getChars_ba4f3_95 rfl ?_
            refine V.gets hC (n := "DigitTens") hSFt.2.1.2.2.1 q1_ rfl dJ6_getChars_ba4f3_97 ?_
            refine V.iload_n hC (x := -nI (x / 100)) dJ6_getChars_ba4f3_100 rfl ?_
            refine V.ineg hC dJ6_getChars_ba4f3_101 ?_
            refine V.topeq (nI (x / 100)) neg_neg_nI ?_
            refine V.tb2 hC hSFt.2.1.2.2.2.1 dJ6_getChars_ba4f3_102 (x / 100) rfl (by omega) (by decide) (.int (nI (48 + (x / 100) / 10))) rfl ?_
            refine V.bastN hC dJ6_getChars_ba4f3_103 (0) (f := va_up (va_up (va_up f (ix - 1) (48 + (x % 100) % 10)) (ix - 2) (48 + (x % 100) / 10)) (ix - 3) (48 + (x / 100) % 10)) rfl (ix - 4) (48 + (x / 100) / 10) rfl (by omega) (by omega) rfl (by omega) [(b, .inl (gB G, cap, .inl (fun j => nI ((va_up (va_up (va_up (va_up f (ix - 1) (48 + (x % 100) % 10)) (ix - 2) (48 + (x % 100) / 10)) (ix - 3) (48 + (x / 100) % 10)) (ix - 4) (48 + (x / 100) / 10)) j))))] rfl ?_
            refine V.iload hC (x := 0) dJ6_getChars_ba4f3_104 rfl ?_
            refine V.ifN_eq hC 0 118 dJ6_getChars_ba4f3_106 rfl rfl (by omega) (fun c_106 => ?_) (fun c_106 => ?_)
            · have hbb : ∀ j, (va_up (va_up (va_up (va_up f (ix - 1) (48 + (x % 100) % 10)) (ix - 2) (48 + (x % 100) / 10)) (ix - 3) (48 + (x / 100) % 10)) (ix - 4) (48 + (x / 100) / 10)) j < 128 := by
                intro j; unfold va_up; repeat' split
                all_goals first | exact hf j | omega
              refine V.iload hC (x := nI (ix - 4)) dJ6_getChars_ba4f3_118 rfl ?_
              exact hE 120 _ (nI (ix - 4)) (va_up (va_up (va_up (va_up f (ix - 1) (48 + (x % 100) % 10)) (ix - 2) (48 + (x % 100) / 10)) (ix - 3) (48 + (x / 100) % 10)) (ix - 4) (48 + (x / 100) / 10)) dJ6_getChars_ba4f3_120 rfl (by
        have hd : dgc x = 4 := dgc_4 (by omega) hx
        refine ⟨hbb, fun j hj => ?_, fun j hj => ?_⟩
        · rw [hd] at hj; rw [va_up, if_neg (by omega)]; rw [va_up, if_neg (by omega)]; rw [va_up, if_neg (by omega)]; rw [va_up, if_neg (by omega)]
        · rw [hd] at hj ⊢; unfold dgt; rw [hd]; unfold va_up; repeat' split
          all_goals omega)
            · exact absurd c_106 (by decide)
        · exact absurd ((neg_le (by omega) (by decide)).mp (Int32.not_lt.mp c_25)) (by omega)
  · exact absurd (nI_pos' (by omega)) c_4

set_option maxHeartbeats 4000000 in
set_option maxRecDepth 100000 in
theorem c_appendI5 (l : Launch) (G : Gx) (sb b cap : Nat) (f : Nat → Nat) (n : Nat) (ml : Int32) (hcap : capOK cap) (hn : n ≤ cap) (hf : ∀ j, f j < 128) (x : Nat) (hx : x < 10000) (hn60 : n ≤ 60) : Ct l G (SFt G) yJ5_append_c97b9 wsJ5_append_c97b9 ({ frames := 4, cells := 1, slots := 70, locals := 84 }) [.ref sb, .int (nI x)] [(sb, .inr (1, [.ref b, .int 0, .int ml, .int (nI n)])), (b, .inl (gB G, cap, .inl (fun j => nI (f j))))] mkA (fun (r : Option Nat) (u : Nat × Nat × (Nat → Nat)) => r = some sb ∧ capOK u.2.1 ∧ (∀ j, u.2.2 j < 128) ∧ n + dgc x ≤ u.2.1 ∧ (∀ j, j < n → u.2.2 j = f j) ∧ ∀ j, j < dgc x → u.2.2 (n + j) = dgt x j) (fun u : Nat × Nat × (Nat → Nat) => [(sb, .inr (1, [.ref (u.1), .int 0, .int ml, .int (nI (n + dgc x))])), (u.1, .inl (gB G, u.2.1, .inl (fun j => nI ((u.2.2) j))))]) 1 70 := by
  refine Ct.ofA (mk := fun r : Option Nat => va_rf r) (fun r => va_rf_or r) (Or.inl ⟨_, rfl⟩) (cc := cJ5_append_c97b9) (maxL := 4) (by decide) rfl ⟨by simp [Value.category], Nat.le_of_ble_eq_true rfl⟩ ?_
  intro K hl hC hSF hnm hE
  subst hl
  have hgot := SFgoS (SFt.k G) hSF
  have hgo := SFgo.x hgot
  have hSFt := hSF
  replace hSF := hSF.1
  have q0_ : ∀ w ∈ u_ws RJ4 TJ4 4, w ∈ wsJ5_append_c97b9 := by decide +kernel
  have q1_ : Cond.fieldLink RJ5 79 "java/lang/AbstractStringBuilder" "count" "I" ∈ wsJ5_append_c97b9 := by decide +kernel
  have q2_ : Cond.fieldLink RJ5 15 "java/lang/AbstractStringBuilder" "value" "[B" ∈ wsJ5_append_c97b9 := by decide +kernel
  show V G K 4 0 0 0 [some (.ref sb), some (.int (nI x)), none, none] [] [(sb, .inr (1, [.ref b, .int 0, .int ml, .int (nI n)])), (b, .inl (gB G, cap, .inl (fun j => nI (f j))))]
  have hcl := hcap.lt
  have hcg := hcap.ge
  have hdl := dgc_le x
  refine V.aload_n hC (x := sb) dJ5_append_c97b9_0 rfl ?_
  refine V.getf hC (T := TJ4) q0_ 3 q1_ rfl (0) rfl rfl (by decide) (.int (nI n)) rfl dJ5_append_c97b9_1 ?_
  refine V.istore_n hC dJ5_append_c97b9_4 [some (.ref sb), some (.int (nI x)), some (.int (nI n)), none] (Nat.le_of_ble_eq_true rfl) rfl ?_
  refine V.iload_n hC (x := nI n) dJ5_append_c97b9_5 rfl ?_
  refine V.iload_n hC (x := nI x) dJ5_append_c97b9_6 rfl ?_
  refine V.callSr (n := 1) (As := [.int (nI x)]) (rest := [.int (nI n)]) hC (c_stringSize (kl K) G x hx) SFk0 SFgo0 gJ5_append_c97b9_J6_stringSize_0f7a4 rfl ⟨rfl, rfl⟩ (by decide +kernel) ⟨by decide, by decide, by decide, by decide⟩ [] rfl (by decide) rfl rfl (Nat.le_of_ble_eq_true rfl) dJ5_append_c97b9_7 (fun r_7 u_7 hp_7 => ?_)
  subst hp_7
  show V G K 4 0 0 10 [some (.ref sb), some (.int (nI x)), some (.int (nI n)), none] [.int (nI (dgc x)), .int (nI n)] [(sb, .inr (1, [.ref b, .int 0, .int ml, .int (nI n)])), (b, .inl (gB G, cap, .inl (fun j => nI (f j))))]
  refine V.iaddN hC n (dgc x) dJ5_append_c97b9_10 rfl rfl ?_
  refine V.istore_n hC dJ5_append_c97b9_11 [some (.ref sb), some (.int (nI x)), some (.int (nI n)), some (.int (nI (n + (dgc x))))] (Nat.le_of_ble_eq_true rfl) rfl ?_
  refine V.aload_n hC (x := sb) dJ5_append_c97b9_12 rfl ?_
  refine V.iload_n hC (x := nI (n + (dgc x))) dJ5_append_c97b9_13 rfl ?_
  refine V.callUG (n := 1) (As := [.int (nI (n + (dgc x)))]) (rest := []) (wr := []) (x := ⟨"java/lang/AbstractStringBuilder", "ensureCapacityInternal", "(I)V"⟩) (owner := "java/lang/AbstractStringBuilder") hC (c_ensure (kl K) G sb b cap f n ml hcap hn hf (n + dgc x) (by omega) (by omega)) (SFx.k G) hgo gJ5_append_c97b9_J5_ensureCapacityInternal_d00df_u100J4 rfl ⟨rfl, rfl⟩ rfl (by decide +kernel) ⟨by decide, by decide, by decide, by decide⟩ [0, 1] [] rfl (by decide) rfl (by decide) (by decide) rfl rfl rfl rfl (Nat.le_of_ble_eq_true rfl) dJ5_append_c97b9_14 (fun r_14 u_14 hp_14 => ?_)
  obtain ⟨hu1_, hu2_, hu3_, hu4_⟩ := hp_14
  have hul_ := hu1_.lt
  show V G K 4 1 70 17 [some (.ref sb), some (.int (nI x)), some (.int (nI n)), some (.int (nI (n + (dgc x))))] [] [(sb, .inr (1, [.ref (u_14.1), .int 0, .int ml, .int (nI n)])), (u_14.1, .inl (gB G, u_14.2.1, .inl (fun j => nI ((u_14.2.2) j))))]
  refine V.aload_n hC (x := sb) dJ5_append_c97b9_17 rfl ?_
  refine V.callUG (n := 0) (As := []) (rest := []) (wr := []) (x := ⟨"java/lang/AbstractStringBuilder", "isLatin1", "()Z"⟩) (owner := "java/lang/AbstractStringBuilder") hC (c_sbLatin (kl K) G sb u_14.1 u_14.2.1 u_14.2.2 n ml hu1_ (by omega) hu2_) (SFx.k G) hgo gJ5_append_c97b9_J5_isLatin1_aae02_u83J4 rfl ⟨rfl, rfl⟩ rfl (by decide +kernel) ⟨by decide, by decide, by decide, by decide⟩ [0, 1] [] rfl (by decide) rfl (by decide) (by decide) rfl rfl rfl rfl (Nat.le_of_ble_eq_true rfl) dJ5_append_c97b9_18 (fun r_18 u_18 hp_18 => ?_)
  subst hp_18
  show V G K 4 1 70 21 [some (.ref sb), some (.int (nI x)), some (.int (nI n)), some (.int (nI (n + (dgc x))))] [.int (nI 1)] [(sb, .inr (1, [.ref (u_14.1), .int 0, .int ml, .int (nI n)])), (u_14.1, .inl (gB G, u_14.2.1, .inl (fun j => nI ((u_14.2.2) j))))]
  refine V.ifN_eq hC 1 37 dJ5_append_c97b9_21 rfl rfl (by omega) (fun c_21 => ?_) (fun c_21 => ?_)
  · exact absurd c_21 (by decide)
  · refine V.iload_n hC (x := nI x) dJ5_append_c97b9_24 rfl ?_
    refine V.iload_n hC (x := nI (n + (dgc x))) dJ5_append_c97b9_25 rfl ?_
    refine V.aload_n hC (x := sb) dJ5_append_c97b9_26 rfl ?_
    refine V.getf hC (T := TJ4) q0_ 0 q2_ rfl (0) rfl rfl (by decide) (.ref (u_14.1)) rfl dJ5_append_c97b9_27 ?_
    refine V.callSG (n := 3) (As := [.int (nI x), .int (nI (n + (dgc x))), .ref (u_14.1)]) (rest := []) (wr := [(sb, .inr (1, [.ref (u_14.1), .int 0, .int ml, .int (nI n)]))]) hC (c_getChars (kl K) G x (n + dgc x) u_14.1 u_14.2.1 u_14.2.2 hu2_ hx (by omega) (by omega) (by omega)) (SFt.k G) hgot gJ5_append_c97b9_J6_getChars_ba4f3 rfl ⟨rfl, rfl⟩ (by decide +kernel) ⟨by decide, by decide, by decide, by decide⟩ [1] [0] rfl (by decide) rfl (by decide) (by decide) rfl rfl (Nat.le_of_ble_eq_true rfl) dJ5_append_c97b9_30 (fun r_30 u_30 hp_30 => ?_)
    obtain ⟨hv1_, hv2_, hv3_⟩ := hp_30
    rw [Nat.add_sub_cancel] at hv2_ hv3_
    show V G K 4 1 70 33 [some (.ref sb), some (.int (nI x)), some (.int (nI n)), some (.int (nI (n + (dgc x))))] [.int r_30] [(sb, .inr (1, [.ref (u_14.1), .int 0, .int ml, .int (nI n)])), (u_14.1, .inl (gB G, u_14.2.1, .inl (fun j => nI (u_30 j))))]
    refine V.pop hC dJ5_append_c97b9_33 rfl ?_
    refine V.goto hC 48 dJ5_append_c97b9_34 rfl ?_
    refine V.aload_n hC (x := sb) dJ5_append_c97b9_48 rfl ?_
    refine V.iload_n hC (x := nI (n + (dgc x))) dJ5_append_c97b9_49 rfl ?_
    refine V.putf hC (T := TJ4) q0_ tyJ4 tyJ4_ok nmJ4 3 q1_ rfl rfl (0) rfl rfl (by decide) (by simp) rfl rfl dJ5_append_c97b9_50 [(sb, .inr (1, [.ref (u_14.1), .int 0, .int ml, .int (nI (n + (dgc x)))])), (u_14.1, .inl (gB G, u_14.2.1, .inl (fun j => nI (u_30 j))))] rfl ?_
    refine V.aload_n hC (x := sb) dJ5_append_c97b9_53 rfl ?_
    exact hE 54 _ (some sb) (u_14.1, u_14.2.1, u_30) dJ5_append_c97b9_54 ⟨rfl, hu1_, hv1_, hu3_, fun j hj => (hv2_ j hj).trans (hu4_ j (by omega)), hv3_⟩

set_option maxHeartbeats 4000000 in
set_option maxRecDepth 100000 in
theorem c_appendI (l : Launch) (G : Gx) (sb b cap : Nat) (f : Nat → Nat) (n : Nat) (ml : Int32) (hcap : capOK cap) (hn : n ≤ cap) (hf : ∀ j, f j < 128) (x : Nat) (hx : x < 10000) (hn60 : n ≤ 60) : Ct l G (SFt G) yJ4_append_bf812 wsJ4_append_bf812 ({ frames := 5, cells := 1, slots := 70, locals := 107 }) [.ref sb, .int (nI x)] [(sb, .inr (1, [.ref b, .int 0, .int ml, .int (nI n)])), (b, .inl (gB G, cap, .inl (fun j => nI (f j))))] mkA (fun (r : Option Nat) (u : Nat × Nat × (Nat → Nat)) => r = some sb ∧ capOK u.2.1 ∧ (∀ j, u.2.2 j < 128) ∧ n + dgc x ≤ u.2.1 ∧ (∀ j, j < n → u.2.2 j = f j) ∧ ∀ j, j < dgc x → u.2.2 (n + j) = dgt x j) (fun u : Nat × Nat × (Nat → Nat) => [(sb, .inr (1, [.ref (u.1), .int 0, .int ml, .int (nI (n + dgc x))])), (u.1, .inl (gB G, u.2.1, .inl (fun j => nI ((u.2.2) j))))]) 1 70 := by
  refine Ct.ofA (mk := fun r : Option Nat => va_rf r) (fun r => va_rf_or r) (Or.inl ⟨_, rfl⟩) (cc := cJ4_append_bf812) (maxL := 2) (by decide) rfl ⟨by simp [Value.category], Nat.le_of_ble_eq_true rfl⟩ ?_
  intro K hl hC hSF hnm hE
  subst hl
  have hgot := SFgoS (SFt.k G) hSF
  have hgo := SFgo.x hgot
  have hSFt := hSF
  replace hSF := hSF.1
  show V G K 2 0 0 0 [some (.ref sb), some (.int (nI x))] [] [(sb, .inr (1, [.ref b, .int 0, .int ml, .int (nI n)])), (b, .inl (gB G, cap, .inl (fun j => nI (f j))))]
  refine V.aload_n hC (x := sb) dJ4_append_bf812_0 rfl ?_
  refine V.iload_n hC (x := nI x) dJ4_append_bf812_1 rfl ?_
  refine V.callPG (n := 1) (As := [.int (nI x)]) (rest := []) (wr := []) hC (c_appendI5 (kl K) G sb b cap f n ml hcap hn hf x hx hn60) (SFt.k G) hgot gJ4_append_bf812_J5_append_c97b9_s53 rfl ⟨rfl, rfl⟩ (by decide +kernel) ⟨by decide, by decide, by decide, by decide⟩ [0, 1] [] rfl (by decide) rfl (by decide) (by decide) rfl rfl rfl rfl (Nat.le_of_ble_eq_true rfl) dJ4_append_bf812_2 (fun r_2 u_2 hp_2 => ?_)
  obtain ⟨e_2, hu_2⟩ := hp_2
  subst e_2
  show V G K 2 1 70 5 [some (.ref sb), some (.int (nI x))] [.ref sb] [(sb, .inr (1, [.ref (u_2.1), .int 0, .int ml, .int (nI (n + dgc x))])), (u_2.1, .inl (gB G, u_2.2.1, .inl (fun j => nI ((u_2.2.2) j))))]
  refine V.pop hC dJ4_append_bf812_5 rfl ?_
  refine V.aload_n hC (x := sb) dJ4_append_bf812_6 rfl ?_
  exact hE 7 _ (some sb) u_2 dJ4_append_bf812_7 ⟨rfl, hu_2⟩

set_option maxHeartbeats 4000000 in
set_option maxRecDepth 100000 in
theorem c_sbLength5 (l : Launch) (G : Gx) (sb b cap : Nat) (f : Nat → Nat) (n : Nat) (ml : Int32) (hcap : capOK cap) (hn : n ≤ cap) (hf : ∀ j, f j < 128) : Ct l G SF0 yJ5_length_8abf5 wsJ5_length_8abf5 ({ frames := 0, cells := 0, slots := 0, locals := 0 }) [.ref sb] [(sb, .inr (1, [.ref b, .int 0, .int ml, .int (nI n)])), (b, .inl (gB G, cap, .inl (fun j => nI (f j))))] mkI (fun (r : Int32) (_ : Unit) => r = nI n) (fun _ : Unit => [(sb, .inr (1, [.ref b, .int 0, .int ml, .int (nI n)])), (b, .inl (gB G, cap, .inl (fun j => nI (f j))))]) 0 0 := by
  refine Ct.ofI (cc := cJ5_length_8abf5) (maxL := 1) (by decide) rfl ⟨by simp [Value.category], Nat.le_of_ble_eq_true rfl⟩ ?_
  intro K hl hC hSF hnm hE
  subst hl
  have q0_ : ∀ w ∈ u_ws RJ4 TJ4 4, w ∈ wsJ5_length_8abf5 := by decide +kernel
  have q1_ : Cond.fieldLink RJ5 79 "java/lang/AbstractStringBuilder" "count" "I" ∈ wsJ5_length_8abf5 := by decide +kernel
  show V G K 1 0 0 0 [some (.ref sb)] [] [(sb, .inr (1, [.ref b, .int 0, .int ml, .int (nI n)])), (b, .inl (gB G, cap, .inl (fun j => nI (f j))))]
  refine V.aload_n hC (x := sb) dJ5_length_8abf5_0 rfl ?_
  refine V.getf hC (T := TJ4) q0_ 3 q1_ rfl (0) rfl rfl (by decide) (.int (nI n)) rfl dJ5_length_8abf5_1 ?_
  exact hE 4 _ (nI n) () dJ5_length_8abf5_4 rfl rfl

set_option maxHeartbeats 4000000 in
set_option maxRecDepth 100000 in
theorem c_sbLength (l : Launch) (G : Gx) (sb b cap : Nat) (f : Nat → Nat) (n : Nat) (ml : Int32) (hcap : capOK cap) (hn : n ≤ cap) (hf : ∀ j, f j < 128) : Ct l G SF0 yJ4_length_8abf5 wsJ4_length_8abf5 ({ frames := 1, cells := 0, slots := 0, locals := 20 }) [.ref sb] [(sb, .inr (1, [.ref b, .int 0, .int ml, .int (nI n)])), (b, .inl (gB G, cap, .inl (fun j => nI (f j))))] mkI (fun (r : Int32) (_ : Unit) => r = nI n) (fun _ : Unit => [(sb, .inr (1, [.ref b, .int 0, .int ml, .int (nI n)])), (b, .inl (gB G, cap, .inl (fun j => nI (f j))))]) 0 0 := by
  refine Ct.ofI (cc := cJ4_length_8abf5) (maxL := 1) (by decide) rfl ⟨by simp [Value.category], Nat.le_of_ble_eq_true rfl⟩ ?_
  intro K hl hC hSF hnm hE
  subst hl
  show V G K 1 0 0 0 [some (.ref sb)] [] [(sb, .inr (1, [.ref b, .int 0, .int ml, .int (nI n)])), (b, .inl (gB G, cap, .inl (fun j => nI (f j))))]
  refine V.aload_n hC (x := sb) dJ4_length_8abf5_0 rfl ?_
  refine V.callPG (n := 0) (As := []) (rest := []) (wr := []) hC (c_sbLength5 (kl K) G sb b cap f n ml hcap hn hf) SFk0 SFgo0 gJ4_length_8abf5_J5_length_8abf5_s343 rfl ⟨rfl, rfl⟩ (by decide +kernel) ⟨by decide, by decide, by decide, by decide⟩ [0, 1] [] rfl (by decide) rfl (by decide) (by decide) rfl rfl rfl rfl (Nat.le_of_ble_eq_true rfl) dJ4_length_8abf5_1 (fun r_1 u_1 hp_1 => ?_)
  subst hp_1
  show V G K 1 0 0 4 [some (.ref sb)] [.int (nI n)] [(sb, .inr (1, [.ref b, .int 0, .int ml, .int (nI n)])), (b, .inl (gB G, cap, .inl (fun j => nI (f j))))]
  exact hE 4 _ (nI n) () dJ4_length_8abf5_4 rfl rfl

set_option maxHeartbeats 4000000 in
set_option maxRecDepth 100000 in
theorem c_setLength5 (l : Launch) (G : Gx) (sb b cap : Nat) (f : Nat → Nat) (n : Nat) (ml : Int32) (hcap : capOK cap) (hn : n ≤ cap) (hf : ∀ j, f j < 128) : Ct l G (SFx G) yJ5_setLength_d00df wsJ5_setLength_d00df ({ frames := 4, cells := 1, slots := 70, locals := 84 }) [.ref sb, .int (nI 0)] [(sb, .inr (1, [.ref b, .int 0, .int ml, .int (nI n)])), (b, .inl (gB G, cap, .inl (fun j => nI (f j))))] mkV (fun (_ : Unit) (u : Nat × Nat × (Nat → Nat) × Int32) => capOK u.2.1 ∧ ∀ j, u.2.2.1 j < 128) (fun u : Nat × Nat × (Nat → Nat) × Int32 => [(sb, .inr (1, [.ref (u.1), .int 0, .int (u.2.2.2), .int (nI 0)])), (u.1, .inl (gB G, u.2.1, .inl (fun j => nI ((u.2.2.1) j))))]) 1 70 := by
  refine Ct.ofV (cc := cJ5_setLength_d00df) (maxL := 2) (by decide) rfl ⟨by simp [Value.category], Nat.le_of_ble_eq_true rfl⟩ ?_
  intro K hl hC hSF hnm hE
  subst hl
  have hgo := SFgoS (SFx.k G) hSF
  have q0_ : ∀ w ∈ u_ws RJ4 TJ4 4, w ∈ wsJ5_setLength_d00df := by decide +kernel
  have q1_ : Cond.fieldLink RJ5 79 "java/lang/AbstractStringBuilder" "count" "I" ∈ wsJ5_setLength_d00df := by decide +kernel
  have q2_ : Cond.fieldLink RJ5 73 "java/lang/AbstractStringBuilder" "maybeLatin1" "Z" ∈ wsJ5_setLength_d00df := by decide +kernel
  show V G K 2 0 0 0 [some (.ref sb), some (.int (nI 0))] [] [(sb, .inr (1, [.ref b, .int 0, .int ml, .int (nI n)])), (b, .inl (gB G, cap, .inl (fun j => nI (f j))))]
  have hcl := hcap.lt
  have hcg := hcap.ge
  refine V.iload_n hC (x := nI 0) dJ5_setLength_d00df_0 rfl ?_
  refine V.if_ge hC 13 dJ5_setLength_d00df_1 rfl (fun c_1 => ?_) (fun c_1 => ?_)
  · refine V.aload_n hC (x := sb) dJ5_setLength_d00df_13 rfl ?_
    refine V.iload_n hC (x := nI 0) dJ5_setLength_d00df_14 rfl ?_
    refine V.callUG (n := 1) (As := [.int (nI 0)]) (rest := []) (wr := []) (x := ⟨"java/lang/AbstractStringBuilder", "ensureCapacityInternal", "(I)V"⟩) (owner := "java/lang/AbstractStringBuilder") hC (c_ensure (kl K) G sb b cap f n ml hcap hn hf 0 (by omega) (by omega)) (SFx.k G) hgo gJ5_setLength_d00df_J5_ensureCapacityInternal_d00df_u100J4 rfl ⟨rfl, rfl⟩ rfl (by decide +kernel) ⟨by decide, by decide, by decide, by decide⟩ [0, 1] [] rfl (by decide) rfl (by decide) (by decide) rfl rfl rfl rfl (Nat.le_of_ble_eq_true rfl) dJ5_setLength_d00df_15 (fun r_15 u_15 hp_15 => ?_)
    obtain ⟨hu1_, hu2_, hu3_, hu4_⟩ := hp_15
    have hul_ := hu1_.lt
    show V G K 2 1 70 18 [some (.ref sb), some (.int (nI 0))] [] [(sb, .inr (1, [.ref (u_15.1), .int 0, .int ml, .int (nI n)])), (u_15.1, .inl (gB G, u_15.2.1, .inl (fun j => nI ((u_15.2.2) j))))]
    refine V.aload_n hC (x := sb) dJ5_setLength_d00df_18 rfl ?_
    refine V.getf hC (T := TJ4) q0_ 3 q1_ rfl (0) rfl rfl (by decide) (.int (nI n)) rfl dJ5_setLength_d00df_19 ?_
    refine V.iload_n hC (x := nI 0) dJ5_setLength_d00df_22 rfl ?_
    refine V.icmpN_ge hC n 0 63 dJ5_setLength_d00df_23 rfl rfl rfl (by omega) (by omega) (fun c_23 => ?_) (fun c_23 => ?_)
    · refine V.aload_n hC (x := sb) dJ5_setLength_d00df_63 rfl ?_
      refine V.getf hC (T := TJ4) q0_ 3 q1_ rfl (0) rfl rfl (by decide) (.int (nI n)) rfl dJ5_setLength_d00df_64 ?_
      refine V.iload_n hC (x := nI 0) dJ5_setLength_d00df_67 rfl ?_
      refine V.icmpN_le hC n 0 76 dJ5_setLength_d00df_68 rfl rfl rfl (by omega) (by omega) (fun c_68 => ?_) (fun c_68 => ?_)
      · refine V.aload_n hC (x := sb) dJ5_setLength_d00df_76 rfl ?_
        refine V.iload_n hC (x := nI 0) dJ5_setLength_d00df_77 rfl ?_
        refine V.putf hC (T := TJ4) q0_ tyJ4 tyJ4_ok nmJ4 3 q1_ rfl rfl (0) rfl rfl (by decide) (by simp) rfl rfl dJ5_setLength_d00df_78 [(sb, .inr (1, [.ref (u_15.1), .int 0, .int ml, .int (nI 0)])), (u_15.1, .inl (gB G, u_15.2.1, .inl (fun j => nI ((u_15.2.2) j))))] rfl ?_
        exact hE 81 _ (u_15.1, u_15.2.1, u_15.2.2, ml) dJ5_setLength_d00df_81 ⟨hu1_, hu2_⟩
      · refine V.aload_n hC (x := sb) dJ5_setLength_d00df_71 rfl ?_
        refine V.iconst hC 1 dJ5_setLength_d00df_72 rfl ?_
        refine V.putf hC (T := TJ4) q0_ tyJ4 tyJ4_ok nmJ4 2 q2_ rfl rfl (0) rfl rfl (by decide) (by simp) rfl rfl dJ5_setLength_d00df_73 [(sb, .inr (1, [.ref (u_15.1), .int 0, .int 1, .int (nI n)])), (u_15.1, .inl (gB G, u_15.2.1, .inl (fun j => nI ((u_15.2.2) j))))] rfl ?_
        refine V.aload_n hC (x := sb) dJ5_setLength_d00df_76 rfl ?_
        refine V.iload_n hC (x := nI 0) dJ5_setLength_d00df_77 rfl ?_
        refine V.putf hC (T := TJ4) q0_ tyJ4 tyJ4_ok nmJ4 3 q1_ rfl rfl (0) rfl rfl (by decide) (by simp) rfl rfl dJ5_setLength_d00df_78 [(sb, .inr (1, [.ref (u_15.1), .int 0, .int 1, .int (nI 0)])), (u_15.1, .inl (gB G, u_15.2.1, .inl (fun j => nI ((u_15.2.2) j))))] rfl ?_
        exact hE 81 _ (u_15.1, u_15.2.1, u_15.2.2, 1) dJ5_setLength_d00df_81 ⟨hu1_, hu2_⟩
    · exact absurd c_23 (by omega)
  · exact absurd c_1 (by decide)

set_option maxHeartbeats 4000000 in
set_option maxRecDepth 100000 in
theorem c_setLength (l : Launch) (G : Gx) (sb b cap : Nat) (f : Nat → Nat) (n : Nat) (ml : Int32) (hcap : capOK cap) (hn : n ≤ cap) (hf : ∀ j, f j < 128) : Ct l G (SFx G) yJ4_setLength_d00df wsJ4_setLength_d00df ({ frames := 5, cells := 1, slots := 70, locals := 105 }) [.ref sb, .int (nI 0)] [(sb, .inr (1, [.ref b, .int 0, .int ml, .int (nI n)])), (b, .inl (gB G, cap, .inl (fun j => nI (f j))))] mkV (fun (_ : Unit) (u : Nat × Nat × (Nat → Nat) × Int32) => capOK u.2.1 ∧ ∀ j, u.2.2.1 j < 128) (fun u : Nat × Nat × (Nat → Nat) × Int32 => [(sb, .inr (1, [.ref (u.1), .int 0, .int (u.2.2.2), .int (nI 0)])), (u.1, .inl (gB G, u.2.1, .inl (fun j => nI ((u.2.2.1) j))))]) 1 70 := by
  refine Ct.ofV (cc := cJ4_setLength_d00df) (maxL := 2) (by decide) rfl ⟨by simp [Value.category], Nat.le_of_ble_eq_true rfl⟩ ?_
  intro K hl hC hSF hnm hE
  subst hl
  have hgo := SFgoS (SFx.k G) hSF
  show V G K 2 0 0 0 [some (.ref sb), some (.int (nI 0))] [] [(sb, .inr (1, [.ref b, .int 0, .int ml, .int (nI n)])), (b, .inl (gB G, cap, .inl (fun j => nI (f j))))]
  refine V.aload_n hC (x := sb) dJ4_setLength_d00df_0 rfl ?_
  refine V.iload_n hC (x := nI 0) dJ4_setLength_d00df_1 rfl ?_
  refine V.callPG (n := 1) (As := [.int (nI 0)]) (rest := []) (wr := []) hC (c_setLength5 (kl K) G sb b cap f n ml hcap hn hf) (SFx.k G) hgo gJ4_setLength_d00df_J5_setLength_d00df_s333 rfl ⟨rfl, rfl⟩ (by decide +kernel) ⟨by decide, by decide, by decide, by decide⟩ [0, 1] [] rfl (by decide) rfl (by decide) (by decide) rfl rfl rfl rfl (Nat.le_of_ble_eq_true rfl) dJ4_setLength_d00df_2 (fun r_2 u_2 hp_2 => ?_)
  show V G K 2 1 70 5 [some (.ref sb), some (.int (nI 0))] [] [(sb, .inr (1, [.ref (u_2.1), .int 0, .int (u_2.2.2.2), .int (nI 0)])), (u_2.1, .inl (gB G, u_2.2.1, .inl (fun j => nI ((u_2.2.2.1) j))))]
  exact hE 5 _ u_2 dJ4_setLength_d00df_5 hp_2

set_option maxHeartbeats 4000000 in
set_option maxRecDepth 100000 in
theorem c_sbInit5 (l : Launch) (G : Gx) (sb : Nat) : Ct l G (SFx G) yJ5_init_d00df wsJ5_init_d00df ({ frames := 1, cells := 1, slots := 16, locals := 12 }) [.ref sb, .int (nI 16)] [(sb, .inr (1, [.null, .int 0, .int 0, .int 0]))] mkV (fun (_ : Unit) (_ : Nat) => True) (fun u : Nat => [(sb, .inr (1, [.ref u, .int 0, .int 0, .int 0])), (u, .inl (gB G, 16, .inl (fun j => nI ((fun _ => 0) j))))]) 1 16 := by
  refine Ct.ofV (cc := cJ5_init_d00df) (maxL := 2) (by decide) rfl ⟨by simp [Value.category], Nat.le_of_ble_eq_true rfl⟩ ?_
  intro K hl hC hSF hnm hE
  subst hl
  have hgo := SFgoS (SFx.k G) hSF
  have q0_ : Cond.methodLink RJ5 3 objectInit ∈ wsJ5_init_d00df := by decide +kernel
  have q1_ : Cond.instanceMethod objectInit ∈ wsJ5_init_d00df := by decide +kernel
  have q2_ : Cond.code objectInit ⟨#[0xb1]⟩ 1 none ∈ wsJ5_init_d00df := by decide +kernel
  have q3_ : Cond.fieldLink RJ5 18 "java/lang/String" "COMPACT_STRINGS" "Z" ∈ wsJ5_init_d00df := by decide +kernel
  have q4_ : Cond.arrayClass .byte ∈ wsJ5_init_d00df := by decide +kernel
  have q5_ : ∀ w ∈ u_ws RJ4 TJ4 4, w ∈ wsJ5_init_d00df := by decide +kernel
  have q6_ : Cond.fieldLink RJ5 15 "java/lang/AbstractStringBuilder" "value" "[B" ∈ wsJ5_init_d00df := by decide +kernel
  have q7_ : Cond.fieldLink RJ5 22 "java/lang/AbstractStringBuilder" "coder" "B" ∈ wsJ5_init_d00df := by decide +kernel
  show V G K 2 0 0 0 [some (.ref sb), some (.int (nI 16))] [] [(sb, .inr (1, [.null, .int 0, .int 0, .int 0]))]
  refine V.aload_n hC (x := sb) dJ5_init_d00df_0 rfl ?_
  refine V.objInit hC (a := sb) q0_ q1_ q2_ ⟨by decide, by decide⟩ dJ5_init_d00df_1 ?_
  refine V.gets hC (n := "COMPACT_STRINGS") hSF.2.2.2.2.2.2.2.2.2.2.1 q3_ rfl dJ5_init_d00df_4 ?_
  refine V.ifN_eq hC 1 25 dJ5_init_d00df_7 rfl rfl (by omega) (fun c_7 => ?_) (fun c_7 => ?_)
  · exact absurd c_7 (by decide)
  · refine V.aload_n hC (x := sb) dJ5_init_d00df_10 rfl ?_
    refine V.iload_n hC (x := nI 16) dJ5_init_d00df_11 rfl ?_
    refine V.newA hC (atype := .byte) 6 (cA := gB G) q4_ rfl 16 (16, .inl (fun j => nI ((fun _ => 0) j))) (fun _ => rfl) rfl (by decide) (by decide) (by decide) dJ5_init_d00df_12 (fun q_12 => ?_)
    show V G K 2 1 16 14 [some (.ref sb), some (.int (nI 16))] [.ref q_12, .ref sb] [(sb, .inr (1, [.null, .int 0, .int 0, .int 0])), (q_12, .inl (gB G, 16, .inl (fun j => nI ((fun _ => 0) j))))]
    refine V.putf hC (T := TJ4) q5_ tyJ4 tyJ4_ok nmJ4 0 q6_ rfl rfl (0) rfl rfl (by decide) (by simp) rfl rfl dJ5_init_d00df_14 [(sb, .inr (1, [.ref q_12, .int 0, .int 0, .int 0])), (q_12, .inl (gB G, 16, .inl (fun j => nI ((fun _ => 0) j))))] rfl ?_
    refine V.aload_n hC (x := sb) dJ5_init_d00df_17 rfl ?_
    refine V.iconst hC 0 dJ5_init_d00df_18 rfl ?_
    refine V.putf hC (T := TJ4) q5_ tyJ4 tyJ4_ok nmJ4 1 q7_ rfl rfl (0) rfl rfl (by decide) (by simp) rfl rfl dJ5_init_d00df_19 [(sb, .inr (1, [.ref q_12, .int 0, .int 0, .int 0])), (q_12, .inl (gB G, 16, .inl (fun j => nI ((fun _ => 0) j))))] rfl ?_
    refine V.goto hC 38 dJ5_init_d00df_22 rfl ?_
    exact hE 38 _ q_12 dJ5_init_d00df_38 trivial

set_option maxHeartbeats 4000000 in
set_option maxRecDepth 100000 in
theorem c_sbInit (l : Launch) (G : Gx) (sb : Nat) : Ct l G (SFx G) yJ4_init_da8c8 wsJ4_init_da8c8 ({ frames := 2, cells := 1, slots := 16, locals := 33 }) [.ref sb] [(sb, .inr (1, [.null, .int 0, .int 0, .int 0]))] mkV (fun (_ : Unit) (_ : Nat) => True) (fun u : Nat => [(sb, .inr (1, [.ref u, .int 0, .int 0, .int 0])), (u, .inl (gB G, 16, .inl (fun j => nI ((fun _ => 0) j))))]) 1 16 := by
  refine Ct.ofV (cc := cJ4_init_da8c8) (maxL := 1) (by decide) rfl ⟨by simp [Value.category], Nat.le_of_ble_eq_true rfl⟩ ?_
  intro K hl hC hSF hnm hE
  subst hl
  have hgo := SFgoS (SFx.k G) hSF
  have q0_ : Cond.initialized yJ5_init_d00df.cls ∈ wsJ4_init_da8c8 := by decide +kernel
  have q1_ : Cond.instanceMethod yJ5_init_d00df ∈ wsJ4_init_da8c8 := by decide +kernel
  have q2_ : Cond.methodLink RJ4 1 yJ5_init_d00df ∈ wsJ4_init_da8c8 := by decide +kernel
  show V G K 1 0 0 0 [some (.ref sb)] [] [(sb, .inr (1, [.null, .int 0, .int 0, .int 0]))]
  refine V.aload_n hC (x := sb) dJ4_init_da8c8_0 rfl ?_
  refine V.bipush hC 16 dJ4_init_da8c8_1 rfl ?_
  refine V.callI (n := 1) (As := [.int 16]) (rest := []) hC (c_sbInit5 (kl K) G sb) (fun u_ => [(sb, .inr (1, [.ref u_, .int 0, .int 0, .int 0]))]) (fun u_ => [(u_, .inl (gB G, 16, .inl (fun j => nI ((fun _ => 0) j))))]) (fun _ => rfl) (SFx.k G) hgo gJ4_init_da8c8_J5_init_d00df rfl ⟨rfl, rfl⟩ q0_ q2_ q1_ rfl (by decide +kernel) ⟨by decide, by decide, by decide, by decide⟩ [0] rfl (by decide) (fun _ => rfl) rfl rfl (Nat.le_of_ble_eq_true rfl) dJ4_init_da8c8_3 (fun r_3 u_3 hp_3 => ?_)
  show V G K 1 1 16 6 [some (.ref sb)] [] [(sb, .inr (1, [.ref u_3, .int 0, .int 0, .int 0])), (u_3, .inl (gB G, 16, .inl (fun j => nI ((fun _ => 0) j))))]
  exact hE 6 _ u_3 dJ4_init_da8c8_6 trivial
