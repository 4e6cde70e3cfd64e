/-! Points (printed by gen/s15.py) -/
/-- the places and the values of the birds of a set, laid from the left; b of the birds seen -/
def plr (S : Nat) (p0 : Nat → Nat) : Nat → Nat → Nat
  | 0 => p0
  | b + 1 => if S / 2 ^ b % 2 = 1 then va_up (plr S p0 b) (popb S b) (b + 1) else plr S p0 b
def vlr (S : Nat) (sv v0 : Nat → Nat) : Nat → Nat → Nat
  | 0 => v0
  | b + 1 => if S / 2 ^ b % 2 = 1 then va_up (vlr S sv v0 b) (popb S b) (sv b) else vlr S sv v0 b
theorem popb_le (S : Nat) : ∀ b, popb S b ≤ b
  | 0 => Nat.le_refl 0
  | b + 1 => by
    have := popb_le S b
    have h2 := Nat.mod_lt (S / 2 ^ b) (show 0 < 2 by decide)
    rw [popb]
    omega
theorem plr_y {S b : Nat} (p0 : Nat → Nat) (h : S / 2 ^ b % 2 = 1) : va_up (plr S p0 b) (popb S b) (b + 1) = plr S p0 (b + 1) := by rw [plr, if_pos h]
theorem plr_n {S b : Nat} (p0 : Nat → Nat) (h : S / 2 ^ b % 2 ≠ 1) : plr S p0 b = plr S p0 (b + 1) := by rw [plr, if_neg h]
theorem vlr_y {S b : Nat} (sv v0 : Nat → Nat) (h : S / 2 ^ b % 2 = 1) : va_up (vlr S sv v0 b) (popb S b) (sv b) = vlr S sv v0 (b + 1) := by rw [vlr, if_pos h]
theorem vlr_n {S b : Nat} (sv v0 : Nat → Nat) (h : S / 2 ^ b % 2 ≠ 1) : vlr S sv v0 b = vlr S sv v0 (b + 1) := by rw [vlr, if_neg h]
theorem popb_y {S b : Nat} (h : S / 2 ^ b % 2 = 1) : popb S b + 1 = popb S (b + 1) := by rw [popb, h]
theorem popb_n {S b : Nat} (h : S / 2 ^ b % 2 ≠ 1) : popb S b = popb S (b + 1) := by
  have h2 := Nat.mod_lt (S / 2 ^ b) (show 0 < 2 by decide)
  rw [popb]
  omega
/-- numerator and denominator of a fraction of places, j of the points seen -/
def abl (pl : Nat → Nat) (x i : Nat) : Nat → Nat × Nat
  | 0 => (1, 1)
  | j + 1 => if j = i then abl pl x i j else ((abl pl x i j).1 * dif97 x (pl j) % 97, (abl pl x i j).2 * dif97 (pl i) (pl j) % 97)
theorem abl_lt (pl : Nat → Nat) (x i : Nat) : ∀ j, (abl pl x i j).1 < 97 ∧ (abl pl x i j).2 < 97
  | 0 => ⟨by simp [abl], by simp [abl]⟩
  | j + 1 => by
    have := abl_lt pl x i j
    rw [abl]
    split
    · exact this
    · exact ⟨Nat.mod_lt _ (by decide), Nat.mod_lt _ (by decide)⟩
/-- the formula of Lagrange, i of the cn points summed -/
def lgv (pl va : Nat → Nat) (cn x : Nat) : Nat → Nat
  | 0 => 0
  | i + 1 => (lgv pl va cn x i + va i * (abl pl x i cn).1 % 97 * inv97 (abl pl x i cn).2) % 97
theorem lgv_lt (pl va : Nat → Nat) (cn x : Nat) : ∀ i, lgv pl va cn x i < 97
  | 0 => by simp [lgv]
  | i + 1 => Nat.mod_lt _ (by decide)
set_option maxHeartbeats 4000000 in
set_option maxRecDepth 100000 in
theorem c_takeFrom (l : Launch) (G : Gx) (hp ap av cn : Nat) (pl va : Nat → Nat) (h a : Nat) (sh : Nat → Int32) (nu th : Int32) (S : Nat) (hS : S < 256) (sv : Nat → Nat) (hsv : ∀ b, b < 8 → S / 2 ^ b % 2 = 1 → sh b = nI (sv b)) : Ct l G SF0 yX5_takeFrom wsX5_takeFrom ({ frames := 1, cells := 0, slots := 0, locals := 21 }) [.ref hp, .ref h, .int (nI S)] [(hp, .inr (7, [.ref ap, .ref av, .int (nI cn)])), (ap, .inl (gI G, 8, .inl (fun j => nI (pl j)))), (av, .inl (gI G, 8, .inl (fun j => nI (va j)))), (h, .inr (10, [.ref a, .int nu, .int th])), (a, .inl (gI G, 8, .inl sh))] mkV (fun (_ : Unit) (_ : Unit) => True) (fun _ : Unit => [(hp, .inr (7, [.ref ap, .ref av, .int (nI (popb S 8))])), (ap, .inl (gI G, 8, .inl (fun j => nI ((plr S pl 8) j)))), (av, .inl (gI G, 8, .inl (fun j => nI ((vlr S sv va 8) j)))), (h, .inr (10, [.ref a, .int nu, .int th])), (a, .inl (gI G, 8, .inl sh))]) 0 0 := by
  refine Ct.ofV (cc := cX5_takeFrom) (maxL := 4) (by decide) rfl ⟨by simp [Value.category], Nat.le_of_ble_eq_true rfl⟩ ?_
  intro K hl hC hSF hnm hE
  subst hl
  have q0_ : ∀ w ∈ u_ws RX5 TX5 3, w ∈ wsX5_takeFrom := by decide +kernel
  have q1_ : Cond.fieldLink RX5 18 "FeatherShares$Points" "count" "I" ∈ wsX5_takeFrom := by decide +kernel
  have q2_ : Cond.fieldLink RX5 9 "FeatherShares$Points" "places" "[I" ∈ wsX5_takeFrom := by decide +kernel
  have q3_ : Cond.fieldLink RX5 15 "FeatherShares$Points" "values" "[I" ∈ wsX5_takeFrom := by decide +kernel
  show V G K 4 0 0 0 [some (.ref hp), some (.ref h), some (.int (nI S)), none] [] [(hp, .inr (7, [.ref ap, .ref av, .int (nI cn)])), (ap, .inl (gI G, 8, .inl (fun j => nI (pl j)))), (av, .inl (gI G, 8, .inl (fun j => nI (va j)))), (h, .inr (10, [.ref a, .int nu, .int th])), (a, .inl (gI G, 8, .inl sh))]
  refine V.aload_n hC (x := hp) dX5_takeFrom_0 rfl ?_
  refine V.iconst hC 0 dX5_takeFrom_1 rfl ?_
  refine V.putf hC (T := TX5) q0_ tyX5 tyX5_ok nmX5 2 q1_ rfl rfl (0) rfl rfl (by decide) (by simp) rfl rfl dX5_takeFrom_2 [(hp, .inr (7, [.ref ap, .ref av, .int 0])), (ap, .inl (gI G, 8, .inl (fun j => nI (pl j)))), (av, .inl (gI G, 8, .inl (fun j => nI (va j)))), (h, .inr (10, [.ref a, .int nu, .int th])), (a, .inl (gI G, 8, .inl sh))] rfl ?_
  refine V.iconst hC 0 dX5_takeFrom_5 rfl ?_
  refine V.istore_n hC dX5_takeFrom_6 [some (.ref hp), some (.ref h), some (.int (nI S)), some (.int 0)] (Nat.le_of_ble_eq_true rfl) rfl ?_
  have loop7 : ∀ (n : Nat) (b : Nat), 9 - b < n → (b ≤ 8) → V G K 4 0 0 7 [some (.ref hp), some (.ref h), some (.int (nI S)), some (.int (nI b))] [] [(hp, .inr (7, [.ref ap, .ref av, .int (nI (popb S b))])), (ap, .inl (gI G, 8, .inl (fun j => nI ((plr S pl b) j)))), (av, .inl (gI G, 8, .inl (fun j => nI ((vlr S sv va b) j)))), (h, .inr (10, [.ref a, .int nu, .int th])), (a, .inl (gI G, 8, .inl sh))] := by
    intro n
    induction n with
    | zero => intro b hlt; exact absurd hlt (Nat.not_lt_zero _)
    | succ n ih7 =>
      intro b hlt7 hb
      have hq := popb_le S b
      refine V.iload_n hC (x := nI b) dX5_takeFrom_7 rfl ?_
      refine V.bipush hC 8 dX5_takeFrom_8 rfl ?_
      refine V.icmpN_ge hC b 8 64 dX5_takeFrom_10 rfl rfl rfl (by omega) (by omega) (fun c_10 => ?_) (fun c_10 => ?_)
      · refine V.eqw (ws' := [(hp, .inr (7, [.ref ap, .ref av, .int (nI (popb S 8))])), (ap, .inl (gI G, 8, .inl (fun j => nI ((plr S pl 8) j)))), (av, .inl (gI G, 8, .inl (fun j => nI ((vlr S sv va 8) j)))), (h, .inr (10, [.ref a, .int nu, .int th])), (a, .inl (gI G, 8, .inl sh))]) (by rw [show b = 8 by omega]) ?_
        exact hE 64 _ () dX5_takeFrom_64 trivial
      · refine V.iload_n hC (x := nI S) dX5_takeFrom_13 rfl ?_
        refine V.iload_n hC (x := nI b) dX5_takeFrom_14 rfl ?_
        refine V.ishr hC dX5_takeFrom_15 ?_
        refine V.iconst hC 1 dX5_takeFrom_16 rfl ?_
        refine V.iand hC dX5_takeFrom_17 ?_
        refine V.topeq (nI (S / 2 ^ b % 2)) (bit8 b (by omega) S hS) ?_
        refine V.iconst hC 1 dX5_takeFrom_18 rfl ?_
        refine V.icmpN_ne hC (S / 2 ^ b % 2) 1 58 dX5_takeFrom_19 rfl rfl rfl (r31 (by decide) (by decide)) (by omega) (fun c_19 => ?_) (fun c_19 => ?_)
        · refine V.iincN hC b 1 dX5_takeFrom_58 rfl [some (.ref hp), some (.ref h), some (.int (nI S)), some (.int (nI (b + 1)))] (Nat.le_of_ble_eq_true rfl) rfl rfl rfl ?_
          refine V.eqw (ws' := [(hp, .inr (7, [.ref ap, .ref av, .int (nI (popb S (b + 1)))])), (ap, .inl (gI G, 8, .inl (fun j => nI ((plr S pl b) j)))), (av, .inl (gI G, 8, .inl (fun j => nI ((vlr S sv va b) j)))), (h, .inr (10, [.ref a, .int nu, .int th])), (a, .inl (gI G, 8, .inl sh))]) (by rw [show popb S b = popb S (b + 1) from popb_n c_19]) ?_
          refine V.extN (1) (f := plr S pl b) (g := plr S pl (b + 1)) rfl (fun z _ => congrFun (show plr S pl b = plr S pl (b + 1) from plr_n pl c_19) z) (ws' := [(hp, .inr (7, [.ref ap, .ref av, .int (nI (popb S (b + 1)))])), (ap, .inl (gI G, 8, .inl (fun j => nI ((plr S pl (b + 1)) j)))), (av, .inl (gI G, 8, .inl (fun j => nI ((vlr S sv va b) j)))), (h, .inr (10, [.ref a, .int nu, .int th])), (a, .inl (gI G, 8, .inl sh))]) rfl ?_
          refine V.extN (2) (f := vlr S sv va b) (g := vlr S sv va (b + 1)) rfl (fun z _ => congrFun (show vlr S sv va b = vlr S sv va (b + 1) from vlr_n sv va c_19) z) (ws' := [(hp, .inr (7, [.ref ap, .ref av, .int (nI (popb S (b + 1)))])), (ap, .inl (gI G, 8, .inl (fun j => nI ((plr S pl (b + 1)) j)))), (av, .inl (gI G, 8, .inl (fun j => nI ((vlr S sv va (b + 1)) j)))), (h, .inr (10, [.ref a, .int nu, .int th])), (a, .inl (gI G, 8, .inl sh))]) rfl ?_
          refine V.goto hC 7 dX5_takeFrom_61 rfl ?_
          exact ih7 (b + 1) (by omega) (by omega)
        · refine V.aload_n hC (x := hp) dX5_takeFrom_22 rfl ?_
          refine V.getf hC (T := TX5) q0_ 0 q2_ rfl (0) rfl rfl (by decide) (.ref ap) rfl dX5_takeFrom_23 ?_
          refine V.aload_n hC (x := hp) dX5_takeFrom_26 rfl ?_
          refine V.getf hC (T := TX5) q0_ 2 q1_ rfl (0) rfl rfl (by decide) (.int (nI (popb S b))) rfl dX5_takeFrom_27 ?_
          refine V.iload_n hC (x := nI b) dX5_takeFrom_30 rfl ?_
          refine V.iconst hC 1 dX5_takeFrom_31 rfl ?_
          refine V.iaddN hC b 1 dX5_takeFrom_32 rfl rfl ?_
          refine V.iastN hC dX5_takeFrom_33 (1) (f := plr S pl b) rfl (popb S b) (b + 1) rfl (by omega) (by decide) rfl [(hp, .inr (7, [.ref ap, .ref av, .int (nI (popb S b))])), (ap, .inl (gI G, 8, .inl (fun j => nI ((va_up (plr S pl b) (popb S b) (b + 1)) j)))), (av, .inl (gI G, 8, .inl (fun j => nI ((vlr S sv va b) j)))), (h, .inr (10, [.ref a, .int nu, .int th])), (a, .inl (gI G, 8, .inl sh))] rfl ?_
          refine V.aload_n hC (x := hp) dX5_takeFrom_34 rfl ?_
          refine V.getf hC (T := TX5) q0_ 1 q3_ rfl (0) rfl rfl (by decide) (.ref av) rfl dX5_takeFrom_35 ?_
          refine V.aload_n hC (x := hp) dX5_takeFrom_38 rfl ?_
          refine V.getf hC (T := TX5) q0_ 2 q1_ rfl (0) rfl rfl (by decide) (.int (nI (popb S b))) rfl dX5_takeFrom_39 ?_
          refine V.aload_n hC (x := h) dX5_takeFrom_42 rfl ?_
          refine V.iload_n hC (x := nI b) dX5_takeFrom_43 rfl ?_
          refine V.callVr (n := 1) (As := [.int (nI b)]) (rest := [.int (nI (popb S b)), .ref av]) hC (c_shareWith (kl K) G h a sh nu th b (by omega)) SFk0 SFgo0 gX5_takeFrom_X10_shareWith rfl ⟨rfl, rfl⟩ (by decide +kernel) ⟨by decide, by decide, by decide, by decide⟩ [3, 4] rfl (by decide) rfl rfl rfl rfl (Nat.le_of_ble_eq_true rfl) dX5_takeFrom_44 (fun r_44 u_44 hp_44 => ?_)
          subst hp_44
          show V G K 4 0 0 47 [some (.ref hp), some (.ref h), some (.int (nI S)), some (.int (nI b))] [.int (sh b), .int (nI (popb S b)), .ref av] [(hp, .inr (7, [.ref ap, .ref av, .int (nI (popb S b))])), (ap, .inl (gI G, 8, .inl (fun j => nI ((va_up (plr S pl b) (popb S b) (b + 1)) j)))), (av, .inl (gI G, 8, .inl (fun j => nI ((vlr S sv va b) j)))), (h, .inr (10, [.ref a, .int nu, .int th])), (a, .inl (gI G, 8, .inl sh))]
          refine V.topeq (nI (sv b)) (hsv b (by omega) c_19) ?_
          refine V.iastN hC dX5_takeFrom_47 (2) (f := vlr S sv va b) rfl (popb S b) (sv b) rfl (by omega) (by decide) rfl [(hp, .inr (7, [.ref ap, .ref av, .int (nI (popb S b))])), (ap, .inl (gI G, 8, .inl (fun j => nI ((va_up (plr S pl b) (popb S b) (b + 1)) j)))), (av, .inl (gI G, 8, .inl (fun j => nI ((va_up (vlr S sv va b) (popb S b) (sv b)) j)))), (h, .inr (10, [.ref a, .int nu, .int th])), (a, .inl (gI G, 8, .inl sh))] rfl ?_
          refine V.aload_n hC (x := hp) dX5_takeFrom_48 rfl ?_
          refine V.dup hC dX5_takeFrom_49 rfl ?_
          refine V.getf hC (T := TX5) q0_ 2 q1_ rfl (0) rfl rfl (by decide) (.int (nI (popb S b))) rfl dX5_takeFrom_50 ?_
          refine V.iconst hC 1 dX5_takeFrom_53 rfl ?_
          refine V.iaddN hC (popb S b) 1 dX5_takeFrom_54 rfl rfl ?_
          refine V.topeq (nI (popb S (b + 1))) (congrArg nI (popb_y c_19)) ?_
          refine V.putf hC (T := TX5) q0_ tyX5 tyX5_ok nmX5 2 q1_ rfl rfl (0) rfl rfl (by decide) (by simp) rfl rfl dX5_takeFrom_55 [(hp, .inr (7, [.ref ap, .ref av, .int (nI (popb S (b + 1)))])), (ap, .inl (gI G, 8, .inl (fun j => nI ((va_up (plr S pl b) (popb S b) (b + 1)) j)))), (av, .inl (gI G, 8, .inl (fun j => nI ((va_up (vlr S sv va b) (popb S b) (sv b)) j)))), (h, .inr (10, [.ref a, .int nu, .int th])), (a, .inl (gI G, 8, .inl sh))] rfl ?_
          refine V.iincN hC b 1 dX5_takeFrom_58 rfl [some (.ref hp), some (.ref h), some (.int (nI S)), some (.int (nI (b + 1)))] (Nat.le_of_ble_eq_true rfl) rfl rfl rfl ?_
          refine V.extN (1) (f := va_up (plr S pl b) (popb S b) (b + 1)) (g := plr S pl (b + 1)) rfl (fun z _ => congrFun (show va_up (plr S pl b) (popb S b) (b + 1) = plr S pl (b + 1) from plr_y pl c_19) z) (ws' := [(hp, .inr (7, [.ref ap, .ref av, .int (nI (popb S (b + 1)))])), (ap, .inl (gI G, 8, .inl (fun j => nI ((plr S pl (b + 1)) j)))), (av, .inl (gI G, 8, .inl (fun j => nI ((va_up (vlr S sv va b) (popb S b) (sv b)) j)))), (h, .inr (10, [.ref a, .int nu, .int th])), (a, .inl (gI G, 8, .inl sh))]) rfl ?_
          refine V.extN (2) (f := va_up (vlr S sv va b) (popb S b) (sv b)) (g := vlr S sv va (b + 1)) rfl (fun z _ => congrFun (show va_up (vlr S sv va b) (popb S b) (sv b) = vlr S sv va (b + 1) from vlr_y sv va c_19) z) (ws' := [(hp, .inr (7, [.ref ap, .ref av, .int (nI (popb S (b + 1)))])), (ap, .inl (gI G, 8, .inl (fun j => nI ((plr S pl (b + 1)) j)))), (av, .inl (gI G, 8, .inl (fun j => nI ((vlr S sv va (b + 1)) j)))), (h, .inr (10, [.ref a, .int nu, .int th])), (a, .inl (gI G, 8, .inl sh))]) rfl ?_
          refine V.goto hC 7 dX5_takeFrom_61 rfl ?_
          exact ih7 (b + 1) (by omega) (by omega)
  exact loop7 _ 0 (Nat.lt_succ_self _) (by omega)

set_option maxHeartbeats 4000000 in
set_option maxRecDepth 100000 in
theorem c_pointsAt (l : Launch) (G : Gx) (hp ap av cn : Nat) (pl va : Nat → Nat) (hcn : cn ≤ 8) (hpl : ∀ j, j < cn → pl j ≤ 8) (hva : ∀ j, j < cn → va j < 97) (x : Nat) (hx : x ≤ 8) : Ct l G SF0 yX5_valueAt wsX5_valueAt ({ frames := 1, cells := 0, slots := 0, locals := 23 }) [.ref hp, .int (nI x)] [(hp, .inr (7, [.ref ap, .ref av, .int (nI cn)])), (ap, .inl (gI G, 8, .inl (fun j => nI (pl j)))), (av, .inl (gI G, 8, .inl (fun j => nI (va j))))] mkI (fun (r : Int32) (_ : Unit) => r = nI (lgv pl va cn x cn)) (fun _ : Unit => [(hp, .inr (7, [.ref ap, .ref av, .int (nI cn)])), (ap, .inl (gI G, 8, .inl (fun j => nI (pl j)))), (av, .inl (gI G, 8, .inl (fun j => nI (va j))))]) 0 0 := by
  refine Ct.ofI (cc := cX5_valueAt) (maxL := 7) (by decide) rfl ⟨by simp [Value.category], Nat.le_of_ble_eq_true rfl⟩ ?_
  intro K hl hC hSF hnm hE
  subst hl
  have q0_ : ∀ w ∈ u_ws RX5 TX5 3, w ∈ wsX5_valueAt := by decide +kernel
  have q1_ : Cond.fieldLink RX5 18 "FeatherShares$Points" "count" "I" ∈ wsX5_valueAt := by decide +kernel
  have q2_ : Cond.fieldLink RX5 15 "FeatherShares$Points" "values" "[I" ∈ wsX5_valueAt := by decide +kernel
  have q3_ : Cond.fieldLink RX5 9 "FeatherShares$Points" "places" "[I" ∈ wsX5_valueAt := by decide +kernel
  show V G K 7 0 0 0 [some (.ref hp), some (.int (nI x)), none, none, none, none, none] [] [(hp, .inr (7, [.ref ap, .ref av, .int (nI cn)])), (ap, .inl (gI G, 8, .inl (fun j => nI (pl j)))), (av, .inl (gI G, 8, .inl (fun j => nI (va j))))]
  refine V.iconst hC 0 dX5_valueAt_0 rfl ?_
  refine V.istore_n hC dX5_valueAt_1 [some (.ref hp), some (.int (nI x)), some (.int 0), none, none, none, none] (Nat.le_of_ble_eq_true rfl) rfl ?_
  refine V.iconst hC 0 dX5_valueAt_2 rfl ?_
  refine V.istore_n hC dX5_valueAt_3 [some (.ref hp), some (.int (nI x)), some (.int 0), some (.int 0), none, none, none] (Nat.le_of_ble_eq_true rfl) rfl ?_
  have loop4 : ∀ (n : Nat) (i : Nat), 9 - i < n → (i ≤ cn) → V G K 7 0 0 4 [some (.ref hp), some (.int (nI x)), some (.int (nI (lgv pl va cn x i))), some (.int (nI i)), none, none, none] [] [(hp, .inr (7, [.ref ap, .ref av, .int (nI cn)])), (ap, .inl (gI G, 8, .inl (fun j => nI (pl j)))), (av, .inl (gI G, 8, .inl (fun j => nI (va j))))] := by
    intro n
    induction n with
    | zero => intro i hlt; exact absurd hlt (Nat.not_lt_zero _)
    | succ n ih4 =>
      intro i hlt4 hi
      have hg := lgv_lt pl va cn x i
      refine V.iload_n hC (x := nI i) dX5_valueAt_4 rfl ?_
      refine V.aload_n hC (x := hp) dX5_valueAt_5 rfl ?_
      refine V.getf hC (T := TX5) q0_ 2 q1_ rfl (0) rfl rfl (by decide) (.int (nI cn)) rfl dX5_valueAt_6 ?_
      refine V.icmpN_ge hC i cn 115 dX5_valueAt_9 rfl rfl rfl (by omega) (by omega) (fun c_9 => ?_) (fun c_9 => ?_)
      · refine V.lset 2 (x := .int (nI (lgv pl va cn x i))) (y := .int (nI (lgv pl va cn x cn))) (congrArg Value.int (by rw [show i = cn by omega])) rfl (lv' := [some (.ref hp), some (.int (nI x)), some (.int (nI (lgv pl va cn x cn))), some (.int (nI i)), none, none, none]) rfl ?_
        refine V.iload_n hC (x := nI (lgv pl va cn x cn)) dX5_valueAt_115 rfl ?_
        exact hE 116 _ (nI (lgv pl va cn x cn)) () dX5_valueAt_116 rfl rfl
      · refine V.iconst hC 1 dX5_valueAt_12 rfl ?_
        refine V.istore hC dX5_valueAt_13 [some (.ref hp), some (.int (nI x)), some (.int (nI (lgv pl va cn x i))), some (.int (nI i)), some (.int 1), none, none] (Nat.le_of_ble_eq_true rfl) rfl ?_
        refine V.iconst hC 1 dX5_valueAt_15 rfl ?_
        refine V.istore hC dX5_valueAt_16 [some (.ref hp), some (.int (nI x)), some (.int (nI (lgv pl va cn x i))), some (.int (nI i)), some (.int 1), some (.int 1), none] (Nat.le_of_ble_eq_true rfl) rfl ?_
        refine V.iconst hC 0 dX5_valueAt_18 rfl ?_
        refine V.istore hC dX5_valueAt_19 [some (.ref hp), some (.int (nI x)), some (.int (nI (lgv pl va cn x i))), some (.int (nI i)), some (.int 1), some (.int 1), some (.int 0)] (Nat.le_of_ble_eq_true rfl) rfl ?_
        have loop21 : ∀ (n : Nat) (j : Nat), 9 - j < n → (j ≤ cn) → V G K 7 0 0 21 [some (.ref hp), some (.int (nI x)), some (.int (nI (lgv pl va cn x i))), some (.int (nI i)), some (.int (nI ((abl pl x i j).1))), some (.int (nI ((abl pl x i j).2))), some (.int (nI j))] [] [(hp, .inr (7, [.ref ap, .ref av, .int (nI cn)])), (ap, .inl (gI G, 8, .inl (fun j => nI (pl j)))), (av, .inl (gI G, 8, .inl (fun j => nI (va j))))] := by
          intro n
          induction n with
          | zero => intro j hlt; exact absurd hlt (Nat.not_lt_zero _)
          | succ n ih21 =>
            intro j hlt21 hj
            have hv := abl_lt pl x i j
            refine V.iload hC (x := nI j) dX5_valueAt_21 rfl ?_
            refine V.aload_n hC (x := hp) dX5_valueAt_23 rfl ?_
            refine V.getf hC (T := TX5) q0_ 2 q1_ rfl (0) rfl rfl (by decide) (.int (nI cn)) rfl dX5_valueAt_24 ?_
            refine V.icmpN_ge hC j cn 85 dX5_valueAt_27 rfl rfl rfl (by omega) (by omega) (fun c_27 => ?_) (fun c_27 => ?_)
            · refine V.lset 4 (x := .int (nI ((abl pl x i j).1))) (y := .int (nI ((abl pl x i cn).1))) (congrArg Value.int (by rw [show j = cn by omega])) rfl (lv' := [some (.ref hp), some (.int (nI x)), some (.int (nI (lgv pl va cn x i))), some (.int (nI i)), some (.int (nI ((abl pl x i cn).1))), some (.int (nI ((abl pl x i j).2))), some (.int (nI j))]) rfl ?_
              refine V.lset 5 (x := .int (nI ((abl pl x i j).2))) (y := .int (nI ((abl pl x i cn).2))) (congrArg Value.int (by rw [show j = cn by omega])) rfl (lv' := [some (.ref hp), some (.int (nI x)), some (.int (nI (lgv pl va cn x i))), some (.int (nI i)), some (.int (nI ((abl pl x i cn).1))), some (.int (nI ((abl pl x i cn).2))), some (.int (nI j))]) rfl ?_
              have hv := abl_lt pl x i cn
              refine V.iload_n hC (x := nI (lgv pl va cn x i)) dX5_valueAt_85 rfl ?_
              refine V.aload_n hC (x := hp) dX5_valueAt_86 rfl ?_
              refine V.getf hC (T := TX5) q0_ 1 q2_ rfl (0) rfl rfl (by decide) (.ref av) rfl dX5_valueAt_87 ?_
              refine V.iload_n hC (x := nI i) dX5_valueAt_90 rfl ?_
              refine V.ialdN hC dX5_valueAt_91 (2) (f := va) rfl i rfl (by omega) (by decide) ?_
              refine V.iload hC (x := nI ((abl pl x i cn).1)) dX5_valueAt_92 rfl ?_
              refine V.imulN hC (va i) ((abl pl x i cn).1) dX5_valueAt_94 rfl rfl ?_
              refine V.bipush hC 97 dX5_valueAt_95 rfl ?_
              refine V.iremN hC ((va i) * ((abl pl x i cn).1)) 97 dX5_valueAt_97 rfl rfl (m31 (Nat.le_of_lt (hva i (by omega))) (Nat.le_of_lt hv.1) (by decide)) (by decide) (by decide) ?_
              refine V.iload hC (x := nI ((abl pl x i cn).2)) dX5_valueAt_98 rfl ?_
              refine V.callSr (n := 1) (As := [.int (nI ((abl pl x i cn).2))]) (rest := [.int (nI (((va i) * ((abl pl x i cn).1)) % 97)), .int (nI (lgv pl va cn x i))]) hC (c_inverseOf (kl K) G ((abl pl x i cn).2) (by omega)) SFk0 SFgo0 gX5_valueAt_X9_inverseOf rfl ⟨rfl, rfl⟩ (by decide +kernel) ⟨by decide, by decide, by decide, by decide⟩ [] rfl (by decide) rfl rfl (Nat.le_of_ble_eq_true rfl) dX5_valueAt_100 (fun r_100 u_100 hp_100 => ?_)
              subst hp_100
              show V G K 7 0 0 103 [some (.ref hp), some (.int (nI x)), some (.int (nI (lgv pl va cn x i))), some (.int (nI i)), some (.int (nI ((abl pl x i cn).1))), some (.int (nI ((abl pl x i cn).2))), some (.int (nI j))] [.int (nI (inv97 (abl pl x i cn).2)), .int (nI (((va i) * ((abl pl x i cn).1)) % 97)), .int (nI (lgv pl va cn x i))] [(hp, .inr (7, [.ref ap, .ref av, .int (nI cn)])), (ap, .inl (gI G, 8, .inl (fun j => nI (pl j)))), (av, .inl (gI G, 8, .inl (fun j => nI (va j))))]
              refine V.imulN hC (((va i) * ((abl pl x i cn).1)) % 97) (inv97 (abl pl x i cn).2) dX5_valueAt_103 rfl rfl ?_
              refine V.iaddN hC (lgv pl va cn x i) ((((va i) * ((abl pl x i cn).1)) % 97) * (inv97 (abl pl x i cn).2)) dX5_valueAt_104 rfl rfl ?_
              refine V.bipush hC 97 dX5_valueAt_105 rfl ?_
              refine V.iremN hC ((lgv pl va cn x i) + ((((va i) * ((abl pl x i cn).1)) % 97) * (inv97 (abl pl x i cn).2))) 97 dX5_valueAt_107 rfl rfl (by have h1 := m31 (Nat.le_of_lt (Nat.mod_lt (va i * (abl pl x i cn).1) (show 0 < 97 by decide))) (Nat.le_of_lt (inv97_lt (abl pl x i cn).2)) (by decide); have h2 := Nat.mul_le_mul (Nat.le_of_lt (Nat.mod_lt (va i * (abl pl x i cn).1) (show 0 < 97 by decide))) (Nat.le_of_lt (inv97_lt (abl pl x i cn).2)); omega) (by decide) (by decide) ?_
              refine V.istore_n hC dX5_valueAt_108 [some (.ref hp), some (.int (nI x)), some (.int (nI (((lgv pl va cn x i) + ((((va i) * ((abl pl x i cn).1)) % 97) * (inv97 (abl pl x i cn).2))) % 97))), some (.int (nI i)), some (.int (nI ((abl pl x i cn).1))), some (.int (nI ((abl pl x i cn).2))), some (.int (nI j))] (Nat.le_of_ble_eq_true rfl) rfl ?_
              refine V.iincN hC i 1 dX5_valueAt_109 rfl [some (.ref hp), some (.int (nI x)), some (.int (nI (((lgv pl va cn x i) + ((((va i) * ((abl pl x i cn).1)) % 97) * (inv97 (abl pl x i cn).2))) % 97))), some (.int (nI (i + 1))), some (.int (nI ((abl pl x i cn).1))), some (.int (nI ((abl pl x i cn).2))), some (.int (nI j))] (Nat.le_of_ble_eq_true rfl) rfl rfl rfl ?_
              refine V.goto hC 4 dX5_valueAt_112 rfl ?_
              refine V.drop 4 (lv' := [some (.ref hp), some (.int (nI x)), some (.int (nI (((lgv pl va cn x i) + ((((va i) * ((abl pl x i cn).1)) % 97) * (inv97 (abl pl x i cn).2))) % 97))), some (.int (nI (i + 1))), none, some (.int (nI ((abl pl x i cn).2))), some (.int (nI j))]) rfl ?_
              refine V.drop 5 (lv' := [some (.ref hp), some (.int (nI x)), some (.int (nI (((lgv pl va cn x i) + ((((va i) * ((abl pl x i cn).1)) % 97) * (inv97 (abl pl x i cn).2))) % 97))), some (.int (nI (i + 1))), none, none, some (.int (nI j))]) rfl ?_
              refine V.drop 6 (lv' := [some (.ref hp), some (.int (nI x)), some (.int (nI (((lgv pl va cn x i) + ((((va i) * ((abl pl x i cn).1)) % 97) * (inv97 (abl pl x i cn).2))) % 97))), some (.int (nI (i + 1))), none, none, none]) rfl ?_
              exact ih4 (i + 1) (by omega) (by omega)
            · refine V.iload hC (x := nI j) dX5_valueAt_30 rfl ?_
              refine V.iload_n hC (x := nI i) dX5_valueAt_32 rfl ?_
              refine V.icmpN_eq hC j i 79 dX5_valueAt_33 rfl rfl rfl (by omega) (by omega) (fun c_33 => ?_) (fun c_33 => ?_)
              · refine V.iincN hC j 1 dX5_valueAt_79 rfl [some (.ref hp), some (.int (nI x)), some (.int (nI (lgv pl va cn x i))), some (.int (nI i)), some (.int (nI ((abl pl x i j).1))), some (.int (nI ((abl pl x i j).2))), some (.int (nI (j + 1)))] (Nat.le_of_ble_eq_true rfl) rfl rfl rfl ?_
                refine V.lset 4 (x := .int (nI ((abl pl x i j).1))) (y := .int (nI ((abl pl x i (j + 1)).1))) (congrArg Value.int (congrArg nI (by rw [abl, if_pos c_33]))) rfl (lv' := [some (.ref hp), some (.int (nI x)), some (.int (nI (lgv pl va cn x i))), some (.int (nI i)), some (.int (nI ((abl pl x i (j + 1)).1))), some (.int (nI ((abl pl x i j).2))), some (.int (nI (j + 1)))]) rfl ?_
                refine V.lset 5 (x := .int (nI ((abl pl x i j).2))) (y := .int (nI ((abl pl x i (j + 1)).2))) (congrArg Value.int (congrArg nI (by rw [abl, if_pos c_33]))) rfl (lv' := [some (.ref hp), some (.int (nI x)), some (.int (nI (lgv pl va cn x i))), some (.int (nI i)), some (.int (nI ((abl pl x i (j + 1)).1))), some (.int (nI ((abl pl x i (j + 1)).2))), some (.int (nI (j + 1)))]) rfl ?_
                refine V.goto hC 21 dX5_valueAt_82 rfl ?_
                exact ih21 (j + 1) (by omega) (by omega)
              · refine V.iload hC (x := nI ((abl pl x i j).1)) dX5_valueAt_36 rfl ?_
                refine V.iload_n hC (x := nI x) dX5_valueAt_38 rfl ?_
                refine V.aload_n hC (x := hp) dX5_valueAt_39 rfl ?_
                refine V.getf hC (T := TX5) q0_ 0 q3_ rfl (0) rfl rfl (by decide) (.ref ap) rfl dX5_valueAt_40 ?_
                refine V.iload hC (x := nI j) dX5_valueAt_43 rfl ?_
                refine V.ialdN hC dX5_valueAt_45 (1) (f := pl) rfl j rfl (by omega) (by decide) ?_
                refine V.callSr (n := 2) (As := [.int (nI x), .int (nI (pl j))]) (rest := [.int (nI ((abl pl x i j).1))]) hC (c_difference (kl K) G x (pl j) (by omega) (by have := hpl j (by omega); omega)) SFk0 SFgo0 gX5_valueAt_X9_difference rfl ⟨rfl, rfl⟩ (by decide +kernel) ⟨by decide, by decide, by decide, by decide⟩ [] rfl (by decide) rfl rfl (Nat.le_of_ble_eq_true rfl) dX5_valueAt_46 (fun r_46 u_46 hp_46 => ?_)
                subst hp_46
                show V G K 7 0 0 49 [some (.ref hp), some (.int (nI x)), some (.int (nI (lgv pl va cn x i))), some (.int (nI i)), some (.int (nI ((abl pl x i j).1))), some (.int (nI ((abl pl x i j).2))), some (.int (nI j))] [.int (nI (dif97 x (pl j))), .int (nI ((abl pl x i j).1))] [(hp, .inr (7, [.ref ap, .ref av, .int (nI cn)])), (ap, .inl (gI G, 8, .inl (fun j => nI (pl j)))), (av, .inl (gI G, 8, .inl (fun j => nI (va j))))]
                refine V.imulN hC ((abl pl x i j).1) (dif97 x (pl j)) dX5_valueAt_49 rfl rfl ?_
                refine V.bipush hC 97 dX5_valueAt_50 rfl ?_
                refine V.iremN hC (((abl pl x i j).1) * (dif97 x (pl j))) 97 dX5_valueAt_52 rfl rfl (m31 (Nat.le_of_lt hv.1) (Nat.le_of_lt (dif97_lt _ _)) (by decide)) (by decide) (by decide) ?_
                refine V.istore hC dX5_valueAt_53 [some (.ref hp), some (.int (nI x)), some (.int (nI (lgv pl va cn x i))), some (.int (nI i)), some (.int (nI ((((abl pl x i j).1) * (dif97 x (pl j))) % 97))), some (.int (nI ((abl pl x i j).2))), some (.int (nI j))] (Nat.le_of_ble_eq_true rfl) rfl ?_
                refine V.iload hC (x := nI ((abl pl x i j).2)) dX5_valueAt_55 rfl ?_
                refine V.aload_n hC (x := hp) dX5_valueAt_57 rfl ?_
                refine V.getf hC (T := TX5) q0_ 0 q3_ rfl (0) rfl rfl (by decide) (.ref ap) rfl dX5_valueAt_58 ?_
                refine V.iload_n hC (x := nI i) dX5_valueAt_61 rfl ?_
                refine V.ialdN hC dX5_valueAt_62 (1) (f := pl) rfl i rfl (by omega) (by decide) ?_
                refine V.aload_n hC (x := hp) dX5_valueAt_63 rfl ?_
                refine V.getf hC (T := TX5) q0_ 0 q3_ rfl (0) rfl rfl (by decide) (.ref ap) rfl dX5_valueAt_64 ?_
                refine V.iload hC (x := nI j) dX5_valueAt_67 rfl ?_
                refine V.ialdN hC dX5_valueAt_69 (1) (f := pl) rfl j rfl (by omega) (by decide) ?_
                refine V.callSr (n := 2) (As := [.int (nI (pl i)), .int (nI (pl j))]) (rest := [.int (nI ((abl pl x i j).2))]) hC (c_difference (kl K) G (pl i) (pl j) (by have := hpl i (by omega); omega) (by have := hpl j (by omega); omega)) SFk0 SFgo0 gX5_valueAt_X9_difference rfl ⟨rfl, rfl⟩ (by decide +kernel) ⟨by decide, by decide, by decide, by decide⟩ [] rfl (by decide) rfl rfl (Nat.le_of_ble_eq_true rfl) dX5_valueAt_70 (fun r_70 u_70 hp_70 => ?_)
                subst hp_70
                show V G K 7 0 0 73 [some (.ref hp), some (.int (nI x)), some (.int (nI (lgv pl va cn x i))), some (.int (nI i)), some (.int (nI ((((abl pl x i j).1) * (dif97 x (pl j))) % 97))), some (.int (nI ((abl pl x i j).2))), some (.int (nI j))] [.int (nI (dif97 (pl i) (pl j))), .int (nI ((abl pl x i j).2))] [(hp, .inr (7, [.ref ap, .ref av, .int (nI cn)])), (ap, .inl (gI G, 8, .inl (fun j => nI (pl j)))), (av, .inl (gI G, 8, .inl (fun j => nI (va j))))]
                refine V.imulN hC ((abl pl x i j).2) (dif97 (pl i) (pl j)) dX5_valueAt_73 rfl rfl ?_
                refine V.bipush hC 97 dX5_valueAt_74 rfl ?_
                refine V.iremN hC (((abl pl x i j).2) * (dif97 (pl i) (pl j))) 97 dX5_valueAt_76 rfl rfl (m31 (Nat.le_of_lt hv.2) (Nat.le_of_lt (dif97_lt _ _)) (by decide)) (by decide) (by decide) ?_
                refine V.istore hC dX5_valueAt_77 [some (.ref hp), some (.int (nI x)), some (.int (nI (lgv pl va cn x i))), some (.int (nI i)), some (.int (nI ((((abl pl x i j).1) * (dif97 x (pl j))) % 97))), some (.int (nI ((((abl pl x i j).2) * (dif97 (pl i) (pl j))) % 97))), some (.int (nI j))] (Nat.le_of_ble_eq_true rfl) rfl ?_
                refine V.iincN hC j 1 dX5_valueAt_79 rfl [some (.ref hp), some (.int (nI x)), some (.int (nI (lgv pl va cn x i))), some (.int (nI i)), some (.int (nI ((((abl pl x i j).1) * (dif97 x (pl j))) % 97))), some (.int (nI ((((abl pl x i j).2) * (dif97 (pl i) (pl j))) % 97))), some (.int (nI (j + 1)))] (Nat.le_of_ble_eq_true rfl) rfl rfl rfl ?_
                refine V.lset 4 (x := .int (nI ((((abl pl x i j).1) * (dif97 x (pl j))) % 97))) (y := .int (nI ((abl pl x i (j + 1)).1))) (congrArg Value.int (congrArg nI (by rw [abl, if_neg c_33]))) rfl (lv' := [some (.ref hp), some (.int (nI x)), some (.int (nI (lgv pl va cn x i))), some (.int (nI i)), some (.int (nI ((abl pl x i (j + 1)).1))), some (.int (nI ((((abl pl x i j).2) * (dif97 (pl i) (pl j))) % 97))), some (.int (nI (j + 1)))]) rfl ?_
                refine V.lset 5 (x := .int (nI ((((abl pl x i j).2) * (dif97 (pl i) (pl j))) % 97))) (y := .int (nI ((abl pl x i (j + 1)).2))) (congrArg Value.int (congrArg nI (by rw [abl, if_neg c_33]))) rfl (lv' := [some (.ref hp), some (.int (nI x)), some (.int (nI (lgv pl va cn x i))), some (.int (nI i)), some (.int (nI ((abl pl x i (j + 1)).1))), some (.int (nI ((abl pl x i (j + 1)).2))), some (.int (nI (j + 1)))]) rfl ?_
                refine V.goto hC 21 dX5_valueAt_82 rfl ?_
                exact ih21 (j + 1) (by omega) (by omega)
        exact loop21 _ 0 (Nat.lt_succ_self _) (by omega)
  exact loop4 _ 0 (Nat.lt_succ_self _) (by omega)
