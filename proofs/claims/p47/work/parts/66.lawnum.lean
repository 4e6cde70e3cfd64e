/-! the law's own methods: numbers (printed by gen/s64p.py) -/
/-- the classes that the law's handlers catch: the kit's lists hold the first handler's alone -/
def hx9 : List Cond := [Cond.classLink RL 52 "java/lang/IndexOutOfBoundsException", Cond.classLink RL 54 "java/lang/IllegalArgumentException", Cond.classLink RL 56 "java/lang/IllegalStateException", Cond.classLink RL 58 "java/lang/UnsupportedOperationException", Cond.classLink RL 60 "java/util/NoSuchElementException"]
theorem hx9_52 : Cond.classLink RL 52 "java/lang/IndexOutOfBoundsException" ∈ hx9 := by decide +kernel
theorem hx9_54 : Cond.classLink RL 54 "java/lang/IllegalArgumentException" ∈ hx9 := by decide +kernel
theorem hx9_56 : Cond.classLink RL 56 "java/lang/IllegalStateException" ∈ hx9 := by decide +kernel
theorem hx9_58 : Cond.classLink RL 58 "java/lang/UnsupportedOperationException" ∈ hx9 := by decide +kernel
theorem hx9_60 : Cond.classLink RL 60 "java/util/NoSuchElementException" ∈ hx9 := by decide +kernel
theorem hx_in {w : Cond} {T : List Cond} (h : w ∈ hx9) : w ∈ T ++ hx9 := List.mem_append.mpr (Or.inr h)
theorem gx1 {T L : List Cond} (h : GoodIn T L) : GoodIn (T ++ hx9) L := fun w hw => ⟨List.mem_append.mpr (Or.inl (h w hw).1), (h w hw).2⟩
theorem gx9 {T : List Cond} : GoodIn (T ++ hx9) hx9 := goodIn_sub (fun _ h => hx_in h) (by decide +kernel)
theorem gx2 {T ws : List Cond} {own : String} {i : Nat} {y : MethodName} (h : GoodIn T (va_wsS own i y ws)) : GoodIn (T ++ hx9) (va_wsS own i y (ws ++ hx9)) := by
  intro w hw
  unfold va_wsS at h hw
  rcases List.mem_append.mp hw with h1 | h1
  · exact gx1 h w (List.mem_append.mpr (Or.inl h1))
  · rcases List.mem_append.mp h1 with h2 | h2
    · exact gx1 h w (List.mem_append.mpr (Or.inr h2))
    · exact gx9 w h2
theorem n97 {a b : Nat} (ha : a < 97) (hb : b < 97) : nI a - nI b + 97 = nI (a + 97 - b) := by
  rw [show (97 : Int32) = nI 97 from rfl, show nI a - nI b + nI 97 = nI a + nI 97 - nI b by rw [Int32.sub_eq_add_neg, Int32.sub_eq_add_neg, Int32.add_assoc, Int32.add_comm (-nI b), ← Int32.add_assoc], nI_add]
  exact pk_sub (by omega)
theorem d97s {a b : Nat} (hb : b < 97) : (a + 97 - b) % 97 = dif97 a b := by rw [dif97, Nat.mod_eq_of_lt hb]
theorem m97 {a b : Nat} (ha : a < 97) (hb : b < 97) : a * b < 2 ^ 31 := by
  have := Nat.mul_le_mul (Nat.le_of_lt_succ ha) (Nat.le_of_lt_succ hb)
  omega
theorem ma97 {a b c : Nat} (ha : a < 97) (hb : b < 97) (hc : c < 97) : a * b + c < 2 ^ 31 := by
  have := Nat.mul_le_mul (Nat.le_of_lt_succ ha) (Nat.le_of_lt_succ hb)
  omega
theorem ext_up {g h : Nat → Nat} {k : Nat} (hg : ∀ j, j < k → g j = h j) : ∀ j, j < k + 1 → va_up g k (h k) j = h j := by
  intro j hj
  by_cases e : j = k
  · rw [e, va_up_self]
  · rw [va_up_ne _ _ e]
    exact hg j (by omega)
theorem nwd_step {pf sf g : Nat → Nat} {r k t : Nat} (h1 : 1 ≤ r) (hr : r ≤ k) (hk : k < t) (hg : ∀ j, j < t → g j = if k < j then nwd pf sf r j else nwd pf sf (r - 1) j) : ∀ j, j < t → va_up g k (dif97 (g k) (g (k - 1)) * inv97 (dif97 (pf k) (pf (k - r))) % 97) j = if k - 1 < j then nwd pf sf r j else nwd pf sf (r - 1) j := by
  intro j hj
  obtain ⟨q, rfl⟩ : ∃ q, r = q + 1 := ⟨r - 1, by omega⟩
  by_cases e : j = k
  · subst e
    rw [va_up_self, if_pos (by omega), hg j hj, hg (j - 1) (by omega), if_neg (by omega), if_neg (by omega), nwd_hi (by omega)]
    all_goals rfl
  · rw [va_up_ne _ _ e, hg j hj]
    by_cases z : k < j
    · rw [if_pos z, if_pos (by omega)]
    · rw [if_neg z, if_neg (by omega)]
theorem nwd_next {pf sf g : Nat → Nat} {r k t : Nat} (h1 : 1 ≤ r) (hr : r - 1 ≤ k) (hk : k < r) (hg : ∀ j, j < t → g j = if k < j then nwd pf sf r j else nwd pf sf (r - 1) j) : ∀ j, j < t → g j = nwd pf sf (r + 1 - 1) j := by
  intro j hj
  obtain ⟨q, rfl⟩ : ∃ q, r = q + 1 := ⟨r - 1, by omega⟩
  rw [hg j hj, show q + 1 + 1 - 1 = q + 1 by omega]
  by_cases z : k < j
  · rw [if_pos z]
  · rw [if_neg z, nwd_lo (by omega)]
    all_goals rfl
theorem nwe_next {pf g : Nat → Nat} {t x m v : Nat} (hm : 1 ≤ m) (hmt : m ≤ t) (hv : v = nwe pf g t x (t - m)) : (v * dif97 x (pf (m - 1)) + g (m - 1)) % 97 = nwe pf g t x (t - (m - 1)) := by
  obtain ⟨n, hn⟩ : ∃ n, n = t - m := ⟨_, rfl⟩
  rw [show t - (m - 1) = n + 1 by omega, nwe, hv, ← hn, show t - 1 - n = m - 1 by omega]
theorem m1_lt {m : Nat} (hm : m < 1000) (h : nI m + (-1) < 0) : m = 0 := by
  rcases Nat.eq_zero_or_pos m with z | z
  · exact z
  · rw [nI_dec z] at h
    exact absurd h (nI_pos (by omega))
theorem m1_nlt {m : Nat} (h : ¬ nI m + (-1) < 0) : 1 ≤ m := by
  rcases Nat.eq_zero_or_pos m with z | z
  · subst z
    exact absurd (by decide) h
  · exact z
theorem m1_sub (t : Nat) : nI t - 1 = nI t + (-1) := by rw [Int32.sub_eq_add_neg]
theorem shl1 {m : Nat} (h : m ≤ 8) : (1 : Int32) <<< (nI m &&& 31) = nI (2 ^ m) := by
  have : ∀ k, k < 9 → (1 : Int32) <<< (nI k &&& 31) = nI (2 ^ k) := by decide
  exact this m (by omega)
theorem shrN {c k : Nat} (hc : c < 2 ^ 31) (hk : k ≤ 8) : nI c >>> (nI k &&& 31) = nI (c / 2 ^ k) := by
  have e : nI k &&& 31 = nI k := by
    have : ∀ q, q < 9 → nI q &&& 31 = nI q := by decide
    exact this k (by omega)
  rw [e]
  have h2 : ∀ q, q < 9 → ((nI q).toBitVec.smod 32).toNat = q := by decide
  exact pk_shrN hc (nI k) k (h2 k (by omega))
theorem lp_lt {H m : Nat} {p0 : Nat → Nat} (hm : popb H 8 = m) : ∀ j, j < m → plr H p0 8 j < 97 := fun j hj => Nat.lt_of_le_of_lt (plr_le (by rw [hm]; exact hj)) (by decide)
theorem ls_lt {H m : Nat} {v v0 : Nat → Nat} (hm : popb H 8 = m) (hv : ∀ b, b < 8 → H / 2 ^ b % 2 = 1 → v b < 97) : ∀ j, j < m → vlr H v v0 8 j < 97 := fun j hj => vlr_lt hv (by rw [hm]; exact hj)
theorem lc_p {H m c t : Nat} {p0 f : Nat → Nat} (hm : popb H 8 = m) (hc : t = popb c m) : ∀ j, j < t → chl (plr H p0 8) c f m j < 97 := by
  intro j hj
  subst hm
  have e : j < popb (cmk H c 8) 8 := by rw [cmk_pop H c 8 (Nat.le_refl 8)]; omega
  rw [chl_plr (p1 := fun _ => 0) e]
  exact Nat.lt_of_le_of_lt (plr_le e) (by decide)
theorem lc_s {H m c t : Nat} {v v0 f : Nat → Nat} (hm : popb H 8 = m) (hc : t = popb c m) (hv : ∀ b, b < 8 → H / 2 ^ b % 2 = 1 → v b < 97) : ∀ j, j < t → chl (vlr H v v0 8) c f m j < 97 := by
  intro j hj
  subst hm
  have e : j < popb (cmk H c 8) 8 := by rw [cmk_pop H c 8 (Nat.le_refl 8)]; omega
  rw [chl_vlr (v1 := fun _ => 0) e]
  exact vlr_lt (fun b hb hs => hv b hb ((cmk_bit H c 8 b).mp hs).2.1) e
set_option maxHeartbeats 4000000 in
set_option maxRecDepth 100000 in
theorem l_told (l : Launch) (G : Gx) (b : Nat) (hb : b ≤ 1) : Ct l G SF0 yL_told (wsL_told ++ hx9) ({ frames := 0, cells := 0, slots := 0, locals := 0 }) [.int (nI b)] (flt []) mkI (fun (r : Int32) (_ : Unit) => r = nI b) (fun _ : Unit => (flt [])) 0 0 := by
  refine Ct.ofI (cc := cL_told) (maxL := 1) (by decide) rfl ⟨by simp [Value.category], Nat.le_of_ble_eq_true rfl⟩ ?_
  intro K hl hC hSF hnm hE
  subst hl
  show V G K 1 0 0 0 [some (.int (nI b))] [] (flt [])
  refine V.iload_n hC (x := nI b) dL_told_0 rfl ?_
  refine V.ifN_eq hC b 8 dL_told_1 rfl rfl (by omega) (fun c_1 => ?_) (fun c_1 => ?_)
  · refine V.iconst hC 0 dL_told_8 rfl ?_
    exact hE 9 _ 0 () dL_told_9 rfl (by rw [c_1]; all_goals rfl)
  · refine V.iconst hC 1 dL_told_4 rfl ?_
    refine V.goto hC 9 dL_told_5 rfl ?_
    exact hE 9 _ 1 () dL_told_9 rfl (by rw [show b = 1 by omega]; all_goals rfl)

set_option maxHeartbeats 4000000 in
set_option maxRecDepth 100000 in
theorem l_inverse (l : Launch) (G : Gx) (x : Nat) (hx : x < 97) : Ct l G SF0 yL_inverse (wsL_inverse ++ hx9) ({ frames := 0, cells := 0, slots := 0, locals := 0 }) [.int (nI x)] (flt []) mkI (fun (r : Int32) (_ : Unit) => r = nI (inv97 x)) (fun _ : Unit => (flt [])) 0 0 := by
  refine Ct.ofI (cc := cL_inverse) (maxL := 3) (by decide) rfl ⟨by simp [Value.category], Nat.le_of_ble_eq_true rfl⟩ ?_
  intro K hl hC hSF hnm hE
  subst hl
  show V G K 3 0 0 0 [some (.int (nI x)), none, none] [] (flt [])
  refine V.iconst hC 1 dL_inverse_0 rfl ?_
  refine V.istore_n hC dL_inverse_1 [some (.int (nI x)), some (.int 1), none] (Nat.le_of_ble_eq_true rfl) rfl ?_
  refine V.iconst hC 0 dL_inverse_2 rfl ?_
  refine V.istore_n hC dL_inverse_3 [some (.int (nI x)), some (.int 1), some (.int 0)] (Nat.le_of_ble_eq_true rfl) rfl ?_
  have loop4 : ∀ (n : Nat) (k : Nat), 95 - k < n → (k ≤ 95) → V G K 3 0 0 4 [some (.int (nI x)), some (.int (nI (pwl x k))), some (.int (nI k))] [] (flt []) := by
    intro n
    induction n with
    | zero => intro k hlt; exact absurd hlt (Nat.not_lt_zero _)
    | succ n ih4 =>
      intro k hlt4 hk
      have hpl := pwl_lt x k
      refine V.iload_n hC (x := nI k) dL_inverse_4 rfl ?_
      refine V.bipush hC 95 dL_inverse_5 rfl ?_
      refine V.icmpN_ge hC k 95 23 dL_inverse_7 rfl rfl rfl (by omega) (by omega) (fun c_7 => ?_) (fun c_7 => ?_)
      · refine V.iload_n hC (x := nI (pwl x k)) dL_inverse_23 rfl ?_
        exact hE 24 _ (nI (pwl x k)) () dL_inverse_24 rfl (by rw [← pwl_inv x hx, show k = 95 by omega])
      · refine V.iload_n hC (x := nI (pwl x k)) dL_inverse_10 rfl ?_
        refine V.iload_n hC (x := nI x) dL_inverse_11 rfl ?_
        refine V.imulN hC (pwl x k) x dL_inverse_12 rfl rfl ?_
        refine V.bipush hC 97 dL_inverse_13 rfl ?_
        refine V.iremN hC ((pwl x k) * x) 97 dL_inverse_15 rfl rfl (m97 hpl hx) (by decide) (by decide) ?_
        refine V.istore_n hC dL_inverse_16 [some (.int (nI x)), some (.int (nI (((pwl x k) * x) % 97))), some (.int (nI k))] (Nat.le_of_ble_eq_true rfl) rfl ?_
        refine V.iincN hC k 1 dL_inverse_17 rfl [some (.int (nI x)), some (.int (nI (((pwl x k) * x) % 97))), some (.int (nI (k + 1)))] (Nat.le_of_ble_eq_true rfl) rfl rfl rfl ?_
        refine V.goto hC 4 dL_inverse_20 rfl ?_
        exact ih4 (k + 1) (by omega) (by omega)
  exact loop4 _ 0 (Nat.lt_succ_self _) (Nat.zero_le _)

set_option maxHeartbeats 4000000 in
set_option maxRecDepth 100000 in
theorem l_valueAt (l : Launch) (G : Gx) (P S : Nat) (pf sf : Nat → Nat) (t x : Nat) (h1 : 1 ≤ t) (h8 : t ≤ 8) (hP : ∀ j, j < t → pf j < 97) (hS : ∀ j, j < t → sf j < 97) (hx : x < 97) : Ct l G SF0 yL_valueAt (wsL_valueAt ++ hx9) ({ frames := 1, cells := 1, slots := 8, locals := 22 }) [.ref P, .ref S, .int (nI t), .int (nI x)] (flt [[(P, .inl (gI G, 8, .inl (fun j => nI (pf j))))], [(S, .inl (gI G, 8, .inl (fun j => nI (sf j))))]]) mkI (fun (r : Int32) (_ : Unit) => r = nI (nwt pf sf t x)) (fun _ : Unit => (flt [[(P, .inl (gI G, 8, .inl (fun j => nI (pf j))))], [(S, .inl (gI G, 8, .inl (fun j => nI (sf j))))]])) 1 8 := by
  refine Ct.ofI (cc := cL_valueAt) (maxL := 8) (by decide) rfl ⟨by simp [Value.category], Nat.le_of_ble_eq_true rfl⟩ ?_
  intro K hl hC hSF hnm hE
  subst hl
  have q0_ : Cond.arrayClass .int ∈ (wsL_valueAt ++ hx9) := by decide +kernel
  show V G K 8 0 0 0 [some (.ref P), some (.ref S), some (.int (nI t)), some (.int (nI x)), none, none, none, none] [] (flt [[(P, .inl (gI G, 8, .inl (fun j => nI (pf j))))], [(S, .inl (gI G, 8, .inl (fun j => nI (sf j))))]])
  refine V.iload_n hC (x := nI t) dL_valueAt_0 rfl ?_
  refine V.newAB hC (atype := .int) 0 (cA := gI G) q0_ rfl t (t, .inl (fun j => nI ((fun _ => 0) j))) (fun _ => rfl) rfl (by omega) (by decide) (by show _ ≤ _; simp only []; omega) dL_valueAt_1 (fun q_1 => ?_)
  refine V.widen (k := 1) (n := 8) (Nat.le_refl _) (by omega) ?_
  show V G K 8 1 8 3 [some (.ref P), some (.ref S), some (.int (nI t)), some (.int (nI x)), none, none, none, none] [.ref q_1] (flt [[(q_1, .inl (gI G, t, .inl (fun j => nI ((fun _ => 0) j))))], [(P, .inl (gI G, 8, .inl (fun j => nI (pf j))))], [(S, .inl (gI G, 8, .inl (fun j => nI (sf j))))]])
  refine V.astore hC dL_valueAt_3 [some (.ref P), some (.ref S), some (.int (nI t)), some (.int (nI x)), some (.ref q_1), none, none, none] (Nat.le_of_ble_eq_true rfl) rfl ?_
  refine V.iconst hC 0 dL_valueAt_5 rfl ?_
  refine V.istore hC dL_valueAt_6 [some (.ref P), some (.ref S), some (.int (nI t)), some (.int (nI x)), some (.ref q_1), some (.int 0), none, none] (Nat.le_of_ble_eq_true rfl) rfl ?_
  have loop8 : ∀ (n : Nat) (k : Nat) (g : Nat → Nat), t - k < n → (k ≤ t) → (∀ j, j < k → g j = sf j) → V G K 8 1 8 8 [some (.ref P), some (.ref S), some (.int (nI t)), some (.int (nI x)), some (.ref q_1), some (.int (nI k)), none, none] [] (flt [[(q_1, .inl (gI G, t, .inl (fun j => nI (g j))))], [(P, .inl (gI G, 8, .inl (fun j => nI (pf j))))], [(S, .inl (gI G, 8, .inl (fun j => nI (sf j))))]]) := by
    intro n
    induction n with
    | zero => intro k g hlt; exact absurd hlt (Nat.not_lt_zero _)
    | succ n ih8 =>
      intro k g hlt8 hkt hg
      refine V.iload hC (x := nI k) dL_valueAt_8 rfl ?_
      refine V.iload_n hC (x := nI t) dL_valueAt_10 rfl ?_
      refine V.icmpN_ge hC k t 29 dL_valueAt_11 rfl rfl rfl (by omega) (by omega) (fun c_11 => ?_) (fun c_11 => ?_)
      · refine V.iconst hC 1 dL_valueAt_29 rfl ?_
        refine V.istore hC dL_valueAt_30 [some (.ref P), some (.ref S), some (.int (nI t)), some (.int (nI x)), some (.ref q_1), some (.int 1), none, none] (Nat.le_of_ble_eq_true rfl) rfl ?_
        have loop32 : ∀ (n : Nat) (r : Nat) (g : Nat → Nat), t - r < n → (1 ≤ r) → (r ≤ t) → (∀ j, j < t → g j = nwd pf sf (r - 1) j) → V G K 8 1 8 32 [some (.ref P), some (.ref S), some (.int (nI t)), some (.int (nI x)), some (.ref q_1), some (.int (nI r)), none, none] [] (flt [[(q_1, .inl (gI G, t, .inl (fun j => nI (g j))))], [(P, .inl (gI G, 8, .inl (fun j => nI (pf j))))], [(S, .inl (gI G, 8, .inl (fun j => nI (sf j))))]]) := by
          intro n
          induction n with
          | zero => intro r g hlt; exact absurd hlt (Nat.not_lt_zero _)
          | succ n ih32 =>
            intro r g hlt32 hr1 hrt hg
            refine V.iload hC (x := nI r) dL_valueAt_32 rfl ?_
            refine V.iload_n hC (x := nI t) dL_valueAt_34 rfl ?_
            refine V.icmpN_ge hC r t 115 dL_valueAt_35 rfl rfl rfl (by omega) (by omega) (fun c_35 => ?_) (fun c_35 => ?_)
            · have hgt : ∀ j, j < t → g j = nwd pf sf (t - 1) j := fun j hj => (hg j hj).trans (by rw [show r = t by omega])
              refine V.iconst hC 0 dL_valueAt_115 rfl ?_
              refine V.istore hC dL_valueAt_116 [some (.ref P), some (.ref S), some (.int (nI t)), some (.int (nI x)), some (.ref q_1), some (.int 0), none, none] (Nat.le_of_ble_eq_true rfl) rfl ?_
              refine V.iload_n hC (x := nI t) dL_valueAt_118 rfl ?_
              refine V.iconst hC 1 dL_valueAt_119 rfl ?_
              refine V.isub hC dL_valueAt_120 ?_
              refine V.topeq (nI t + (-1)) (m1_sub t) ?_
              refine V.istore hC dL_valueAt_121 [some (.ref P), some (.ref S), some (.int (nI t)), some (.int (nI x)), some (.ref q_1), some (.int 0), some (.int (nI t + (-1))), none] (Nat.le_of_ble_eq_true rfl) rfl ?_
              have loop123 : ∀ (n : Nat) (m : Nat) (v : Nat), m < n → (m ≤ t) → (v < 97) → (v = nwe pf g t x (t - m)) → V G K 8 1 8 123 [some (.ref P), some (.ref S), some (.int (nI t)), some (.int (nI x)), some (.ref q_1), some (.int (nI v)), some (.int (nI m + (-1))), none] [] (flt [[(q_1, .inl (gI G, t, .inl (fun j => nI (g j))))], [(P, .inl (gI G, 8, .inl (fun j => nI (pf j))))], [(S, .inl (gI G, 8, .inl (fun j => nI (sf j))))]]) := by
                intro n
                induction n with
                | zero => intro m v hlt; exact absurd hlt (Nat.not_lt_zero _)
                | succ n ih123 =>
                  intro m v hlt123 hmt hv97 hv
                  refine V.iload hC (x := nI m + (-1)) dL_valueAt_123 rfl ?_
                  refine V.if_lt hC 160 dL_valueAt_125 rfl (fun c_125 => ?_) (fun c_125 => ?_)
                  · have c125 := m1_lt (by omega) c_125
                    refine V.iload hC (x := nI v) dL_valueAt_160 rfl ?_
                    refine V.reN (N := 3) [1, 2] [[(P, .inl (gI G, 8, .inl (fun j => nI (pf j))))], [(S, .inl (gI G, 8, .inl (fun j => nI (sf j))))]] rfl (by decide) rfl ?_
                    exact hE 162 _ (nI v) () dL_valueAt_162 rfl (congrArg nI (hv.trans (by rw [c125, Nat.sub_zero]; exact nwe_congr (fun _ _ => rfl) hgt t (Nat.le_refl t))))
                  · have c125 := m1_nlt c_125
                    have hgm : g (m - 1) < 97 := by rw [hgt (m - 1) (by omega)]; exact nwd_lt hS _ _ (by omega)
                    have hpm : pf (m - 1) < 97 := hP (m - 1) (by omega)
                    refine V.lset 6 (x := .int (nI m + (-1))) (y := .int (nI (m - 1))) (congrArg Value.int (nI_dec c125)) rfl (lv' := [some (.ref P), some (.ref S), some (.int (nI t)), some (.int (nI x)), some (.ref q_1), some (.int (nI v)), some (.int (nI (m - 1))), none]) rfl ?_
                    refine V.iload hC (x := nI v) dL_valueAt_128 rfl ?_
                    refine V.iload_n hC (x := nI x) dL_valueAt_130 rfl ?_
                    refine V.aload_n hC (x := P) dL_valueAt_131 rfl ?_
                    refine V.iload hC (x := nI (m - 1)) dL_valueAt_132 rfl ?_
                    refine V.ialdN hC dL_valueAt_134 (1) (f := pf) rfl (m - 1) rfl (by omega) (by decide) ?_
                    refine V.isub hC dL_valueAt_135 ?_
                    refine V.bipush hC 97 dL_valueAt_136 rfl ?_
                    refine V.iadd hC dL_valueAt_138 ?_
                    refine V.topeq (nI (x + 97 - pf (m - 1))) (n97 hx hpm) ?_
                    refine V.bipush hC 97 dL_valueAt_139 rfl ?_
                    refine V.iremN hC (x + 97 - pf (m - 1)) 97 dL_valueAt_141 rfl rfl (by omega) (by decide) (by decide) ?_
                    refine V.topeq (nI (dif97 x (pf (m - 1)))) (congrArg nI (d97s hpm)) ?_
                    refine V.imulN hC v (dif97 x (pf (m - 1))) dL_valueAt_142 rfl rfl ?_
                    refine V.aload hC (x := q_1) dL_valueAt_143 rfl ?_
                    refine V.iload hC (x := nI (m - 1)) dL_valueAt_145 rfl ?_
                    refine V.ialdN hC dL_valueAt_147 (0) (f := g) rfl (m - 1) rfl (by omega) (by omega) ?_
                    refine V.iaddN hC (v * (dif97 x (pf (m - 1)))) (g (m - 1)) dL_valueAt_148 rfl rfl ?_
                    refine V.bipush hC 97 dL_valueAt_149 rfl ?_
                    refine V.iremN hC ((v * (dif97 x (pf (m - 1)))) + (g (m - 1))) 97 dL_valueAt_151 rfl rfl (ma97 hv97 (dif97_lt _ _) hgm) (by decide) (by decide) ?_
                    refine V.istore hC dL_valueAt_152 [some (.ref P), some (.ref S), some (.int (nI t)), some (.int (nI x)), some (.ref q_1), some (.int (nI (((v * (dif97 x (pf (m - 1)))) + (g (m - 1))) % 97))), some (.int (nI (m - 1))), none] (Nat.le_of_ble_eq_true rfl) rfl ?_
                    refine V.iinc hC (nI (m - 1) + (-1)) dL_valueAt_154 rfl [some (.ref P), some (.ref S), some (.int (nI t)), some (.int (nI x)), some (.ref q_1), some (.int (nI (((v * (dif97 x (pf (m - 1)))) + (g (m - 1))) % 97))), some (.int (nI (m - 1) + (-1))), none] (Nat.le_of_ble_eq_true rfl) rfl rfl ?_
                    refine V.goto hC 123 dL_valueAt_157 rfl ?_
                    exact ih123 (m - 1) (((v * (dif97 x (pf (m - 1)))) + (g (m - 1))) % 97) (by omega) (by omega) (Nat.mod_lt _ (by decide)) (nwe_next c125 hmt hv)
              exact loop123 _ t 0 (Nat.lt_succ_self _) (Nat.le_refl t) (by decide) (by rw [Nat.sub_self]; all_goals rfl)
            · refine V.iload_n hC (x := nI t) dL_valueAt_38 rfl ?_
              refine V.iconst hC 1 dL_valueAt_39 rfl ?_
              refine V.isubN hC t 1 dL_valueAt_40 rfl rfl (by omega) ?_
              refine V.istore hC dL_valueAt_41 [some (.ref P), some (.ref S), some (.int (nI t)), some (.int (nI x)), some (.ref q_1), some (.int (nI r)), some (.int (nI (t - 1))), none] (Nat.le_of_ble_eq_true rfl) rfl ?_
              have loop43 : ∀ (n : Nat) (k : Nat) (g2 : Nat → Nat), k + 1 < n → (r - 1 ≤ k) → (k < t) → (∀ j, j < t → g2 j = if k < j then nwd pf sf r j else nwd pf sf (r - 1) j) → V G K 8 1 8 43 [some (.ref P), some (.ref S), some (.int (nI t)), some (.int (nI x)), some (.ref q_1), some (.int (nI r)), some (.int (nI k)), none] [] (flt [[(q_1, .inl (gI G, t, .inl (fun j => nI (g2 j))))], [(P, .inl (gI G, 8, .inl (fun j => nI (pf j))))], [(S, .inl (gI G, 8, .inl (fun j => nI (sf j))))]]) := by
                intro n
                induction n with
                | zero => intro k g2 hlt; exact absurd hlt (Nat.not_lt_zero _)
                | succ n ih43 =>
                  intro k g2 hlt43 hkr hkt hg2
                  refine V.iload hC (x := nI k) dL_valueAt_43 rfl ?_
                  refine V.iload hC (x := nI r) dL_valueAt_45 rfl ?_
                  refine V.icmpN_lt hC k r 109 dL_valueAt_47 rfl rfl rfl (by omega) (by omega) (fun c_47 => ?_) (fun c_47 => ?_)
                  · refine V.iincN hC r 1 dL_valueAt_109 rfl [some (.ref P), some (.ref S), some (.int (nI t)), some (.int (nI x)), some (.ref q_1), some (.int (nI (r + 1))), some (.int (nI k)), none] (Nat.le_of_ble_eq_true rfl) rfl rfl rfl ?_
                    refine V.goto hC 32 dL_valueAt_112 rfl ?_
                    refine V.drop 6 (lv' := [some (.ref P), some (.ref S), some (.int (nI t)), some (.int (nI x)), some (.ref q_1), some (.int (nI (r + 1))), none, none]) rfl ?_
                    exact ih32 (r + 1) g2 (by omega) (by omega) (by omega) (nwd_next hr1 hkr (by omega) hg2)
                  · have hga : g2 k < 97 := by rw [hg2 k hkt, if_neg (Nat.lt_irrefl k)]; exact nwd_lt hS _ _ hkt
                    have hgb : g2 (k - 1) < 97 := by rw [hg2 (k - 1) (by omega), if_neg (by omega)]; exact nwd_lt hS _ _ (by omega)
                    have hpa : pf k < 97 := hP k hkt
                    have hpb : pf (k - r) < 97 := hP (k - r) (by omega)
                    refine V.aload hC (x := q_1) dL_valueAt_50 rfl ?_
                    refine V.iload hC (x := nI k) dL_valueAt_52 rfl ?_
                    refine V.ialdN hC dL_valueAt_54 (0) (f := g2) rfl k rfl (by omega) (by omega) ?_
                    refine V.aload hC (x := q_1) dL_valueAt_55 rfl ?_
                    refine V.iload hC (x := nI k) dL_valueAt_57 rfl ?_
                    refine V.iconst hC 1 dL_valueAt_59 rfl ?_
                    refine V.isubN hC k 1 dL_valueAt_60 rfl rfl (by omega) ?_
                    refine V.ialdN hC dL_valueAt_61 (0) (f := g2) rfl (k - 1) rfl (by omega) (by omega) ?_
                    refine V.isub hC dL_valueAt_62 ?_
                    refine V.bipush hC 97 dL_valueAt_63 rfl ?_
                    refine V.iadd hC dL_valueAt_65 ?_
                    refine V.topeq (nI (g2 k + 97 - g2 (k - 1))) (n97 hga hgb) ?_
                    refine V.bipush hC 97 dL_valueAt_66 rfl ?_
                    refine V.iremN hC (g2 k + 97 - g2 (k - 1)) 97 dL_valueAt_68 rfl rfl (by omega) (by decide) (by decide) ?_
                    refine V.topeq (nI (dif97 (g2 k) (g2 (k - 1)))) (congrArg nI (d97s hgb)) ?_
                    refine V.istore hC dL_valueAt_69 [some (.ref P), some (.ref S), some (.int (nI t)), some (.int (nI x)), some (.ref q_1), some (.int (nI r)), some (.int (nI k)), some (.int (nI (dif97 (g2 k) (g2 (k - 1)))))] (Nat.le_of_ble_eq_true rfl) rfl ?_
                    refine V.aload hC (x := q_1) dL_valueAt_71 rfl ?_
                    refine V.iload hC (x := nI k) dL_valueAt_73 rfl ?_
                    refine V.iload hC (x := nI (dif97 (g2 k) (g2 (k - 1)))) dL_valueAt_75 rfl ?_
                    refine V.aload_n hC (x := P) dL_valueAt_77 rfl ?_
                    refine V.iload hC (x := nI k) dL_valueAt_78 rfl ?_
                    refine V.ialdN hC dL_valueAt_80 (1) (f := pf) rfl k rfl (by omega) (by decide) ?_
                    refine V.aload_n hC (x := P) dL_valueAt_81 rfl ?_
                    refine V.iload hC (x := nI k) dL_valueAt_82 rfl ?_
                    refine V.iload hC (x := nI r) dL_valueAt_84 rfl ?_
                    refine V.isubN hC k r dL_valueAt_86 rfl rfl (by omega) ?_
                    refine V.ialdN hC dL_valueAt_87 (1) (f := pf) rfl (k - r) rfl (by omega) (by decide) ?_
                    refine V.isub hC dL_valueAt_88 ?_
                    refine V.bipush hC 97 dL_valueAt_89 rfl ?_
                    refine V.iadd hC dL_valueAt_91 ?_
                    refine V.topeq (nI (pf k + 97 - pf (k - r))) (n97 hpa hpb) ?_
                    refine V.bipush hC 97 dL_valueAt_92 rfl ?_
                    refine V.iremN hC (pf k + 97 - pf (k - r)) 97 dL_valueAt_94 rfl rfl (by omega) (by decide) (by decide) ?_
                    refine V.topeq (nI (dif97 (pf k) (pf (k - r)))) (congrArg nI (d97s hpb)) ?_
                    refine V.callSBN (n := 1) (As := [.int (nI (dif97 (pf k) (pf (k - r))))]) (rest := [.int (nI (dif97 (g2 k) (g2 (k - 1)))), .int (nI k), .ref q_1]) hC (l_inverse (kl K) G (dif97 (pf k) (pf (k - r))) (dif97_lt _ _)) SFk0 SFgo0 (gx2 gL_valueAt_L_inverse) rfl ⟨rfl, rfl⟩ (by decide +kernel) ⟨by decide, by decide, by decide, by decide⟩ (L := [[(q_1, .inl (gI G, t, .inl (fun j => nI (g2 j))))], [(P, .inl (gI G, 8, .inl (fun j => nI (pf j))))], [(S, .inl (gI G, 8, .inl (fun j => nI (sf j))))]]) (N := 3) rfl [] [0, 1, 2] (by decide) rfl (fun _ : Unit => []) (fun _ => rfl) rfl rfl (Nat.le_of_ble_eq_true rfl) dL_valueAt_95 (fun r_95 u_95 hp_95 => ?_)
                    subst hp_95
                    show V G K 8 1 8 98 [some (.ref P), some (.ref S), some (.int (nI t)), some (.int (nI x)), some (.ref q_1), some (.int (nI r)), some (.int (nI k)), some (.int (nI (dif97 (g2 k) (g2 (k - 1)))))] [.int (nI (inv97 (dif97 (pf k) (pf (k - r))))), .int (nI (dif97 (g2 k) (g2 (k - 1)))), .int (nI k), .ref q_1] (flt [[(q_1, .inl (gI G, t, .inl (fun j => nI (g2 j))))], [(P, .inl (gI G, 8, .inl (fun j => nI (pf j))))], [(S, .inl (gI G, 8, .inl (fun j => nI (sf j))))]])
                    refine V.imulN hC (dif97 (g2 k) (g2 (k - 1))) (inv97 (dif97 (pf k) (pf (k - r)))) dL_valueAt_98 rfl rfl ?_
                    refine V.bipush hC 97 dL_valueAt_99 rfl ?_
                    refine V.iremN hC ((dif97 (g2 k) (g2 (k - 1))) * (inv97 (dif97 (pf k) (pf (k - r))))) 97 dL_valueAt_101 rfl rfl (m97 (dif97_lt _ _) (inv97_lt _)) (by decide) (by decide) ?_
                    refine V.iastN hC dL_valueAt_102 (0) (f := g2) rfl k (((dif97 (g2 k) (g2 (k - 1))) * (inv97 (dif97 (pf k) (pf (k - r))))) % 97) rfl (by omega) (by omega) rfl (flt [[(q_1, .inl (gI G, t, .inl (fun j => nI ((va_up g2 k (((dif97 (g2 k) (g2 (k - 1))) * (inv97 (dif97 (pf k) (pf (k - r))))) % 97)) j))))], [(P, .inl (gI G, 8, .inl (fun j => nI (pf j))))], [(S, .inl (gI G, 8, .inl (fun j => nI (sf j))))]]) rfl ?_
                    refine V.iinc hC (nI k + (-1)) dL_valueAt_103 rfl [some (.ref P), some (.ref S), some (.int (nI t)), some (.int (nI x)), some (.ref q_1), some (.int (nI r)), some (.int (nI k + (-1))), some (.int (nI (dif97 (g2 k) (g2 (k - 1)))))] (Nat.le_of_ble_eq_true rfl) rfl rfl ?_
                    refine V.lset 6 (x := .int (nI k + (-1))) (y := .int (nI (k - 1))) (congrArg Value.int (nI_dec (by omega))) rfl (lv' := [some (.ref P), some (.ref S), some (.int (nI t)), some (.int (nI x)), some (.ref q_1), some (.int (nI r)), some (.int (nI (k - 1))), some (.int (nI (dif97 (g2 k) (g2 (k - 1)))))]) rfl ?_
                    refine V.goto hC 43 dL_valueAt_106 rfl ?_
                    refine V.drop 7 (lv' := [some (.ref P), some (.ref S), some (.int (nI t)), some (.int (nI x)), some (.ref q_1), some (.int (nI r)), some (.int (nI (k - 1))), none]) rfl ?_
                    exact ih43 (k - 1) (va_up g2 k (((dif97 (g2 k) (g2 (k - 1))) * (inv97 (dif97 (pf k) (pf (k - r))))) % 97)) (by omega) (by omega) (by omega) (nwd_step hr1 c_47 hkt hg2)
              exact loop43 _ (t - 1) g (Nat.lt_succ_self _) (by omega) (by omega) (fun j hj => (hg j hj).trans (if_neg (by omega)).symm)
        exact loop32 _ 1 g (Nat.lt_succ_self _) (Nat.le_refl 1) h1 (fun j hj => hg j (by omega))
      · refine V.aload hC (x := q_1) dL_valueAt_14 rfl ?_
        refine V.iload hC (x := nI k) dL_valueAt_16 rfl ?_
        refine V.aload_n hC (x := S) dL_valueAt_18 rfl ?_
        refine V.iload hC (x := nI k) dL_valueAt_19 rfl ?_
        refine V.ialdN hC dL_valueAt_21 (2) (f := sf) rfl k rfl (by omega) (by decide) ?_
        refine V.iastN hC dL_valueAt_22 (0) (f := g) rfl k (sf k) rfl (by omega) (by omega) rfl (flt [[(q_1, .inl (gI G, t, .inl (fun j => nI ((va_up g k (sf k)) j))))], [(P, .inl (gI G, 8, .inl (fun j => nI (pf j))))], [(S, .inl (gI G, 8, .inl (fun j => nI (sf j))))]]) rfl ?_
        refine V.iincN hC k 1 dL_valueAt_23 rfl [some (.ref P), some (.ref S), some (.int (nI t)), some (.int (nI x)), some (.ref q_1), some (.int (nI (k + 1))), none, none] (Nat.le_of_ble_eq_true rfl) rfl rfl rfl ?_
        refine V.goto hC 8 dL_valueAt_26 rfl ?_
        exact ih8 (k + 1) (va_up g k (sf k)) (by omega) (by omega) (ext_up hg)
  exact loop8 _ 0 (fun _ => 0) (Nat.lt_succ_self _) (Nat.zero_le _) (fun j hj => absurd hj (Nat.not_lt_zero j))

set_option maxHeartbeats 4000000 in
set_option maxRecDepth 100000 in
theorem l_unfitS (l : Launch) (G : Gx) (P S : Nat) (pf sf : Nat → Nat) (m t : Nat) (h1 : 1 ≤ t) (h8 : t ≤ 8) (hm : m ≤ 8) (hc : ∀ j, j < t → pf j < 97) (hd : ∀ j, j < t → sf j < 97) (hp : ∀ j, j < m → pf j < 97) (hs : ∀ j, j < m → sf j < 97) : Ct l G SF0 yL_unfit (wsL_unfit ++ hx9) ({ frames := 2, cells := 8, slots := 64, locals := 49 }) [.ref P, .ref S, .int (nI m), .ref P, .ref S, .int (nI t)] (flt [[(P, .inl (gI G, 8, .inl (fun j => nI (pf j))))], [(S, .inl (gI G, 8, .inl (fun j => nI (sf j))))]]) mkI (fun (r : Int32) (_ : Unit) => r = nI (ulw pf sf pf sf t m)) (fun _ : Unit => (flt [[(P, .inl (gI G, 8, .inl (fun j => nI (pf j))))], [(S, .inl (gI G, 8, .inl (fun j => nI (sf j))))]])) 8 64 := by
  refine Ct.ofI (cc := cL_unfit) (maxL := 8) (by decide) rfl ⟨by simp [Value.category], Nat.le_of_ble_eq_true rfl⟩ ?_
  intro K hl hC hSF hnm hE
  subst hl
  show V G K 8 0 0 0 [some (.ref P), some (.ref S), some (.int (nI m)), some (.ref P), some (.ref S), some (.int (nI t)), none, none] [] (flt [[(P, .inl (gI G, 8, .inl (fun j => nI (pf j))))], [(S, .inl (gI G, 8, .inl (fun j => nI (sf j))))]])
  refine V.iconst hC 0 dL_unfit_0 rfl ?_
  refine V.istore hC dL_unfit_1 [some (.ref P), some (.ref S), some (.int (nI m)), some (.ref P), some (.ref S), some (.int (nI t)), some (.int 0), none] (Nat.le_of_ble_eq_true rfl) rfl ?_
  refine V.iconst hC 0 dL_unfit_3 rfl ?_
  refine V.istore hC dL_unfit_4 [some (.ref P), some (.ref S), some (.int (nI m)), some (.ref P), some (.ref S), some (.int (nI t)), some (.int 0), some (.int 0)] (Nat.le_of_ble_eq_true rfl) rfl ?_
  have loop6 : ∀ (n : Nat) (k : Nat), m - k < n → (k ≤ m) → V G K 8 (k) (8 * k) 6 [some (.ref P), some (.ref S), some (.int (nI m)), some (.ref P), some (.ref S), some (.int (nI t)), some (.int (nI (ulw pf sf pf sf t k))), some (.int (nI k))] [] (flt [[(P, .inl (gI G, 8, .inl (fun j => nI (pf j))))], [(S, .inl (gI G, 8, .inl (fun j => nI (sf j))))]]) := by
    intro n
    induction n with
    | zero => intro k hlt; exact absurd hlt (Nat.not_lt_zero _)
    | succ n ih6 =>
      intro k hlt6 hk
      have hul := ulw_le pf sf pf sf t k
      refine V.iload hC (x := nI k) dL_unfit_6 rfl ?_
      refine V.iload_n hC (x := nI m) dL_unfit_8 rfl ?_
      refine V.icmpN_ge hC k m 50 dL_unfit_9 rfl rfl rfl (by omega) (by omega) (fun c_9 => ?_) (fun c_9 => ?_)
      · refine V.iload hC (x := nI (ulw pf sf pf sf t k)) dL_unfit_50 rfl ?_
        refine V.widen (k := 8) (n := 64) (by omega) (by omega) ?_
        exact hE 52 _ (nI (ulw pf sf pf sf t k)) () dL_unfit_52 rfl (by rw [show k = m by omega])
      · refine V.iload hC (x := nI (ulw pf sf pf sf t k)) dL_unfit_12 rfl ?_
        refine V.aload_n hC (x := P) dL_unfit_14 rfl ?_
        refine V.aload hC (x := S) dL_unfit_15 rfl ?_
        refine V.iload hC (x := nI t) dL_unfit_17 rfl ?_
        refine V.aload_n hC (x := P) dL_unfit_19 rfl ?_
        refine V.iload hC (x := nI k) dL_unfit_20 rfl ?_
        refine V.ialdN hC dL_unfit_22 (0) (f := pf) rfl k rfl (by omega) (by decide) ?_
        refine V.callSBN (n := 4) (As := [.ref P, .ref S, .int (nI t), .int (nI (pf k))]) (rest := [.int (nI (ulw pf sf pf sf t k))]) hC (l_valueAt (kl K) G P S pf sf t (pf k) h1 h8 hc hd (hp k (by omega))) SFk0 SFgo0 (gx2 gL_unfit_L_valueAt) rfl ⟨rfl, rfl⟩ (by decide +kernel) ⟨by decide, by decide, by show _ ≤ 8; omega, by show _ ≤ 64; omega⟩ (L := [[(P, .inl (gI G, 8, .inl (fun j => nI (pf j))))], [(S, .inl (gI G, 8, .inl (fun j => nI (sf j))))]]) (N := 2) rfl [0, 1] [] (by decide) rfl (fun _ : Unit => [[(P, .inl (gI G, 8, .inl (fun j => nI (pf j))))], [(S, .inl (gI G, 8, .inl (fun j => nI (sf j))))]]) (fun _ => rfl) rfl rfl (Nat.le_of_ble_eq_true rfl) dL_unfit_23 (fun r_23 u_23 hp_23 => ?_)
        subst hp_23
        show V G K 8 (k + 1) (8 * k + 8) 26 [some (.ref P), some (.ref S), some (.int (nI m)), some (.ref P), some (.ref S), some (.int (nI t)), some (.int (nI (ulw pf sf pf sf t k))), some (.int (nI k))] [.int (nI (nwt pf sf t (pf k))), .int (nI (ulw pf sf pf sf t k))] (flt [[(P, .inl (gI G, 8, .inl (fun j => nI (pf j))))], [(S, .inl (gI G, 8, .inl (fun j => nI (sf j))))]])
        refine V.aload_n hC (x := S) dL_unfit_26 rfl ?_
        refine V.iload hC (x := nI k) dL_unfit_27 rfl ?_
        refine V.ialdN hC dL_unfit_29 (1) (f := sf) rfl k rfl (by omega) (by decide) ?_
        refine V.icmpN_eq hC (nwt pf sf t (pf k)) (sf k) 37 dL_unfit_30 rfl rfl rfl (Nat.lt_trans (nwt_lt _ _ _ _) (by decide)) (Nat.lt_trans (hs k (by omega)) (by decide)) (fun c_30 => ?_) (fun c_30 => ?_)
        · refine V.iconst hC 0 dL_unfit_37 rfl ?_
          refine V.callSBN (n := 1) (As := [.int 0]) (rest := [.int (nI (ulw pf sf pf sf t k))]) hC (l_told (kl K) G 0 (by decide)) SFk0 SFgo0 (gx2 gL_unfit_L_told) rfl ⟨rfl, rfl⟩ (by decide +kernel) ⟨by decide, by decide, by show _ ≤ 8; omega, by show _ ≤ 64; omega⟩ (L := [[(P, .inl (gI G, 8, .inl (fun j => nI (pf j))))], [(S, .inl (gI G, 8, .inl (fun j => nI (sf j))))]]) (N := 2) rfl [] [0, 1] (by decide) rfl (fun _ : Unit => []) (fun _ => rfl) rfl rfl (Nat.le_of_ble_eq_true rfl) dL_unfit_38 (fun r_38 u_38 hp_38 => ?_)
          subst hp_38
          show V G K 8 (k + 1) (8 * k + 8) 41 [some (.ref P), some (.ref S), some (.int (nI m)), some (.ref P), some (.ref S), some (.int (nI t)), some (.int (nI (ulw pf sf pf sf t k))), some (.int (nI k))] [.int (nI 0), .int (nI (ulw pf sf pf sf t k))] (flt [[(P, .inl (gI G, 8, .inl (fun j => nI (pf j))))], [(S, .inl (gI G, 8, .inl (fun j => nI (sf j))))]])
          refine V.iaddN hC (ulw pf sf pf sf t k) 0 dL_unfit_41 rfl rfl ?_
          refine V.topeq (nI (ulw pf sf pf sf t (k + 1))) (congrArg nI (by rw [ulw, if_pos c_30])) ?_
          refine V.istore hC dL_unfit_42 [some (.ref P), some (.ref S), some (.int (nI m)), some (.ref P), some (.ref S), some (.int (nI t)), some (.int (nI (ulw pf sf pf sf t (k + 1)))), some (.int (nI k))] (Nat.le_of_ble_eq_true rfl) rfl ?_
          refine V.iincN hC k 1 dL_unfit_44 rfl [some (.ref P), some (.ref S), some (.int (nI m)), some (.ref P), some (.ref S), some (.int (nI t)), some (.int (nI (ulw pf sf pf sf t (k + 1)))), some (.int (nI (k + 1)))] (Nat.le_of_ble_eq_true rfl) rfl rfl rfl ?_
          refine V.goto hC 6 dL_unfit_47 rfl ?_
          refine V.widen (k := (k + 1)) (n := 8 * (k + 1)) (by omega) (by omega) ?_
          exact ih6 (k + 1) (by omega) (by omega)
        · refine V.iconst hC 1 dL_unfit_33 rfl ?_
          refine V.goto hC 38 dL_unfit_34 rfl ?_
          refine V.callSBN (n := 1) (As := [.int 1]) (rest := [.int (nI (ulw pf sf pf sf t k))]) hC (l_told (kl K) G 1 (by decide)) SFk0 SFgo0 (gx2 gL_unfit_L_told) rfl ⟨rfl, rfl⟩ (by decide +kernel) ⟨by decide, by decide, by show _ ≤ 8; omega, by show _ ≤ 64; omega⟩ (L := [[(P, .inl (gI G, 8, .inl (fun j => nI (pf j))))], [(S, .inl (gI G, 8, .inl (fun j => nI (sf j))))]]) (N := 2) rfl [] [0, 1] (by decide) rfl (fun _ : Unit => []) (fun _ => rfl) rfl rfl (Nat.le_of_ble_eq_true rfl) dL_unfit_38 (fun r_38 u_38 hp_38 => ?_)
          subst hp_38
          show V G K 8 (k + 1) (8 * k + 8) 41 [some (.ref P), some (.ref S), some (.int (nI m)), some (.ref P), some (.ref S), some (.int (nI t)), some (.int (nI (ulw pf sf pf sf t k))), some (.int (nI k))] [.int (nI 1), .int (nI (ulw pf sf pf sf t k))] (flt [[(P, .inl (gI G, 8, .inl (fun j => nI (pf j))))], [(S, .inl (gI G, 8, .inl (fun j => nI (sf j))))]])
          refine V.iaddN hC (ulw pf sf pf sf t k) 1 dL_unfit_41 rfl rfl ?_
          refine V.topeq (nI (ulw pf sf pf sf t (k + 1))) (congrArg nI (by rw [ulw, if_neg c_30])) ?_
          refine V.istore hC dL_unfit_42 [some (.ref P), some (.ref S), some (.int (nI m)), some (.ref P), some (.ref S), some (.int (nI t)), some (.int (nI (ulw pf sf pf sf t (k + 1)))), some (.int (nI k))] (Nat.le_of_ble_eq_true rfl) rfl ?_
          refine V.iincN hC k 1 dL_unfit_44 rfl [some (.ref P), some (.ref S), some (.int (nI m)), some (.ref P), some (.ref S), some (.int (nI t)), some (.int (nI (ulw pf sf pf sf t (k + 1)))), some (.int (nI (k + 1)))] (Nat.le_of_ble_eq_true rfl) rfl rfl rfl ?_
          refine V.goto hC 6 dL_unfit_47 rfl ?_
          refine V.widen (k := (k + 1)) (n := 8 * (k + 1)) (by omega) (by omega) ?_
          exact ih6 (k + 1) (by omega) (by omega)
  refine V.widen (k := 0) (n := 8 * 0) (by omega) (by omega) ?_
  exact loop6 _ 0 (Nat.lt_succ_self _) (Nat.zero_le _)

set_option maxHeartbeats 4000000 in
set_option maxRecDepth 100000 in
theorem l_unfitD (l : Launch) (G : Gx) (P S : Nat) (pf sf : Nat → Nat) (CP CS : Nat) (cf df : Nat → Nat) (m t : Nat) (h1 : 1 ≤ t) (h8 : t ≤ 8) (hm : m ≤ 8) (hc : ∀ j, j < t → cf j < 97) (hd : ∀ j, j < t → df j < 97) (hp : ∀ j, j < m → pf j < 97) (hs : ∀ j, j < m → sf j < 97) : Ct l G SF0 yL_unfit (wsL_unfit ++ hx9) ({ frames := 2, cells := 8, slots := 64, locals := 49 }) [.ref P, .ref S, .int (nI m), .ref CP, .ref CS, .int (nI t)] (flt [[(P, .inl (gI G, 8, .inl (fun j => nI (pf j))))], [(S, .inl (gI G, 8, .inl (fun j => nI (sf j))))], [(CP, .inl (gI G, 8, .inl (fun j => nI (cf j))))], [(CS, .inl (gI G, 8, .inl (fun j => nI (df j))))]]) mkI (fun (r : Int32) (_ : Unit) => r = nI (ulw pf sf cf df t m)) (fun _ : Unit => (flt [[(P, .inl (gI G, 8, .inl (fun j => nI (pf j))))], [(S, .inl (gI G, 8, .inl (fun j => nI (sf j))))], [(CP, .inl (gI G, 8, .inl (fun j => nI (cf j))))], [(CS, .inl (gI G, 8, .inl (fun j => nI (df j))))]])) 8 64 := by
  refine Ct.ofI (cc := cL_unfit) (maxL := 8) (by decide) rfl ⟨by simp [Value.category], Nat.le_of_ble_eq_true rfl⟩ ?_
  intro K hl hC hSF hnm hE
  subst hl
  show V G K 8 0 0 0 [some (.ref P), some (.ref S), some (.int (nI m)), some (.ref CP), some (.ref CS), some (.int (nI t)), none, none] [] (flt [[(P, .inl (gI G, 8, .inl (fun j => nI (pf j))))], [(S, .inl (gI G, 8, .inl (fun j => nI (sf j))))], [(CP, .inl (gI G, 8, .inl (fun j => nI (cf j))))], [(CS, .inl (gI G, 8, .inl (fun j => nI (df j))))]])
  refine V.iconst hC 0 dL_unfit_0 rfl ?_
  refine V.istore hC dL_unfit_1 [some (.ref P), some (.ref S), some (.int (nI m)), some (.ref CP), some (.ref CS), some (.int (nI t)), some (.int 0), none] (Nat.le_of_ble_eq_true rfl) rfl ?_
  refine V.iconst hC 0 dL_unfit_3 rfl ?_
  refine V.istore hC dL_unfit_4 [some (.ref P), some (.ref S), some (.int (nI m)), some (.ref CP), some (.ref CS), some (.int (nI t)), some (.int 0), some (.int 0)] (Nat.le_of_ble_eq_true rfl) rfl ?_
  have loop6 : ∀ (n : Nat) (k : Nat), m - k < n → (k ≤ m) → V G K 8 (k) (8 * k) 6 [some (.ref P), some (.ref S), some (.int (nI m)), some (.ref CP), some (.ref CS), some (.int (nI t)), some (.int (nI (ulw pf sf cf df t k))), some (.int (nI k))] [] (flt [[(P, .inl (gI G, 8, .inl (fun j => nI (pf j))))], [(S, .inl (gI G, 8, .inl (fun j => nI (sf j))))], [(CP, .inl (gI G, 8, .inl (fun j => nI (cf j))))], [(CS, .inl (gI G, 8, .inl (fun j => nI (df j))))]]) := by
    intro n
    induction n with
    | zero => intro k hlt; exact absurd hlt (Nat.not_lt_zero _)
    | succ n ih6 =>
      intro k hlt6 hk
      have hul := ulw_le pf sf cf df t k
      refine V.iload hC (x := nI k) dL_unfit_6 rfl ?_
      refine V.iload_n hC (x := nI m) dL_unfit_8 rfl ?_
      refine V.icmpN_ge hC k m 50 dL_unfit_9 rfl rfl rfl (by omega) (by omega) (fun c_9 => ?_) (fun c_9 => ?_)
      · refine V.iload hC (x := nI (ulw pf sf cf df t k)) dL_unfit_50 rfl ?_
        refine V.widen (k := 8) (n := 64) (by omega) (by omega) ?_
        exact hE 52 _ (nI (ulw pf sf cf df t k)) () dL_unfit_52 rfl (by rw [show k = m by omega])
      · refine V.iload hC (x := nI (ulw pf sf cf df t k)) dL_unfit_12 rfl ?_
        refine V.aload_n hC (x := CP) dL_unfit_14 rfl ?_
        refine V.aload hC (x := CS) dL_unfit_15 rfl ?_
        refine V.iload hC (x := nI t) dL_unfit_17 rfl ?_
        refine V.aload_n hC (x := P) dL_unfit_19 rfl ?_
        refine V.iload hC (x := nI k) dL_unfit_20 rfl ?_
        refine V.ialdN hC dL_unfit_22 (0) (f := pf) rfl k rfl (by omega) (by decide) ?_
        refine V.callSBN (n := 4) (As := [.ref CP, .ref CS, .int (nI t), .int (nI (pf k))]) (rest := [.int (nI (ulw pf sf cf df t k))]) hC (l_valueAt (kl K) G CP CS cf df t (pf k) h1 h8 hc hd (hp k (by omega))) SFk0 SFgo0 (gx2 gL_unfit_L_valueAt) rfl ⟨rfl, rfl⟩ (by decide +kernel) ⟨by decide, by decide, by show _ ≤ 8; omega, by show _ ≤ 64; omega⟩ (L := [[(P, .inl (gI G, 8, .inl (fun j => nI (pf j))))], [(S, .inl (gI G, 8, .inl (fun j => nI (sf j))))], [(CP, .inl (gI G, 8, .inl (fun j => nI (cf j))))], [(CS, .inl (gI G, 8, .inl (fun j => nI (df j))))]]) (N := 4) rfl [2, 3] [0, 1] (by decide) rfl (fun _ : Unit => [[(CP, .inl (gI G, 8, .inl (fun j => nI (cf j))))], [(CS, .inl (gI G, 8, .inl (fun j => nI (df j))))]]) (fun _ => rfl) rfl rfl (Nat.le_of_ble_eq_true rfl) dL_unfit_23 (fun r_23 u_23 hp_23 => ?_)
        subst hp_23
        show V G K 8 (k + 1) (8 * k + 8) 26 [some (.ref P), some (.ref S), some (.int (nI m)), some (.ref CP), some (.ref CS), some (.int (nI t)), some (.int (nI (ulw pf sf cf df t k))), some (.int (nI k))] [.int (nI (nwt cf df t (pf k))), .int (nI (ulw pf sf cf df t k))] (flt [[(CP, .inl (gI G, 8, .inl (fun j => nI (cf j))))], [(CS, .inl (gI G, 8, .inl (fun j => nI (df j))))], [(P, .inl (gI G, 8, .inl (fun j => nI (pf j))))], [(S, .inl (gI G, 8, .inl (fun j => nI (sf j))))]])
        refine V.reN (N := 4) [2, 3, 0, 1] [[(P, .inl (gI G, 8, .inl (fun j => nI (pf j))))], [(S, .inl (gI G, 8, .inl (fun j => nI (sf j))))], [(CP, .inl (gI G, 8, .inl (fun j => nI (cf j))))], [(CS, .inl (gI G, 8, .inl (fun j => nI (df j))))]] rfl (by decide) rfl ?_
        refine V.aload_n hC (x := S) dL_unfit_26 rfl ?_
        refine V.iload hC (x := nI k) dL_unfit_27 rfl ?_
        refine V.ialdN hC dL_unfit_29 (1) (f := sf) rfl k rfl (by omega) (by decide) ?_
        refine V.icmpN_eq hC (nwt cf df t (pf k)) (sf k) 37 dL_unfit_30 rfl rfl rfl (Nat.lt_trans (nwt_lt _ _ _ _) (by decide)) (Nat.lt_trans (hs k (by omega)) (by decide)) (fun c_30 => ?_) (fun c_30 => ?_)
        · refine V.iconst hC 0 dL_unfit_37 rfl ?_
          refine V.callSBN (n := 1) (As := [.int 0]) (rest := [.int (nI (ulw pf sf cf df t k))]) hC (l_told (kl K) G 0 (by decide)) SFk0 SFgo0 (gx2 gL_unfit_L_told) rfl ⟨rfl, rfl⟩ (by decide +kernel) ⟨by decide, by decide, by show _ ≤ 8; omega, by show _ ≤ 64; omega⟩ (L := [[(P, .inl (gI G, 8, .inl (fun j => nI (pf j))))], [(S, .inl (gI G, 8, .inl (fun j => nI (sf j))))], [(CP, .inl (gI G, 8, .inl (fun j => nI (cf j))))], [(CS, .inl (gI G, 8, .inl (fun j => nI (df j))))]]) (N := 4) rfl [] [0, 1, 2, 3] (by decide) rfl (fun _ : Unit => []) (fun _ => rfl) rfl rfl (Nat.le_of_ble_eq_true rfl) dL_unfit_38 (fun r_38 u_38 hp_38 => ?_)
          subst hp_38
          show V G K 8 (k + 1) (8 * k + 8) 41 [some (.ref P), some (.ref S), some (.int (nI m)), some (.ref CP), some (.ref CS), some (.int (nI t)), some (.int (nI (ulw pf sf cf df t k))), some (.int (nI k))] [.int (nI 0), .int (nI (ulw pf sf cf df t k))] (flt [[(P, .inl (gI G, 8, .inl (fun j => nI (pf j))))], [(S, .inl (gI G, 8, .inl (fun j => nI (sf j))))], [(CP, .inl (gI G, 8, .inl (fun j => nI (cf j))))], [(CS, .inl (gI G, 8, .inl (fun j => nI (df j))))]])
          refine V.iaddN hC (ulw pf sf cf df t k) 0 dL_unfit_41 rfl rfl ?_
          refine V.topeq (nI (ulw pf sf cf df t (k + 1))) (congrArg nI (by rw [ulw, if_pos c_30])) ?_
          refine V.istore hC dL_unfit_42 [some (.ref P), some (.ref S), some (.int (nI m)), some (.ref CP), some (.ref CS), some (.int (nI t)), some (.int (nI (ulw pf sf cf df t (k + 1)))), some (.int (nI k))] (Nat.le_of_ble_eq_true rfl) rfl ?_
          refine V.iincN hC k 1 dL_unfit_44 rfl [some (.ref P), some (.ref S), some (.int (nI m)), some (.ref CP), some (.ref CS), some (.int (nI t)), some (.int (nI (ulw pf sf cf df t (k + 1)))), some (.int (nI (k + 1)))] (Nat.le_of_ble_eq_true rfl) rfl rfl rfl ?_
          refine V.goto hC 6 dL_unfit_47 rfl ?_
          refine V.widen (k := (k + 1)) (n := 8 * (k + 1)) (by omega) (by omega) ?_
          exact ih6 (k + 1) (by omega) (by omega)
        · refine V.iconst hC 1 dL_unfit_33 rfl ?_
          refine V.goto hC 38 dL_unfit_34 rfl ?_
          refine V.callSBN (n := 1) (As := [.int 1]) (rest := [.int (nI (ulw pf sf cf df t k))]) hC (l_told (kl K) G 1 (by decide)) SFk0 SFgo0 (gx2 gL_unfit_L_told) rfl ⟨rfl, rfl⟩ (by decide +kernel) ⟨by decide, by decide, by show _ ≤ 8; omega, by show _ ≤ 64; omega⟩ (L := [[(P, .inl (gI G, 8, .inl (fun j => nI (pf j))))], [(S, .inl (gI G, 8, .inl (fun j => nI (sf j))))], [(CP, .inl (gI G, 8, .inl (fun j => nI (cf j))))], [(CS, .inl (gI G, 8, .inl (fun j => nI (df j))))]]) (N := 4) rfl [] [0, 1, 2, 3] (by decide) rfl (fun _ : Unit => []) (fun _ => rfl) rfl rfl (Nat.le_of_ble_eq_true rfl) dL_unfit_38 (fun r_38 u_38 hp_38 => ?_)
          subst hp_38
          show V G K 8 (k + 1) (8 * k + 8) 41 [some (.ref P), some (.ref S), some (.int (nI m)), some (.ref CP), some (.ref CS), some (.int (nI t)), some (.int (nI (ulw pf sf cf df t k))), some (.int (nI k))] [.int (nI 1), .int (nI (ulw pf sf cf df t k))] (flt [[(P, .inl (gI G, 8, .inl (fun j => nI (pf j))))], [(S, .inl (gI G, 8, .inl (fun j => nI (sf j))))], [(CP, .inl (gI G, 8, .inl (fun j => nI (cf j))))], [(CS, .inl (gI G, 8, .inl (fun j => nI (df j))))]])
          refine V.iaddN hC (ulw pf sf cf df t k) 1 dL_unfit_41 rfl rfl ?_
          refine V.topeq (nI (ulw pf sf cf df t (k + 1))) (congrArg nI (by rw [ulw, if_neg c_30])) ?_
          refine V.istore hC dL_unfit_42 [some (.ref P), some (.ref S), some (.int (nI m)), some (.ref CP), some (.ref CS), some (.int (nI t)), some (.int (nI (ulw pf sf cf df t (k + 1)))), some (.int (nI k))] (Nat.le_of_ble_eq_true rfl) rfl ?_
          refine V.iincN hC k 1 dL_unfit_44 rfl [some (.ref P), some (.ref S), some (.int (nI m)), some (.ref CP), some (.ref CS), some (.int (nI t)), some (.int (nI (ulw pf sf cf df t (k + 1)))), some (.int (nI (k + 1)))] (Nat.le_of_ble_eq_true rfl) rfl rfl rfl ?_
          refine V.goto hC 6 dL_unfit_47 rfl ?_
          refine V.widen (k := (k + 1)) (n := 8 * (k + 1)) (by omega) (by omega) ?_
          exact ih6 (k + 1) (by omega) (by omega)
  refine V.widen (k := 0) (n := 8 * 0) (by omega) (by omega) ?_
  exact loop6 _ 0 (Nat.lt_succ_self _) (Nat.zero_le _)

set_option maxHeartbeats 4000000 in
set_option maxRecDepth 100000 in
theorem l_least (l : Launch) (G : Gx) (P S : Nat) (H : Nat) (v p0 v0 : Nat → Nat) (m t : Nat) (hH : H < 256) (hm : popb H 8 = m) (h1 : 1 ≤ t) (h4 : t ≤ 4) (hv : ∀ b, b < 8 → H / 2 ^ b % 2 = 1 → v b < 97) : Ct l G SF0 yL_least (wsL_least ++ hx9) ({ frames := 3, cells := 2050, slots := 16400, locals := 76 }) [.ref P, .ref S, .int (nI m), .int (nI t)] (flt [[(P, .inl (gI G, 8, .inl (fun j => nI ((plr H p0 8) j))))], [(S, .inl (gI G, 8, .inl (fun j => nI ((vlr H v v0 8) j))))]]) mkI (fun (r : Int32) (_ : Unit) => r = nI (lsl H t v m (2 ^ m))) (fun _ : Unit => (flt [[(P, .inl (gI G, 8, .inl (fun j => nI ((plr H p0 8) j))))], [(S, .inl (gI G, 8, .inl (fun j => nI ((vlr H v v0 8) j))))]])) 2050 16400 := by
  have hm8 : m ≤ 8 := by rw [← hm]; exact popb_le H 8
  have hpw : 2 ^ m ≤ 256 := Nat.pow_le_pow_right (n := 2) (by decide) hm8
  refine Ct.ofI (cc := cL_least) (maxL := 10) (by decide) rfl ⟨by simp [Value.category], Nat.le_of_ble_eq_true rfl⟩ ?_
  intro K hl hC hSF hnm hE
  subst hl
  have q0_ : Cond.arrayClass .int ∈ (wsL_least ++ hx9) := by decide +kernel
  have q1_ : Cond.methodLink RL 212 Lib.Math.min.name ∈ (wsL_least ++ hx9) := by decide +kernel
  have q2_ : Cond.static Lib.Math.min.name ∈ (wsL_least ++ hx9) := by decide +kernel
  have q3_ : Cond.initialized "java/lang/Math" ∈ (wsL_least ++ hx9) := by decide +kernel
  have q4_ : Cond.code Lib.Math.min.name Lib.Math.min.code 2 (some .int) ∈ (wsL_least ++ hx9) := by decide +kernel
  show V G K 10 0 0 0 [some (.ref P), some (.ref S), some (.int (nI m)), some (.int (nI t)), none, none, none, none, none, none] [] (flt [[(P, .inl (gI G, 8, .inl (fun j => nI ((plr H p0 8) j))))], [(S, .inl (gI G, 8, .inl (fun j => nI ((vlr H v v0 8) j))))]])
  refine V.iload_n hC (x := nI m) dL_least_0 rfl ?_
  refine V.istore hC dL_least_1 [some (.ref P), some (.ref S), some (.int (nI m)), some (.int (nI t)), some (.int (nI m)), none, none, none, none, none] (Nat.le_of_ble_eq_true rfl) rfl ?_
  refine V.bipush hC 8 dL_least_3 rfl ?_
  refine V.newAB hC (atype := .int) 0 (cA := gI G) q0_ rfl 8 (8, .inl (fun j => nI ((fun _ => 0) j))) (fun _ => rfl) rfl (by decide) (by decide) (by decide) dL_least_5 (fun q_5 => ?_)
  show V G K 10 1 8 7 [some (.ref P), some (.ref S), some (.int (nI m)), some (.int (nI t)), some (.int (nI m)), none, none, none, none, none] [.ref q_5] (flt [[(q_5, .inl (gI G, 8, .inl (fun j => nI ((fun _ => 0) j))))], [(P, .inl (gI G, 8, .inl (fun j => nI ((plr H p0 8) j))))], [(S, .inl (gI G, 8, .inl (fun j => nI ((vlr H v v0 8) j))))]])
  refine V.astore hC dL_least_7 [some (.ref P), some (.ref S), some (.int (nI m)), some (.int (nI t)), some (.int (nI m)), some (.ref q_5), none, none, none, none] (Nat.le_of_ble_eq_true rfl) rfl ?_
  refine V.bipush hC 8 dL_least_9 rfl ?_
  refine V.newAB hC (atype := .int) 0 (cA := gI G) q0_ rfl 8 (8, .inl (fun j => nI ((fun _ => 0) j))) (fun _ => rfl) rfl (by decide) (by decide) (by decide) dL_least_11 (fun q_11 => ?_)
  show V G K 10 2 16 13 [some (.ref P), some (.ref S), some (.int (nI m)), some (.int (nI t)), some (.int (nI m)), some (.ref q_5), none, none, none, none] [.ref q_11] (flt [[(q_11, .inl (gI G, 8, .inl (fun j => nI ((fun _ => 0) j))))], [(q_5, .inl (gI G, 8, .inl (fun j => nI ((fun _ => 0) j))))], [(P, .inl (gI G, 8, .inl (fun j => nI ((plr H p0 8) j))))], [(S, .inl (gI G, 8, .inl (fun j => nI ((vlr H v v0 8) j))))]])
  refine V.astore hC dL_least_13 [some (.ref P), some (.ref S), some (.int (nI m)), some (.int (nI t)), some (.int (nI m)), some (.ref q_5), some (.ref q_11), none, none, none] (Nat.le_of_ble_eq_true rfl) rfl ?_
  refine V.iconst hC 0 dL_least_15 rfl ?_
  refine V.istore hC dL_least_16 [some (.ref P), some (.ref S), some (.int (nI m)), some (.int (nI t)), some (.int (nI m)), some (.ref q_5), some (.ref q_11), some (.int 0), none, none] (Nat.le_of_ble_eq_true rfl) rfl ?_
  have loop18 : ∀ (n : Nat) (c : Nat) (f : Nat → Nat) (g : Nat → Nat), 2 ^ m - c < n → (c ≤ 2 ^ m) → V G K 10 (2 + 8 * c) (16 + 64 * c) 18 [some (.ref P), some (.ref S), some (.int (nI m)), some (.int (nI t)), some (.int (nI (lsl H t v m c))), some (.ref q_5), some (.ref q_11), some (.int (nI c)), none, none] [] (flt [[(q_11, .inl (gI G, 8, .inl (fun j => nI (g j))))], [(q_5, .inl (gI G, 8, .inl (fun j => nI (f j))))], [(P, .inl (gI G, 8, .inl (fun j => nI ((plr H p0 8) j))))], [(S, .inl (gI G, 8, .inl (fun j => nI ((vlr H v v0 8) j))))]]) := by
    intro n
    induction n with
    | zero => intro c f g hlt; exact absurd hlt (Nat.not_lt_zero _)
    | succ n ih18 =>
      intro c f g hlt18 hc
      have hls := lsl_m (H := H) (t := t) (m := m) (v := v) c
      refine V.iload hC (x := nI c) dL_least_18 rfl ?_
      refine V.iconst hC 1 dL_least_20 rfl ?_
      refine V.iload_n hC (x := nI m) dL_least_21 rfl ?_
      refine V.ishl hC dL_least_22 ?_
      refine V.topeq (nI (2 ^ m)) (shl1 hm8) ?_
      refine V.icmpN_ge hC c (2 ^ m) 111 dL_least_23 rfl rfl rfl (by omega) (by omega) (fun c_23 => ?_) (fun c_23 => ?_)
      · refine V.iload hC (x := nI (lsl H t v m c)) dL_least_111 rfl ?_
        refine V.widen (k := 2050) (n := 16400) (by omega) (by omega) ?_
        refine V.reN (N := 4) [2, 3] [[(P, .inl (gI G, 8, .inl (fun j => nI ((plr H p0 8) j))))], [(S, .inl (gI G, 8, .inl (fun j => nI ((vlr H v v0 8) j))))]] rfl (by decide) rfl ?_
        exact hE 113 _ (nI (lsl H t v m c)) () dL_least_113 rfl (by rw [show c = 2 ^ m by omega])
      · refine V.iconst hC 0 dL_least_26 rfl ?_
        refine V.istore hC dL_least_27 [some (.ref P), some (.ref S), some (.int (nI m)), some (.int (nI t)), some (.int (nI (lsl H t v m c))), some (.ref q_5), some (.ref q_11), some (.int (nI c)), some (.int 0), none] (Nat.le_of_ble_eq_true rfl) rfl ?_
        refine V.iconst hC 0 dL_least_29 rfl ?_
        refine V.istore hC dL_least_30 [some (.ref P), some (.ref S), some (.int (nI m)), some (.int (nI t)), some (.int (nI (lsl H t v m c))), some (.ref q_5), some (.ref q_11), some (.int (nI c)), some (.int 0), some (.int 0)] (Nat.le_of_ble_eq_true rfl) rfl ?_
        have loop32 : ∀ (n : Nat) (k : Nat), m - k < n → (k ≤ m) → V G K 10 (2 + 8 * c) (16 + 64 * c) 32 [some (.ref P), some (.ref S), some (.int (nI m)), some (.int (nI t)), some (.int (nI (lsl H t v m c))), some (.ref q_5), some (.ref q_11), some (.int (nI c)), some (.int (nI (popb c k))), some (.int (nI k))] [] (flt [[(q_11, .inl (gI G, 8, .inl (fun j => nI ((chl (vlr H v v0 8) c g k) j))))], [(q_5, .inl (gI G, 8, .inl (fun j => nI ((chl (plr H p0 8) c f k) j))))], [(P, .inl (gI G, 8, .inl (fun j => nI ((plr H p0 8) j))))], [(S, .inl (gI G, 8, .inl (fun j => nI ((vlr H v v0 8) j))))]]) := by
          intro n
          induction n with
          | zero => intro k hlt; exact absurd hlt (Nat.not_lt_zero _)
          | succ n ih32 =>
            intro k hlt32 hk
            have hpc := popb_le c k
            refine V.iload hC (x := nI k) dL_least_32 rfl ?_
            refine V.iload_n hC (x := nI m) dL_least_34 rfl ?_
            refine V.icmpN_ge hC k m 76 dL_least_35 rfl rfl rfl (by omega) (by omega) (fun c_35 => ?_) (fun c_35 => ?_)
            · have hkm : k = m := by omega
              refine V.iload hC (x := nI (popb c k)) dL_least_76 rfl ?_
              refine V.iload_n hC (x := nI t) dL_least_78 rfl ?_
              refine V.icmpN_ne hC (popb c k) t 101 dL_least_79 rfl rfl rfl (by omega) (by omega) (fun c_79 => ?_) (fun c_79 => ?_)
              · refine V.iload hC (x := nI (lsl H t v m c)) dL_least_101 rfl ?_
                refine V.topeq (nI (lsl H t v m (c + 1))) (by rw [lsl, if_neg (by rw [← hkm]; exact c_79)]) ?_
                refine V.istore hC dL_least_103 [some (.ref P), some (.ref S), some (.int (nI m)), some (.int (nI t)), some (.int (nI (lsl H t v m (c + 1)))), some (.ref q_5), some (.ref q_11), some (.int (nI c)), some (.int (nI (popb c k))), some (.int (nI k))] (Nat.le_of_ble_eq_true rfl) rfl ?_
                refine V.iincN hC c 1 dL_least_105 rfl [some (.ref P), some (.ref S), some (.int (nI m)), some (.int (nI t)), some (.int (nI (lsl H t v m (c + 1)))), some (.ref q_5), some (.ref q_11), some (.int (nI (c + 1))), some (.int (nI (popb c k))), some (.int (nI k))] (Nat.le_of_ble_eq_true rfl) rfl rfl rfl ?_
                refine V.goto hC 18 dL_least_108 rfl ?_
                refine V.drop 8 (lv' := [some (.ref P), some (.ref S), some (.int (nI m)), some (.int (nI t)), some (.int (nI (lsl H t v m (c + 1)))), some (.ref q_5), some (.ref q_11), some (.int (nI (c + 1))), none, some (.int (nI k))]) rfl ?_
                refine V.drop 9 (lv' := [some (.ref P), some (.ref S), some (.int (nI m)), some (.int (nI t)), some (.int (nI (lsl H t v m (c + 1)))), some (.ref q_5), some (.ref q_11), some (.int (nI (c + 1))), none, none]) rfl ?_
                refine V.widen (k := 2 + 8 * (c + 1)) (n := 16 + 64 * (c + 1)) (by omega) (by omega) ?_
                exact ih18 (c + 1) (chl (plr H p0 8) c f k) (chl (vlr H v v0 8) c g k) (by omega) (by omega)
              · refine V.iload hC (x := nI (lsl H t v m c)) dL_least_82 rfl ?_
                refine V.aload_n hC (x := P) dL_least_84 rfl ?_
                refine V.aload_n hC (x := S) dL_least_85 rfl ?_
                refine V.iload_n hC (x := nI m) dL_least_86 rfl ?_
                refine V.aload hC (x := q_5) dL_least_87 rfl ?_
                refine V.aload hC (x := q_11) dL_least_89 rfl ?_
                refine V.iload_n hC (x := nI t) dL_least_91 rfl ?_
                refine V.callSBN (n := 6) (As := [.ref P, .ref S, .int (nI m), .ref q_5, .ref q_11, .int (nI t)]) (rest := [.int (nI (lsl H t v m c))]) hC (l_unfitD (kl K) G P S (plr H p0 8) (vlr H v v0 8) q_5 q_11 (chl (plr H p0 8) c f k) (chl (vlr H v v0 8) c g k) m t h1 (by omega) hm8 (fun j hj => lc_p (hm.trans hkm.symm) c_79.symm j hj) (fun j hj => lc_s (hm.trans hkm.symm) c_79.symm hv j hj) (fun j hj => lp_lt hm j hj) (fun j hj => ls_lt hm hv j hj)) SFk0 SFgo0 (gx2 gL_least_L_unfit) rfl ⟨rfl, rfl⟩ (by decide +kernel) ⟨by decide, by decide, by show _ ≤ 2050; omega, by show _ ≤ 16400; omega⟩ (L := [[(q_11, .inl (gI G, 8, .inl (fun j => nI ((chl (vlr H v v0 8) c g k) j))))], [(q_5, .inl (gI G, 8, .inl (fun j => nI ((chl (plr H p0 8) c f k) j))))], [(P, .inl (gI G, 8, .inl (fun j => nI ((plr H p0 8) j))))], [(S, .inl (gI G, 8, .inl (fun j => nI ((vlr H v v0 8) j))))]]) (N := 4) rfl [2, 3, 1, 0] [] (by decide) rfl (fun _ : Unit => [[(P, .inl (gI G, 8, .inl (fun j => nI ((plr H p0 8) j))))], [(S, .inl (gI G, 8, .inl (fun j => nI ((vlr H v v0 8) j))))], [(q_5, .inl (gI G, 8, .inl (fun j => nI ((chl (plr H p0 8) c f k) j))))], [(q_11, .inl (gI G, 8, .inl (fun j => nI ((chl (vlr H v v0 8) c g k) j))))]]) (fun _ => rfl) rfl rfl (Nat.le_of_ble_eq_true rfl) dL_least_92 (fun r_92 u_92 hp_92 => ?_)
                subst hp_92
                show V G K 10 (2 + 8 * c + 8) (16 + 64 * c + 64) 95 [some (.ref P), some (.ref S), some (.int (nI m)), some (.int (nI t)), some (.int (nI (lsl H t v m c))), some (.ref q_5), some (.ref q_11), some (.int (nI c)), some (.int (nI (popb c k))), some (.int (nI k))] [.int (nI (ulw (plr H p0 8) (vlr H v v0 8) (chl (plr H p0 8) c f k) (chl (vlr H v v0 8) c g k) t m)), .int (nI (lsl H t v m c))] (flt [[(P, .inl (gI G, 8, .inl (fun j => nI ((plr H p0 8) j))))], [(S, .inl (gI G, 8, .inl (fun j => nI ((vlr H v v0 8) j))))], [(q_5, .inl (gI G, 8, .inl (fun j => nI ((chl (plr H p0 8) c f k) j))))], [(q_11, .inl (gI G, 8, .inl (fun j => nI ((chl (vlr H v v0 8) c g k) j))))]])
                refine V.reN (N := 4) [3, 2, 0, 1] [[(q_11, .inl (gI G, 8, .inl (fun j => nI ((chl (vlr H v v0 8) c g k) j))))], [(q_5, .inl (gI G, 8, .inl (fun j => nI ((chl (plr H p0 8) c f k) j))))], [(P, .inl (gI G, 8, .inl (fun j => nI ((plr H p0 8) j))))], [(S, .inl (gI G, 8, .inl (fun j => nI ((vlr H v v0 8) j))))]] rfl (by decide) rfl ?_
                refine V.mmin hC q1_ q2_ q3_ q4_ ⟨Nat.le_of_ble_eq_true rfl, Nat.le_of_ble_eq_true rfl, (by first | exact Nat.le_of_ble_eq_true rfl | (show _ ≤ _; simp only []; omega)), (by first | exact Nat.le_of_ble_eq_true rfl | (show _ ≤ _; simp only []; omega))⟩ dL_least_95 ?_
                refine V.goto hC 103 dL_least_98 rfl ?_
                have hu_ : ulw (plr H p0 8) (vlr H v v0 8) (chl (plr H p0 8) c f k) (chl (vlr H v v0 8) c g k) t m = unf (cmk H c 8) v H 8 := by rw [hkm, ← hm]; exact ulw_cho h4 (by rw [hm, ← hkm]; exact c_79)
                refine V.topeq (nI (lsl H t v m (c + 1))) (by rw [nI_min (by omega) (by have := ulw_le (plr H p0 8) (vlr H v v0 8) (chl (plr H p0 8) c f k) (chl (vlr H v v0 8) c g k) t m; omega), lsl, if_pos (by rw [← hkm]; exact c_79), hu_]) ?_
                refine V.istore hC dL_least_103 [some (.ref P), some (.ref S), some (.int (nI m)), some (.int (nI t)), some (.int (nI (lsl H t v m (c + 1)))), some (.ref q_5), some (.ref q_11), some (.int (nI c)), some (.int (nI (popb c k))), some (.int (nI k))] (Nat.le_of_ble_eq_true rfl) rfl ?_
                refine V.iincN hC c 1 dL_least_105 rfl [some (.ref P), some (.ref S), some (.int (nI m)), some (.int (nI t)), some (.int (nI (lsl H t v m (c + 1)))), some (.ref q_5), some (.ref q_11), some (.int (nI (c + 1))), some (.int (nI (popb c k))), some (.int (nI k))] (Nat.le_of_ble_eq_true rfl) rfl rfl rfl ?_
                refine V.goto hC 18 dL_least_108 rfl ?_
                refine V.drop 8 (lv' := [some (.ref P), some (.ref S), some (.int (nI m)), some (.int (nI t)), some (.int (nI (lsl H t v m (c + 1)))), some (.ref q_5), some (.ref q_11), some (.int (nI (c + 1))), none, some (.int (nI k))]) rfl ?_
                refine V.drop 9 (lv' := [some (.ref P), some (.ref S), some (.int (nI m)), some (.int (nI t)), some (.int (nI (lsl H t v m (c + 1)))), some (.ref q_5), some (.ref q_11), some (.int (nI (c + 1))), none, none]) rfl ?_
                refine V.widen (k := 2 + 8 * (c + 1)) (n := 16 + 64 * (c + 1)) (by omega) (by omega) ?_
                exact ih18 (c + 1) (chl (plr H p0 8) c f k) (chl (vlr H v v0 8) c g k) (by omega) (by omega)
            · refine V.iload hC (x := nI c) dL_least_38 rfl ?_
              refine V.iload hC (x := nI k) dL_least_40 rfl ?_
              refine V.ishr hC dL_least_42 ?_
              refine V.topeq (nI (c / 2 ^ k)) (shrN (by omega) (by omega)) ?_
              refine V.iconst hC 2 dL_least_43 rfl ?_
              refine V.iremN hC (c / 2 ^ k) 2 dL_least_44 rfl rfl (Nat.lt_of_le_of_lt (Nat.div_le_self _ _) (by omega)) (by decide) (by decide) ?_
              refine V.iconst hC 1 dL_least_45 rfl ?_
              refine V.icmpN_ne hC ((c / 2 ^ k) % 2) 1 70 dL_least_46 rfl rfl rfl (Nat.lt_trans (Nat.mod_lt _ (by decide)) (by decide)) (by omega) (fun c_46 => ?_) (fun c_46 => ?_)
              · have cb : ¬ c / 2 ^ k % 2 = 1 := c_46
                have e1_ : chl (plr H p0 8) c f (k + 1) = chl (plr H p0 8) c f k := by rw [chl, if_neg cb]
                have e2_ : chl (vlr H v v0 8) c g (k + 1) = chl (vlr H v v0 8) c g k := by rw [chl, if_neg cb]
                refine V.eqw (ws' := (flt [[(q_11, .inl (gI G, 8, .inl (fun j => nI ((chl (vlr H v v0 8) c g (k + 1)) j))))], [(q_5, .inl (gI G, 8, .inl (fun j => nI ((chl (plr H p0 8) c f (k + 1)) j))))], [(P, .inl (gI G, 8, .inl (fun j => nI ((plr H p0 8) j))))], [(S, .inl (gI G, 8, .inl (fun j => nI ((vlr H v v0 8) j))))]])) (by rw [e1_, e2_]) ?_
                refine V.lset 8 (x := .int (nI (popb c k))) (y := .int (nI (popb c (k + 1)))) (by rw [popb_nS cb]) rfl (lv' := [some (.ref P), some (.ref S), some (.int (nI m)), some (.int (nI t)), some (.int (nI (lsl H t v m c))), some (.ref q_5), some (.ref q_11), some (.int (nI c)), some (.int (nI (popb c (k + 1)))), some (.int (nI k))]) rfl ?_
                refine V.iincN hC k 1 dL_least_70 rfl [some (.ref P), some (.ref S), some (.int (nI m)), some (.int (nI t)), some (.int (nI (lsl H t v m c))), some (.ref q_5), some (.ref q_11), some (.int (nI c)), some (.int (nI (popb c (k + 1)))), some (.int (nI (k + 1)))] (Nat.le_of_ble_eq_true rfl) rfl rfl rfl ?_
                refine V.goto hC 32 dL_least_73 rfl ?_
                exact ih32 (k + 1) (by omega) (by omega)
              · refine V.aload hC (x := q_5) dL_least_49 rfl ?_
                refine V.iload hC (x := nI (popb c k)) dL_least_51 rfl ?_
                refine V.aload_n hC (x := P) dL_least_53 rfl ?_
                refine V.iload hC (x := nI k) dL_least_54 rfl ?_
                refine V.ialdN hC dL_least_56 (2) (f := plr H p0 8) rfl k rfl (by omega) (by decide) ?_
                refine V.iastN hC dL_least_57 (1) (f := chl (plr H p0 8) c f k) rfl (popb c k) ((plr H p0 8) k) rfl (by omega) (by decide) rfl (flt [[(q_11, .inl (gI G, 8, .inl (fun j => nI ((chl (vlr H v v0 8) c g k) j))))], [(q_5, .inl (gI G, 8, .inl (fun j => nI ((va_up (chl (plr H p0 8) c f k) (popb c k) ((plr H p0 8) k)) j))))], [(P, .inl (gI G, 8, .inl (fun j => nI ((plr H p0 8) j))))], [(S, .inl (gI G, 8, .inl (fun j => nI ((vlr H v v0 8) j))))]]) rfl ?_
                refine V.aload hC (x := q_11) dL_least_58 rfl ?_
                refine V.iload hC (x := nI (popb c k)) dL_least_60 rfl ?_
                refine V.aload_n hC (x := S) dL_least_62 rfl ?_
                refine V.iload hC (x := nI k) dL_least_63 rfl ?_
                refine V.ialdN hC dL_least_65 (3) (f := vlr H v v0 8) rfl k rfl (by omega) (by decide) ?_
                refine V.iastN hC dL_least_66 (0) (f := chl (vlr H v v0 8) c g k) rfl (popb c k) ((vlr H v v0 8) k) rfl (by omega) (by decide) rfl (flt [[(q_11, .inl (gI G, 8, .inl (fun j => nI ((va_up (chl (vlr H v v0 8) c g k) (popb c k) ((vlr H v v0 8) k)) j))))], [(q_5, .inl (gI G, 8, .inl (fun j => nI ((va_up (chl (plr H p0 8) c f k) (popb c k) ((plr H p0 8) k)) j))))], [(P, .inl (gI G, 8, .inl (fun j => nI ((plr H p0 8) j))))], [(S, .inl (gI G, 8, .inl (fun j => nI ((vlr H v v0 8) j))))]]) rfl ?_
                refine V.iincN hC (popb c k) 1 dL_least_67 rfl [some (.ref P), some (.ref S), some (.int (nI m)), some (.int (nI t)), some (.int (nI (lsl H t v m c))), some (.ref q_5), some (.ref q_11), some (.int (nI c)), some (.int (nI (popb c k + 1))), some (.int (nI k))] (Nat.le_of_ble_eq_true rfl) rfl rfl rfl ?_
                have cb : c / 2 ^ k % 2 = 1 := by omega
                have e1_ : chl (plr H p0 8) c f (k + 1) = va_up (chl (plr H p0 8) c f k) (popb c k) ((plr H p0 8) k) := by rw [chl, if_pos cb]
                have e2_ : chl (vlr H v v0 8) c g (k + 1) = va_up (chl (vlr H v v0 8) c g k) (popb c k) ((vlr H v v0 8) k) := by rw [chl, if_pos cb]
                refine V.eqw (ws' := (flt [[(q_11, .inl (gI G, 8, .inl (fun j => nI ((chl (vlr H v v0 8) c g (k + 1)) j))))], [(q_5, .inl (gI G, 8, .inl (fun j => nI ((chl (plr H p0 8) c f (k + 1)) j))))], [(P, .inl (gI G, 8, .inl (fun j => nI ((plr H p0 8) j))))], [(S, .inl (gI G, 8, .inl (fun j => nI ((vlr H v v0 8) j))))]])) (by rw [e1_, e2_]) ?_
                refine V.lset 8 (x := .int (nI (popb c k + 1))) (y := .int (nI (popb c (k + 1)))) (by rw [popb_yS cb]) rfl (lv' := [some (.ref P), some (.ref S), some (.int (nI m)), some (.int (nI t)), some (.int (nI (lsl H t v m c))), some (.ref q_5), some (.ref q_11), some (.int (nI c)), some (.int (nI (popb c (k + 1)))), some (.int (nI k))]) rfl ?_
                refine V.iincN hC k 1 dL_least_70 rfl [some (.ref P), some (.ref S), some (.int (nI m)), some (.int (nI t)), some (.int (nI (lsl H t v m c))), some (.ref q_5), some (.ref q_11), some (.int (nI c)), some (.int (nI (popb c (k + 1)))), some (.int (nI (k + 1)))] (Nat.le_of_ble_eq_true rfl) rfl rfl rfl ?_
                refine V.goto hC 32 dL_least_73 rfl ?_
                exact ih32 (k + 1) (by omega) (by omega)
        exact loop32 _ 0 (Nat.lt_succ_self _) (Nat.zero_le _)
  refine V.widen (k := 2 + 8 * 0) (n := 16 + 64 * 0) (by omega) (by omega) ?_
  exact loop18 _ 0 (fun _ => 0) (fun _ => 0) (Nat.lt_succ_self _) (Nat.zero_le _)
