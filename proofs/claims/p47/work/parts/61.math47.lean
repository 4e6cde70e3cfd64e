/-! the law's mathematics: the form of Newton is that of Lagrange, the least over choices is the least over sets -/
/-- the divided differences after r rounds -/
def nwd (P S : Nat → Nat) : Nat → Nat → Nat
  | 0, k => S k
  | r + 1, k => if k < r + 1 then nwd P S r k else dif97 (nwd P S r k) (nwd P S r (k - 1)) * inv97 (dif97 (P k) (P (k - (r + 1)))) % 97
/-- the form of Newton at x, n terms of t from the last on -/
def nwe (P c : Nat → Nat) (t x : Nat) : Nat → Nat
  | 0 => 0
  | n + 1 => (nwe P c t x n * dif97 x (P (t - 1 - n)) + c (t - 1 - n)) % 97
def nwt (P S : Nat → Nat) (t x : Nat) : Nat := nwe P (nwd P S (t - 1)) t x t
def e1 (j k : Nat) : Nat := if k = j then 1 else 0
theorem nwd_lo {P S : Nat → Nat} {r k : Nat} (q : k < r + 1) : nwd P S (r + 1) k = nwd P S r k := by rw [nwd, if_pos q]
theorem nwd_hi {P S : Nat → Nat} {r k : Nat} (q : ¬ k < r + 1) : nwd P S (r + 1) k = dif97 (nwd P S r k) (nwd P S r (k - 1)) * inv97 (dif97 (P k) (P (k - (r + 1)))) % 97 := by rw [nwd, if_neg q]
theorem dif97_m (A B : Nat) : dif97 A B % 97 = (A + 96 * B) % 97 := by
  unfold dif97
  have := Nat.mod_lt B (show 0 < 97 by decide)
  omega
theorem lin_d {n : Nat} {S a b : Nat → Nat} {A B : Nat} (c : Nat) (hA : A % 97 = sumn (fun j => S j * a j) n % 97) (hB : B % 97 = sumn (fun j => S j * b j) n % 97) : dif97 A B * c % 97 = sumn (fun j => S j * (dif97 (a j) (b j) * c % 97)) n % 97 := by
  have h1 : sumn (fun j => S j * (dif97 (a j) (b j) * c % 97)) n % 97 = sumn (fun j => c * (S j * a j + 96 * (S j * b j))) n % 97 := by
    refine sumn_mod (fun j _ => ?_)
    rw [mm' (S j) (dif97 (a j) (b j) * c)]
    have e := mulm' (S j * c) (dif97_m (a j) (b j))
    rw [show S j * (dif97 (a j) (b j) * c) = S j * c * dif97 (a j) (b j) by rw [Nat.mul_comm (dif97 (a j) (b j)) c, Nat.mul_assoc], e]
    congr 1
    rw [Nat.mul_add, Nat.mul_add]
    congr 1
    · rw [Nat.mul_comm (S j) c, Nat.mul_assoc]
    · rw [Nat.mul_comm (S j) c, Nat.mul_assoc, Nat.mul_left_comm (S j) 96]
  have h2 : sumn (fun j => c * (S j * a j + 96 * (S j * b j))) n = c * (sumn (fun j => S j * a j) n + 96 * sumn (fun j => S j * b j) n) := by
    rw [sumn_mul c (fun j => S j * a j + 96 * (S j * b j)), sumn_add (fun j => S j * a j) (fun j => 96 * (S j * b j)), sumn_mul 96 (fun j => S j * b j)]
  have h3 : dif97 A B % 97 = (sumn (fun j => S j * a j) n + 96 * sumn (fun j => S j * b j) n) % 97 := by
    rw [dif97_m]
    omega
  rw [h1, h2, mulm c h3, Nat.mul_comm]
theorem lin_e {n : Nat} {S v a : Nat → Nat} {V A : Nat} (d : Nat) (hV : V % 97 = sumn (fun j => S j * v j) n % 97) (hA : A % 97 = sumn (fun j => S j * a j) n % 97) : (V * d + A) % 97 = sumn (fun j => S j * ((v j * d + a j) % 97)) n % 97 := by
  have h1 : sumn (fun j => S j * ((v j * d + a j) % 97)) n % 97 = sumn (fun j => d * (S j * v j) + S j * a j) n % 97 := by
    refine sumn_mod (fun j _ => ?_)
    rw [mm' (S j) (v j * d + a j), Nat.mul_add]
    congr 2
    rw [← Nat.mul_assoc, Nat.mul_comm]
  have h2 : sumn (fun j => d * (S j * v j) + S j * a j) n = d * sumn (fun j => S j * v j) n + sumn (fun j => S j * a j) n := by
    rw [sumn_add (fun j => d * (S j * v j)) (fun j => S j * a j), sumn_mul d (fun j => S j * v j)]
  have h3 := mulm d hV
  rw [h1, h2, Nat.mul_comm d]
  omega
theorem nwd_lin (P S : Nat → Nat) (t : Nat) : ∀ r k, k < t → nwd P S r k % 97 = sumn (fun j => S j * nwd P (e1 j) r k) t % 97
  | 0, k, hk => by
    show S k % 97 = sumn (fun j => S j * e1 j k) t % 97
    rw [sumn_one (f := fun j => S j * e1 j k) (i := k) hk (fun j _ z => by show S j * e1 j k % 97 = 0; rw [e1, if_neg (Ne.symm z), Nat.mul_zero])]
    show S k % 97 = S k * e1 k k % 97
    rw [e1, if_pos rfl, Nat.mul_one]
  | r + 1, k, hk => by
    have h1 := nwd_lin P S t r k hk
    have h2 := nwd_lin P S t r (k - 1) (by omega)
    by_cases q : k < r + 1
    · rw [nwd_lo q, h1]
      exact congrArg (fun z => z % 97) (sumn_congr (fun j _ => by rw [nwd_lo q]))
    · rw [nwd_hi q, Nat.mod_mod, lin_d _ h1 h2]
      exact congrArg (fun z => z % 97) (sumn_congr (fun j _ => by rw [nwd_hi q]))
theorem nwe_lin (P c S : Nat → Nat) (cu : Nat → Nat → Nat) (t x : Nat) (hc : ∀ k, k < t → c k % 97 = sumn (fun j => S j * cu j k) t % 97) : ∀ n, n ≤ t → nwe P c t x n % 97 = sumn (fun j => S j * nwe P (cu j) t x n) t % 97
  | 0, _ => by
    show 0 % 97 = sumn (fun j => S j * 0) t % 97
    rw [sumn_zero (f := fun j => S j * 0) (fun j _ => Nat.mul_zero _)]
  | n + 1, hn => by
    have ih := nwe_lin P c S cu t x hc n (by omega)
    have h2 := hc (t - 1 - n) (by omega)
    rw [nwe, Nat.mod_mod]
    exact lin_e _ ih h2
theorem nwt_lin (P S : Nat → Nat) (t x : Nat) : nwt P S t x % 97 = sumn (fun j => S j * nwt P (e1 j) t x) t % 97 :=
  nwe_lin P _ S (fun j => nwd P (e1 j) (t - 1)) t x (fun k hk => nwd_lin P S t (t - 1) k hk) t (Nat.le_refl t)
theorem nwe_lt (P c : Nat → Nat) (t x : Nat) : ∀ n, nwe P c t x n < 97
  | 0 => by show 0 < 97; decide
  | n + 1 => Nat.mod_lt _ (by decide)
theorem nwt_lt (P S : Nat → Nat) (t x : Nat) : nwt P S t x < 97 := nwe_lt _ _ _ _ _
theorem nwd_lt {P S : Nat → Nat} {t : Nat} (hS : ∀ j, j < t → S j < 97) : ∀ r k, k < t → nwd P S r k < 97
  | 0, k, hk => hS k hk
  | r + 1, k, hk => by
    by_cases q : k < r + 1
    · rw [nwd_lo q]
      exact nwd_lt hS r k hk
    · rw [nwd_hi q]
      exact Nat.mod_lt _ (by decide)
theorem nwd_congr {P P' S S' : Nat → Nat} {t : Nat} (hP : ∀ j, j < t → P j = P' j) (hS : ∀ j, j < t → S j = S' j) : ∀ r k, k < t → nwd P S r k = nwd P' S' r k
  | 0, k, hk => hS k hk
  | r + 1, k, hk => by
    have h1 := nwd_congr hP hS r k hk
    have h2 := nwd_congr hP hS r (k - 1) (by omega)
    by_cases q : k < r + 1
    · rw [nwd_lo q, nwd_lo q, h1]
    · rw [nwd_hi q, nwd_hi q, h1, h2, hP k hk, hP (k - (r + 1)) (by omega)]
theorem nwe_congr {P P' c c' : Nat → Nat} {t x : Nat} (hP : ∀ j, j < t → P j = P' j) (hc : ∀ j, j < t → c j = c' j) : ∀ n, n ≤ t → nwe P c t x n = nwe P' c' t x n
  | 0, _ => rfl
  | n + 1, hn => by rw [nwe, nwe, nwe_congr hP hc n (by omega), hP (t - 1 - n) (by omega), hc (t - 1 - n) (by omega)]
theorem nwt_congr {P P' S S' : Nat → Nat} {t x : Nat} (hP : ∀ j, j < t → P j = P' j) (hS : ∀ j, j < t → S j = S' j) : nwt P S t x = nwt P' S' t x :=
  nwe_congr hP (fun k hk => nwd_congr hP hS (t - 1) k hk) t (Nat.le_refl t)
/-- what the differences are when they are looked at at last -/
theorem nwd_fix {P S : Nat → Nat} {k : Nat} : ∀ n, nwd P S (k + n) k = nwd P S k k
  | 0 => rfl
  | n + 1 => by rw [← Nat.add_assoc, nwd_lo (by omega), nwd_fix n]
/-- the power by which the law inverts -/
def pwl (x : Nat) : Nat → Nat
  | 0 => 1
  | k + 1 => pwl x k * x % 97
theorem pwl_lt (x : Nat) : ∀ k, pwl x k < 97
  | 0 => by show 1 < 97; decide
  | k + 1 => Nat.mod_lt _ (by decide)
set_option maxRecDepth 100000 in
theorem pwl_inv : ∀ x, x < 97 → pwl x 95 = inv97 x := by decide +kernel
set_option maxRecDepth 100000 in
theorem inv_ok : ∀ x, x < 97 → 1 ≤ x → 0 < inv97 x ∧ x * inv97 x % 97 = 1 := by decide +kernel
set_option maxRecDepth 1000000 in
theorem fc6 : ∀ M, M < 256 → popb M 8 ≤ 4 → ∀ b, b < 8 → M / 2 ^ b % 2 = 1 → ∀ x, x < 9 → nwt (plr M (fun _ => 0) 8) (e1 (popb M b)) (popb M 8) x = frac M b x := by decide +kernel
theorem plr_same {M : Nat} {p q : Nat → Nat} {j : Nat} (h : j < popb M 8) : plr M p 8 j = plr M q 8 j := by
  obtain ⟨b, h1, h2, h3⟩ := pt_bird h
  rw [← h3, plr8 h1 h2, plr8 h1 h2]
theorem popb_yS {M b : Nat} (h : M / 2 ^ b % 2 = 1) : popb M (b + 1) = popb M b + 1 := by rw [popb, h]
theorem popb_nS {M b : Nat} (h : ¬ M / 2 ^ b % 2 = 1) : popb M (b + 1) = popb M b := (popb_n h).symm
/-- Newton through the points of a set gives Lagrange's value -/
theorem nwt_lag {M : Nat} {v p0 v0 : Nat → Nat} {x : Nat} (hM : M < 256) (h4 : popb M 8 ≤ 4) (hx : x < 9) : nwt (plr M p0 8) (vlr M v v0 8) (popb M 8) x = lagS M v x := by
  rw [nwt_congr (P := plr M p0 8) (S := vlr M v v0 8) (t := popb M 8) (P' := plr M (fun _ => 0) 8) (S' := vlr M v v0 8) (fun j hj => plr_same hj) (fun _ _ => rfl)]
  have e := nwt_lin (plr M (fun _ => 0) 8) (vlr M v v0 8) (popb M 8) x
  rw [Nat.mod_eq_of_lt (nwt_lt _ _ _ _)] at e
  have h1 := lsum_mod M v x 8
  rw [Nat.mod_eq_of_lt (lsum_lt M v x 8)] at h1
  rw [e]
  show _ = lsum M v x 8
  rw [h1]
  have key : ∀ b, b ≤ 8 → sumn (fun j => vlr M v v0 8 j * nwt (plr M (fun _ => 0) 8) (e1 j) (popb M 8) x) (popb M b) = sumn (fun b => if M / 2 ^ b % 2 = 1 then v b * frac M b x else 0) b := by
    intro b
    induction b with
    | zero => intro _; rfl
    | succ b ih =>
      intro hb
      by_cases hs : M / 2 ^ b % 2 = 1
      · rw [popb_yS hs, sumn, sumn, ih (by omega), vlr8 (by omega) hs, fc6 M hM h4 b (by omega) hs x hx, if_pos hs]
      · rw [popb_nS hs, sumn, ih (by omega), if_neg hs, Nat.add_zero]
  rw [key 8 (Nat.le_refl 8)]
/-- how many of the first points the law finds unfit -/
def ulw (P S P' S' : Nat → Nat) (t : Nat) : Nat → Nat
  | 0 => 0
  | k + 1 => ulw P S P' S' t k + (if nwt P' S' t (P k) = S k then 0 else 1)
theorem ulw_le (P S P' S' : Nat → Nat) (t : Nat) : ∀ k, ulw P S P' S' t k ≤ k
  | 0 => Nat.le_refl 0
  | k + 1 => by
    have := ulw_le P S P' S' t k
    rw [ulw]
    split <;> omega
theorem ulw_congr {P S P' S' Q' R' : Nat → Nat} {t : Nat} (hP : ∀ j, j < t → P' j = Q' j) (hS : ∀ j, j < t → S' j = R' j) : ∀ k, ulw P S P' S' t k = ulw P S Q' R' t k
  | 0 => rfl
  | k + 1 => by rw [ulw, ulw, ulw_congr hP hS k, nwt_congr hP hS]
theorem ulw_unf {C H T : Nat} {v p0 v0 p1 v1 : Nat → Nat} (hC : C < 256) (h4 : popb C 8 ≤ 4) (hT : ∀ b, b < 8 → T / 2 ^ b % 2 = 1 → H / 2 ^ b % 2 = 1 ∧ popb T b = popb H b) : ∀ b, b ≤ 8 → ulw (plr H p0 8) (vlr H v v0 8) (plr C p1 8) (vlr C v v1 8) (popb C 8) (popb T b) = unf C v T b
  | 0, _ => rfl
  | b + 1, hb => by
    have ih := ulw_unf (p0 := p0) (v0 := v0) (p1 := p1) (v1 := v1) (v := v) hC h4 hT b (by omega)
    by_cases hs : T / 2 ^ b % 2 = 1
    · obtain ⟨a1, a2⟩ := hT b (by omega) hs
      rw [popb_yS hs, ulw, unf, ih, a2, plr8 (by omega) a1, vlr8 (by omega) a1, nwt_lag hC h4 (by omega)]
      by_cases z : lagS C v (b + 1) = v b
      · rw [if_pos z, if_neg (fun y => y.2 z)]
      · rw [if_neg z, if_pos ⟨hs, z⟩]
    · rw [popb_nS hs, unf, ih, if_neg (fun y => hs y.1)]
      rfl
/-- a list of the chosen ones laid from the left over an old list -/
def chl (P : Nat → Nat) (c : Nat) (f : Nat → Nat) : Nat → Nat → Nat
  | 0 => f
  | k + 1 => if c / 2 ^ k % 2 = 1 then va_up (chl P c f k) (popb c k) (P k) else chl P c f k
theorem chl_at {P f : Nat → Nat} {c k : Nat} (hs : c / 2 ^ k % 2 = 1) : ∀ n, chl P c f (k + 1 + n) (popb c k) = P k
  | 0 => by rw [Nat.add_zero, chl, if_pos hs, va_up_self]
  | n + 1 => by
    rw [← Nat.add_assoc, chl]
    split
    · have := popb_ltS (S := c) (show k < k + 1 + n by omega) hs
      rw [va_up_ne _ _ (by omega)]
      exact chl_at hs n
    · exact chl_at hs n
/-- the set of the chosen holders -/
def cmk (H c : Nat) : Nat → Nat
  | 0 => 0
  | b + 1 => if H / 2 ^ b % 2 = 1 ∧ c / 2 ^ popb H b % 2 = 1 then cmk H c b + 2 ^ b else cmk H c b
theorem cmk_lt (H c : Nat) : ∀ b, cmk H c b < 2 ^ b
  | 0 => by show 0 < 1; decide
  | b + 1 => by
    have := cmk_lt H c b
    rw [cmk, Nat.pow_succ]
    split <;> omega
theorem cmk_bit (H c : Nat) : ∀ b i, (cmk H c b / 2 ^ i % 2 = 1 ↔ i < b ∧ H / 2 ^ i % 2 = 1 ∧ c / 2 ^ popb H i % 2 = 1)
  | 0, i => by
    rw [show cmk H c 0 = 0 from rfl, Nat.zero_div]
    exact ⟨fun z => absurd z (by decide), fun z => absurd z.1 (Nat.not_lt_zero i)⟩
  | b + 1, i => by
    have ih := cmk_bit H c b i
    have hl := cmk_lt H c b
    rw [cmk]
    rcases Nat.lt_trichotomy i b with q | q | q
    · split
      · rw [bit_lt hl q, ih]
        exact ⟨fun z => ⟨by omega, z.2⟩, fun z => ⟨q, z.2⟩⟩
      · rw [ih]
        exact ⟨fun z => ⟨by omega, z.2⟩, fun z => ⟨q, z.2⟩⟩
    · subst q
      split
      · rename_i h
        rw [bit_eq hl]
        exact ⟨fun _ => ⟨by omega, h⟩, fun _ => rfl⟩
      · rename_i h
        rw [bit_gt hl (Nat.le_refl _)]
        exact ⟨fun z => absurd z (by decide), fun z => absurd z.2 h⟩
    · have h2 : cmk H c (b + 1) < 2 ^ (b + 1) := cmk_lt H c (b + 1)
      rw [cmk] at h2
      rw [bit_gt h2 (by omega)]
      exact ⟨fun z => absurd z (by decide), fun z => absurd z.1 (by omega)⟩
theorem cmk_pop (H c : Nat) : ∀ i, i ≤ 8 → popb (cmk H c 8) i = popb c (popb H i)
  | 0, _ => rfl
  | i + 1, hi => by
    have ih := cmk_pop H c i (by omega)
    have hb := cmk_bit H c 8 i
    by_cases hH : H / 2 ^ i % 2 = 1
    · rw [popb_yS hH]
      by_cases hc : c / 2 ^ popb H i % 2 = 1
      · rw [popb_yS (hb.mpr ⟨by omega, hH, hc⟩), popb_yS hc, ih]
      · rw [popb_nS (fun z => hc (hb.mp z).2.2), popb_nS hc, ih]
    · rw [popb_nS hH, popb_nS (fun z => hH (hb.mp z).2.1), ih]
theorem chl_plr {H c : Nat} {p0 p1 f : Nat → Nat} {j : Nat} (h : j < popb (cmk H c 8) 8) : chl (plr H p0 8) c f (popb H 8) j = plr (cmk H c 8) p1 8 j := by
  obtain ⟨b, h1, h2, h3⟩ := pt_bird h
  obtain ⟨-, a1, a2⟩ := (cmk_bit H c 8 b).mp h2
  have hl : popb H b < popb H 8 := popb_ltS h1 a1
  have e := chl_at (P := plr H p0 8) (f := f) a2 (popb H 8 - (popb H b + 1))
  rw [show popb H b + 1 + (popb H 8 - (popb H b + 1)) = popb H 8 by omega, ← cmk_pop H c b (by omega), h3, plr8 h1 a1] at e
  rw [e, ← h3, plr8 h1 h2]
theorem chl_vlr {H c : Nat} {v v0 v1 f : Nat → Nat} {j : Nat} (h : j < popb (cmk H c 8) 8) : chl (vlr H v v0 8) c f (popb H 8) j = vlr (cmk H c 8) v v1 8 j := by
  obtain ⟨b, h1, h2, h3⟩ := pt_bird h
  obtain ⟨-, a1, a2⟩ := (cmk_bit H c 8 b).mp h2
  have hl : popb H b < popb H 8 := popb_ltS h1 a1
  have e := chl_at (P := vlr H v v0 8) (f := f) a2 (popb H 8 - (popb H b + 1))
  rw [show popb H b + 1 + (popb H 8 - (popb H b + 1)) = popb H 8 by omega, ← cmk_pop H c b (by omega), h3, vlr8 h1 a1] at e
  rw [e, ← h3, vlr8 h1 h2]
/-- what the law counts for a choice -/
theorem ulw_cho {H c t : Nat} {v p0 v0 f g : Nat → Nat} (h4 : t ≤ 4) (hc : popb c (popb H 8) = t) : ulw (plr H p0 8) (vlr H v v0 8) (chl (plr H p0 8) c f (popb H 8)) (chl (vlr H v v0 8) c g (popb H 8)) t (popb H 8) = unf (cmk H c 8) v H 8 := by
  have e : popb (cmk H c 8) 8 = t := (cmk_pop H c 8 (Nat.le_refl 8)).trans hc
  rw [ulw_congr (Q' := plr (cmk H c 8) (fun _ => 0) 8) (R' := vlr (cmk H c 8) v (fun _ => 0) 8) (fun j hj => chl_plr (by rw [e]; exact hj)) (fun j hj => chl_vlr (by rw [e]; exact hj))]
  have := ulw_unf (C := cmk H c 8) (H := H) (T := H) (v := v) (p0 := p0) (v0 := v0) (p1 := fun _ => 0) (v1 := fun _ => 0) (cmk_lt H c 8) (by rw [e]; exact h4) (fun b _ hs => ⟨hs, rfl⟩) 8 (Nat.le_refl 8)
  rw [e] at this
  exact this
/-- the least that the law finds, n choices looked at -/
def lsl (H t : Nat) (v : Nat → Nat) (m : Nat) : Nat → Nat
  | 0 => m
  | c + 1 => if popb c m = t then min (lsl H t v m c) (unf (cmk H c 8) v H 8) else lsl H t v m c
theorem lsl_le {H t m c : Nat} {v : Nat → Nat} (hc : popb c m = t) : ∀ n, c < n → lsl H t v m n ≤ unf (cmk H c 8) v H 8
  | 0, h => absurd h (Nat.not_lt_zero c)
  | n + 1, h => by
    rw [lsl]
    by_cases e : c = n
    · subst e
      rw [if_pos hc]
      exact Nat.min_le_right _ _
    · have := lsl_le (H := H) (v := v) hc n (by omega)
      split
      · exact Nat.le_trans (Nat.min_le_left _ _) this
      · exact this
theorem lsl_m {H t m : Nat} {v : Nat → Nat} : ∀ n, lsl H t v m n ≤ m
  | 0 => Nat.le_refl m
  | n + 1 => by
    have := lsl_m (H := H) (t := t) (m := m) (v := v) n
    rw [lsl]
    split
    · exact Nat.le_trans (Nat.min_le_left _ _) this
    · exact this
theorem lsl_at {H t m : Nat} {v : Nat → Nat} : ∀ n, lsl H t v m n = m ∨ ∃ c, c < n ∧ popb c m = t ∧ lsl H t v m n = unf (cmk H c 8) v H 8
  | 0 => Or.inl rfl
  | n + 1 => by
    have ih := lsl_at (H := H) (t := t) (m := m) (v := v) n
    have keep : lsl H t v m (n + 1) = lsl H t v m n → lsl H t v m (n + 1) = m ∨ ∃ c, c < n + 1 ∧ popb c m = t ∧ lsl H t v m (n + 1) = unf (cmk H c 8) v H 8 := by
      intro e
      rcases ih with ih | ⟨c, h1, h2, h3⟩
      · exact Or.inl (e.trans ih)
      · exact Or.inr ⟨c, by omega, h2, e.trans h3⟩
    by_cases q : popb n m = t
    · have e : lsl H t v m (n + 1) = min (lsl H t v m n) (unf (cmk H n 8) v H 8) := by rw [lsl, if_pos q]
      rcases Nat.le_total (lsl H t v m n) (unf (cmk H n 8) v H 8) with z | z
      · exact keep (by rw [e, Nat.min_eq_left z])
      · exact Or.inr ⟨n, by omega, q, by rw [e, Nat.min_eq_right z]⟩
    · exact keep (by rw [lsl, if_neg q])
theorem lstu_low {H t c : Nat} {v : Nat → Nat} (h1 : c &&& (255 ^^^ H) = 0) (h2 : pop8 c = t) : ∀ n, c < n → lstu H t v n ≤ unf c v (H &&& (255 ^^^ c)) 8
  | 0, h => absurd h (Nat.not_lt_zero c)
  | n + 1, h => by
    rw [lstu]
    by_cases e : c = n
    · subst e
      rw [if_pos ⟨h1, h2⟩]
      exact Nat.min_le_right _ _
    · have := lstu_low (v := v) h1 h2 n (by omega)
      split
      · exact Nat.le_trans (Nat.min_le_left _ _) this
      · exact this
theorem lstu_at {H t : Nat} {v : Nat → Nat} : ∀ n, lstu H t v n = 8 ∨ ∃ c, c < n ∧ c &&& (255 ^^^ H) = 0 ∧ pop8 c = t ∧ lstu H t v n = unf c v (H &&& (255 ^^^ c)) 8
  | 0 => Or.inl rfl
  | n + 1 => by
    have ih := lstu_at (H := H) (t := t) (v := v) n
    have keep : lstu H t v (n + 1) = lstu H t v n → lstu H t v (n + 1) = 8 ∨ ∃ c, c < n + 1 ∧ c &&& (255 ^^^ H) = 0 ∧ pop8 c = t ∧ lstu H t v (n + 1) = unf c v (H &&& (255 ^^^ c)) 8 := by
      intro e
      rcases ih with ih | ⟨c, h1, h2, h3, h4⟩
      · exact Or.inl (e.trans ih)
      · exact Or.inr ⟨c, by omega, h2, h3, e.trans h4⟩
    by_cases q : n &&& (255 ^^^ H) = 0 ∧ pop8 n = t
    · have e : lstu H t v (n + 1) = min (lstu H t v n) (unf n v (H &&& (255 ^^^ n)) 8) := by rw [lstu, if_pos q]
      rcases Nat.le_total (lstu H t v n) (unf n v (H &&& (255 ^^^ n)) 8) with z | z
      · exact keep (by rw [e, Nat.min_eq_left z])
      · exact Or.inr ⟨n, by omega, q.1, q.2, by rw [e, Nat.min_eq_right z]⟩
    · exact keep (by rw [lstu, if_neg q])
/-- the chosen ones themselves fit -/
theorem unf_cut {c H : Nat} {v : Nat → Nat} (hc : c < 256) (h4 : popb c 8 ≤ 4) (hv : ∀ b, b < 8 → c / 2 ^ b % 2 = 1 → v b < 97) : ∀ n, n ≤ 8 → unf c v (H &&& (255 ^^^ c)) n = unf c v H n
  | 0, _ => rfl
  | n + 1, hn => by
    have ih := unf_cut (H := H) hc h4 hv n (by omega)
    have ab := andn_bit n (by omega) c H
    rw [unf, unf, ih]
    by_cases hs : c / 2 ^ n % 2 = 1
    · have e : lagS c v (n + 1) = v n := by rw [lagS_at hc h4 (by omega) hs, Nat.mod_eq_of_lt (hv n (by omega) hs)]
      rw [if_neg (fun z => z.2 e), if_neg (fun z => z.2 e)]
    · by_cases z : H / 2 ^ n % 2 = 1 ∧ ¬ lagS c v (n + 1) = v n
      · rw [if_pos z, if_pos ⟨ab.mpr ⟨z.1, hs⟩, z.2⟩]
      · rw [if_neg z, if_neg (fun y => z ⟨(ab.mp y.1).1, y.2⟩)]
theorem sub_and {C H : Nat} (hC : C < 256) (h : ∀ b, b < 8 → C / 2 ^ b % 2 = 1 → H / 2 ^ b % 2 = 1) : C &&& (255 ^^^ H) = 0 := by
  refine Nat.eq_of_testBit_eq (fun i => ?_)
  rw [Nat.zero_testBit, Nat.testBit_and, Nat.testBit_xor]
  rcases Nat.lt_or_ge i 8 with q | q
  · rw [tb_255 i q]
    cases hc : C.testBit i with
    | false => rfl
    | true =>
      have := (tb_iff H i).mpr (h i q ((tb_iff C i).mp hc))
      rw [this]
      rfl
  · rw [tb_hi hC q]
    rfl
/-- the choice that stands for a set of holders -/
def cho (H C : Nat) : Nat → Nat
  | 0 => 0
  | b + 1 => if H / 2 ^ b % 2 = 1 ∧ C / 2 ^ b % 2 = 1 then cho H C b + 2 ^ popb H b else cho H C b
theorem cho_lt (H C : Nat) : ∀ b, cho H C b < 2 ^ popb H b
  | 0 => by show 0 < 1; decide
  | b + 1 => by
    have ih := cho_lt H C b
    rw [cho]
    by_cases hH : H / 2 ^ b % 2 = 1
    · rw [popb_yS hH, Nat.pow_succ]
      split <;> omega
    · rw [if_neg (fun z => hH z.1), popb_nS hH]
      exact ih
theorem cho_bit (H C : Nat) : ∀ n b, b < n → H / 2 ^ b % 2 = 1 → (cho H C n / 2 ^ popb H b % 2 = 1 ↔ C / 2 ^ b % 2 = 1)
  | 0, b, h, _ => absurd h (Nat.not_lt_zero b)
  | n + 1, b, h, hH => by
    have hl := cho_lt H C n
    rw [cho]
    by_cases e : b = n
    · subst e
      by_cases hC : C / 2 ^ b % 2 = 1
      · rw [if_pos ⟨hH, hC⟩, bit_eq hl]
        exact ⟨fun _ => hC, fun _ => rfl⟩
      · rw [if_neg (fun z => hC z.2), bit_gt hl (Nat.le_refl _)]
        exact ⟨fun z => absurd z (by decide), fun z => absurd z hC⟩
    · have ih := cho_bit H C n b (by omega) hH
      split
      · rw [bit_lt hl (popb_ltS (show b < n by omega) hH), ih]
      · exact ih
theorem cmk_cho {H C : Nat} (hC : C < 256) (h : ∀ b, b < 8 → C / 2 ^ b % 2 = 1 → H / 2 ^ b % 2 = 1) : cmk H (cho H C 8) 8 = C := by
  refine Nat.eq_of_testBit_eq (fun i => ?_)
  rcases Nat.lt_or_ge i 8 with q | q
  · have a := cmk_bit H (cho H C 8) 8 i
    have key : cmk H (cho H C 8) 8 / 2 ^ i % 2 = 1 ↔ C / 2 ^ i % 2 = 1 := by
      rw [a]
      constructor
      · rintro ⟨-, h1, h2⟩
        exact (cho_bit H C 8 i q h1).mp h2
      · intro h1
        exact ⟨q, h i q h1, (cho_bit H C 8 i q (h i q h1)).mpr h1⟩
    rw [← tb_iff, ← tb_iff] at key
    cases h1 : (cmk H (cho H C 8) 8).testBit i <;> cases h2 : C.testBit i
    · rfl
    · rw [h1, h2] at key
      exact absurd (key.mpr rfl) (by decide)
    · rw [h1, h2] at key
      exact absurd (key.mp rfl) (by decide)
    · rfl
  · rw [tb_hi hC q, tb_hi (cmk_lt H _ 8) q]
theorem an_zf {C H : Nat} (h : C &&& (255 ^^^ H) = 0) : ∀ b, b < 8 → C / 2 ^ b % 2 = 1 → H / 2 ^ b % 2 = 1 := an_z h
/-- the law's least is the class's -/
theorem lsl_lstu {H t : Nat} {v : Nat → Nat} (h4 : t ≤ 4) (hm : ∃ c, c < 256 ∧ c &&& (255 ^^^ H) = 0 ∧ pop8 c = t) (hu : ∀ c, unf c v H 8 ≤ popb H 8) (hv : ∀ b, b < 8 → H / 2 ^ b % 2 = 1 → v b < 97) : lsl H t v (popb H 8) (2 ^ popb H 8) = lstu H t v 256 := by
  have cut : ∀ c, c < 256 → c &&& (255 ^^^ H) = 0 → pop8 c = t → unf c v (H &&& (255 ^^^ c)) 8 = unf c v H 8 := fun c h1 h2 h3 =>
    unf_cut h1 (by rw [popb8, h3]; exact h4) (fun b hb hs => hv b hb (an_z h2 b hb hs)) 8 (Nat.le_refl 8)
  apply Nat.le_antisymm
  · rcases lstu_at (H := H) (t := t) (v := v) 256 with e | ⟨c, h1, h2, h3, e⟩
    · have := lsl_m (H := H) (t := t) (m := popb H 8) (v := v) (2 ^ popb H 8)
      have := popb_le H 8
      omega
    · rw [e, cut c h1 h2 h3]
      have hc := cmk_cho h1 (an_z h2)
      have hp := cmk_pop H (cho H c 8) 8 (Nat.le_refl 8)
      rw [hc, popb8, h3] at hp
      have := lsl_le (H := H) (v := v) hp.symm (2 ^ popb H 8) (cho_lt H c 8)
      rw [hc] at this
      exact this
  · rcases lsl_at (H := H) (t := t) (m := popb H 8) (v := v) (2 ^ popb H 8) with e | ⟨c, h1, h2, e⟩
    · obtain ⟨c, a1, a2, a3⟩ := hm
      have := lstu_low (v := v) a2 a3 256 a1
      rw [cut c a1 a2 a3] at this
      have := hu c
      omega
    · rw [e]
      have b1 : cmk H c 8 < 256 := cmk_lt H c 8
      have b2 : cmk H c 8 &&& (255 ^^^ H) = 0 := sub_and b1 (fun b _ hs => ((cmk_bit H c 8 b).mp hs).2.1)
      have b3 : pop8 (cmk H c 8) = t := by rw [← popb8, cmk_pop H c 8 (Nat.le_refl 8)]; exact h2
      have := lstu_low (v := v) b2 b3 256 b1
      rw [cut _ b1 b2 b3] at this
      exact this
theorem unf_pop {C H : Nat} {v : Nat → Nat} : ∀ n, unf C v H n ≤ popb H n
  | 0 => Nat.le_refl 0
  | n + 1 => by
    have := unf_pop (C := C) (H := H) (v := v) n
    rw [unf]
    by_cases hs : H / 2 ^ n % 2 = 1
    · rw [popb_yS hs]
      split <;> omega
    · rw [popb_nS hs, if_neg (fun z => hs z.1)]
      omega
theorem lsum_congr {S : Nat} {v w : Nat → Nat} {x : Nat} : ∀ n, (∀ b, b < n → S / 2 ^ b % 2 = 1 → v b = w b) → lsum S v x n = lsum S w x n
  | 0, _ => rfl
  | n + 1, h => by
    rw [lsum, lsum, lsum_congr n (fun b hb => h b (by omega))]
    by_cases hs : S / 2 ^ n % 2 = 1
    · rw [if_pos hs, if_pos hs, h n (by omega) hs]
    · rw [if_neg hs, if_neg hs]
theorem lagS_congr {S : Nat} {v w : Nat → Nat} {x : Nat} (h : ∀ b, b < 8 → S / 2 ^ b % 2 = 1 → v b = w b) : lagS S v x = lagS S w x := lsum_congr 8 h
/-- where all shares fit, any of them give the same values -/
theorem lagS_fit {F C H : Nat} {v : Nat → Nat} {x : Nat} (hF : F < 256) (hC : C < 256) (h4 : popb F 8 ≤ 4) (hp : popb C 8 = popb F 8) (hs : ∀ b, b < 8 → C / 2 ^ b % 2 = 1 → H / 2 ^ b % 2 = 1) (hu : unf F v H 8 = 0) (hx : x < 9) : lagS C v x = lagS F v x := by
  have e : eqs (popb C 8) C v 8 (lagc F v) := by
    intro b hb hc
    unfold eqn
    rw [hp, ← lagS_poly hF h4 (by omega), unf_0.mp hu b hb (hs b hb hc), Nat.mod_eq_of_lt]
    rw [← unf_0.mp hu b hb (hs b hb hc)]
    exact lagS_lt _ _ _
  rw [← eqs_val hC (by rw [hp]; exact h4) e hx, hp, lagS_poly hF h4 hx]
theorem plr_stop {H : Nat} {p0 : Nat → Nat} {n : Nat} : ∀ k, (∀ b, n ≤ b → b < n + k → ¬ H / 2 ^ b % 2 = 1) → plr H p0 (n + k) = plr H p0 n
  | 0, _ => rfl
  | k + 1, h => by
    rw [← Nat.add_assoc, plr, if_neg (h (n + k) (by omega) (by omega)), plr_stop k (fun b h1 h2 => h b h1 (by omega))]
theorem vlr_stop {H : Nat} {v v0 : Nat → Nat} {n : Nat} : ∀ k, (∀ b, n ≤ b → b < n + k → ¬ H / 2 ^ b % 2 = 1) → vlr H v v0 (n + k) = vlr H v v0 n
  | 0, _ => rfl
  | k + 1, h => by
    rw [← Nat.add_assoc, vlr, if_neg (h (n + k) (by omega) (by omega)), vlr_stop k (fun b h1 h2 => h b h1 (by omega))]
