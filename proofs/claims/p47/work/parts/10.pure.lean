/-! plain facts: counts and sets of birds, arithmetic modulo 97 -/
/-- how many of the first b birds hold a share -/
def hc (s : Nat → Int32) : Nat → Nat
  | 0 => 0
  | b + 1 => hc s b + (if s b = -1 then 0 else 1)
/-- the set of the first m holders among the first b birds -/
def fh (s : Nat → Int32) (m : Nat) : Nat → Nat
  | 0 => 0
  | b + 1 => if s b ≠ -1 ∧ hc s b < m then fh s m b + 2 ^ b else fh s m b
theorem hc_le (s : Nat → Int32) : ∀ b, hc s b ≤ b
  | 0 => Nat.le_refl 0
  | b + 1 => by
    have := hc_le s b
    rw [hc]
    split <;> omega
theorem hc_mono (s : Nat → Int32) (b : Nat) : ∀ n, hc s b ≤ hc s (b + n)
  | 0 => Nat.le_refl _
  | n + 1 => by
    have := hc_mono s b n
    rw [← Nat.add_assoc, hc]
    omega
theorem fh_lt (s : Nat → Int32) (m : Nat) : ∀ b, fh s m b < 2 ^ b
  | 0 => by simp [fh]
  | b + 1 => by
    have := fh_lt s m b
    rw [fh, Nat.pow_succ]
    split <;> omega
theorem fh_256 (s : Nat → Int32) (m b : Nat) (h : b ≤ 8) : fh s m b < 256 :=
  Nat.lt_of_lt_of_le (fh_lt s m b) (Nat.pow_le_pow_right (by decide) h)
theorem fh_stop {s : Nat → Int32} {m b : Nat} (h : m ≤ hc s b) : ∀ n, fh s m (b + n) = fh s m b
  | 0 => rfl
  | n + 1 => by
    have h1 := hc_mono s b n
    rw [← Nat.add_assoc, fh, if_neg (fun z => by omega)]
    exact fh_stop h n
theorem fh_end {s : Nat → Int32} {m b : Nat} (hb : b ≤ 8) (h : m ≤ hc s b) : fh s m b = fh s m 8 := by
  have := fh_stop h (8 - b)
  rw [show b + (8 - b) = 8 by omega] at this
  exact this.symm
theorem fh_yes {s : Nat → Int32} {m b : Nat} (h : ¬ s b = -1) (hm : hc s b < m) : fh s m (b + 1) = fh s m b + 2 ^ b := by rw [fh, if_pos ⟨h, hm⟩]
theorem fh_no {s : Nat → Int32} {m b : Nat} (h : s b = -1) : fh s m (b + 1) = fh s m b := by rw [fh, if_neg (fun z => z.1 h)]
theorem hc_yes {s : Nat → Int32} {b : Nat} (h : ¬ s b = -1) : hc s (b + 1) = hc s b + 1 := by rw [hc, if_neg h]
theorem hc_no {s : Nat → Int32} {b : Nat} (h : s b = -1) : hc s (b + 1) = hc s b := by rw [hc, if_pos h]; rfl
set_option maxRecDepth 100000 in
theorem or_bit8 : ∀ b, b < 8 → ∀ s, s < 256 → s < 2 ^ b → nI s ||| ((1 : Int32) <<< (nI b &&& 31)) = nI (s + 2 ^ b) := by decide +kernel
set_option maxRecDepth 100000 in
theorem bit8 : ∀ b, b < 8 → ∀ s, s < 256 → (nI s >>> (nI b &&& 31)) &&& 1 = nI (s / 2 ^ b % 2) := by decide +kernel
def pop8 (s : Nat) : Nat := s % 2 + s / 2 % 2 + s / 4 % 2 + s / 8 % 2 + s / 16 % 2 + s / 32 % 2 + s / 64 % 2 + s / 128 % 2
/-- how many bits of s below b are set -/
def popb (s : Nat) : Nat → Nat
  | 0 => 0
  | b + 1 => popb s b + s / 2 ^ b % 2
theorem popb8 (s : Nat) : popb s 8 = pop8 s := by simp [popb, pop8]
theorem popb_add (s t : Nat) (k : Nat) (hs : s < 2 ^ k) : ∀ b, b ≤ k → popb (s + t * 2 ^ k) b = popb s b
  | 0, _ => rfl
  | b + 1, h => by
    rw [popb, popb, popb_add s t k hs b (by omega)]
    congr 1
    have e : (2 : Nat) ^ k = 2 ^ b * 2 * 2 ^ (k - b - 1) := by
      rw [← Nat.pow_succ, ← Nat.pow_add]
      congr 1
      omega
    rw [e, show s + t * (2 ^ b * 2 * 2 ^ (k - b - 1)) = s + 2 ^ b * (2 * (t * 2 ^ (k - b - 1))) by
      rw [Nat.mul_assoc (2 ^ b), Nat.mul_left_comm t (2 ^ b), Nat.mul_left_comm t 2]]
    rw [Nat.add_mul_div_left _ _ (Nat.two_pow_pos b), Nat.add_mul_mod_self_left]
theorem popb_lt {s k : Nat} (hs : s < 2 ^ k) : ∀ n, popb s (k + n) = popb s k
  | 0 => rfl
  | n + 1 => by
    rw [← Nat.add_assoc, popb, popb_lt hs n]
    have : s < 2 ^ (k + n) := Nat.lt_of_lt_of_le hs (Nat.pow_le_pow_right (by decide) (by omega))
    rw [Nat.div_eq_of_lt this]
    rfl
theorem popb_fh (s : Nat → Int32) (m : Nat) : ∀ b, popb (fh s m b) b = min m (hc s b)
  | 0 => by simp [popb, hc]
  | b + 1 => by
    have ih := popb_fh s m b
    have hl := fh_lt s m b
    by_cases h : s b = -1
    · rw [fh_no h, hc_no h, popb, ih, Nat.div_eq_of_lt hl]
      omega
    · by_cases hm : hc s b < m
      · rw [fh_yes h hm, hc_yes h, popb]
        have e1 := popb_add (fh s m b) 1 b hl b (Nat.le_refl b)
        rw [Nat.one_mul] at e1
        rw [e1, ih]
        have e2 : (fh s m b + 2 ^ b) / 2 ^ b % 2 = 1 := by
          rw [Nat.add_div_right _ (Nat.two_pow_pos b), Nat.div_eq_of_lt hl]
        rw [e2]
        omega
      · rw [fh, if_neg (fun z => hm z.2), hc_yes h, popb, ih, Nat.div_eq_of_lt hl]
        omega
theorem pop_fh (s : Nat → Int32) (m : Nat) : pop8 (fh s m 8) = min m (hc s 8) := by rw [← popb8]; exact popb_fh s m 8
theorem pop_fh8 (s : Nat → Int32) : pop8 (fh s 8 8) = hc s 8 := by
  rw [pop_fh]
  have := hc_le s 8
  omega
/-- the power 95 by squares: the product and the base after k bits -/
def ivl (n : Nat) : Nat → Nat × Nat
  | 0 => (1, n % 97)
  | k + 1 => (if 95 / 2 ^ k % 2 = 1 then (ivl n k).1 * (ivl n k).2 % 97 else (ivl n k).1, (ivl n k).2 * (ivl n k).2 % 97)
theorem ivl_lt (n : Nat) : ∀ k, (ivl n k).1 < 97 ∧ (ivl n k).2 < 97
  | 0 => ⟨by simp [ivl], Nat.mod_lt _ (by decide)⟩
  | k + 1 => by
    have := ivl_lt n k
    refine ⟨?_, Nat.mod_lt _ (by decide)⟩
    show (if 95 / 2 ^ k % 2 = 1 then (ivl n k).1 * (ivl n k).2 % 97 else (ivl n k).1) < 97
    split
    · exact Nat.mod_lt _ (by decide)
    · exact this.1
def inv97 (n : Nat) : Nat := (ivl n 7).1
theorem inv97_lt (n : Nat) : inv97 n < 97 := (ivl_lt n 7).1
set_option maxRecDepth 100000 in
theorem bit95 : ∀ k, k < 7 → ((95 : Int32) >>> (nI k &&& 31)) &&& 1 = nI (95 / 2 ^ k % 2) := by decide +kernel
/-- the polynomial with coefficients c, seed i + off, at a place: sum and power after k steps -/
def spr (c seed off place : Nat) : Nat → Nat × Nat
  | 0 => (c, 1)
  | k + 1 => (((spr c seed off place k).1 + (seed * (k + 1) + off) % 97 * ((spr c seed off place k).2 * place % 97)) % 97, (spr c seed off place k).2 * place % 97)
theorem spr_lt {c seed off place : Nat} (hc : c < 97) : ∀ k, (spr c seed off place k).1 < 97 ∧ (spr c seed off place k).2 < 97
  | 0 => ⟨hc, by simp [spr]⟩
  | k + 1 => ⟨Nat.mod_lt _ (by decide), Nat.mod_lt _ (by decide)⟩
def dif97 (a b : Nat) : Nat := (a + 97 - b % 97) % 97
theorem dif97_lt (a b : Nat) : dif97 a b < 97 := Nat.mod_lt _ (by decide)
