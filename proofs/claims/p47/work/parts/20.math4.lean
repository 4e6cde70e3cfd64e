/-! the points laid from the left have the sums of the sets -/
theorem popb_mono (S : Nat) (a : Nat) : ∀ n, popb S a ≤ popb S (a + n)
  | 0 => Nat.le_refl _
  | n + 1 => by
    have := popb_mono S a n
    rw [← Nat.add_assoc, popb]
    omega
theorem popb_ltS {S a b : Nat} (h : a < b) (hs : S / 2 ^ a % 2 = 1) : popb S a < popb S b := by
  have h1 := popb_mono S (a + 1) (b - (a + 1))
  rw [show a + 1 + (b - (a + 1)) = b by omega, popb, hs] at h1
  omega
theorem plr_at {S : Nat} {p0 : Nat → Nat} {b : Nat} (hs : S / 2 ^ b % 2 = 1) : ∀ n, plr S p0 (b + 1 + n) (popb S b) = b + 1
  | 0 => by rw [Nat.add_zero, plr, if_pos hs, va_up_self]
  | n + 1 => by
    rw [← Nat.add_assoc, plr]
    split
    · have := popb_ltS (S := S) (show b < b + 1 + n by omega) hs
      rw [va_up_ne _ _ (by omega)]
      exact plr_at hs n
    · exact plr_at hs n
theorem vlr_at {S : Nat} {v v0 : Nat → Nat} {b : Nat} (hs : S / 2 ^ b % 2 = 1) : ∀ n, vlr S v v0 (b + 1 + n) (popb S b) = v b
  | 0 => by rw [Nat.add_zero, vlr, if_pos hs, va_up_self]
  | n + 1 => by
    rw [← Nat.add_assoc, vlr]
    split
    · have := popb_ltS (S := S) (show b < b + 1 + n by omega) hs
      rw [va_up_ne _ _ (by omega)]
      exact vlr_at hs n
    · exact vlr_at hs n
theorem plr8 {S : Nat} {p0 : Nat → Nat} {b : Nat} (hb : b < 8) (hs : S / 2 ^ b % 2 = 1) : plr S p0 8 (popb S b) = b + 1 := by
  have := plr_at (p0 := p0) hs (8 - (b + 1))
  rw [show b + 1 + (8 - (b + 1)) = 8 by omega] at this
  exact this
theorem vlr8 {S : Nat} {v v0 : Nat → Nat} {b : Nat} (hb : b < 8) (hs : S / 2 ^ b % 2 = 1) : vlr S v v0 8 (popb S b) = v b := by
  have := vlr_at (v := v) (v0 := v0) hs (8 - (b + 1))
  rw [show b + 1 + (8 - (b + 1)) = 8 by omega] at this
  exact this
/-- every point is a bird's -/
theorem pt_bird {S : Nat} : ∀ {n j : Nat}, j < popb S n → ∃ b, b < n ∧ S / 2 ^ b % 2 = 1 ∧ popb S b = j
  | 0, j, h => absurd h (Nat.not_lt_zero j)
  | n + 1, j, h => by
    rw [popb] at h
    by_cases hs : S / 2 ^ n % 2 = 1
    · rcases Nat.lt_or_ge j (popb S n) with q | q
      · obtain ⟨b, h1, h2⟩ := pt_bird q
        exact ⟨b, by omega, h2⟩
      · exact ⟨n, by omega, hs, by omega⟩
    · have : S / 2 ^ n % 2 = 0 := by omega
      rw [this] at h
      obtain ⟨b, h1, h2⟩ := pt_bird (show j < popb S n by omega)
      exact ⟨b, by omega, h2⟩
theorem plr_le {S : Nat} {p0 : Nat → Nat} {j : Nat} (h : j < popb S 8) : plr S p0 8 j ≤ 8 := by
  obtain ⟨b, h1, h2, h3⟩ := pt_bird h
  rw [← h3, plr8 h1 h2]
  omega
theorem vlr_lt {S : Nat} {v v0 : Nat → Nat} {j : Nat} (hv : ∀ b, b < 8 → S / 2 ^ b % 2 = 1 → v b < 97) (h : j < popb S 8) : vlr S v v0 8 j < 97 := by
  obtain ⟨b, h1, h2, h3⟩ := pt_bird h
  rw [← h3, vlr8 h1 h2]
  exact hv b h1 h2
theorem abl_fab {S : Nat} {p0 : Nat → Nat} {x b : Nat} (hb : b < 8) (hs : S / 2 ^ b % 2 = 1) : ∀ j, j ≤ 8 → abl (plr S p0 8) x (popb S b) (popb S j) = fab S x b j
  | 0, _ => rfl
  | j + 1, h => by
    have ih := abl_fab (p0 := p0) (x := x) hb hs j (by omega)
    by_cases hj : S / 2 ^ j % 2 = 1
    · rw [← popb_y hj, abl, fab, ih, plr8 (by omega) hj, plr8 hb hs]
      by_cases e : j = b
      · subst e
        rw [if_pos rfl, if_neg (fun z => z.2 rfl)]
      · have ne : ¬ popb S j = popb S b := by
          intro z
          rcases Nat.lt_or_ge j b with q | q
          · have := popb_ltS q hj
            omega
          · have := popb_ltS (S := S) (show b < j by omega) hs
            omega
        rw [if_neg ne, if_pos ⟨hj, e⟩]
    · rw [← popb_n hj, ih, fab, if_neg (fun z => hj z.1)]
theorem lgv_lsum {S : Nat} {p0 v v0 : Nat → Nat} {x : Nat} : ∀ b, b ≤ 8 → lgv (plr S p0 8) (vlr S v v0 8) (popb S 8) x (popb S b) = lsum S v x b
  | 0, _ => rfl
  | b + 1, h => by
    have ih := lgv_lsum (S := S) (p0 := p0) (v := v) (v0 := v0) (x := x) b (by omega)
    by_cases hs : S / 2 ^ b % 2 = 1
    · rw [← popb_y hs, lgv, ih, lsum, if_pos hs, vlr8 (by omega) hs, abl_fab (by omega) hs 8 (Nat.le_refl 8)]
      unfold frac
      have e : (v b * (fab S x b 8).1 % 97 * inv97 (fab S x b 8).2) % 97 = (v b * ((fab S x b 8).1 * inv97 (fab S x b 8).2 % 97)) % 97 := by
        rw [mm, mm', Nat.mul_assoc]
      omega
    · rw [← popb_n hs, ih, lsum, if_neg hs]
theorem lgv_lagS (S : Nat) (p0 v v0 : Nat → Nat) (x : Nat) : lgv (plr S p0 8) (vlr S v v0 8) (popb S 8) x (popb S 8) = lagS S v x := lgv_lsum 8 (Nat.le_refl 8)
/-- shares as numbers -/
def svn (sh : Nat → Int32) (b : Nat) : Nat := (sh b).toNatClampNeg
def SHok (sh : Nat → Int32) : Prop := ∀ b, b < 8 → ¬ sh b = -1 → sh b = nI (svn sh b) ∧ svn sh b < 97
/-- the shares of some birds that do not fit -/
def unf (S : Nat) (v : Nat → Nat) (T : Nat) : Nat → Nat
  | 0 => 0
  | b + 1 => unf S v T b + (if T / 2 ^ b % 2 = 1 ∧ ¬ lagS S v (b + 1) = v b then 1 else 0)
theorem unf_le (S : Nat) (v : Nat → Nat) (T : Nat) : ∀ b, unf S v T b ≤ b
  | 0 => Nat.le_refl 0
  | b + 1 => by
    have := unf_le S v T b
    rw [unf]
    split <;> omega
theorem unf_0 {S : Nat} {v : Nat → Nat} {T : Nat} : ∀ {n : Nat}, unf S v T n = 0 ↔ ∀ b, b < n → T / 2 ^ b % 2 = 1 → lagS S v (b + 1) = v b
  | 0 => ⟨fun _ b hb => absurd hb (Nat.not_lt_zero b), fun _ => rfl⟩
  | n + 1 => by
    have ih := unf_0 (S := S) (v := v) (T := T) (n := n)
    rw [unf]
    constructor
    · intro h b hb hs
      rcases Nat.lt_or_ge b n with q | q
      · exact ih.mp (by omega) b q hs
      · have e : b = n := by omega
        subst e
        by_cases z : lagS S v (b + 1) = v b
        · exact z
        · rw [if_pos ⟨hs, z⟩] at h
          omega
    · intro h
      rw [ih.mpr (fun b hb hs => h b (by omega) hs), if_neg (fun z => z.2 (h n (by omega) z.1))]
theorem nI_and (a b : Nat) : nI a &&& nI b = nI (a &&& b) := by
  apply Int32.toBitVec_inj.mp
  rw [Int32.toBitVec_and]
  exact BitVec.ofNat_and.symm
theorem nI_xor (a b : Nat) : nI a ^^^ nI b = nI (a ^^^ b) := by
  apply Int32.toBitVec_inj.mp
  rw [Int32.toBitVec_xor]
  exact BitVec.ofNat_xor.symm
theorem tb_iff (x b : Nat) : x.testBit b = true ↔ x / 2 ^ b % 2 = 1 := by
  rw [Nat.testBit_eq_decide_div_mod_eq]
  exact decide_eq_true_iff
theorem tb_hi {x b : Nat} (hx : x < 256) (hb : 8 ≤ b) : x.testBit b = false :=
  Nat.testBit_lt_two_pow (Nat.lt_of_lt_of_le hx (show 2 ^ 8 ≤ 2 ^ b from Nat.pow_le_pow_right (by decide) hb))
theorem tb_255 : ∀ b, b < 8 → (255 : Nat).testBit b = true := by decide
theorem tb_ones : ∀ b, b < 8 → (4294967295 : Nat).testBit b = true := by decide
/-- complement within eight -/
theorem andn8 (h : Nat) (c : Nat) (hc : c < 256) : nI c &&& (nI h ^^^ (-1)) = nI (c &&& (255 ^^^ h)) := by
  rw [show (-1 : Int32) = nI 4294967295 by decide, nI_xor, nI_and]
  refine congrArg nI (Nat.eq_of_testBit_eq (fun i => ?_))
  rw [Nat.testBit_and, Nat.testBit_and, Nat.testBit_xor, Nat.testBit_xor]
  rcases Nat.lt_or_ge i 8 with q | q
  · rw [tb_255 i q, tb_ones i q, Bool.xor_comm]
  · rw [tb_hi hc q]
    rfl
theorem andn_bit (b : Nat) (hb : b < 8) (h c : Nat) : ((c &&& (255 ^^^ h)) / 2 ^ b % 2 = 1 ↔ c / 2 ^ b % 2 = 1 ∧ ¬ h / 2 ^ b % 2 = 1) := by
  rw [← tb_iff, ← tb_iff, ← tb_iff, Nat.testBit_and, Nat.testBit_xor, tb_255 b hb]
  cases c.testBit b <;> cases h.testBit b <;> decide
theorem andn_lt {c h : Nat} (hc : c < 256) : c &&& (255 ^^^ h) < 256 := Nat.lt_of_le_of_lt Nat.and_le_left hc
/-- the least number of shares that do not fit, the first n sets looked at -/
def lstu (h t : Nat) (v : Nat → Nat) : Nat → Nat
  | 0 => 8
  | c + 1 => if c &&& (255 ^^^ h) = 0 ∧ pop8 c = t then min (lstu h t v c) (unf c v (h &&& (255 ^^^ c)) 8) else lstu h t v c
theorem lstu_le (h t : Nat) (v : Nat → Nat) : ∀ n, lstu h t v n ≤ 8
  | 0 => Nat.le_refl 8
  | n + 1 => by
    have := lstu_le h t v n
    rw [lstu]
    split <;> omega
