/-! what rebuilding is: the formula of Lagrange, elimination, trial -/
theorem bit_lt {x b i : Nat} (h : x < 2 ^ b) (hi : i < b) : (x + 2 ^ b) / 2 ^ i % 2 = x / 2 ^ i % 2 := by
  have e : (2 : Nat) ^ b = 2 ^ i * (2 * 2 ^ (b - i - 1)) := by
    rw [← Nat.mul_assoc, ← Nat.pow_succ, ← Nat.pow_add]
    congr 1
    omega
  rw [e, Nat.add_mul_div_left _ _ (Nat.two_pow_pos i), Nat.add_mul_mod_self_left]
theorem bit_eq {x b : Nat} (h : x < 2 ^ b) : (x + 2 ^ b) / 2 ^ b % 2 = 1 := by
  rw [Nat.add_div_right _ (Nat.two_pow_pos b), Nat.div_eq_of_lt h]
theorem bit_gt {x b i : Nat} (h : x < 2 ^ b) (hi : b ≤ i) : x / 2 ^ i % 2 = 0 := by
  rw [Nat.div_eq_of_lt (Nat.lt_of_lt_of_le h (Nat.pow_le_pow_right (by decide) hi))]
theorem fh_bit (s : Nat → Int32) (m : Nat) : ∀ b i, (fh s m b / 2 ^ i % 2 = 1 ↔ i < b ∧ s i ≠ -1 ∧ hc s i < m)
  | 0, i => by
    rw [show fh s m 0 = 0 from rfl, Nat.zero_div]
    omega
  | b + 1, i => by
    have ih := fh_bit s m b i
    have hl := fh_lt s m b
    rw [fh]
    rcases Nat.lt_trichotomy i b with q | q | q
    · split
      · rw [bit_lt hl q, ih]
        exact ⟨fun z => ⟨by omega, z.2⟩, fun z => ⟨q, z.2⟩⟩
      · rw [ih]
        exact ⟨fun z => ⟨by omega, z.2⟩, fun z => ⟨q, z.2⟩⟩
    · subst q
      split
      · rename_i h
        rw [bit_eq hl]
        exact ⟨fun _ => ⟨by omega, h⟩, fun _ => rfl⟩
      · rename_i h
        rw [bit_gt hl (Nat.le_refl _)]
        exact ⟨fun z => absurd z (by decide), fun z => absurd z.2 h⟩
    · have h2 : fh s m (b + 1) < 2 ^ (b + 1) := fh_lt s m (b + 1)
      rw [fh] at h2
      rw [bit_gt h2 (by omega)]
      omega
theorem popb_fh8 (s : Nat → Int32) (m : Nat) : popb (fh s m 8) 8 = min m (hc s 8) := popb_fh s m 8
/-- the sum over the birds of a set -/
def lsum (S : Nat) (v : Nat → Nat) (x : Nat) : Nat → Nat
  | 0 => 0
  | b + 1 => if S / 2 ^ b % 2 = 1 then (lsum S v x b + v b * frac S b x) % 97 else lsum S v x b
def lagS (S : Nat) (v : Nat → Nat) (x : Nat) : Nat := lsum S v x 8
theorem lsum_lt (S : Nat) (v : Nat → Nat) (x : Nat) : ∀ b, lsum S v x b < 97
  | 0 => by simp [lsum]
  | b + 1 => by
    rw [lsum]
    split
    · exact Nat.mod_lt _ (by decide)
    · exact lsum_lt S v x b
theorem lsum_mod (S : Nat) (v : Nat → Nat) (x : Nat) : ∀ b, lsum S v x b % 97 = sumn (fun b => if S / 2 ^ b % 2 = 1 then v b * frac S b x else 0) b % 97
  | 0 => rfl
  | b + 1 => by
    have ih := lsum_mod S v x b
    rw [lsum, sumn]
    split
    · omega
    · omega
def lagc (S : Nat) (v : Nat → Nat) (k : Nat) : Nat := sumn (fun b => if S / 2 ^ b % 2 = 1 then v b * Mc (pls (2 * S)) (b + 1) k else 0) 8
theorem lagS_poly {S : Nat} {v : Nat → Nat} {x : Nat} (hS : S < 256) (ht : popb S 8 ≤ 4) (hx : x < 9) : lagS S v x = sumn (fun k => pwr x k * lagc S v k) (popb S 8) % 97 := by
  have h1 := lsum_mod S v x 8
  rw [Nat.mod_eq_of_lt (lsum_lt S v x 8)] at h1
  show lsum S v x 8 = _
  rw [h1]
  have e : ∀ k, pwr x k * lagc S v k = sumn (fun b => if S / 2 ^ b % 2 = 1 then pwr x k * (v b * Mc (pls (2 * S)) (b + 1) k) else 0) 8 := by
    intro k
    unfold lagc
    rw [← sumn_mul]
    refine sumn_congr (fun b _ => ?_)
    split
    · rfl
    · rw [Nat.mul_zero]
  rw [sumn_congr (g := fun k => sumn (fun b => if S / 2 ^ b % 2 = 1 then pwr x k * (v b * Mc (pls (2 * S)) (b + 1) k) else 0) 8) (fun k _ => e k), sumn_swap]
  refine sumn_mod (fun b hb => ?_)
  by_cases hs : S / 2 ^ b % 2 = 1
  · rw [if_pos hs, sumn_congr (g := fun k => v b * (pwr x k * Mc (pls (2 * S)) (b + 1) k)) (fun k _ => by rw [if_pos hs, Nat.mul_left_comm]), sumn_mul, fc2 S hS ht b hb hs x hx, mm']
  · rw [if_neg hs, sumn_zero (fun k _ => if_neg hs)]
theorem lagS_at {S : Nat} {v : Nat → Nat} {b : Nat} (hS : S < 256) (ht : popb S 8 ≤ 4) (hb : b < 8) (hs : S / 2 ^ b % 2 = 1) : lagS S v (b + 1) = v b % 97 := by
  have h1 := lsum_mod S v (b + 1) 8
  rw [Nat.mod_eq_of_lt (lsum_lt S v (b + 1) 8)] at h1
  show lsum S v (b + 1) 8 = _
  rw [h1, sumn_one (i := b) hb (fun k hk z => ?_), if_pos hs, fc5 S hS b hb b hb ⟨ht, hs, hs⟩, if_pos rfl, Nat.mul_one]
  by_cases hk2 : S / 2 ^ k % 2 = 1
  · rw [if_pos hk2, fc5 S hS k hk b hb ⟨ht, hk2, hs⟩, if_neg z, Nat.mul_zero]
  · rw [if_neg hk2]
theorem eqs_lagc {S : Nat} {v : Nat → Nat} (hS : S < 256) (ht : popb S 8 ≤ 4) : eqs (popb S 8) S v 8 (lagc S v) := by
  intro b hb hs
  unfold eqn
  rw [← lagS_poly hS ht (by omega), lagS_at hS ht hb hs]
theorem eqs_uniq {S : Nat} {v cc : Nat → Nat} (hS : S < 256) (ht : popb S 8 ≤ 4) (h : eqs (popb S 8) S v 8 cc) {k : Nat} (hk : k < popb S 8) : cc k % 97 = lagc S v k % 97 := by
  have e1 : cc k % 97 = sumn (fun j => sumn (fun b => if S / 2 ^ b % 2 = 1 then Mc (pls (2 * S)) (b + 1) k * pwr (b + 1) j * cc j else 0) 8) (popb S 8) % 97 := by
    have e2 : ∀ j, j < popb S 8 → sumn (fun b => if S / 2 ^ b % 2 = 1 then Mc (pls (2 * S)) (b + 1) k * pwr (b + 1) j * cc j else 0) 8 % 97 = (if k = j then cc j else 0) % 97 := by
      intro j hj
      have h3 := fc3 S hS ht k hk j hj
      rw [sumn_congr (g := fun b => cc j * (if S / 2 ^ b % 2 = 1 then Mc (pls (2 * S)) (b + 1) k * pwr (b + 1) j else 0)) (fun b _ => by
        split
        · rw [Nat.mul_comm]
        · rw [Nat.mul_zero]), sumn_mul, ← mm', h3]
      split
      · rw [Nat.mul_one]
      · rw [Nat.mul_zero]
    rw [sumn_mod e2, sumn_one (i := k) hk (fun j _ z => by rw [if_neg (Ne.symm z)]), if_pos rfl]
  rw [e1, sumn_swap]
  unfold lagc
  refine sumn_mod (fun b hb => ?_)
  by_cases hs : S / 2 ^ b % 2 = 1
  · rw [if_pos hs, sumn_congr (g := fun j => Mc (pls (2 * S)) (b + 1) k * (pwr (b + 1) j * cc j)) (fun j _ => by rw [if_pos hs, Nat.mul_assoc]), sumn_mul]
    have h2 := h b hb hs
    unfold eqn at h2
    rw [mulm' _ h2, Nat.mul_comm]
  · rw [if_neg hs, sumn_zero (fun j _ => if_neg hs)]
/-- what solves the equations has Lagrange's values -/
theorem eqs_val {S : Nat} {v cc : Nat → Nat} (hS : S < 256) (ht : popb S 8 ≤ 4) (h : eqs (popb S 8) S v 8 cc) {x : Nat} (hx : x < 9) : sumn (fun k => pwr x k * cc k) (popb S 8) % 97 = lagS S v x := by
  rw [lagS_poly hS ht hx]
  exact sumn_mod (fun k hk => mulm' _ (eqs_uniq hS ht h hk))
theorem eInv0 (u : Nat) (Rn : Nat → Nat → Nat) : eInv u Rn (fun _ => 0) := fun _ _ h => absurd rfl h
theorem eSol0 (u : Nat) (Rn : Nat → Nat → Nat) (cc : Nat → Nat) : eSol u Rn (fun _ => 0) cc := fun _ _ h => absurd rfl h
theorem pwr0 : ∀ k, pwr 0 (k + 1) = 0 := fun k => by rw [pwr, Nat.mul_zero]
theorem val0 {t : Nat} (ht : 1 ≤ t) (cc : Nat → Nat) : sumn (fun k => pwr 0 k * cc k) t % 97 = cc 0 % 97 := by
  rw [sumn_one (i := 0) (by omega) (fun k _ z => by
    obtain ⟨j, rfl⟩ : ∃ j, k = j + 1 := ⟨k - 1, by omega⟩
    rw [pwr0, Nat.zero_mul])]
  show (1 * cc 0) % 97 = _
  rw [Nat.one_mul]
/-- elimination over as many holders as unknowns -/
theorem elim_val {S t : Nat} {v so fr : Nat → Nat} {Rn : Nat → Nat → Nat} (hS : S < 256) (hp : popb S 8 = t) (h1 : 1 ≤ t) (h4 : t ≤ 4) (hv : ∀ b, b < 8 → S / 2 ^ b % 2 = 1 → v b < 97) (hR : ∀ c j, Rn c j < 97) (hf : ∀ j, fr j < 97) (hs : ∀ j, so j < 97) :
    bks (cta t S v (Rn, (fun _ => 0), fr) 8).2.1 so t t 0 = lagS S v 0 := by
  have hb : eBd (Rn, (fun _ => 0), fr) := ⟨hR, fun _ => Nat.zero_le 1, hf⟩
  obtain ⟨i1, i2, i3⟩ := cta_sem hv hb (eInv0 t Rn) 8 (Nat.le_refl 8)
  have hbd := cta_bd (un := t) hv hb 8 (Nat.le_refl 8)
  have hfl : (cta t S v (Rn, (fun _ => 0), fr) 8).1 ≠ 0 := by
    intro z
    refine i3 z (lagc S v) ⟨eSol0 _ _ _, ?_⟩
    rw [← hp]
    exact eqs_lagc hS (by omega)
  have hsem := i2 hfl
  have uq : ∀ cc, eSol t (cta t S v (Rn, (fun _ => 0), fr) 8).2.1 (cta t S v (Rn, (fun _ => 0), fr) 8).2.2.1 cc → ∀ k, k < t → cc k % 97 = lagc S v k % 97 := by
    intro cc hc k hk
    have := ((hsem cc).mp hc).2
    rw [← hp] at this hk
    exact eqs_uniq hS (by omega) this hk
  have hled : ∀ k, k < t → (cta t S v (Rn, (fun _ => 0), fr) 8).2.2.1 k ≠ 0 := by
    intro k hk z
    obtain ⟨c0, a0, b0⟩ := eSol_ex i1 (fun _ => 0) t (Nat.le_refl t)
    obtain ⟨c1, a1, b1⟩ := eSol_ex i1 (fun _ => 1) t (Nat.le_refl t)
    have e0 := uq c0 (fun j hj hl => a0 j (by omega) hj hl) k hk
    have e1 := uq c1 (fun j hj hl => a1 j (by omega) hj hl) k hk
    rw [b0 k z] at e0
    rw [b1 k z] at e1
    omega
  have hbk := bks_sol (so := so) i1 hled t (Nat.le_refl t)
  have h0 := uq _ (fun j hj _ => hbk j (by omega) hj) 0 (by omega)
  have hlt : bks (cta t S v (Rn, (fun _ => 0), fr) 8).2.1 so t t 0 < 97 := bks_lt hbd.1 hs t 0
  rw [Nat.mod_eq_of_lt hlt] at h0
  rw [h0, lagS_poly hS (by omega) (by decide), hp, val0 h1]
/-- a polynomial through the value at the place 0 and fewer birds than unknowns -/
theorem thru_ex {K t w : Nat} {v : Nat → Nat} (hK : K < 256) (hk : popb K 8 < t) (h4 : t ≤ 4) : ∃ cc, eqn t 0 w cc ∧ eqs t K v 8 cc := by
  have hT : 1 + 2 * K < 512 := by omega
  have bits : ∀ b, (1 + 2 * K) / 2 ^ (b + 1) % 2 = K / 2 ^ b % 2 := by
    intro b
    rw [Nat.pow_succ, Nat.mul_comm (2 ^ b) 2, ← Nat.div_div_eq_div_mul, show (1 + 2 * K) / 2 = K by omega]
  have pc : popb (1 + 2 * K) 9 = popb K 8 + 1 := by
    simp only [popb]
    have b0 := bits 0
    have b1 := bits 1
    have b2 := bits 2
    have b3 := bits 3
    have b4 := bits 4
    have b5 := bits 5
    have b6 := bits 6
    have b7 := bits 7
    have bz : (1 + 2 * K) / 2 ^ 0 % 2 = 1 := by
      rw [Nat.pow_zero, Nat.div_one]
      omega
    simp only [Nat.reduceAdd] at b0 b1 b2 b3 b4 b5 b6 b7
    rw [bz, b0, b1, b2, b3, b4, b5, b6, b7]
    omega
  let val : Nat → Nat := fun x => if x = 0 then w else v (x - 1)
  let cc : Nat → Nat := fun k => if k < popb (1 + 2 * K) 9 then sumn (fun x => if (1 + 2 * K) / 2 ^ x % 2 = 1 then val x * Mc (pls (1 + 2 * K)) x k else 0) 9 else 0
  have key : ∀ y, y < 9 → (1 + 2 * K) / 2 ^ y % 2 = 1 → sumn (fun k => pwr y k * cc k) t % 97 = val y % 97 := by
    intro y hy hs
    have e0 : sumn (fun k => pwr y k * cc k) t = sumn (fun k => pwr y k * cc k) (popb (1 + 2 * K) 9) := by
      have := sumn_shift (fun k => pwr y k * cc k) (popb (1 + 2 * K) 9) (t - popb (1 + 2 * K) 9)
      rw [show popb (1 + 2 * K) 9 + (t - popb (1 + 2 * K) 9) = t by omega] at this
      rw [this, sumn_zero (f := fun i => pwr y (popb (1 + 2 * K) 9 + i) * cc (popb (1 + 2 * K) 9 + i)) (fun i _ => by
        show pwr y _ * (if popb (1 + 2 * K) 9 + i < popb (1 + 2 * K) 9 then _ else 0) = 0
        rw [if_neg (by omega), Nat.mul_zero]), Nat.add_zero]
    rw [e0]
    have e1 : ∀ k, k < popb (1 + 2 * K) 9 → pwr y k * cc k = sumn (fun x => if (1 + 2 * K) / 2 ^ x % 2 = 1 then pwr y k * (val x * Mc (pls (1 + 2 * K)) x k) else 0) 9 := by
      intro k hk2
      show pwr y k * (if k < popb (1 + 2 * K) 9 then _ else 0) = _
      rw [if_pos hk2, ← sumn_mul]
      refine sumn_congr (fun b _ => ?_)
      split
      · rfl
      · rw [Nat.mul_zero]
    rw [sumn_congr e1, sumn_swap, sumn_one (i := y) hy (fun x hx z => ?_)]
    · rw [sumn_congr (g := fun k => val y * (pwr y k * Mc (pls (1 + 2 * K)) y k)) (fun k _ => by rw [if_pos hs, Nat.mul_left_comm]), sumn_mul, ← mm', fc1 _ hT y hy y hy ⟨by omega, hs, hs⟩, if_pos rfl, Nat.mul_one]
    · by_cases hx2 : (1 + 2 * K) / 2 ^ x % 2 = 1
      · rw [sumn_congr (g := fun k => val x * (pwr y k * Mc (pls (1 + 2 * K)) x k)) (fun k _ => by rw [if_pos hx2, Nat.mul_left_comm]), sumn_mul, ← mm', fc1 _ hT x hx y hy ⟨by omega, hx2, hs⟩, if_neg z, Nat.mul_zero]
      · rw [sumn_zero (fun k _ => if_neg hx2)]
  refine ⟨cc, key 0 (by decide) (by rw [Nat.pow_zero, Nat.div_one]; omega), fun b hb hs => ?_⟩
  have := key (b + 1) (by omega) (by rw [bits]; exact hs)
  have e : val (b + 1) = v b := by
    show (if b + 1 = 0 then w else v (b + 1 - 1)) = v b
    rw [if_neg (by omega), Nat.add_sub_cancel]
  rw [e] at this
  exact this
/-- one trial: the value w at the place 0 and the known shares -/
def tri (t K : Nat) (v : Nat → Nat) (E : US) (w : Nat) : Prop := (tkE t E 0 w).1 ≠ 0 ∧ (cta t K v (tkE t E 0 w).2 8).1 ≠ 0
theorem tri_sem {t K w : Nat} {v fr : Nat → Nat} {Rn : Nat → Nat → Nat} (hv : ∀ b, b < 8 → K / 2 ^ b % 2 = 1 → v b < 97) (hw : w < 97) (hR : ∀ c j, Rn c j < 97) (hf : ∀ j, fr j < 97) :
    tri t K v (Rn, (fun _ => 0), fr) w ↔ ∃ cc, eqn t 0 w cc ∧ eqs t K v 8 cc := by
  have hb : eBd (Rn, (fun _ => 0), fr) := ⟨hR, fun _ => Nat.zero_le 1, hf⟩
  obtain ⟨i1, i2, i3⟩ := tkE_sem (x := 0) hb (eInv0 t Rn) hw
  have hb1 := tkE_bd (un := t) (x := 0) hb hw
  obtain ⟨j1, j2, j3⟩ := cta_sem hv hb1 i1 8 (Nat.le_refl 8)
  constructor
  · rintro ⟨h1, h2⟩
    obtain ⟨cc, a, -⟩ := eSol_ex j1 (fun _ => 0) t (Nat.le_refl t)
    have h3 := (j2 h2 cc).mp (fun j hj hl => a j (by omega) hj hl)
    exact ⟨cc, ((i2 h1 cc).mp h3.1).2, h3.2⟩
  · rintro ⟨cc, h1, h2⟩
    have f1 : (tkE t (Rn, (fun _ => 0), fr) 0 w).1 ≠ 0 := fun z => i3 z cc ⟨eSol0 _ _ _, h1⟩
    exact ⟨f1, fun z => j3 z cc ⟨(i2 f1 cc).mpr ⟨eSol0 _ _ _, h1⟩, h2⟩⟩
/-- with enough shares known only the rebuilt value can be, and only if all fit -/
theorem tri_full {t K L w : Nat} {v fr : Nat → Nat} {Rn : Nat → Nat → Nat} (hK : K < 256) (hL : L < 256) (hp : popb L 8 = t) (h1 : 1 ≤ t) (h4 : t ≤ 4) (hsub : ∀ b, b < 8 → L / 2 ^ b % 2 = 1 → K / 2 ^ b % 2 = 1) (hv : ∀ b, b < 8 → K / 2 ^ b % 2 = 1 → v b < 97) (hw : w < 97) (hR : ∀ c j, Rn c j < 97) (hf : ∀ j, fr j < 97) :
    tri t K v (Rn, (fun _ => 0), fr) w ↔ w = lagS L v 0 ∧ ∀ b, b < 8 → K / 2 ^ b % 2 = 1 → lagS L v (b + 1) = v b := by
  rw [tri_sem hv hw hR hf]
  constructor
  · rintro ⟨cc, e1, e2⟩
    have eL : eqs (popb L 8) L v 8 cc := fun b hb hs => by rw [hp]; exact e2 b hb (hsub b hb hs)
    have ev : ∀ x, x < 9 → sumn (fun k => pwr x k * cc k) t % 97 = lagS L v x := fun x hx => by
      have := eqs_val hL (by omega) eL hx
      rw [hp] at this
      exact this
    refine ⟨?_, fun b hb hs => ?_⟩
    · have := ev 0 (by decide)
      unfold eqn at e1
      rw [e1, Nat.mod_eq_of_lt hw] at this
      exact this
    · have h2 := e2 b hb hs
      unfold eqn at h2
      rw [ev (b + 1) (by omega), Nat.mod_eq_of_lt (hv b hb hs)] at h2
      exact h2
  · rintro ⟨e1, e2⟩
    refine ⟨lagc L v, ?_, fun b hb hs => ?_⟩
    · unfold eqn
      have := lagS_poly (v := v) hL (by omega : popb L 8 ≤ 4) (show 0 < 9 by decide)
      rw [hp] at this
      rw [← this, ← e1, Nat.mod_eq_of_lt hw]
    · unfold eqn
      have := lagS_poly (v := v) hL (by omega : popb L 8 ≤ 4) (show b + 1 < 9 by omega)
      rw [hp] at this
      rw [← this, e2 b hb hs, Nat.mod_eq_of_lt (hv b hb hs)]
