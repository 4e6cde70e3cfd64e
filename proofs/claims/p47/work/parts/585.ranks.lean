/-! the ranks of the birds (pure; as in whole's part 66) -/
theorem nI_m1 {p : Nat} (h : p < 2 ^ 31) : ¬ nI p = -1 := fun e => by
  have h1 := nI_nn h
  rw [e] at h1
  exact h1 (by decide)
/-- numbers below n that differ take every value below n -/
theorem php : ∀ (n : Nat) (f : Nat → Nat), (∀ i, i < n → f i < n) → (∀ i j, i < n → j < n → f i = f j → i = j) → ∀ r, r < n → ∃ i, i < n ∧ f i = r
  | 0, _, _, _, r, hr => absurd hr (Nat.not_lt_zero r)
  | n + 1, f, h1, h2, r, hr => by
    by_cases hv : f n = r
    · exact ⟨n, Nat.lt_succ_self n, hv⟩
    · have hne : ∀ i, i < n → f i ≠ f n := fun i hi z => by
        have := h2 i n (by omega) (by omega) z
        omega
      have g1 : ∀ i, i < n → (if f i = n then f n else f i) < n := by
        intro i hi
        have a := h1 i (by omega)
        have b := h1 n (by omega)
        have c := hne i hi
        split <;> omega
      have g2 : ∀ i j, i < n → j < n → (if f i = n then f n else f i) = (if f j = n then f n else f j) → i = j := by
        intro i j hi hj e
        have c1 := hne i hi
        have c2 := hne j hj
        by_cases q1 : f i = n
        · by_cases q2 : f j = n
          · exact h2 i j (by omega) (by omega) (q1.trans q2.symm)
          · rw [if_pos q1, if_neg q2] at e
            exact absurd e.symm c2
        · by_cases q2 : f j = n
          · rw [if_neg q1, if_pos q2] at e
            exact absurd e c1
          · rw [if_neg q1, if_neg q2] at e
            exact h2 i j (by omega) (by omega) e
      by_cases hrn : r = n
      · have hb := h1 n (by omega)
        obtain ⟨i, hi, e⟩ := php n (fun i => if f i = n then f n else f i) g1 g2 (f n) (by omega)
        by_cases q1 : f i = n
        · exact ⟨i, by omega, by omega⟩
        · exact absurd ((if_neg q1).symm.trans e) (hne i hi)
      · obtain ⟨i, hi, e⟩ := php n (fun i => if f i = n then f n else f i) g1 g2 r (by omega)
        by_cases q1 : f i = n
        · exact absurd ((if_pos q1).symm.trans e) hv
        · exact ⟨i, by omega, (if_neg q1).symm.trans e⟩
section RANKS
variable {ld : Nat → Nat} {hm : Nat → Int32}
theorem ahn_y {a b : Nat} (h : ahd ld hm b a) : ahn ld hm a b + 1 = ahn ld hm a (b + 1) := by
  rw [ahn]
  exact (congrArg (fun z => ahn ld hm a b + z) (if_pos h)).symm
theorem ahn_n {a b : Nat} (h : ¬ ahd ld hm b a) : ahn ld hm a b = ahn ld hm a (b + 1) := by
  rw [ahn, if_neg (show ¬ (ld a < ld b ∨ (ld b = ld a ∧ (hm b < hm a ∨ (hm b = hm a ∧ b < a)))) from h)]
  rfl
theorem ahd_tot {a b : Nat} (h : a ≠ b) : ahd ld hm a b ∨ ahd ld hm b a := by
  rcases Nat.lt_trichotomy (ld a) (ld b) with q | q | q
  · exact Or.inr (Or.inl q)
  · by_cases h1 : hm a < hm b
    · exact Or.inl (Or.inr ⟨q, Or.inl h1⟩)
    · by_cases h2 : hm b < hm a
      · exact Or.inr (Or.inr ⟨q.symm, Or.inl h2⟩)
      · have h3 : hm a = hm b := Int32.le_antisymm (Int32.not_lt.mp h2) (Int32.not_lt.mp h1)
        rcases Nat.lt_or_gt_of_ne h with q2 | q2
        · exact Or.inl (Or.inr ⟨q, Or.inr ⟨h3, q2⟩⟩)
        · exact Or.inr (Or.inr ⟨q.symm, Or.inr ⟨h3.symm, q2⟩⟩)
  · exact Or.inl (Or.inl q)
theorem ahd_trans {a b c : Nat} (h : ahd ld hm a b) (h2 : ahd ld hm b c) : ahd ld hm a c := by
  rcases h with h | ⟨e, h⟩
  · rcases h2 with h2 | ⟨e2, h2⟩
    · exact Or.inl (by omega)
    · exact Or.inl (by omega)
  · rcases h2 with h2 | ⟨e2, h2⟩
    · exact Or.inl (by omega)
    · refine Or.inr ⟨e.trans e2, ?_⟩
      rcases h with h | ⟨k, h⟩
      · rcases h2 with h2 | ⟨k2, h2⟩
        · exact Or.inl (Int32.lt_trans h h2)
        · exact Or.inl (by rw [← k2]; exact h)
      · rcases h2 with h2 | ⟨k2, h2⟩
        · exact Or.inl (by rw [k]; exact h2)
        · exact Or.inr ⟨k.trans k2, by omega⟩
/-- who stands ahead has a smaller rank -/
theorem ahn_mono {a b : Nat} (h : ahd ld hm a b) : ∀ n, ahn ld hm a n ≤ ahn ld hm b n ∧ (a < n → ahn ld hm a n < ahn ld hm b n)
  | 0 => ⟨Nat.le_refl _, fun z => absurd z (Nat.not_lt_zero _)⟩
  | n + 1 => by
    have ih := ahn_mono h n
    by_cases q : ahd ld hm n a
    · rw [← ahn_y q, ← ahn_y (ahd_trans q h)]
      refine ⟨by omega, fun z => ?_⟩
      by_cases e : a = n
      · subst e
        exact absurd q ahd_irr
      · have := ih.2 (by omega)
        omega
    · by_cases q2 : ahd ld hm n b
      · rw [← ahn_n q, ← ahn_y q2]
        exact ⟨by omega, fun z => by omega⟩
      · rw [← ahn_n q, ← ahn_n q2]
        refine ⟨ih.1, fun z => ?_⟩
        by_cases e : a = n
        · subst e
          exact absurd h q2
        · exact ih.2 (by omega)
theorem ahn_inj {a b n : Nat} (ha : a < n) (hb : b < n) (h : ahn ld hm a n = ahn ld hm b n) : a = b := by
  apply Decidable.byContradiction
  intro z
  rcases ahd_tot (ld := ld) (hm := hm) z with q | q
  · have := (ahn_mono q n).2 ha
    omega
  · have := (ahn_mono q n).2 hb
    omega
theorem ahn_lt {b n : Nat} (hb : b < n) : ahn ld hm b n < n := by
  have : ∀ m, ahn ld hm b m ≤ m ∧ (b < m → ahn ld hm b m < m) := by
    intro m
    induction m with
    | zero => exact ⟨Nat.le_refl _, fun z => absurd z (Nat.not_lt_zero _)⟩
    | succ m ih =>
      by_cases q : ahd ld hm m b
      · rw [← ahn_y q]
        refine ⟨by omega, fun z => ?_⟩
        by_cases e : b = m
        · subst e
          exact absurd q ahd_irr
        · have := ih.2 (by omega)
          omega
      · rw [← ahn_n q]
        exact ⟨by omega, fun z => by omega⟩
  exact (this n).2 hb
end RANKS
theorem dg0 {p q : Nat} (hp : p < 2 ^ 30) (hq : q < 2 ^ 30) : 0 < nI p - nI q ↔ q < p := by
  rw [Int32.lt_iff_toInt_lt, pk_sub_toInt hp hq, Int32.toInt_zero]
  omega
theorem de0 {p q : Nat} (hp : p < 2 ^ 30) (hq : q < 2 ^ 30) : nI p - nI q = 0 ↔ p = q := by
  rw [← Int32.toInt_inj, pk_sub_toInt hp hq, Int32.toInt_zero]
  omega
def hN (s : ASt) (b : Nat) : Nat := (sHm s b).toNatClampNeg
theorem hN_ok {B : Nat} {s : ASt} (hI : InvA B s) {b : Nat} (hb : b < sNb s) : sHm s b = nI (hN s b) ∧ hN s b < 4 := by
  obtain ⟨n, hn, e⟩ := hI.2.2.2.1 b hb
  have e2 : hN s b = n := by rw [hN, e, nI_clamp (by omega)]
  rw [e2]
  exact ⟨e, hn⟩
abbrev ldS (s : ASt) : Nat → Nat := fun z => ldn (sSh s) z (sNs s)
abbrev rkS (s : ASt) (z : Nat) : Nat := ahn (ldS s) (sHm s) z (sNb s)
/-- a rank stands but once -/
theorem rk_one {s : ASt} {x : Int32} {a : Nat} (h8 : sNb s ≤ 8) (ha : a < sNb s) (h : nI (rkS s a) = x) : fd (fun z => nI (rkS s z)) x a = none := by
  cases hf : fd (fun z => nI (rkS s z)) x a with
  | none => rfl
  | some j =>
    obtain ⟨hj, hx, -⟩ := fd_some hf
    have h1 : nI (rkS s j) = nI (rkS s a) := hx.trans h.symm
    have l1 : rkS s j < sNb s := ahn_lt (by omega)
    have l2 : rkS s a < sNb s := ahn_lt ha
    have h2 := (nI_eq (by omega) (by omega)).mp h1
    have := ahn_inj (by omega) ha h2
    omega
theorem rk_all {s : ASt} {x : Int32} (h8 : sNb s ≤ 8) (hx : ¬ x < 0 ∧ x < nI (sNb s)) : ∃ a, fd (fun z => nI (rkS s z)) x (sNb s) = some a := by
  obtain ⟨r, hr, rfl⟩ := i32_nat (by omega) hx
  obtain ⟨i, hi, e⟩ := php (sNb s) (fun z => rkS s z) (fun i hi => ahn_lt hi) (fun i j hi hj e => ahn_inj hi hj e) r hr
  exact ⟨i, fd_hit (rk_one h8 hi (congrArg nI e)) (congrArg nI e) hi⟩
theorem rk_no {s : ASt} {x : Int32} (h8 : sNb s ≤ 8) (hx : ¬ (¬ x < 0 ∧ x < nI (sNb s))) : fd (fun z => nI (rkS s z)) x (sNb s) = none := by
  cases hf : fd (fun z => nI (rkS s z)) x (sNb s) with
  | none => rfl
  | some j =>
    obtain ⟨hj, he, -⟩ := fd_some hf
    have l1 : rkS s j < sNb s := ahn_lt hj
    exact absurd ⟨by rw [← he]; exact nI_nn (by omega), by rw [← he]; exact nI_lt l1 (by omega)⟩ hx
