/-! Rebuilder (printed by gen/s17.py) -/
/-- what the rebuilding objects hold between calls: points (count, places, values), equations (unknowns, rows, led, fresh, solution) -/
abbrev Scr := Nat × (Nat → Nat) × (Nat → Nat) × Nat × (Nat → Nat → Nat) × (Nat → Nat) × (Nat → Nat) × (Nat → Nat)
def rbW (G : Gx) (hr hp ap av he aw al af as_ : Nat) (ar : Nat → Nat) (E : Scr) : va_W :=
  [(hr, .inr (9, [.ref hp, .ref he])), (hp, .inr (7, [.ref ap, .ref av, .int (nI E.1)])), (ap, .inl (gI G, 8, .inl (fun j => nI (E.2.1 j)))), (av, .inl (gI G, 8, .inl (fun j => nI (E.2.2.1 j))))] ++ eqW G he aw al af as_ ar E.2.2.2.1 E.2.2.2.2.1 E.2.2.2.2.2.1 E.2.2.2.2.2.2.1 E.2.2.2.2.2.2.2
def Sok (E : Scr) : Prop := (∀ c j, E.2.2.2.2.1 c j < 97) ∧ (∀ j, E.2.2.2.2.2.1 j ≤ 1) ∧ (∀ j, E.2.2.2.2.2.2.1 j < 97) ∧ (∀ j, E.2.2.2.2.2.2.2 j < 97)
def eqE (E : Scr) : US := (E.2.2.2.2.1, E.2.2.2.2.2.1, E.2.2.2.2.2.2.1)
theorem Sok.eq {E : Scr} (h : Sok E) : eBd (eqE E) := ⟨h.1, h.2.1, h.2.2.1⟩
theorem pot_tkE {un x value : Nat} {Rn : Nat → Nat → Nat} {led fr : Nat → Nat} {r : Int32} {u : US}
    (h : (∃ c, c < un ∧ tks Rn led (ffr x value un fr) un un = some c ∧ r = 1 ∧ u = (va_up Rn c (mx (ldr (frs Rn (ffr x value un fr) un c) c) (Rn c) (un + 1)), va_up led c 1, (frs Rn (ffr x value un fr) un c))) ∨ (tks Rn led (ffr x value un fr) un un = none ∧ r = (if (frs Rn (ffr x value un fr) un un) un = 0 then 1 else 0) ∧ u = (Rn, led, (frs Rn (ffr x value un fr) un un)))) :
    r = nI (tkE un (Rn, led, fr) x value).1 ∧ u = (tkE un (Rn, led, fr) x value).2 := by
  rcases h with ⟨c, _, h1, h2, h3⟩ | ⟨h1, h2, h3⟩
  · have e : tkE un (Rn, led, fr) x value = (1, u) := by
      unfold tkE
      rw [show tks (Rn, led, fr).1 (Rn, led, fr).2.1 (ffr x value un (Rn, led, fr).2.2) un un = some c from h1, h3]
    rw [e, h2]
    exact ⟨rfl, rfl⟩
  · have e : tkE un (Rn, led, fr) x value = (if (frs Rn (ffr x value un fr) un un) un = 0 then 1 else 0, u) := by
      unfold tkE
      rw [show tks (Rn, led, fr).1 (Rn, led, fr).2.1 (ffr x value un (Rn, led, fr).2.2) un un = none from h1, h3]
    rw [e, h2]
    refine ⟨?_, rfl⟩
    show (if _ then (1 : Int32) else 0) = nI (if _ then 1 else 0)
    split <;> rfl
theorem tkE_le (un : Nat) (E : US) (x v : Nat) : (tkE un E x v).1 ≤ 1 := by
  unfold tkE
  split
  · exact Nat.le_refl 1
  · show (if _ then 1 else 0) ≤ 1
    split <;> omega
theorem cta_le (un S : Nat) (v : Nat → Nat) (E : US) : ∀ b, (cta un S v E b).1 ≤ 1
  | 0 => Nat.le_refl 1
  | b + 1 => by
    have ih := cta_le un S v E b
    rw [cta]
    split
    · exact ih
    · split
      · exact tkE_le _ _ _ _
      · exact ih
theorem cta_y {un S : Nat} {v : Nat → Nat} {E : US} {b : Nat} (h : (cta un S v E b).1 ≠ 0) (hs : S / 2 ^ b % 2 = 1) : tkE un (cta un S v E b).2 (b + 1) (v b) = cta un S v E (b + 1) := by rw [cta, if_neg h, if_pos hs]
theorem cta_n {un S : Nat} {v : Nat → Nat} {E : US} {b : Nat} (h : (cta un S v E b).1 ≠ 0) (hs : S / 2 ^ b % 2 ≠ 1) : cta un S v E b = cta un S v E (b + 1) := by rw [cta, if_neg h, if_neg hs]
theorem cta_stop {un S : Nat} {v : Nat → Nat} {E : US} {b : Nat} (h : (cta un S v E b).1 = 0) : ∀ n, cta un S v E (b + n) = cta un S v E b
  | 0 => rfl
  | n + 1 => by
    have ih := cta_stop h n
    rw [← Nat.add_assoc, cta, ih, if_pos h]
theorem cta_8z {un S : Nat} {v : Nat → Nat} {E : US} {b : Nat} (hb : b < 8) (h0 : (cta un S v E b).1 ≠ 0) (hs : S / 2 ^ b % 2 = 1) (h : (tkE un (cta un S v E b).2 (b + 1) (v b)).1 = 0) : tkE un (cta un S v E b).2 (b + 1) (v b) = cta un S v E 8 := by
  rw [cta_y h0 hs] at h ⊢
  have := cta_stop h (8 - (b + 1))
  rw [show b + 1 + (8 - (b + 1)) = 8 by omega] at this
  exact this.symm
theorem nI_one {x : Nat} (h : x ≤ 1) (h0 : x ≠ 0) : (1 : Int32) = nI x := by rw [show x = 1 by omega]; rfl
theorem nI_zer {x : Nat} (h : x = 0) : (0 : Int32) = nI x := by rw [h]; rfl
/-- the birds of a set hold shares -/
def HB (sh : Nat → Int32) (C : Nat) : Prop := ∀ b, b < 8 → C / 2 ^ b % 2 = 1 → sh b = nI (svn sh b) ∧ svn sh b < 97
theorem HB.fh {sh : Nat → Int32} (h : SHok sh) (m : Nat) : HB sh (fh sh m 8) := fun b hb q => h b hb ((fh_bit sh m 8 b).mp q).2.1
theorem HB.sub {sh : Nat → Int32} {C D : Nat} (h : HB sh D) (hs : ∀ b, b < 8 → C / 2 ^ b % 2 = 1 → D / 2 ^ b % 2 = 1) : HB sh C := fun b hb q => h b hb (hs b hb q)
theorem HB.an {sh : Nat → Int32} {C : Nat} (h : HB sh C) (D : Nat) : HB sh (C &&& (255 ^^^ D)) := h.sub (fun b hb q => ((andn_bit b hb D C).mp q).1)
theorem an_z {C D : Nat} (h : C &&& (255 ^^^ D) = 0) : ∀ b, b < 8 → C / 2 ^ b % 2 = 1 → D / 2 ^ b % 2 = 1 := by
  intro b hb q
  by_cases z : D / 2 ^ b % 2 = 1
  · exact z
  · have := (andn_bit b hb D C).mpr ⟨q, z⟩
    rw [h, Nat.zero_div] at this
    exact absurd this (by decide)
theorem nI_min {a b : Nat} (ha : a < 2 ^ 31) (hb : b < 2 ^ 31) : (if nI b < nI a then nI b else nI a) = nI (min a b) := by
  by_cases h : b < a
  · rw [if_pos ((nI_ltI hb ha).mpr h), Nat.min_eq_right (by omega)]
  · rw [if_neg (fun z => h ((nI_ltI hb ha).mp z)), Nat.min_eq_left (by omega)]
theorem unf_y {S : Nat} {v : Nat → Nat} {T b : Nat} (h : T / 2 ^ b % 2 = 1) (h2 : lagS S v (b + 1) ≠ v b) : unf S v T b + 1 = unf S v T (b + 1) := by rw [unf, if_pos ⟨h, h2⟩]
theorem unf_n {S : Nat} {v : Nat → Nat} {T b : Nat} (h : T / 2 ^ b % 2 ≠ 1) : unf S v T b = unf S v T (b + 1) := by rw [unf, if_neg (fun z => h z.1)]; rfl
theorem unf_e {S : Nat} {v : Nat → Nat} {T b : Nat} (h2 : lagS S v (b + 1) = v b) : unf S v T b = unf S v T (b + 1) := by rw [unf, if_neg (fun z => z.2 h2)]; rfl
theorem lagS_lt (S : Nat) (v : Nat → Nat) (x : Nat) : lagS S v x < 97 := lsum_lt S v x 8
theorem hc_le8 (sh : Nat → Int32) : hc sh 8 ≤ 8 := hc_le sh 8
/-- the values that the first known shares leave possible, below w -/
def pvc (sh : Nat → Int32) (t k w : Nat) : Nat := if k < t then w else if unf (fh sh t 8) (svn sh) (fh sh k 8) 8 = 0 ∧ lagS (fh sh t 8) (svn sh) 0 < w then 1 else 0
theorem pvc_le (sh : Nat → Int32) (t k w : Nat) : pvc sh t k w ≤ w + 1 := by
  unfold pvc
  split
  · omega
  · split <;> omega
theorem pvc_0 (sh : Nat → Int32) (t k : Nat) : pvc sh t k 0 = 0 := by
  unfold pvc
  split
  · rfl
  · rw [if_neg (fun z => absurd z.2 (Nat.not_lt_zero _))]
theorem pvc_97 (sh : Nat → Int32) (t k : Nat) : pvc sh t k 97 = if k < t then 97 else if unf (fh sh t 8) (svn sh) (fh sh k 8) 8 = 0 then 1 else 0 := by
  unfold pvc
  have := lagS_lt (fh sh t 8) (svn sh) 0
  by_cases q : k < t
  · rw [if_pos q, if_pos q]
  · rw [if_neg q, if_neg q]
    by_cases h : unf (fh sh t 8) (svn sh) (fh sh k 8) 8 = 0
    · rw [if_pos h, if_pos ⟨h, this⟩]
    · rw [if_neg h, if_neg (fun z => h z.1)]
theorem tri_pv {sh : Nat → Int32} {t k w : Nat} {Rn : Nat → Nat → Nat} {fr : Nat → Nat} (hS : SHok sh) (h1 : 1 ≤ t) (h4 : t ≤ 4) (hk : k ≤ hc sh 8) (hw : w < 97) (hR : ∀ c j, Rn c j < 97) (hf : ∀ j, fr j < 97) :
    tri t (fh sh k 8) (svn sh) (Rn, (fun _ => 0), fr) w ↔ (k < t ∨ (w = lagS (fh sh t 8) (svn sh) 0 ∧ unf (fh sh t 8) (svn sh) (fh sh k 8) 8 = 0)) := by
  have hv : ∀ b, b < 8 → fh sh k 8 / 2 ^ b % 2 = 1 → svn sh b < 97 := fun b hb q => (HB.fh hS k b hb q).2
  have pk := popb_fh8 sh k
  have pt := popb_fh8 sh t
  rcases Nat.lt_or_ge k t with q | q
  · refine ⟨fun _ => Or.inl q, fun _ => ?_⟩
    exact (tri_sem hv hw hR hf).mpr (thru_ex (fh_256 sh k 8 (Nat.le_refl 8)) (by omega) h4)
  · rw [tri_full (fh_256 sh k 8 (Nat.le_refl 8)) (fh_256 sh t 8 (Nat.le_refl 8)) (by omega) h1 h4 (fun b hb z => ?_) hv hw hR hf, unf_0]
    · exact ⟨fun z => Or.inr z, fun z => z.elim (fun y => absurd y (by omega)) id⟩
    · have := (fh_bit sh t 8 b).mp z
      exact (fh_bit sh k 8 b).mpr ⟨this.1, this.2.1, by omega⟩
theorem pvc_y {sh : Nat → Int32} {t k w : Nat} (h : k < t ∨ (w = lagS (fh sh t 8) (svn sh) 0 ∧ unf (fh sh t 8) (svn sh) (fh sh k 8) 8 = 0)) : pvc sh t k w + 1 = pvc sh t k (w + 1) := by
  unfold pvc
  by_cases q : k < t
  · rw [if_pos q, if_pos q]
  · obtain ⟨a, b⟩ := h.resolve_left q
    rw [if_neg q, if_neg q, if_neg (by omega), if_pos ⟨b, by omega⟩]
theorem pvc_n {sh : Nat → Int32} {t k w : Nat} (h : ¬ (k < t ∨ (w = lagS (fh sh t 8) (svn sh) 0 ∧ unf (fh sh t 8) (svn sh) (fh sh k 8) 8 = 0))) : pvc sh t k w = pvc sh t k (w + 1) := by
  unfold pvc
  rw [if_neg (fun z => h (Or.inl z)), if_neg (fun z => h (Or.inl z))]
  by_cases u : unf (fh sh t 8) (svn sh) (fh sh k 8) 8 = 0
  · have : ¬ w = lagS (fh sh t 8) (svn sh) 0 := fun z => h (Or.inr ⟨z, u⟩)
    by_cases y : lagS (fh sh t 8) (svn sh) 0 < w
    · rw [if_pos ⟨u, y⟩, if_pos ⟨u, by omega⟩]
    · rw [if_neg (fun z => y z.2), if_neg (fun z => by have := z.2; omega)]
  · rw [if_neg (fun z => u z.1), if_neg (fun z => u z.1)]