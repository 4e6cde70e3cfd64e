/-! the document's model: a change that is refused says which exception (printed by gen/s75.py) -/
theorem cd_K {i : Nat} (hi : i = 3 ∨ i = 4 ∨ i = 5) {f : Nat → Int32} {t b : Nat} {z : Int32} (h : ¬ pwK i f t b z = 0) : 1 ≤ cd i (pwK i f t b z) ∧ cd i (pwK i f t b z) ≤ 4 := by
  unfold pwK at h ⊢
  by_cases h1 : i = 4 ∧ (z = 0 ∨ ¬ isR z)
  · rw [if_pos h1, h1.1]
    decide
  · rw [if_neg h1] at h ⊢
    by_cases h2 : (i = 5 ∧ ¬ f b = -1) ∨ (¬ i = 5 ∧ f b = -1)
    · rw [if_pos h2]
      rcases hi with rfl | rfl | rfl <;> decide
    · rw [if_neg h2] at h ⊢
      by_cases h3 : i = 5 ∧ ¬ t ≤ hc f 8
      · rw [if_pos h3, h3.1]
        decide
      · rw [if_neg h3] at h
        exact absurd rfl h
theorem cd_S {i : Nat} (hi : i = 3 ∨ i = 4 ∨ i = 5) {s : ASt} {x y z : Int32} (h : ¬ pwX i s x y z = 0) : 1 ≤ cd i (pwX i s x y z) ∧ cd i (pwX i s x y z) ≤ 4 := by
  by_cases hx : ¬ x < 0 ∧ x < nI (sNb s)
  · cases hf : fd (sNu s) y (sNs s) with
    | none =>
      rw [pwX_ns hi hx hf]
      rcases hi with rfl | rfl | rfl <;> decide
    | some k =>
      rw [pwX_k hi hx hf] at h ⊢
      exact cd_K hi h
  · rw [pwX_nb hi hx]
    rcases hi with rfl | rfl | rfl <;> decide
theorem cd_B {nb : Nat} {x : Int32} (h : ¬ pwB nb x = 0) : 1 ≤ cd 0 (pwB nb x) ∧ cd 0 (pwB nb x) ≤ 4 := by
  unfold pwB at h ⊢
  by_cases h1 : ¬ x < 0 ∧ x < 4
  · rw [if_pos h1] at h ⊢
    by_cases h2 : 8 ≤ nb
    · rw [if_pos h2]
      decide
    · rw [if_neg h2] at h
      exact absurd rfl h
  · rw [if_neg h1]
    decide
theorem cd_M {nb : Nat} {x y : Int32} (h : ¬ pwM nb x y = 0) : 1 ≤ cd 1 (pwM nb x y) ∧ cd 1 (pwM nb x y) ≤ 4 := by
  unfold pwM at h ⊢
  by_cases h1 : ¬ x < 0 ∧ x < nI nb
  · rw [if_pos h1] at h ⊢
    by_cases h2 : ¬ y < 0 ∧ y < 4
    · rw [if_pos h2] at h
      exact absurd rfl h
    · rw [if_neg h2]
      decide
  · rw [if_neg h1]
    decide
theorem cd_F {o : Option Nat} (h : ¬ pwF o = 0) : 1 ≤ cd 7 (pwF o) ∧ cd 7 (pwF o) ≤ 4 := by
  cases o with
  | none => decide
  | some k => exact absurd rfl h