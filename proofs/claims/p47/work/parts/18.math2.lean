/-! polynomials of Lagrange by their coefficients: finite checks -/
def mulx (p : List Nat) (y : Nat) : List Nat := List.zipWith (fun a b => (a + b) % 97) (0 :: p) (p.map (fun a => a * (97 - y) % 97) ++ [0])
def lbp : List Nat → Nat → List Nat
  | [], _ => [1]
  | y :: t, x => if y = x then lbp t x else mulx (lbp t x) y
def lden : List Nat → Nat → Nat
  | [], _ => 1
  | y :: t, x => if y = x then lden t x else lden t x * ((x + 97 - y) % 97) % 97
/-- the coefficient k of the polynomial that is 1 at x and 0 at the other places -/
def Mc (ps : List Nat) (x k : Nat) : Nat := (lbp ps x).getD k 0 * inv97 (lden ps x) % 97
def pls (T : Nat) : List Nat := (List.range 9).filter (fun p => T / 2 ^ p % 2 == 1)
/-- numerator and denominator of a fraction of places, by the set -/
def fab (S x b : Nat) : Nat → Nat × Nat
  | 0 => (1, 1)
  | j + 1 => if S / 2 ^ j % 2 = 1 ∧ j ≠ b then ((fab S x b j).1 * dif97 x (j + 1) % 97, (fab S x b j).2 * dif97 (b + 1) (j + 1) % 97) else fab S x b j
def frac (S b x : Nat) : Nat := (fab S x b 8).1 * inv97 (fab S x b 8).2 % 97
set_option maxRecDepth 1000000 in
theorem fc1 : ∀ T, T < 512 → ∀ x, x < 9 → ∀ y, y < 9 → (popb T 9 ≤ 4 ∧ T / 2 ^ x % 2 = 1 ∧ T / 2 ^ y % 2 = 1) → sumn (fun k => pwr y k * Mc (pls T) x k) (popb T 9) % 97 = if x = y then 1 else 0 := by decide +kernel
set_option maxRecDepth 1000000 in
theorem fc2 : ∀ S, S < 256 → popb S 8 ≤ 4 → ∀ b, b < 8 → S / 2 ^ b % 2 = 1 → ∀ x, x < 9 → frac S b x = sumn (fun k => pwr x k * Mc (pls (2 * S)) (b + 1) k) (popb S 8) % 97 := by decide +kernel
set_option maxRecDepth 1000000 in
theorem fc3 : ∀ S, S < 256 → popb S 8 ≤ 4 → ∀ k, k < popb S 8 → ∀ j, j < popb S 8 → sumn (fun b => if S / 2 ^ b % 2 = 1 then Mc (pls (2 * S)) (b + 1) k * pwr (b + 1) j else 0) 8 % 97 = if k = j then 1 else 0 := by decide +kernel
set_option maxRecDepth 1000000 in
theorem fc4 : ∀ S, S < 256 → ∀ b, b < 8 → (fab S 0 b 8).2 ≠ 0 := by decide +kernel
set_option maxRecDepth 1000000 in
theorem fc5 : ∀ S, S < 256 → ∀ b, b < 8 → ∀ c, c < 8 → (popb S 8 ≤ 4 ∧ S / 2 ^ b % 2 = 1 ∧ S / 2 ^ c % 2 = 1) → frac S b (c + 1) = if b = c then 1 else 0 := by decide +kernel
