/-! arithmetic modulo 97: sums, rows of equations, elimination, the fractions of Lagrange -/
def sumn (f : Nat → Nat) : Nat → Nat
  | 0 => 0
  | n + 1 => sumn f n + f n
theorem sumn_congr {f g : Nat → Nat} : ∀ {n : Nat}, (∀ k, k < n → f k = g k) → sumn f n = sumn g n
  | 0, _ => rfl
  | n + 1, h => by rw [sumn, sumn, sumn_congr (fun k hk => h k (by omega)), h n (by omega)]
theorem sumn_mod {f g : Nat → Nat} : ∀ {n : Nat}, (∀ k, k < n → f k % 97 = g k % 97) → sumn f n % 97 = sumn g n % 97
  | 0, _ => rfl
  | n + 1, h => by
    have h1 := sumn_mod (n := n) (fun k hk => h k (by omega))
    have h2 := h n (by omega)
    rw [sumn, sumn]
    omega
theorem sumn_add (f g : Nat → Nat) : ∀ n, sumn (fun k => f k + g k) n = sumn f n + sumn g n
  | 0 => rfl
  | n + 1 => by
    rw [sumn, sumn, sumn, sumn_add f g n]
    omega
theorem sumn_mul (a : Nat) (f : Nat → Nat) : ∀ n, sumn (fun k => a * f k) n = a * sumn f n
  | 0 => rfl
  | n + 1 => by rw [sumn, sumn, sumn_mul a f n, Nat.mul_add]
theorem sumn_zero {f : Nat → Nat} : ∀ {n : Nat}, (∀ k, k < n → f k = 0) → sumn f n = 0
  | 0, _ => rfl
  | n + 1, h => by rw [sumn, sumn_zero (fun k hk => h k (by omega)), h n (by omega)]
theorem sumn_swap (h : Nat → Nat → Nat) (m : Nat) : ∀ n, sumn (fun k => sumn (fun b => h k b) m) n = sumn (fun b => sumn (fun k => h k b) n) m
  | 0 => (sumn_zero (fun _ _ => rfl)).symm
  | n + 1 => by
    rw [sumn, sumn_swap h m n, ← sumn_add]
    rfl
theorem sumn_one {f : Nat → Nat} {i : Nat} : ∀ {n : Nat}, i < n → (∀ k, k < n → k ≠ i → f k % 97 = 0) → sumn f n % 97 = f i % 97
  | 0, hi, _ => absurd hi (Nat.not_lt_zero i)
  | n + 1, hi, h => by
    rw [sumn]
    by_cases e : i = n
    · subst e
      have : sumn f i % 97 = sumn (fun _ => 0) i % 97 := sumn_mod (fun k hk => by rw [h k (by omega) (by omega)])
      rw [sumn_zero (f := fun _ => 0) (fun _ _ => rfl)] at this
      omega
    · have h1 := sumn_one (n := n) (i := i) (by omega) (fun k hk => h k (by omega))
      have h2 := h n (by omega) (by omega)
      omega
theorem mm (a b : Nat) : (a % 97 * b) % 97 = (a * b) % 97 := by rw [Nat.mul_mod, Nat.mod_mod, ← Nat.mul_mod]
theorem mm' (a b : Nat) : (a * (b % 97)) % 97 = (a * b) % 97 := by rw [Nat.mul_mod, Nat.mod_mod, ← Nat.mul_mod]
theorem mulm {a b : Nat} (c : Nat) (h : a % 97 = b % 97) : (a * c) % 97 = (b * c) % 97 := by rw [← mm a, h, mm]
theorem mulm' {a b : Nat} (c : Nat) (h : a % 97 = b % 97) : (c * a) % 97 = (c * b) % 97 := by rw [← mm' c a, h, mm']
theorem dif97_add (a b : Nat) : (dif97 a b + b) % 97 = a % 97 := by
  unfold dif97
  have := Nat.mod_lt b (show 0 < 97 by decide)
  omega
theorem dif97_self {a : Nat} (h : a < 97) : dif97 a (a * 1) = 0 := by
  unfold dif97
  rw [Nat.mul_one, Nat.mod_eq_of_lt h]
  omega
set_option maxRecDepth 100000 in
theorem inv97_mul : ∀ a, a < 97 → a ≠ 0 → a * inv97 a % 97 = 1 := by decide +kernel
/-- a row of coefficients with its right side behind them, at a choice of coefficients -/
def rowOK (u : Nat) (f c : Nat → Nat) : Prop := sumn (fun j => f j * c j) u % 97 = f u % 97
theorem rowOK_congr {u : Nat} {f g c : Nat → Nat} (h : ∀ j, j ≤ u → f j = g j) : rowOK u f c ↔ rowOK u g c := by
  unfold rowOK
  rw [sumn_congr (g := fun j => g j * c j) (fun k hk => by rw [h k (by omega)]), h u (Nat.le_refl u)]
def eqn (u x v : Nat) (c : Nat → Nat) : Prop := sumn (fun j => pwr x j * c j) u % 97 = v % 97
theorem ffr_sem (u x v : Nat) (fr c : Nat → Nat) : rowOK u (ffr x v u fr) c ↔ eqn u x v c := by
  unfold rowOK eqn
  rw [sumn_congr (g := fun j => pwr x j * c j) (fun k hk => by rw [ffr, va_up_ne _ _ (by omega), mx_in hk])]
  rw [ffr, va_up_self]
theorem rowOK_sub {u : Nat} {f f' R c : Nat → Nat} {a : Nat} (hR : rowOK u R c) (h : ∀ j, j ≤ u → (f' j + a * R j) % 97 = f j % 97) : rowOK u f' c ↔ rowOK u f c := by
  unfold rowOK at *
  have e : (sumn (fun j => f' j * c j) u + a * sumn (fun j => R j * c j) u) % 97 = sumn (fun j => f j * c j) u % 97 := by
    rw [← sumn_mul, ← sumn_add]
    refine sumn_mod (fun k hk => ?_)
    rw [← Nat.mul_assoc, ← Nat.add_mul]
    exact mulm _ (h k (by omega))
  have e2 : (a * sumn (fun j => R j * c j) u) % 97 = (a * R u) % 97 := mulm' a hR
  have e3 := h u (Nat.le_refl u)
  omega
theorem rowOK_ldr {u k : Nat} {f c : Nat → Nat} (hk : f k < 97) (h0 : f k ≠ 0) : rowOK u (ldr f k) c ↔ rowOK u f c := by
  have hi := inv97_mul (f k) hk h0
  have e : sumn (fun j => ldr f k j * c j) u % 97 = (inv97 (f k) * sumn (fun j => f j * c j) u) % 97 := by
    rw [← sumn_mul]
    refine sumn_mod (fun j _ => ?_)
    unfold ldr
    rw [mm, Nat.mul_comm (f j), Nat.mul_assoc]
  unfold rowOK
  rw [e]
  have e2 : ldr f k u % 97 = (inv97 (f k) * f u) % 97 := by
    unfold ldr
    rw [Nat.mod_mod, Nat.mul_comm]
  rw [e2]
  constructor
  · intro h
    have h2 := mulm' (f k) h
    rw [← Nat.mul_assoc, ← Nat.mul_assoc] at h2
    rw [← mm, hi, ← mm (f k * inv97 (f k)), hi, Nat.one_mul, Nat.one_mul] at h2
    exact h2
  · intro h
    exact mulm' _ h
/-- the rows of led columns: nothing ahead of the column, one in it -/
def eInv (u : Nat) (Rn : Nat → Nat → Nat) (led : Nat → Nat) : Prop := ∀ k, k < u → led k ≠ 0 → (∀ j, j < k → Rn k j = 0) ∧ Rn k k = 1
def eSol (u : Nat) (Rn : Nat → Nat → Nat) (led c : Nat → Nat) : Prop := ∀ k, k < u → led k ≠ 0 → rowOK u (Rn k) c
theorem tks_some {Rn : Nat → Nat → Nat} {led ff : Nat → Nat} {u k : Nat} : ∀ {n : Nat}, tks Rn led ff u n = some k → k < n ∧ tks Rn led ff u k = none ∧ frs Rn ff u k k ≠ 0 ∧ led k = 0
  | 0, h => by cases h
  | n + 1, h => by
    rw [tks] at h
    cases hn : tks Rn led ff u n with
    | some j =>
      rw [hn] at h
      cases h
      have := tks_some hn
      exact ⟨by omega, this.2⟩
    | none =>
      rw [hn] at h
      by_cases hc : frs Rn ff u n n ≠ 0 ∧ led n = 0
      · have h2 : some n = some k := (if_pos hc).symm.trans h
        cases h2
        exact ⟨by omega, hn, hc⟩
      · have h2 : none = some k := (if_neg hc).symm.trans h
        cases h2
theorem tks_none {Rn : Nat → Nat → Nat} {led ff : Nat → Nat} {u : Nat} : ∀ {n : Nat}, tks Rn led ff u n = none → ∀ k, k < n → tks Rn led ff u k = none ∧ ¬ (frs Rn ff u k k ≠ 0 ∧ led k = 0)
  | 0, _, k, hk => absurd hk (Nat.not_lt_zero k)
  | n + 1, h, k, hk => by
    rw [tks] at h
    cases hn : tks Rn led ff u n with
    | some j => rw [hn] at h; cases h
    | none =>
      rw [hn] at h
      by_cases hc : frs Rn ff u n n ≠ 0 ∧ led n = 0
      · have h2 : some n = (none : Option Nat) := (if_pos hc).symm.trans h
        cases h2
      · rcases Nat.lt_or_ge k n with q | q
        · exact tks_none hn k q
        · rw [show k = n by omega]
          exact ⟨hn, hc⟩
theorem frs_zero {Rn : Nat → Nat → Nat} {led ff : Nat → Nat} {u : Nat} (hI : eInv u Rn led) (hf : ∀ j, ff j < 97) : ∀ {c : Nat}, c ≤ u → tks Rn led ff u c = none → ∀ j, j < c → frs Rn ff u c j = 0
  | 0, _, _, j, hj => absurd hj (Nat.not_lt_zero j)
  | c + 1, hc, h, j, hj => by
    obtain ⟨h1, h2⟩ := tks_none h c (Nat.lt_succ_self c)
    have ih := frs_zero hI hf (c := c) (by omega) h1
    rw [frs]
    by_cases h0 : frs Rn ff u c c = 0
    · rw [if_pos h0]
      rcases Nat.lt_or_ge j c with q | q
      · exact ih j q
      · rw [show j = c by omega]
        exact h0
    · rw [if_neg h0]
      have hl : led c ≠ 0 := fun z => h2 ⟨h0, z⟩
      obtain ⟨-, r1⟩ := hI c (by omega) hl
      unfold cfr
      rcases Nat.lt_or_ge j c with q | q
      · rw [if_neg (by omega)]
        exact ih j q
      · rw [if_pos ⟨q, by omega⟩, show j = c by omega, r1]
        exact dif97_self (frs_lt hf c c)
theorem frs_sem {Rn : Nat → Nat → Nat} {led ff cc : Nat → Nat} {u : Nat} (hI : eInv u Rn led) (hS : eSol u Rn led cc) : ∀ {c : Nat}, c ≤ u → tks Rn led ff u c = none → (rowOK u (frs Rn ff u c) cc ↔ rowOK u ff cc)
  | 0, _, _ => Iff.rfl
  | c + 1, hc, h => by
    obtain ⟨h1, h2⟩ := tks_none h c (Nat.lt_succ_self c)
    have ih := frs_sem hI hS (c := c) (by omega) h1
    rw [frs]
    by_cases h0 : frs Rn ff u c c = 0
    · rw [if_pos h0]
      exact ih
    · rw [if_neg h0]
      have hl : led c ≠ 0 := fun z => h2 ⟨h0, z⟩
      obtain ⟨r0, -⟩ := hI c (by omega) hl
      refine (rowOK_sub (hS c (by omega) hl) (a := frs Rn ff u c c) (fun j hj => ?_)).trans ih
      unfold cfr
      rcases Nat.lt_or_ge j c with q | q
      · rw [if_neg (by omega), r0 j q, Nat.mul_zero, Nat.add_zero]
      · rw [if_pos ⟨q, by omega⟩]
        exact dif97_add _ _
abbrev US : Type := (Nat → Nat → Nat) × (Nat → Nat) × (Nat → Nat)
/-- an equation taken: whether it can hold, and the rows behind it -/
def tkE (un : Nat) (E : US) (x v : Nat) : Nat × US :=
  match tks E.1 E.2.1 (ffr x v un E.2.2) un un with
  | some c => (1, (va_up E.1 c (mx (ldr (frs E.1 (ffr x v un E.2.2) un c) c) (E.1 c) (un + 1)), va_up E.2.1 c 1, frs E.1 (ffr x v un E.2.2) un c))
  | none => (if frs E.1 (ffr x v un E.2.2) un un un = 0 then 1 else 0, (E.1, E.2.1, frs E.1 (ffr x v un E.2.2) un un))
/-- all entries are below 97, columns are led or not -/
def eBd (E : US) : Prop := (∀ c j, E.1 c j < 97) ∧ (∀ j, E.2.1 j ≤ 1) ∧ ∀ j, E.2.2 j < 97
theorem tkE_bd {un : Nat} {E : US} {x v : Nat} (h : eBd E) (hv : v < 97) : eBd (tkE un E x v).2 := by
  obtain ⟨h1, h2, h3⟩ := h
  have hf := ffr_lt (x := x) (u := un) hv h3
  unfold tkE
  split
  · rename_i c _
    refine ⟨fun k j => ?_, fun j => ?_, frs_lt hf c⟩
    · show va_up E.1 c _ k j < 97
      unfold va_up
      split
      · unfold mx ldr
        split
        · exact Nat.mod_lt _ (by decide)
        · exact h1 c j
      · exact h1 k j
    · show va_up E.2.1 c 1 j ≤ 1
      unfold va_up
      split
      · exact Nat.le_refl 1
      · exact h2 j
  · exact ⟨h1, h2, frs_lt hf un⟩
theorem tkE_sem {un : Nat} {E : US} {x v : Nat} (hb : eBd E) (hI : eInv un E.1 E.2.1) (hv : v < 97) :
    eInv un (tkE un E x v).2.1 (tkE un E x v).2.2.1 ∧ ((tkE un E x v).1 ≠ 0 → ∀ cc, eSol un (tkE un E x v).2.1 (tkE un E x v).2.2.1 cc ↔ eSol un E.1 E.2.1 cc ∧ eqn un x v cc) ∧ ((tkE un E x v).1 = 0 → ∀ cc, ¬ (eSol un E.1 E.2.1 cc ∧ eqn un x v cc)) := by
  obtain ⟨h1, h2, h3⟩ := hb
  have hf := ffr_lt (x := x) (u := un) hv h3
  unfold tkE
  split
  · rename_i c hc
    obtain ⟨c1, c2, c3, c4⟩ := tks_some hc
    have hz := frs_zero hI hf (Nat.le_of_lt c1) c2
    have hlt := frs_lt (Rn := E.1) (u := un) hf c c
    refine ⟨fun k hk hl => ?_, fun _ cc => ?_, fun h => absurd h (show ¬ (1 : Nat) = 0 by decide)⟩
    · by_cases e : k = c
      · subst e
        show (∀ j, j < k → va_up E.1 k _ k j = 0) ∧ va_up E.1 k _ k k = 1
        rw [va_up_self]
        refine ⟨fun j hj => ?_, ?_⟩
        · rw [mx_in (by omega)]
          unfold ldr
          rw [hz j hj, Nat.zero_mul]
        · rw [mx_in (by omega)]
          exact inv97_mul _ hlt c3
      · have hl' : E.2.1 k ≠ 0 := by
          have : va_up E.2.1 c 1 k ≠ 0 := hl
          rwa [va_up_ne _ _ e] at this
        show (∀ j, j < k → va_up E.1 c _ k j = 0) ∧ va_up E.1 c _ k k = 1
        rw [va_up_ne _ _ e]
        exact hI k hk hl'
    · have key : eSol un E.1 E.2.1 cc → (rowOK un (mx (ldr (frs E.1 (ffr x v un E.2.2) un c) c) (E.1 c) (un + 1)) cc ↔ eqn un x v cc) := by
        intro hS
        refine (rowOK_congr (fun j hj => mx_in (by omega))).trans ((rowOK_ldr hlt c3).trans ((frs_sem hI hS (Nat.le_of_lt c1) c2).trans (ffr_sem un x v E.2.2 cc)))
      constructor
      · intro hS
        have hS0 : eSol un E.1 E.2.1 cc := by
          intro k hk hl
          have e : k ≠ c := fun z => hl (by rw [z]; exact c4)
          have := hS k hk (by show va_up E.2.1 c 1 k ≠ 0; rw [va_up_ne _ _ e]; exact hl)
          have h9 : rowOK un (va_up E.1 c (mx (ldr (frs E.1 (ffr x v un E.2.2) un c) c) (E.1 c) (un + 1)) k) cc := this
          rwa [va_up_ne _ _ e] at h9
        refine ⟨hS0, (key hS0).mp ?_⟩
        have := hS c c1 (by show va_up E.2.1 c 1 c ≠ 0; rw [va_up_self]; decide)
        have h9 : rowOK un (va_up E.1 c (mx (ldr (frs E.1 (ffr x v un E.2.2) un c) c) (E.1 c) (un + 1)) c) cc := this
        rwa [va_up_self] at h9
      · rintro ⟨hS, he⟩ k hk hl
        show rowOK un (va_up E.1 c _ k) cc
        by_cases e : k = c
        · subst e
          rw [va_up_self]
          exact (key hS).mpr he
        · rw [va_up_ne _ _ e]
          have hl' : E.2.1 k ≠ 0 := by
            have : va_up E.2.1 c 1 k ≠ 0 := hl
            rwa [va_up_ne _ _ e] at this
          exact hS k hk hl'
  · rename_i hn
    have hz := frs_zero hI hf (Nat.le_refl un) hn
    have hsum : ∀ cc : Nat → Nat, sumn (fun j => frs E.1 (ffr x v un E.2.2) un un j * cc j) un = 0 := fun cc => sumn_zero (fun k hk => by rw [hz k hk, Nat.zero_mul])
    refine ⟨hI, fun h cc => ⟨fun hS => ⟨hS, ?_⟩, fun h => h.1⟩, fun h cc hS => ?_⟩
    · have h0 : frs E.1 (ffr x v un E.2.2) un un un = 0 := by
        by_cases z : frs E.1 (ffr x v un E.2.2) un un un = 0
        · exact z
        · exact absurd (if_neg z) h
      refine (ffr_sem un x v E.2.2 cc).mp ((frs_sem hI hS (Nat.le_refl un) hn).mp ?_)
      unfold rowOK
      rw [hsum, h0]
    · have h0 : ¬ frs E.1 (ffr x v un E.2.2) un un un = 0 := fun z => by
        have : (if frs E.1 (ffr x v un E.2.2) un un un = 0 then 1 else 0) = 0 := h
        rw [if_pos z] at this
        exact absurd this (by decide)
      have := (frs_sem hI hS.1 (Nat.le_refl un) hn).mpr ((ffr_sem un x v E.2.2 cc).mpr hS.2)
      unfold rowOK at this
      rw [hsum, Nat.mod_eq_of_lt (frs_lt hf un un)] at this
      exact h0 this.symm
/-- all equations of a set of birds taken, b of them seen -/
def cta (un S : Nat) (v : Nat → Nat) (E : US) : Nat → Nat × US
  | 0 => (1, E)
  | b + 1 => if (cta un S v E b).1 = 0 then cta un S v E b else if S / 2 ^ b % 2 = 1 then tkE un (cta un S v E b).2 (b + 1) (v b) else cta un S v E b
def eqs (un S : Nat) (v : Nat → Nat) (b : Nat) (cc : Nat → Nat) : Prop := ∀ i, i < b → S / 2 ^ i % 2 = 1 → eqn un (i + 1) (v i) cc
theorem cta_bd {un S : Nat} {v : Nat → Nat} {E : US} (hv : ∀ b, b < 8 → S / 2 ^ b % 2 = 1 → v b < 97) (h : eBd E) : ∀ b, b ≤ 8 → eBd (cta un S v E b).2
  | 0, _ => h
  | b + 1, hb => by
    have ih := cta_bd (un := un) hv h b (by omega)
    rw [cta]
    split
    · exact ih
    · split
      · rename_i hs
        exact tkE_bd ih (hv b (by omega) hs)
      · exact ih
theorem cta_sem {un S : Nat} {v : Nat → Nat} {E : US} (hv : ∀ b, b < 8 → S / 2 ^ b % 2 = 1 → v b < 97) (h : eBd E) (hI : eInv un E.1 E.2.1) : ∀ b, b ≤ 8 →
    eInv un (cta un S v E b).2.1 (cta un S v E b).2.2.1 ∧ ((cta un S v E b).1 ≠ 0 → ∀ cc, eSol un (cta un S v E b).2.1 (cta un S v E b).2.2.1 cc ↔ eSol un E.1 E.2.1 cc ∧ eqs un S v b cc) ∧ ((cta un S v E b).1 = 0 → ∀ cc, ¬ (eSol un E.1 E.2.1 cc ∧ eqs un S v b cc))
  | 0, _ => ⟨hI, fun _ cc => ⟨fun hS => ⟨hS, fun i hi => absurd hi (Nat.not_lt_zero i)⟩, fun q => q.1⟩, fun q => absurd q (show ¬ (1 : Nat) = 0 by decide)⟩
  | b + 1, hb => by
    obtain ⟨i1, i2, i3⟩ := cta_sem hv h hI b (by omega)
    have hbd := cta_bd (un := un) hv h b (by omega)
    have up : ∀ cc, eqs un S v (b + 1) cc ↔ eqs un S v b cc ∧ (S / 2 ^ b % 2 = 1 → eqn un (b + 1) (v b) cc) := by
      intro cc
      constructor
      · intro q
        exact ⟨fun i hi => q i (by omega), fun hs => q b (by omega) hs⟩
      · rintro ⟨q1, q2⟩ i hi hs
        rcases Nat.lt_or_ge i b with z | z
        · exact q1 i z hs
        · have e : i = b := by omega
          subst e
          exact q2 hs
    rw [cta]
    by_cases h0 : (cta un S v E b).1 = 0
    · rw [if_pos h0]
      exact ⟨i1, fun q => absurd h0 q, fun _ cc q => i3 h0 cc ⟨q.1, ((up cc).mp q.2).1⟩⟩
    · rw [if_neg h0]
      by_cases hs : S / 2 ^ b % 2 = 1
      · rw [if_pos hs]
        obtain ⟨j1, j2, j3⟩ := tkE_sem (x := b + 1) hbd i1 (hv b (by omega) hs)
        refine ⟨j1, fun q cc => ?_, fun q cc z => ?_⟩
        · rw [j2 q cc, i2 h0 cc, up cc]
          exact ⟨fun z => ⟨z.1.1, z.1.2, fun _ => z.2⟩, fun z => ⟨⟨z.1, z.2.1⟩, z.2.2 hs⟩⟩
        · have z2 := (up cc).mp z.2
          exact j3 q cc ⟨(i2 h0 cc).mpr ⟨z.1, z2.1⟩, z2.2 hs⟩
      · rw [if_neg hs]
        refine ⟨i1, fun q cc => ?_, fun q => absurd q h0⟩
        rw [i2 h0 cc, up cc]
        exact ⟨fun z => ⟨z.1, z.2, fun w => absurd w hs⟩, fun z => ⟨z.1, z.2.1⟩⟩
/-- the led columns solved, the others as w has them -/
theorem eSol_ex {u : Nat} {Rn : Nat → Nat → Nat} {led : Nat → Nat} (hI : eInv u Rn led) (w : Nat → Nat) : ∀ n, n ≤ u → ∃ cc : Nat → Nat, (∀ k, u - n ≤ k → k < u → led k ≠ 0 → rowOK u (Rn k) cc) ∧ ∀ k, led k = 0 → cc k = w k
  | 0, _ => ⟨w, fun k h1 h2 => absurd h2 (by omega), fun _ _ => rfl⟩
  | n + 1, hn => by
    obtain ⟨cc, h1, h2⟩ := eSol_ex hI w n (by omega)
    by_cases hl : led (u - (n + 1)) = 0
    · refine ⟨cc, fun k a b c => ?_, h2⟩
      by_cases e : k = u - (n + 1)
      · exact absurd (by rw [e]; exact hl) c
      · exact h1 k (by omega) b c
    · generalize hm : u - (n + 1) = m at *
      obtain ⟨r0, r1⟩ := hI m (by omega) hl
      have keep : ∀ x : Nat, sumn (fun j => Rn m j * va_up cc m x j) u % 97 = (sumn (fun j => if j = m then 0 else Rn m j * cc j) u + x) % 97 := by
        intro x
        have e : sumn (fun j => Rn m j * va_up cc m x j) u = sumn (fun j => (if j = m then 0 else Rn m j * cc j) + (if j = m then x else 0)) u := by
          refine sumn_congr (fun k hk => ?_)
          by_cases z : k = m
          · subst z
            rw [va_up_self, if_pos rfl, if_pos rfl, r1, Nat.one_mul, Nat.zero_add]
          · rw [va_up_ne _ _ z, if_neg z, if_neg z, Nat.add_zero]
        rw [e, sumn_add]
        have e2 : sumn (fun j => if j = m then x else 0) u % 97 = x % 97 := by
          rw [sumn_one (i := m) (by omega) (fun k _ z => by rw [if_neg z]), if_pos rfl]
        omega
      refine ⟨va_up cc m (dif97 (Rn m u) (sumn (fun j => if j = m then 0 else Rn m j * cc j) u)), fun k a b c => ?_, fun k z => ?_⟩
      · by_cases e : k = m
        · subst e
          unfold rowOK
          rw [keep, Nat.add_comm]
          exact dif97_add _ _
        · have := h1 k (by omega) b c
          unfold rowOK at this ⊢
          rw [← this, sumn_congr (g := fun j => Rn k j * cc j) (fun j hj => ?_)]
          by_cases z : j = m
          · subst z
            rw [(hI k b c).1 j (by omega), Nat.zero_mul, Nat.zero_mul]
          · rw [va_up_ne _ _ z]
      · have e : k ≠ m := fun q => hl (by rw [← q]; exact z)
        rw [va_up_ne _ _ e]
        exact h2 k z
theorem rgt_sum (Rc so : Nat → Nat) (c u : Nat) : ∀ j, (rgt Rc so c u j + sumn (fun i => Rc (c + 1 + i) * so (c + 1 + i)) j) % 97 = Rc u % 97
  | 0 => rfl
  | j + 1 => by
    have ih := rgt_sum Rc so c u j
    have h := dif97_add (rgt Rc so c u j) (Rc (c + 1 + j) * so (c + 1 + j))
    rw [rgt, sumn]
    omega
theorem sumn_shift (f : Nat → Nat) (a : Nat) : ∀ n, sumn f (a + n) = sumn f a + sumn (fun i => f (a + i)) n
  | 0 => rfl
  | n + 1 => by
    rw [← Nat.add_assoc, sumn, sumn_shift f a n, sumn, Nat.add_assoc]
/-- where every column is led, the solving from the last on solves all -/
theorem bks_sol {u : Nat} {Rn : Nat → Nat → Nat} {led so : Nat → Nat} (hI : eInv u Rn led) (hl : ∀ k, k < u → led k ≠ 0) : ∀ k, k ≤ u → ∀ c, u - k ≤ c → c < u → rowOK u (Rn c) (bks Rn so u k)
  | 0, _, c, h1, h2 => absurd h2 (by omega)
  | k + 1, hk, c, h1, h2 => by
    have ih := bks_sol hI hl (so := so) k (by omega)
    obtain ⟨r0, r1⟩ := hI c h2 (hl c h2)
    rw [bks]
    by_cases e : c = u - 1 - k
    · rw [← e]
      have hs := rgt_sum (Rn c) (bks Rn so u k) c u k
      unfold rowOK
      rw [show u = (c + 1) + k by omega, sumn_shift, sumn, va_up_self, r1, Nat.one_mul, sumn_zero (fun j hj => by rw [r0 j hj, Nat.zero_mul])]
      rw [show (c + 1) + k = u by omega]
      rw [sumn_congr (g := fun i => Rn c (c + 1 + i) * bks Rn so u k (c + 1 + i)) (fun i _ => by rw [va_up_ne _ _ (by omega)])]
      omega
    · have := ih c (by omega) h2
      unfold rowOK at this ⊢
      rw [← this, sumn_congr (g := fun j => Rn c j * bks Rn so u k j) (fun j hj => ?_)]
      by_cases z : j = u - 1 - k
      · rw [z, r0 _ (by omega), Nat.zero_mul, Nat.zero_mul]
      · rw [va_up_ne _ _ z]
