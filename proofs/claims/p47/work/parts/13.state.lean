/-! State: its world, what reads it (printed by gen/s13.py) -/
/-- a State: the object, homes, the row of secrets (holding sf), six secrets and their shares -/
def stWf (G : Gx) (h ah as_ : Nat) (rr ra : Nat → Nat) (hm : Nat → Int32) (nb ns : Nat) (la : Int32) (lo : Int64) (nu : Nat → Int32) (tn : Nat → Nat) (sh : Nat → Nat → Int32) (sf : Nat → Option Nat) : va_W :=
  [(h, .inr (11, [.ref ah, .ref as_, .int (nI nb), .int (nI ns), .int la, .long lo])), (ah, .inl (gI G, 8, .inl hm)), (as_, .inl (gSec G, 6, .inr (.inr (.inr (.inr sf))))),
   (rr 0, .inr (10, [.ref (ra 0), .int (nu 0), .int (nI (tn 0))])), (ra 0, .inl (gI G, 8, .inl (sh 0))),
   (rr 1, .inr (10, [.ref (ra 1), .int (nu 1), .int (nI (tn 1))])), (ra 1, .inl (gI G, 8, .inl (sh 1))),
   (rr 2, .inr (10, [.ref (ra 2), .int (nu 2), .int (nI (tn 2))])), (ra 2, .inl (gI G, 8, .inl (sh 2))),
   (rr 3, .inr (10, [.ref (ra 3), .int (nu 3), .int (nI (tn 3))])), (ra 3, .inl (gI G, 8, .inl (sh 3))),
   (rr 4, .inr (10, [.ref (ra 4), .int (nu 4), .int (nI (tn 4))])), (ra 4, .inl (gI G, 8, .inl (sh 4))),
   (rr 5, .inr (10, [.ref (ra 5), .int (nu 5), .int (nI (tn 5))])), (ra 5, .inl (gI G, 8, .inl (sh 5)))]
abbrev stW (G : Gx) (h ah as_ : Nat) (rr ra : Nat → Nat) (hm : Nat → Int32) (nb ns : Nat) (la : Int32) (lo : Int64) (nu : Nat → Int32) (tn : Nat → Nat) (sh : Nat → Nat → Int32) : va_W := stWf G h ah as_ rr ra hm nb ns la lo nu tn sh (fun k => some (rr k))
/-- how many of the first n secrets a bird holds a share of -/
def ldn (sh : Nat → Nat → Int32) (b : Nat) : Nat → Nat
  | 0 => 0
  | n + 1 => ldn sh b n + (if sh n b = -1 then 0 else 1)
theorem ldn_le (sh : Nat → Nat → Int32) (b : Nat) : ∀ n, ldn sh b n ≤ n
  | 0 => Nat.le_refl 0
  | n + 1 => by
    have := ldn_le sh b n
    rw [ldn]
    split <;> omega
/-- how many of the first n birds are at home in a nest -/
def rsn (hm : Nat → Int32) (x : Int32) : Nat → Nat
  | 0 => 0
  | n + 1 => rsn hm x n + (if hm n = x then 1 else 0)
theorem rsn_le (hm : Nat → Int32) (x : Int32) : ∀ n, rsn hm x n ≤ n
  | 0 => Nat.le_refl 0
  | n + 1 => by
    have := rsn_le hm x n
    rw [rsn]
    split <;> omega
/-- the order of the birds -/
def ahd (ld : Nat → Nat) (hm : Nat → Int32) (a b : Nat) : Prop := ld b < ld a ∨ (ld a = ld b ∧ (hm a < hm b ∨ (hm a = hm b ∧ a < b)))
/-- how many of the first n birds stand ahead -/
def ahn (ld : Nat → Nat) (hm : Nat → Int32) (b : Nat) : Nat → Nat
  | 0 => 0
  | n + 1 => ahn ld hm b n + (if ld b < ld n ∨ (ld n = ld b ∧ (hm n < hm b ∨ (hm n = hm b ∧ n < b))) then 1 else 0)

theorem ahn_le (ld : Nat → Nat) (hm : Nat → Int32) (b : Nat) : ∀ n, ahn ld hm b n ≤ n
  | 0 => Nat.le_refl 0
  | n + 1 => by
    have := ahn_le ld hm b n
    rw [ahn]
    split <;> omega
theorem ahd_irr {ld : Nat → Nat} {hm : Nat → Int32} {b : Nat} : ¬ ahd ld hm b b := by
  rintro (h | ⟨-, h | ⟨-, h⟩⟩)
  · omega
  · exact absurd h Int32.lt_irrefl
  · omega
/-- the first bird of a rank, below n -/
def rkd (f : Nat → Nat) (r : Int32) : Nat → Option Nat
  | 0 => none
  | n + 1 => match rkd f r n with
    | some k => some k
    | none => if nI (f n) = r then some n else none
/-- the first place below n where f is x -/
def fd (f : Nat → Int32) (x : Int32) : Nat → Option Nat
  | 0 => none
  | n + 1 => match fd f x n with
    | some k => some k
    | none => if f n = x then some n else none
theorem fd_next {f : Nat → Int32} {x : Int32} {n : Nat} (h : fd f x n = none) (h2 : ¬ f n = x) : fd f x (n + 1) = none := by
  rw [fd, h]
  exact if_neg h2
theorem fd_up {f : Nat → Int32} {x : Int32} {n k : Nat} (h : fd f x n = some k) : ∀ m, fd f x (n + m) = some k
  | 0 => h
  | m + 1 => by rw [← Nat.add_assoc, fd, fd_up h m]
theorem fd_hit {f : Nat → Int32} {x : Int32} {n m : Nat} (h : fd f x n = none) (h2 : f n = x) (hm : n < m) : fd f x m = some n := by
  have h3 : fd f x (n + 1) = some n := by
    rw [fd, h]
    exact if_pos h2
  have := fd_up h3 (m - (n + 1))
  rw [show n + 1 + (m - (n + 1)) = m by omega] at this
  exact this
theorem fd_some {f : Nat → Int32} {x : Int32} {k : Nat} : ∀ {n : Nat}, fd f x n = some k → k < n ∧ f k = x ∧ fd f x k = none
  | 0, h => by cases h
  | n + 1, h => by
    rw [fd] at h
    cases hn : fd f x n with
    | some j =>
      rw [hn] at h
      cases h
      have := fd_some hn
      exact ⟨by omega, this.2.1, this.2.2⟩
    | none =>
      rw [hn] at h
      by_cases hx : f n = x
      · have h2 : some n = some k := (if_pos hx).symm.trans h
        cases h2
        exact ⟨by omega, hx, hn⟩
      · have h2 : none = some k := (if_neg hx).symm.trans h
        cases h2
theorem fd_none {f : Nat → Int32} {x : Int32} : ∀ {n : Nat}, fd f x n = none → ∀ k, k < n → ¬ f k = x
  | 0, _, k, hk => absurd hk (Nat.not_lt_zero k)
  | n + 1, h, k, hk => by
    rw [fd] at h
    cases hn : fd f x n with
    | some j => rw [hn] at h; cases h
    | none =>
      rw [hn] at h
      by_cases hx : f n = x
      · have h2 : some n = (none : Option Nat) := (if_pos hx).symm.trans h
        cases h2
      · rcases Nat.lt_or_ge k n with q | q
        · exact fd_none hn k q
        · rw [show k = n by omega]
          exact hx
/-- how many of the first n birds of a nest hold a share -/
def hin (hm : Nat → Int32) (s : Nat → Int32) (x : Int32) : Nat → Nat
  | 0 => 0
  | n + 1 => hin hm s x n + (if hm n = x ∧ ¬ s n = -1 then 1 else 0)
theorem hin_le (hm s : Nat → Int32) (x : Int32) : ∀ n, hin hm s x n ≤ n
  | 0 => Nat.le_refl 0
  | n + 1 => by
    have := hin_le hm s x n
    rw [hin]
    split <;> omega
/-- all shares of the first n birds -/
def als (ld : Nat → Nat) : Nat → Nat
  | 0 => 0
  | n + 1 => als ld n + ld n
/-- how many of the first n secrets can be rebuilt -/
def rbt (sh : Nat → Nat → Int32) (tn : Nat → Nat) : Nat → Nat
  | 0 => 0
  | n + 1 => rbt sh tn n + (if tn n ≤ hc (sh n) 8 then 1 else 0)
theorem rbt_le (sh : Nat → Nat → Int32) (tn : Nat → Nat) : ∀ n, rbt sh tn n ≤ n
  | 0 => Nat.le_refl 0
  | n + 1 => by
    have := rbt_le sh tn n
    rw [rbt]
    split <;> omega
theorem ldn_y {sh : Nat → Nat → Int32} {b n : Nat} (h : sh n b = -1) : ldn sh b n = ldn sh b (n + 1) := by rw [ldn, if_pos h]; rfl
theorem ldn_n {sh : Nat → Nat → Int32} {b n : Nat} (h : ¬ sh n b = -1) : ldn sh b n + 1 = ldn sh b (n + 1) := by rw [ldn, if_neg h]
theorem if01 {c : Prop} [Decidable c] (h : (if c then (0 : Int32) else 1) = 0) : c := by
  by_cases hc : c
  · exact hc
  · rw [if_neg hc] at h
    exact absurd h (by decide)
theorem if01n {c : Prop} [Decidable c] (h : ¬ (if c then (0 : Int32) else 1) = 0) : ¬ c := fun hc => h (by rw [if_pos hc])
theorem if10 {c : Prop} [Decidable c] (h : (if c then (1 : Int32) else 0) = 0) : ¬ c := by
  intro hc
  rw [if_pos hc] at h
  exact absurd h (by decide)
theorem if10n {c : Prop} [Decidable c] (h : ¬ (if c then (1 : Int32) else 0) = 0) : c := by
  by_cases hc : c
  · exact hc
  · rw [if_neg hc] at h
    exact absurd rfl h
set_option maxHeartbeats 4000000 in
set_option maxRecDepth 100000 in
theorem c_birdTally (l : Launch) (G : Gx) (h ah as_ : Nat) (rr ra : Nat → Nat) (hm : Nat → Int32) (nb ns : Nat) (la : Int32) (lo : Int64) (nu : Nat → Int32) (tn : Nat → Nat) (sh : Nat → Nat → Int32) (hb8 : nb ≤ 8) (hs6 : ns ≤ 6) : Ct l G SF0 yX11_birdTally wsX11_birdTally ({ frames := 0, cells := 0, slots := 0, locals := 0 }) [.ref h] (stW G h ah as_ rr ra hm nb ns la lo nu tn sh) mkI (fun (r : Int32) (_ : Unit) => r = nI nb) (fun _ : Unit => (stW G h ah as_ rr ra hm nb ns la lo nu tn sh)) 0 0 := by
  refine Ct.ofI (cc := cX11_birdTally) (maxL := 1) (by decide) rfl ⟨by simp [Value.category], Nat.le_of_ble_eq_true rfl⟩ ?_
  intro K hl hC hSF hnm hE
  subst hl
  have q0_ : ∀ w ∈ u_ws RX11 TX11 6, w ∈ wsX11_birdTally := by decide +kernel
  have q1_ : Cond.fieldLink RX11 32 "FeatherShares$State" "birds" "I" ∈ wsX11_birdTally := by decide +kernel
  show V G K 1 0 0 0 [some (.ref h)] [] (stW G h ah as_ rr ra hm nb ns la lo nu tn sh)
  refine V.aload_n hC (x := h) dX11_birdTally_0 rfl ?_
  refine V.getf hC (T := TX11) q0_ 2 q1_ rfl (0) rfl rfl (by decide) (.int (nI nb)) rfl dX11_birdTally_1 ?_
  exact hE 4 _ (nI nb) () dX11_birdTally_4 rfl rfl

set_option maxHeartbeats 4000000 in
set_option maxRecDepth 100000 in
theorem c_secretTally (l : Launch) (G : Gx) (h ah as_ : Nat) (rr ra : Nat → Nat) (hm : Nat → Int32) (nb ns : Nat) (la : Int32) (lo : Int64) (nu : Nat → Int32) (tn : Nat → Nat) (sh : Nat → Nat → Int32) (hb8 : nb ≤ 8) (hs6 : ns ≤ 6) : Ct l G SF0 yX11_secretTally wsX11_secretTally ({ frames := 0, cells := 0, slots := 0, locals := 0 }) [.ref h] (stW G h ah as_ rr ra hm nb ns la lo nu tn sh) mkI (fun (r : Int32) (_ : Unit) => r = nI ns) (fun _ : Unit => (stW G h ah as_ rr ra hm nb ns la lo nu tn sh)) 0 0 := by
  refine Ct.ofI (cc := cX11_secretTally) (maxL := 1) (by decide) rfl ⟨by simp [Value.category], Nat.le_of_ble_eq_true rfl⟩ ?_
  intro K hl hC hSF hnm hE
  subst hl
  have q0_ : ∀ w ∈ u_ws RX11 TX11 6, w ∈ wsX11_secretTally := by decide +kernel
  have q1_ : Cond.fieldLink RX11 36 "FeatherShares$State" "secretsInUse" "I" ∈ wsX11_secretTally := by decide +kernel
  show V G K 1 0 0 0 [some (.ref h)] [] (stW G h ah as_ rr ra hm nb ns la lo nu tn sh)
  refine V.aload_n hC (x := h) dX11_secretTally_0 rfl ?_
  refine V.getf hC (T := TX11) q0_ 3 q1_ rfl (0) rfl rfl (by decide) (.int (nI ns)) rfl dX11_secretTally_1 ?_
  exact hE 4 _ (nI ns) () dX11_secretTally_4 rfl rfl

set_option maxHeartbeats 4000000 in
set_option maxRecDepth 100000 in
theorem c_lossTally (l : Launch) (G : Gx) (h ah as_ : Nat) (rr ra : Nat → Nat) (hm : Nat → Int32) (nb ns : Nat) (la : Int32) (lo : Int64) (nu : Nat → Int32) (tn : Nat → Nat) (sh : Nat → Nat → Int32) (hb8 : nb ≤ 8) (hs6 : ns ≤ 6) : Ct l G SF0 yX11_lossTally wsX11_lossTally ({ frames := 0, cells := 0, slots := 0, locals := 0 }) [.ref h] (stW G h ah as_ rr ra hm nb ns la lo nu tn sh) mkL (fun (r : Int64) (_ : Unit) => r = lo) (fun _ : Unit => (stW G h ah as_ rr ra hm nb ns la lo nu tn sh)) 0 0 := by
  refine Ct.ofL (cc := cX11_lossTally) (maxL := 1) (by decide) rfl ⟨by simp [Value.category], Nat.le_of_ble_eq_true rfl⟩ ?_
  intro K hl hC hSF hnm hE
  subst hl
  have q0_ : ∀ w ∈ u_ws RX11 TX11 6, w ∈ wsX11_lossTally := by decide +kernel
  have q1_ : Cond.fieldLink RX11 42 "FeatherShares$State" "losses" "J" ∈ wsX11_lossTally := by decide +kernel
  show V G K 1 0 0 0 [some (.ref h)] [] (stW G h ah as_ rr ra hm nb ns la lo nu tn sh)
  refine V.aload_n hC (x := h) dX11_lossTally_0 rfl ?_
  refine V.getf hC (T := TX11) q0_ 5 q1_ rfl (0) rfl rfl (by decide) (.long lo) rfl dX11_lossTally_1 ?_
  exact hE 4 _ lo () dX11_lossTally_4 rfl

set_option maxHeartbeats 4000000 in
set_option maxRecDepth 100000 in
theorem c_isNest (l : Launch) (G : Gx) (x : Int32) : Ct l G SF0 yX11_isNest wsX11_isNest ({ frames := 0, cells := 0, slots := 0, locals := 0 }) [.int x] [] mkI (fun (r : Int32) (_ : Unit) => r = if ¬ x < 0 ∧ x < 4 then 1 else 0) (fun _ : Unit => []) 0 0 := by
  refine Ct.ofI (cc := cX11_isNest) (maxL := 1) (by decide) rfl ⟨by simp [Value.category], Nat.le_of_ble_eq_true rfl⟩ ?_
  intro K hl hC hSF hnm hE
  subst hl
  show V G K 1 0 0 0 [some (.int x)] [] []
  refine V.iload_n hC (x := x) dX11_isNest_0 rfl ?_
  refine V.if_lt hC 13 dX11_isNest_1 rfl (fun c_1 => ?_) (fun c_1 => ?_)
  · refine V.iconst hC 0 dX11_isNest_13 rfl ?_
    exact hE 14 _ 0 () dX11_isNest_14 rfl ((if_neg (fun z => z.1 c_1)).symm)
  · refine V.iload_n hC (x := x) dX11_isNest_4 rfl ?_
    refine V.iconst hC 4 dX11_isNest_5 rfl ?_
    refine V.icmp_ge hC 13 dX11_isNest_6 rfl (fun c_6 => ?_) (fun c_6 => ?_)
    · refine V.iconst hC 0 dX11_isNest_13 rfl ?_
      exact hE 14 _ 0 () dX11_isNest_14 rfl ((if_neg (fun z => absurd z.2 (Int32.not_lt.mpr c_6))).symm)
    · refine V.iconst hC 1 dX11_isNest_9 rfl ?_
      refine V.goto hC 14 dX11_isNest_10 rfl ?_
      exact hE 14 _ 1 () dX11_isNest_14 rfl ((if_pos ⟨c_1, Int32.not_le.mp c_6⟩).symm)

set_option maxHeartbeats 4000000 in
set_option maxRecDepth 100000 in
theorem c_hasBird (l : Launch) (G : Gx) (h ah as_ : Nat) (rr ra : Nat → Nat) (hm : Nat → Int32) (nb ns : Nat) (la : Int32) (lo : Int64) (nu : Nat → Int32) (tn : Nat → Nat) (sh : Nat → Nat → Int32) (hb8 : nb ≤ 8) (hs6 : ns ≤ 6) (x : Int32) : Ct l G SF0 yX11_hasBird wsX11_hasBird ({ frames := 0, cells := 0, slots := 0, locals := 0 }) [.ref h, .int x] (stW G h ah as_ rr ra hm nb ns la lo nu tn sh) mkI (fun (r : Int32) (_ : Unit) => r = if ¬ x < 0 ∧ x < nI nb then 1 else 0) (fun _ : Unit => (stW G h ah as_ rr ra hm nb ns la lo nu tn sh)) 0 0 := by
  refine Ct.ofI (cc := cX11_hasBird) (maxL := 2) (by decide) rfl ⟨by simp [Value.category], Nat.le_of_ble_eq_true rfl⟩ ?_
  intro K hl hC hSF hnm hE
  subst hl
  have q0_ : ∀ w ∈ u_ws RX11 TX11 6, w ∈ wsX11_hasBird := by decide +kernel
  have q1_ : Cond.fieldLink RX11 32 "FeatherShares$State" "birds" "I" ∈ wsX11_hasBird := by decide +kernel
  show V G K 2 0 0 0 [some (.ref h), some (.int x)] [] (stW G h ah as_ rr ra hm nb ns la lo nu tn sh)
  refine V.iload_n hC (x := x) dX11_hasBird_0 rfl ?_
  refine V.if_lt hC 16 dX11_hasBird_1 rfl (fun c_1 => ?_) (fun c_1 => ?_)
  · refine V.iconst hC 0 dX11_hasBird_16 rfl ?_
    exact hE 17 _ 0 () dX11_hasBird_17 rfl ((if_neg (fun z => z.1 c_1)).symm)
  · refine V.iload_n hC (x := x) dX11_hasBird_4 rfl ?_
    refine V.aload_n hC (x := h) dX11_hasBird_5 rfl ?_
    refine V.getf hC (T := TX11) q0_ 2 q1_ rfl (0) rfl rfl (by decide) (.int (nI nb)) rfl dX11_hasBird_6 ?_
    refine V.icmp_ge hC 16 dX11_hasBird_9 rfl (fun c_9 => ?_) (fun c_9 => ?_)
    · refine V.iconst hC 0 dX11_hasBird_16 rfl ?_
      exact hE 17 _ 0 () dX11_hasBird_17 rfl ((if_neg (fun z => absurd z.2 (Int32.not_lt.mpr c_9))).symm)
    · refine V.iconst hC 1 dX11_hasBird_12 rfl ?_
      refine V.goto hC 17 dX11_hasBird_13 rfl ?_
      exact hE 17 _ 1 () dX11_hasBird_17 rfl ((if_pos ⟨c_1, Int32.not_le.mp c_9⟩).symm)

set_option maxHeartbeats 4000000 in
set_option maxRecDepth 100000 in
theorem c_homeOf (l : Launch) (G : Gx) (h ah as_ : Nat) (rr ra : Nat → Nat) (hm : Nat → Int32) (nb ns : Nat) (la : Int32) (lo : Int64) (nu : Nat → Int32) (tn : Nat → Nat) (sh : Nat → Nat → Int32) (hb8 : nb ≤ 8) (hs6 : ns ≤ 6) (b : Nat) (hb : b < 8) : Ct l G SF0 yX11_homeOf wsX11_homeOf ({ frames := 0, cells := 0, slots := 0, locals := 0 }) [.ref h, .int (nI b)] (stW G h ah as_ rr ra hm nb ns la lo nu tn sh) mkI (fun (r : Int32) (_ : Unit) => r = hm b) (fun _ : Unit => (stW G h ah as_ rr ra hm nb ns la lo nu tn sh)) 0 0 := by
  refine Ct.ofI (cc := cX11_homeOf) (maxL := 2) (by decide) rfl ⟨by simp [Value.category], Nat.le_of_ble_eq_true rfl⟩ ?_
  intro K hl hC hSF hnm hE
  subst hl
  have q0_ : ∀ w ∈ u_ws RX11 TX11 6, w ∈ wsX11_homeOf := by decide +kernel
  have q1_ : Cond.fieldLink RX11 9 "FeatherShares$State" "homes" "[I" ∈ wsX11_homeOf := by decide +kernel
  show V G K 2 0 0 0 [some (.ref h), some (.int (nI b))] [] (stW G h ah as_ rr ra hm nb ns la lo nu tn sh)
  refine V.iload_n hC (x := nI b) dX11_homeOf_0 rfl ?_
  refine V.ifN_lt hC b 19 dX11_homeOf_1 rfl rfl (by omega) ?_
  refine V.iload_n hC (x := nI b) dX11_homeOf_4 rfl ?_
  refine V.bipush hC 8 dX11_homeOf_5 rfl ?_
  refine V.icmpN_ge hC b 8 19 dX11_homeOf_7 rfl rfl rfl (by omega) (by omega) (fun c_7 => ?_) (fun c_7 => ?_)
  · exact absurd hb (by omega)
  · refine V.aload_n hC (x := h) dX11_homeOf_10 rfl ?_
    refine V.getf hC (T := TX11) q0_ 0 q1_ rfl (0) rfl rfl (by decide) (.ref ah) rfl dX11_homeOf_11 ?_
    refine V.iload_n hC (x := nI b) dX11_homeOf_14 rfl ?_
    refine V.iald hC dX11_homeOf_15 (1) rfl b rfl (by omega) (by decide) ?_
    refine V.goto hC 20 dX11_homeOf_16 rfl ?_
    exact hE 20 _ (hm b) () dX11_homeOf_20 rfl rfl

set_option maxHeartbeats 4000000 in
set_option maxRecDepth 100000 in
theorem c_residentsOf (l : Launch) (G : Gx) (h ah as_ : Nat) (rr ra : Nat → Nat) (hm : Nat → Int32) (nb ns : Nat) (la : Int32) (lo : Int64) (nu : Nat → Int32) (tn : Nat → Nat) (sh : Nat → Nat → Int32) (hb8 : nb ≤ 8) (hs6 : ns ≤ 6) (x : Int32) : Ct l G SF0 yX11_residentsOf wsX11_residentsOf ({ frames := 1, cells := 0, slots := 0, locals := 21 }) [.ref h, .int x] (stW G h ah as_ rr ra hm nb ns la lo nu tn sh) mkI (fun (r : Int32) (_ : Unit) => r = nI (rsn hm x nb)) (fun _ : Unit => (stW G h ah as_ rr ra hm nb ns la lo nu tn sh)) 0 0 := by
  refine Ct.ofI (cc := cX11_residentsOf) (maxL := 4) (by decide) rfl ⟨by simp [Value.category], Nat.le_of_ble_eq_true rfl⟩ ?_
  intro K hl hC hSF hnm hE
  subst hl
  have q0_ : ∀ w ∈ u_ws RX11 TX11 6, w ∈ wsX11_residentsOf := by decide +kernel
  have q1_ : Cond.fieldLink RX11 32 "FeatherShares$State" "birds" "I" ∈ wsX11_residentsOf := by decide +kernel
  show V G K 4 0 0 0 [some (.ref h), some (.int x), none, none] [] (stW G h ah as_ rr ra hm nb ns la lo nu tn sh)
  refine V.iconst hC 0 dX11_residentsOf_0 rfl ?_
  refine V.istore_n hC dX11_residentsOf_1 [some (.ref h), some (.int x), some (.int 0), none] (Nat.le_of_ble_eq_true rfl) rfl ?_
  refine V.iconst hC 0 dX11_residentsOf_2 rfl ?_
  refine V.istore_n hC dX11_residentsOf_3 [some (.ref h), some (.int x), some (.int 0), some (.int 0)] (Nat.le_of_ble_eq_true rfl) rfl ?_
  have loop4 : ∀ (n : Nat) (b : Nat), 9 - b < n → (b ≤ nb) → V G K 4 0 0 4 [some (.ref h), some (.int x), some (.int (nI (rsn hm x b))), some (.int (nI b))] [] (stW G h ah as_ rr ra hm nb ns la lo nu tn sh) := by
    intro n
    induction n with
    | zero => intro b hlt; exact absurd hlt (Nat.not_lt_zero _)
    | succ n ih4 =>
      intro b hlt4 hb
      have hq := rsn_le hm x b
      refine V.iload_n hC (x := nI b) dX11_residentsOf_4 rfl ?_
      refine V.aload_n hC (x := h) dX11_residentsOf_5 rfl ?_
      refine V.getf hC (T := TX11) q0_ 2 q1_ rfl (0) rfl rfl (by decide) (.int (nI nb)) rfl dX11_residentsOf_6 ?_
      refine V.icmpN_ge hC b nb 30 dX11_residentsOf_9 rfl rfl rfl (by omega) (by omega) (fun c_9 => ?_) (fun c_9 => ?_)
      · refine V.lset 2 (x := .int (nI (rsn hm x b))) (y := .int (nI (rsn hm x nb))) (congrArg Value.int (by rw [show b = nb by omega])) rfl (lv' := [some (.ref h), some (.int x), some (.int (nI (rsn hm x nb))), some (.int (nI b))]) rfl ?_
        refine V.iload_n hC (x := nI (rsn hm x nb)) dX11_residentsOf_30 rfl ?_
        exact hE 31 _ (nI (rsn hm x nb)) () dX11_residentsOf_31 rfl rfl
      · refine V.aload_n hC (x := h) dX11_residentsOf_12 rfl ?_
        refine V.iload_n hC (x := nI b) dX11_residentsOf_13 rfl ?_
        refine V.callVr (n := 1) (As := [.int (nI b)]) (rest := []) hC (c_homeOf (kl K) G h ah as_ rr ra hm nb ns la lo nu tn sh hb8 hs6 b (by omega)) SFk0 SFgo0 gX11_residentsOf_X11_homeOf rfl ⟨rfl, rfl⟩ (by decide +kernel) ⟨by decide, by decide, by decide, by decide⟩ [0, 1, 2, 3, 4, 5, 6, 7, 8, 9, 10, 11, 12, 13, 14] rfl (by decide) rfl rfl rfl rfl (Nat.le_of_ble_eq_true rfl) dX11_residentsOf_14 (fun r_14 u_14 hp_14 => ?_)
        subst hp_14
        show V G K 4 0 0 17 [some (.ref h), some (.int x), some (.int (nI (rsn hm x b))), some (.int (nI b))] [.int (hm b)] (stW G h ah as_ rr ra hm nb ns la lo nu tn sh)
        refine V.iload_n hC (x := x) dX11_residentsOf_17 rfl ?_
        refine V.icmp_ne hC 24 dX11_residentsOf_18 rfl (fun c_18 => ?_) (fun c_18 => ?_)
        · refine V.iincN hC b 1 dX11_residentsOf_24 rfl [some (.ref h), some (.int x), some (.int (nI (rsn hm x b))), some (.int (nI (b + 1)))] (Nat.le_of_ble_eq_true rfl) rfl rfl rfl ?_
          refine V.lset 2 (x := .int (nI (rsn hm x b))) (y := .int (nI (rsn hm x (b + 1)))) (congrArg Value.int (congrArg nI (by rw [rsn, if_neg c_18]; rfl))) rfl (lv' := [some (.ref h), some (.int x), some (.int (nI (rsn hm x (b + 1)))), some (.int (nI (b + 1)))]) rfl ?_
          refine V.goto hC 4 dX11_residentsOf_27 rfl ?_
          exact ih4 (b + 1) (by omega) (by omega)
        · refine V.iincN hC (rsn hm x b) 1 dX11_residentsOf_21 rfl [some (.ref h), some (.int x), some (.int (nI (rsn hm x b + 1))), some (.int (nI b))] (Nat.le_of_ble_eq_true rfl) rfl rfl rfl ?_
          refine V.iincN hC b 1 dX11_residentsOf_24 rfl [some (.ref h), some (.int x), some (.int (nI (rsn hm x b + 1))), some (.int (nI (b + 1)))] (Nat.le_of_ble_eq_true rfl) rfl rfl rfl ?_
          refine V.lset 2 (x := .int (nI (rsn hm x b + 1))) (y := .int (nI (rsn hm x (b + 1)))) (congrArg Value.int (congrArg nI (by rw [rsn, if_pos c_18]))) rfl (lv' := [some (.ref h), some (.int x), some (.int (nI (rsn hm x (b + 1)))), some (.int (nI (b + 1)))]) rfl ?_
          refine V.goto hC 4 dX11_residentsOf_27 rfl ?_
          exact ih4 (b + 1) (by omega) (by omega)
  exact loop4 _ 0 (Nat.lt_succ_self _) (by omega)

set_option maxHeartbeats 4000000 in
set_option maxRecDepth 100000 in
theorem c_secretPlaced (l : Launch) (G : Gx) (h ah as_ : Nat) (rr ra : Nat → Nat) (hm : Nat → Int32) (nb ns : Nat) (la : Int32) (lo : Int64) (nu : Nat → Int32) (tn : Nat → Nat) (sh : Nat → Nat → Int32) (hb8 : nb ≤ 8) (hs6 : ns ≤ 6) (k : Nat) (hk : k < 2 ^ 31) : Ct l G SF0 yX11_secretPlaced wsX11_secretPlaced ({ frames := 0, cells := 0, slots := 0, locals := 0 }) [.ref h, .int (nI k)] (stW G h ah as_ rr ra hm nb ns la lo nu tn sh) mkA (fun (r : Option Nat) (_ : Unit) => r = if k < ns then some (rr k) else none) (fun _ : Unit => (stW G h ah as_ rr ra hm nb ns la lo nu tn sh)) 0 0 := by
  refine Ct.ofA (mk := fun r : Option Nat => va_rf r) (fun r => va_rf_or r) (Or.inl ⟨_, rfl⟩) (cc := cX11_secretPlaced) (maxL := 2) (by decide) rfl ⟨by simp [Value.category], Nat.le_of_ble_eq_true rfl⟩ ?_
  intro K hl hC hSF hnm hE
  subst hl
  have q0_ : ∀ w ∈ u_ws RX11 TX11 6, w ∈ wsX11_secretPlaced := by decide +kernel
  have q1_ : Cond.fieldLink RX11 36 "FeatherShares$State" "secretsInUse" "I" ∈ wsX11_secretPlaced := by decide +kernel
  have q2_ : Cond.fieldLink RX11 17 "FeatherShares$State" "secrets" "[LFeatherShares$Secret;" ∈ wsX11_secretPlaced := by decide +kernel
  show V G K 2 0 0 0 [some (.ref h), some (.int (nI k))] [] (stW G h ah as_ rr ra hm nb ns la lo nu tn sh)
  refine V.iload_n hC (x := nI k) dX11_secretPlaced_0 rfl ?_
  refine V.ifN_lt hC k 18 dX11_secretPlaced_1 rfl rfl (by omega) ?_
  refine V.iload_n hC (x := nI k) dX11_secretPlaced_4 rfl ?_
  refine V.aload_n hC (x := h) dX11_secretPlaced_5 rfl ?_
  refine V.getf hC (T := TX11) q0_ 3 q1_ rfl (0) rfl rfl (by decide) (.int (nI ns)) rfl dX11_secretPlaced_6 ?_
  refine V.icmpN_ge hC k ns 18 dX11_secretPlaced_9 rfl rfl rfl (by omega) (by omega) (fun c_9 => ?_) (fun c_9 => ?_)
  · refine V.null hC dX11_secretPlaced_18 ?_
    exact hE 19 _ none () dX11_secretPlaced_19 ((if_neg (by omega)).symm)
  · refine V.iload_n hC (x := nI k) dX11_secretPlaced_12 rfl ?_
    refine V.bipush hC 6 dX11_secretPlaced_13 rfl ?_
    refine V.icmpN_lt hC k 6 20 dX11_secretPlaced_15 rfl rfl rfl (by omega) (by omega) (fun c_15 => ?_) (fun c_15 => ?_)
    · refine V.aload_n hC (x := h) dX11_secretPlaced_20 rfl ?_
      refine V.getf hC (T := TX11) q0_ 1 q2_ rfl (0) rfl rfl (by decide) (.ref as_) rfl dX11_secretPlaced_21 ?_
      refine V.iload_n hC (x := nI k) dX11_secretPlaced_24 rfl ?_
      refine V.aaldS hC dX11_secretPlaced_25 (2) rfl k rfl (by omega) (by decide) (rr k) rfl ?_
      exact hE 26 _ (some (rr k)) () dX11_secretPlaced_26 ((if_pos c_9).symm)
    · exact absurd c_15 (by omega)

set_option maxHeartbeats 4000000 in
set_option maxRecDepth 100000 in
theorem c_secretPlacedN (l : Launch) (G : Gx) (h ah as_ : Nat) (rr ra : Nat → Nat) (hm : Nat → Int32) (nb ns : Nat) (la : Int32) (lo : Int64) (nu : Nat → Int32) (tn : Nat → Nat) (sh : Nat → Nat → Int32) (hb8 : nb ≤ 8) (hs6 : ns ≤ 6) (x : Int32) (hx : x < 0) : Ct l G SF0 yX11_secretPlaced wsX11_secretPlaced ({ frames := 0, cells := 0, slots := 0, locals := 0 }) [.ref h, .int x] (stW G h ah as_ rr ra hm nb ns la lo nu tn sh) mkA (fun (r : Option Nat) (_ : Unit) => r = none) (fun _ : Unit => (stW G h ah as_ rr ra hm nb ns la lo nu tn sh)) 0 0 := by
  refine Ct.ofA (mk := fun r : Option Nat => va_rf r) (fun r => va_rf_or r) (Or.inl ⟨_, rfl⟩) (cc := cX11_secretPlaced) (maxL := 2) (by decide) rfl ⟨by simp [Value.category], Nat.le_of_ble_eq_true rfl⟩ ?_
  intro K hl hC hSF hnm hE
  subst hl
  show V G K 2 0 0 0 [some (.ref h), some (.int x)] [] (stW G h ah as_ rr ra hm nb ns la lo nu tn sh)
  refine V.iload_n hC (x := x) dX11_secretPlaced_0 rfl ?_
  refine V.if_lt hC 18 dX11_secretPlaced_1 rfl (fun c_1 => ?_) (fun c_1 => ?_)
  · refine V.null hC dX11_secretPlaced_18 ?_
    exact hE 19 _ none () dX11_secretPlaced_19 rfl
  · exact absurd hx c_1

set_option maxHeartbeats 4000000 in
set_option maxRecDepth 100000 in
theorem c_loadOf (l : Launch) (G : Gx) (h ah as_ : Nat) (rr ra : Nat → Nat) (hm : Nat → Int32) (nb ns : Nat) (la : Int32) (lo : Int64) (nu : Nat → Int32) (tn : Nat → Nat) (sh : Nat → Nat → Int32) (hb8 : nb ≤ 8) (hs6 : ns ≤ 6) (b : Nat) (hb : b < 8) : Ct l G SF0 yX11_loadOf wsX11_loadOf ({ frames := 1, cells := 0, slots := 0, locals := 21 }) [.ref h, .int (nI b)] (stW G h ah as_ rr ra hm nb ns la lo nu tn sh) mkI (fun (r : Int32) (_ : Unit) => r = nI (ldn sh b ns)) (fun _ : Unit => (stW G h ah as_ rr ra hm nb ns la lo nu tn sh)) 0 0 := by
  refine Ct.ofI (cc := cX11_loadOf) (maxL := 5) (by decide) rfl ⟨by simp [Value.category], Nat.le_of_ble_eq_true rfl⟩ ?_
  intro K hl hC hSF hnm hE
  subst hl
  show V G K 5 0 0 0 [some (.ref h), some (.int (nI b)), none, none, none] [] (stW G h ah as_ rr ra hm nb ns la lo nu tn sh)
  refine V.iconst hC 0 dX11_loadOf_0 rfl ?_
  refine V.istore_n hC dX11_loadOf_1 [some (.ref h), some (.int (nI b)), some (.int 0), none, none] (Nat.le_of_ble_eq_true rfl) rfl ?_
  refine V.iconst hC 0 dX11_loadOf_2 rfl ?_
  refine V.istore_n hC dX11_loadOf_3 [some (.ref h), some (.int (nI b)), some (.int 0), some (.int 0), none] (Nat.le_of_ble_eq_true rfl) rfl ?_
  have loop4 : ∀ (n : Nat) (k : Nat), 7 - k < n → (k ≤ 6) → V G K 5 0 0 4 [some (.ref h), some (.int (nI b)), some (.int (nI (ldn sh b (min k ns)))), some (.int (nI k)), none] [] (stW G h ah as_ rr ra hm nb ns la lo nu tn sh) := by
    intro n
    induction n with
    | zero => intro k hlt; exact absurd hlt (Nat.not_lt_zero _)
    | succ n ih4 =>
      intro k hlt4 hk
      have hq := ldn_le sh b (min k ns)
      refine V.iload_n hC (x := nI k) dX11_loadOf_4 rfl ?_
      refine V.bipush hC 6 dX11_loadOf_5 rfl ?_
      refine V.icmpN_ge hC k 6 40 dX11_loadOf_7 rfl rfl rfl (by omega) (by omega) (fun c_7 => ?_) (fun c_7 => ?_)
      · refine V.lset 2 (x := .int (nI (ldn sh b (min k ns)))) (y := .int (nI (ldn sh b ns))) (congrArg Value.int (by rw [show min k ns = ns by omega])) rfl (lv' := [some (.ref h), some (.int (nI b)), some (.int (nI (ldn sh b ns))), some (.int (nI k)), none]) rfl ?_
        refine V.iload_n hC (x := nI (ldn sh b ns)) dX11_loadOf_40 rfl ?_
        exact hE 41 _ (nI (ldn sh b ns)) () dX11_loadOf_41 rfl rfl
      · refine V.aload_n hC (x := h) dX11_loadOf_10 rfl ?_
        refine V.iload_n hC (x := nI k) dX11_loadOf_11 rfl ?_
        refine V.callVr (n := 1) (As := [.int (nI k)]) (rest := []) hC (c_secretPlaced (kl K) G h ah as_ rr ra hm nb ns la lo nu tn sh hb8 hs6 k (by omega)) SFk0 SFgo0 gX11_loadOf_X11_secretPlaced rfl ⟨rfl, rfl⟩ (by decide +kernel) ⟨by decide, by decide, by decide, by decide⟩ [0, 1, 2, 3, 4, 5, 6, 7, 8, 9, 10, 11, 12, 13, 14] rfl (by decide) rfl rfl rfl rfl (Nat.le_of_ble_eq_true rfl) dX11_loadOf_12 (fun r_12 u_12 hp_12 => ?_)
        rcases Nat.lt_or_ge k ns with c_12 | c_12
        · obtain rfl : r_12 = some (rr k) := hp_12.trans (if_pos c_12)
          show V G K 5 0 0 15 [some (.ref h), some (.int (nI b)), some (.int (nI (ldn sh b (min k ns)))), some (.int (nI k)), none] [.ref (rr k)] (stW G h ah as_ rr ra hm nb ns la lo nu tn sh)
          refine V.astore hC dX11_loadOf_15 [some (.ref h), some (.int (nI b)), some (.int (nI (ldn sh b (min k ns)))), some (.int (nI k)), some (.ref (rr k))] (Nat.le_of_ble_eq_true rfl) rfl ?_
          refine V.aload hC (x := rr k) dX11_loadOf_17 rfl ?_
          refine V.ifnull hC dX11_loadOf_19 ?_
          refine V.aload hC (x := rr k) dX11_loadOf_22 rfl ?_
          refine V.iload_n hC (x := nI b) dX11_loadOf_24 rfl ?_
          refine V.callVr (n := 1) (As := [.int (nI b)]) (rest := []) hC (c_isHeldBy (kl K) G (rr k) (ra k) (sh k) (nu k) (nI (tn k)) b hb) SFk0 SFgo0 gX11_loadOf_X10_isHeldBy rfl ⟨rfl, rfl⟩ (by decide +kernel) ⟨by decide, by decide, by decide, by decide⟩ [3 + 2 * k, 4 + 2 * k] (by rcases (lt6 (by omega : k < 6)) with rfl | rfl | rfl | rfl | rfl | rfl <;> rfl) (by rcases (lt6 (by omega : k < 6)) with rfl | rfl | rfl | rfl | rfl | rfl <;> rfl) rfl rfl rfl rfl (Nat.le_of_ble_eq_true rfl) dX11_loadOf_25 (fun r_25 u_25 hp_25 => ?_)
          subst hp_25
          show V G K 5 0 0 28 [some (.ref h), some (.int (nI b)), some (.int (nI (ldn sh b (min k ns)))), some (.int (nI k)), some (.ref (rr k))] [.int (if sh k b = -1 then 0 else 1)] (stW G h ah as_ rr ra hm nb ns la lo nu tn sh)
          refine V.if_eq hC 34 dX11_loadOf_28 rfl (fun c_28 => ?_) (fun c_28 => ?_)
          · refine V.iincN hC k 1 dX11_loadOf_34 rfl [some (.ref h), some (.int (nI b)), some (.int (nI (ldn sh b (min k ns)))), some (.int (nI (k + 1))), some (.ref (rr k))] (Nat.le_of_ble_eq_true rfl) rfl rfl rfl ?_
            refine V.lset 2 (x := .int (nI (ldn sh b (min k ns)))) (y := .int (nI (ldn sh b (min (k + 1) ns)))) (congrArg Value.int (congrArg nI (by rw [show min k ns = k by omega, show min (k + 1) ns = k + 1 by omega]; exact ldn_y (if01 c_28)))) rfl (lv' := [some (.ref h), some (.int (nI b)), some (.int (nI (ldn sh b (min (k + 1) ns)))), some (.int (nI (k + 1))), some (.ref (rr k))]) rfl ?_
            refine V.goto hC 4 dX11_loadOf_37 rfl ?_
            refine V.drop 4 (lv' := [some (.ref h), some (.int (nI b)), some (.int (nI (ldn sh b (min (k + 1) ns)))), some (.int (nI (k + 1))), none]) rfl ?_
            exact ih4 (k + 1) (by omega) (by omega)
          · refine V.iincN hC (ldn sh b (min k ns)) 1 dX11_loadOf_31 rfl [some (.ref h), some (.int (nI b)), some (.int (nI (ldn sh b (min k ns) + 1))), some (.int (nI k)), some (.ref (rr k))] (Nat.le_of_ble_eq_true rfl) rfl rfl rfl ?_
            refine V.iincN hC k 1 dX11_loadOf_34 rfl [some (.ref h), some (.int (nI b)), some (.int (nI (ldn sh b (min k ns) + 1))), some (.int (nI (k + 1))), some (.ref (rr k))] (Nat.le_of_ble_eq_true rfl) rfl rfl rfl ?_
            refine V.lset 2 (x := .int (nI (ldn sh b (min k ns) + 1))) (y := .int (nI (ldn sh b (min (k + 1) ns)))) (congrArg Value.int (congrArg nI (by rw [show min k ns = k by omega, show min (k + 1) ns = k + 1 by omega]; exact ldn_n (if01n c_28)))) rfl (lv' := [some (.ref h), some (.int (nI b)), some (.int (nI (ldn sh b (min (k + 1) ns)))), some (.int (nI (k + 1))), some (.ref (rr k))]) rfl ?_
            refine V.goto hC 4 dX11_loadOf_37 rfl ?_
            refine V.drop 4 (lv' := [some (.ref h), some (.int (nI b)), some (.int (nI (ldn sh b (min (k + 1) ns)))), some (.int (nI (k + 1))), none]) rfl ?_
            exact ih4 (k + 1) (by omega) (by omega)
        · obtain rfl : r_12 = none := hp_12.trans (if_neg (by omega))
          show V G K 5 0 0 15 [some (.ref h), some (.int (nI b)), some (.int (nI (ldn sh b (min k ns)))), some (.int (nI k)), none] [.null] (stW G h ah as_ rr ra hm nb ns la lo nu tn sh)
          refine V.astoreN hC dX11_loadOf_15 [some (.ref h), some (.int (nI b)), some (.int (nI (ldn sh b (min k ns)))), some (.int (nI k)), some (.null)] (Nat.le_of_ble_eq_true rfl) rfl ?_
          refine V.aloadN hC dX11_loadOf_17 rfl ?_
          refine V.ifnullN hC 34 dX11_loadOf_19 rfl ?_
          refine V.iincN hC k 1 dX11_loadOf_34 rfl [some (.ref h), some (.int (nI b)), some (.int (nI (ldn sh b (min k ns)))), some (.int (nI (k + 1))), some (.null)] (Nat.le_of_ble_eq_true rfl) rfl rfl rfl ?_
          refine V.lset 2 (x := .int (nI (ldn sh b (min k ns)))) (y := .int (nI (ldn sh b (min (k + 1) ns)))) (congrArg Value.int (by rw [show min (k + 1) ns = min k ns by omega])) rfl (lv' := [some (.ref h), some (.int (nI b)), some (.int (nI (ldn sh b (min (k + 1) ns)))), some (.int (nI (k + 1))), some (.null)]) rfl ?_
          refine V.goto hC 4 dX11_loadOf_37 rfl ?_
          refine V.drop 4 (lv' := [some (.ref h), some (.int (nI b)), some (.int (nI (ldn sh b (min (k + 1) ns)))), some (.int (nI (k + 1))), none]) rfl ?_
          exact ih4 (k + 1) (by omega) (by omega)
  exact loop4 _ 0 (Nat.lt_succ_self _) (by omega)

set_option maxHeartbeats 4000000 in
set_option maxRecDepth 100000 in
theorem c_isAhead (l : Launch) (G : Gx) (h ah as_ : Nat) (rr ra : Nat → Nat) (hm : Nat → Int32) (nb ns : Nat) (la : Int32) (lo : Int64) (nu : Nat → Int32) (tn : Nat → Nat) (sh : Nat → Nat → Int32) (hb8 : nb ≤ 8) (hs6 : ns ≤ 6) (x y : Nat) (hx : x < 8) (hy : y < 8) : Ct l G SF0 yX11_isAhead wsX11_isAhead ({ frames := 2, cells := 0, slots := 0, locals := 45 }) [.ref h, .int (nI x), .int (nI y)] (stW G h ah as_ rr ra hm nb ns la lo nu tn sh) mkI (fun (r : Int32) (_ : Unit) => r = if ldn sh y ns < ldn sh x ns ∨ (ldn sh x ns = ldn sh y ns ∧ (hm x < hm y ∨ (hm x = hm y ∧ x < y))) then 1 else 0) (fun _ : Unit => (stW G h ah as_ rr ra hm nb ns la lo nu tn sh)) 0 0 := by
  have hq1 := ldn_le sh x ns
  have hq2 := ldn_le sh y ns
  refine Ct.ofI (cc := cX11_isAhead) (maxL := 5) (by decide) rfl ⟨by simp [Value.category], Nat.le_of_ble_eq_true rfl⟩ ?_
  intro K hl hC hSF hnm hE
  subst hl
  show V G K 5 0 0 0 [some (.ref h), some (.int (nI x)), some (.int (nI y)), none, none] [] (stW G h ah as_ rr ra hm nb ns la lo nu tn sh)
  refine V.aload_n hC (x := h) dX11_isAhead_0 rfl ?_
  refine V.iload_n hC (x := nI x) dX11_isAhead_1 rfl ?_
  refine V.callVr (n := 1) (As := [.int (nI x)]) (rest := []) hC (c_loadOf (kl K) G h ah as_ rr ra hm nb ns la lo nu tn sh hb8 hs6 x (by omega)) SFk0 SFgo0 gX11_isAhead_X11_loadOf rfl ⟨rfl, rfl⟩ (by decide +kernel) ⟨by decide, by decide, by decide, by decide⟩ [0, 1, 2, 3, 4, 5, 6, 7, 8, 9, 10, 11, 12, 13, 14] rfl (by decide) rfl rfl rfl rfl (Nat.le_of_ble_eq_true rfl) dX11_isAhead_2 (fun r_2 u_2 hp_2 => ?_)
  subst hp_2
  show V G K 5 0 0 5 [some (.ref h), some (.int (nI x)), some (.int (nI y)), none, none] [.int (nI (ldn sh x ns))] (stW G h ah as_ rr ra hm nb ns la lo nu tn sh)
  refine V.istore_n hC dX11_isAhead_5 [some (.ref h), some (.int (nI x)), some (.int (nI y)), some (.int (nI (ldn sh x ns))), none] (Nat.le_of_ble_eq_true rfl) rfl ?_
  refine V.aload_n hC (x := h) dX11_isAhead_6 rfl ?_
  refine V.iload_n hC (x := nI y) dX11_isAhead_7 rfl ?_
  refine V.callVr (n := 1) (As := [.int (nI y)]) (rest := []) hC (c_loadOf (kl K) G h ah as_ rr ra hm nb ns la lo nu tn sh hb8 hs6 y (by omega)) SFk0 SFgo0 gX11_isAhead_X11_loadOf rfl ⟨rfl, rfl⟩ (by decide +kernel) ⟨by decide, by decide, by decide, by decide⟩ [0, 1, 2, 3, 4, 5, 6, 7, 8, 9, 10, 11, 12, 13, 14] rfl (by decide) rfl rfl rfl rfl (Nat.le_of_ble_eq_true rfl) dX11_isAhead_8 (fun r_8 u_8 hp_8 => ?_)
  subst hp_8
  show V G K 5 0 0 11 [some (.ref h), some (.int (nI x)), some (.int (nI y)), some (.int (nI (ldn sh x ns))), none] [.int (nI (ldn sh y ns))] (stW G h ah as_ rr ra hm nb ns la lo nu tn sh)
  refine V.istore hC dX11_isAhead_11 [some (.ref h), some (.int (nI x)), some (.int (nI y)), some (.int (nI (ldn sh x ns))), some (.int (nI (ldn sh y ns)))] (Nat.le_of_ble_eq_true rfl) rfl ?_
  refine V.iload_n hC (x := nI (ldn sh x ns)) dX11_isAhead_13 rfl ?_
  refine V.iload hC (x := nI (ldn sh y ns)) dX11_isAhead_14 rfl ?_
  refine V.icmpN_eq hC (ldn sh x ns) (ldn sh y ns) 31 dX11_isAhead_16 rfl rfl rfl (by omega) (by omega) (fun c_16 => ?_) (fun c_16 => ?_)
  · refine V.aload_n hC (x := h) dX11_isAhead_31 rfl ?_
    refine V.iload_n hC (x := nI x) dX11_isAhead_32 rfl ?_
    refine V.callVr (n := 1) (As := [.int (nI x)]) (rest := []) hC (c_homeOf (kl K) G h ah as_ rr ra hm nb ns la lo nu tn sh hb8 hs6 x (by omega)) SFk0 SFgo0 gX11_isAhead_X11_homeOf rfl ⟨rfl, rfl⟩ (by decide +kernel) ⟨by decide, by decide, by decide, by decide⟩ [0, 1, 2, 3, 4, 5, 6, 7, 8, 9, 10, 11, 12, 13, 14] rfl (by decide) rfl rfl rfl rfl (Nat.le_of_ble_eq_true rfl) dX11_isAhead_33 (fun r_33 u_33 hp_33 => ?_)
    subst hp_33
    show V G K 5 0 0 36 [some (.ref h), some (.int (nI x)), some (.int (nI y)), some (.int (nI (ldn sh x ns))), some (.int (nI (ldn sh y ns)))] [.int (hm x)] (stW G h ah as_ rr ra hm nb ns la lo nu tn sh)
    refine V.aload_n hC (x := h) dX11_isAhead_36 rfl ?_
    refine V.iload_n hC (x := nI y) dX11_isAhead_37 rfl ?_
    refine V.callVr (n := 1) (As := [.int (nI y)]) (rest := [.int (hm x)]) hC (c_homeOf (kl K) G h ah as_ rr ra hm nb ns la lo nu tn sh hb8 hs6 y (by omega)) SFk0 SFgo0 gX11_isAhead_X11_homeOf rfl ⟨rfl, rfl⟩ (by decide +kernel) ⟨by decide, by decide, by decide, by decide⟩ [0, 1, 2, 3, 4, 5, 6, 7, 8, 9, 10, 11, 12, 13, 14] rfl (by decide) rfl rfl rfl rfl (Nat.le_of_ble_eq_true rfl) dX11_isAhead_38 (fun r_38 u_38 hp_38 => ?_)
    subst hp_38
    show V G K 5 0 0 41 [some (.ref h), some (.int (nI x)), some (.int (nI y)), some (.int (nI (ldn sh x ns))), some (.int (nI (ldn sh y ns)))] [.int (hm y), .int (hm x)] (stW G h ah as_ rr ra hm nb ns la lo nu tn sh)
    refine V.icmp_eq hC 63 dX11_isAhead_41 rfl (fun c_41 => ?_) (fun c_41 => ?_)
    · refine V.iload_n hC (x := nI x) dX11_isAhead_63 rfl ?_
      refine V.iload_n hC (x := nI y) dX11_isAhead_64 rfl ?_
      refine V.icmpN_ge hC x y 72 dX11_isAhead_65 rfl rfl rfl (by omega) (by omega) (fun c_65 => ?_) (fun c_65 => ?_)
      · refine V.iconst hC 0 dX11_isAhead_72 rfl ?_
        exact hE 73 _ 0 () dX11_isAhead_73 rfl ((if_neg (fun z => z.elim (fun q => by omega) (fun q => q.2.elim (fun w => absurd w (by rw [c_41]; exact Int32.lt_irrefl)) (fun w => by omega)))).symm)
      · refine V.iconst hC 1 dX11_isAhead_68 rfl ?_
        refine V.goto hC 73 dX11_isAhead_69 rfl ?_
        exact hE 73 _ 1 () dX11_isAhead_73 rfl ((if_pos (Or.inr ⟨c_16, Or.inr ⟨c_41, c_65⟩⟩)).symm)
    · refine V.aload_n hC (x := h) dX11_isAhead_44 rfl ?_
      refine V.iload_n hC (x := nI x) dX11_isAhead_45 rfl ?_
      refine V.callVr (n := 1) (As := [.int (nI x)]) (rest := []) hC (c_homeOf (kl K) G h ah as_ rr ra hm nb ns la lo nu tn sh hb8 hs6 x (by omega)) SFk0 SFgo0 gX11_isAhead_X11_homeOf rfl ⟨rfl, rfl⟩ (by decide +kernel) ⟨by decide, by decide, by decide, by decide⟩ [0, 1, 2, 3, 4, 5, 6, 7, 8, 9, 10, 11, 12, 13, 14] rfl (by decide) rfl rfl rfl rfl (Nat.le_of_ble_eq_true rfl) dX11_isAhead_46 (fun r_46 u_46 hp_46 => ?_)
      subst hp_46
      show V G K 5 0 0 49 [some (.ref h), some (.int (nI x)), some (.int (nI y)), some (.int (nI (ldn sh x ns))), some (.int (nI (ldn sh y ns)))] [.int (hm x)] (stW G h ah as_ rr ra hm nb ns la lo nu tn sh)
      refine V.aload_n hC (x := h) dX11_isAhead_49 rfl ?_
      refine V.iload_n hC (x := nI y) dX11_isAhead_50 rfl ?_
      refine V.callVr (n := 1) (As := [.int (nI y)]) (rest := [.int (hm x)]) hC (c_homeOf (kl K) G h ah as_ rr ra hm nb ns la lo nu tn sh hb8 hs6 y (by omega)) SFk0 SFgo0 gX11_isAhead_X11_homeOf rfl ⟨rfl, rfl⟩ (by decide +kernel) ⟨by decide, by decide, by decide, by decide⟩ [0, 1, 2, 3, 4, 5, 6, 7, 8, 9, 10, 11, 12, 13, 14] rfl (by decide) rfl rfl rfl rfl (Nat.le_of_ble_eq_true rfl) dX11_isAhead_51 (fun r_51 u_51 hp_51 => ?_)
      subst hp_51
      show V G K 5 0 0 54 [some (.ref h), some (.int (nI x)), some (.int (nI y)), some (.int (nI (ldn sh x ns))), some (.int (nI (ldn sh y ns)))] [.int (hm y), .int (hm x)] (stW G h ah as_ rr ra hm nb ns la lo nu tn sh)
      refine V.icmp_ge hC 61 dX11_isAhead_54 rfl (fun c_54 => ?_) (fun c_54 => ?_)
      · refine V.iconst hC 0 dX11_isAhead_61 rfl ?_
        exact hE 62 _ 0 () dX11_isAhead_62 rfl ((if_neg (fun z => z.elim (fun q => by omega) (fun q => q.2.elim (fun w => absurd w (Int32.not_lt.mpr c_54)) (fun w => c_41 w.1)))).symm)
      · refine V.iconst hC 1 dX11_isAhead_57 rfl ?_
        refine V.goto hC 62 dX11_isAhead_58 rfl ?_
        exact hE 62 _ 1 () dX11_isAhead_62 rfl ((if_pos (Or.inr ⟨c_16, Or.inl (Int32.not_le.mp c_54)⟩)).symm)
  · refine V.iload_n hC (x := nI (ldn sh x ns)) dX11_isAhead_19 rfl ?_
    refine V.iload hC (x := nI (ldn sh y ns)) dX11_isAhead_20 rfl ?_
    refine V.icmpN_le hC (ldn sh x ns) (ldn sh y ns) 29 dX11_isAhead_22 rfl rfl rfl (by omega) (by omega) (fun c_22 => ?_) (fun c_22 => ?_)
    · refine V.iconst hC 0 dX11_isAhead_29 rfl ?_
      exact hE 30 _ 0 () dX11_isAhead_30 rfl ((if_neg (fun z => z.elim (fun q => by omega) (fun q => c_16 q.1))).symm)
    · refine V.iconst hC 1 dX11_isAhead_25 rfl ?_
      refine V.goto hC 30 dX11_isAhead_26 rfl ?_
      exact hE 30 _ 1 () dX11_isAhead_30 rfl ((if_pos (Or.inl c_22)).symm)

set_option maxHeartbeats 4000000 in
set_option maxRecDepth 100000 in
theorem c_birdsAheadOf (l : Launch) (G : Gx) (h ah as_ : Nat) (rr ra : Nat → Nat) (hm : Nat → Int32) (nb ns : Nat) (la : Int32) (lo : Int64) (nu : Nat → Int32) (tn : Nat → Nat) (sh : Nat → Nat → Int32) (hb8 : nb ≤ 8) (hs6 : ns ≤ 6) (b : Nat) (hb : b < 8) : Ct l G SF0 yX11_birdsAheadOf wsX11_birdsAheadOf ({ frames := 3, cells := 0, slots := 0, locals := 69 }) [.ref h, .int (nI b)] (stW G h ah as_ rr ra hm nb ns la lo nu tn sh) mkI (fun (r : Int32) (_ : Unit) => r = nI (ahn (fun z => ldn sh z ns) hm b nb)) (fun _ : Unit => (stW G h ah as_ rr ra hm nb ns la lo nu tn sh)) 0 0 := by
  refine Ct.ofI (cc := cX11_birdsAheadOf) (maxL := 4) (by decide) rfl ⟨by simp [Value.category], Nat.le_of_ble_eq_true rfl⟩ ?_
  intro K hl hC hSF hnm hE
  subst hl
  have q0_ : ∀ w ∈ u_ws RX11 TX11 6, w ∈ wsX11_birdsAheadOf := by decide +kernel
  have q1_ : Cond.fieldLink RX11 32 "FeatherShares$State" "birds" "I" ∈ wsX11_birdsAheadOf := by decide +kernel
  show V G K 4 0 0 0 [some (.ref h), some (.int (nI b)), none, none] [] (stW G h ah as_ rr ra hm nb ns la lo nu tn sh)
  refine V.iconst hC 0 dX11_birdsAheadOf_0 rfl ?_
  refine V.istore_n hC dX11_birdsAheadOf_1 [some (.ref h), some (.int (nI b)), some (.int 0), none] (Nat.le_of_ble_eq_true rfl) rfl ?_
  refine V.iconst hC 0 dX11_birdsAheadOf_2 rfl ?_
  refine V.istore_n hC dX11_birdsAheadOf_3 [some (.ref h), some (.int (nI b)), some (.int 0), some (.int 0)] (Nat.le_of_ble_eq_true rfl) rfl ?_
  have loop4 : ∀ (n : Nat) (i : Nat), 9 - i < n → (i ≤ nb) → V G K 4 0 0 4 [some (.ref h), some (.int (nI b)), some (.int (nI (ahn (fun z => ldn sh z ns) hm b i))), some (.int (nI i))] [] (stW G h ah as_ rr ra hm nb ns la lo nu tn sh) := by
    intro n
    induction n with
    | zero => intro i hlt; exact absurd hlt (Nat.not_lt_zero _)
    | succ n ih4 =>
      intro i hlt4 hi
      have hq := ahn_le (fun z => ldn sh z ns) hm b i
      refine V.iload_n hC (x := nI i) dX11_birdsAheadOf_4 rfl ?_
      refine V.aload_n hC (x := h) dX11_birdsAheadOf_5 rfl ?_
      refine V.getf hC (T := TX11) q0_ 2 q1_ rfl (0) rfl rfl (by decide) (.int (nI nb)) rfl dX11_birdsAheadOf_6 ?_
      refine V.icmpN_ge hC i nb 35 dX11_birdsAheadOf_9 rfl rfl rfl (by omega) (by omega) (fun c_9 => ?_) (fun c_9 => ?_)
      · refine V.lset 2 (x := .int (nI (ahn (fun z => ldn sh z ns) hm b i))) (y := .int (nI (ahn (fun z => ldn sh z ns) hm b nb))) (congrArg Value.int (by rw [show i = nb by omega])) rfl (lv' := [some (.ref h), some (.int (nI b)), some (.int (nI (ahn (fun z => ldn sh z ns) hm b nb))), some (.int (nI i))]) rfl ?_
        refine V.iload_n hC (x := nI (ahn (fun z => ldn sh z ns) hm b nb)) dX11_birdsAheadOf_35 rfl ?_
        exact hE 36 _ (nI (ahn (fun z => ldn sh z ns) hm b nb)) () dX11_birdsAheadOf_36 rfl rfl
      · refine V.iload_n hC (x := nI i) dX11_birdsAheadOf_12 rfl ?_
        refine V.iload_n hC (x := nI b) dX11_birdsAheadOf_13 rfl ?_
        refine V.icmpN_eq hC i b 29 dX11_birdsAheadOf_14 rfl rfl rfl (by omega) (by omega) (fun c_14 => ?_) (fun c_14 => ?_)
        · refine V.iincN hC i 1 dX11_birdsAheadOf_29 rfl [some (.ref h), some (.int (nI b)), some (.int (nI (ahn (fun z => ldn sh z ns) hm b i))), some (.int (nI (i + 1)))] (Nat.le_of_ble_eq_true rfl) rfl rfl rfl ?_
          refine V.lset 2 (x := .int (nI (ahn (fun z => ldn sh z ns) hm b i))) (y := .int (nI (ahn (fun z => ldn sh z ns) hm b (i + 1)))) (congrArg Value.int (congrArg nI (by rw [ahn, if_neg (by rw [c_14]; exact ahd_irr (ld := (fun z => ldn sh z ns)) (hm := hm))]; rfl))) rfl (lv' := [some (.ref h), some (.int (nI b)), some (.int (nI (ahn (fun z => ldn sh z ns) hm b (i + 1)))), some (.int (nI (i + 1)))]) rfl ?_
          refine V.goto hC 4 dX11_birdsAheadOf_32 rfl ?_
          exact ih4 (i + 1) (by omega) (by omega)
        · refine V.aload_n hC (x := h) dX11_birdsAheadOf_17 rfl ?_
          refine V.iload_n hC (x := nI i) dX11_birdsAheadOf_18 rfl ?_
          refine V.iload_n hC (x := nI b) dX11_birdsAheadOf_19 rfl ?_
          refine V.callVr (n := 2) (As := [.int (nI i), .int (nI b)]) (rest := []) hC (c_isAhead (kl K) G h ah as_ rr ra hm nb ns la lo nu tn sh hb8 hs6 i b (by omega) hb) SFk0 SFgo0 gX11_birdsAheadOf_X11_isAhead rfl ⟨rfl, rfl⟩ (by decide +kernel) ⟨by decide, by decide, by decide, by decide⟩ [0, 1, 2, 3, 4, 5, 6, 7, 8, 9, 10, 11, 12, 13, 14] rfl (by decide) rfl rfl rfl rfl (Nat.le_of_ble_eq_true rfl) dX11_birdsAheadOf_20 (fun r_20 u_20 hp_20 => ?_)
          subst hp_20
          show V G K 4 0 0 23 [some (.ref h), some (.int (nI b)), some (.int (nI (ahn (fun z => ldn sh z ns) hm b i))), some (.int (nI i))] [.int (if ldn sh b ns < ldn sh i ns ∨ (ldn sh i ns = ldn sh b ns ∧ (hm i < hm b ∨ (hm i = hm b ∧ i < b))) then 1 else 0)] (stW G h ah as_ rr ra hm nb ns la lo nu tn sh)
          refine V.if_eq hC 29 dX11_birdsAheadOf_23 rfl (fun c_23 => ?_) (fun c_23 => ?_)
          · refine V.iincN hC i 1 dX11_birdsAheadOf_29 rfl [some (.ref h), some (.int (nI b)), some (.int (nI (ahn (fun z => ldn sh z ns) hm b i))), some (.int (nI (i + 1)))] (Nat.le_of_ble_eq_true rfl) rfl rfl rfl ?_
            refine V.lset 2 (x := .int (nI (ahn (fun z => ldn sh z ns) hm b i))) (y := .int (nI (ahn (fun z => ldn sh z ns) hm b (i + 1)))) (congrArg Value.int (congrArg nI (by rw [ahn, if_neg (if10 c_23)]; rfl))) rfl (lv' := [some (.ref h), some (.int (nI b)), some (.int (nI (ahn (fun z => ldn sh z ns) hm b (i + 1)))), some (.int (nI (i + 1)))]) rfl ?_
            refine V.goto hC 4 dX11_birdsAheadOf_32 rfl ?_
            exact ih4 (i + 1) (by omega) (by omega)
          · refine V.iincN hC (ahn (fun z => ldn sh z ns) hm b i) 1 dX11_birdsAheadOf_26 rfl [some (.ref h), some (.int (nI b)), some (.int (nI (ahn (fun z => ldn sh z ns) hm b i + 1))), some (.int (nI i))] (Nat.le_of_ble_eq_true rfl) rfl rfl rfl ?_
            refine V.iincN hC i 1 dX11_birdsAheadOf_29 rfl [some (.ref h), some (.int (nI b)), some (.int (nI (ahn (fun z => ldn sh z ns) hm b i + 1))), some (.int (nI (i + 1)))] (Nat.le_of_ble_eq_true rfl) rfl rfl rfl ?_
            refine V.lset 2 (x := .int (nI (ahn (fun z => ldn sh z ns) hm b i + 1))) (y := .int (nI (ahn (fun z => ldn sh z ns) hm b (i + 1)))) (congrArg Value.int (congrArg nI (by rw [ahn, if_pos (if10n c_23)]))) rfl (lv' := [some (.ref h), some (.int (nI b)), some (.int (nI (ahn (fun z => ldn sh z ns) hm b (i + 1)))), some (.int (nI (i + 1)))]) rfl ?_
            refine V.goto hC 4 dX11_birdsAheadOf_32 rfl ?_
            exact ih4 (i + 1) (by omega) (by omega)
  exact loop4 _ 0 (Nat.lt_succ_self _) (by omega)

set_option maxHeartbeats 4000000 in
set_option maxRecDepth 100000 in
theorem c_birdRanked (l : Launch) (G : Gx) (h ah as_ : Nat) (rr ra : Nat → Nat) (hm : Nat → Int32) (nb ns : Nat) (la : Int32) (lo : Int64) (nu : Nat → Int32) (tn : Nat → Nat) (sh : Nat → Nat → Int32) (hb8 : nb ≤ 8) (hs6 : ns ≤ 6) (x : Int32) : Ct l G SF0 yX11_birdRanked wsX11_birdRanked ({ frames := 4, cells := 0, slots := 0, locals := 92 }) [.ref h, .int x] (stW G h ah as_ rr ra hm nb ns la lo nu tn sh) mkI (fun (r : Int32) (_ : Unit) => r = nI ((fd (fun z => nI (ahn (fun z => ldn sh z ns) hm z nb)) x nb).getD 0)) (fun _ : Unit => (stW G h ah as_ rr ra hm nb ns la lo nu tn sh)) 0 0 := by
  refine Ct.ofI (cc := cX11_birdRanked) (maxL := 3) (by decide) rfl ⟨by simp [Value.category], Nat.le_of_ble_eq_true rfl⟩ ?_
  intro K hl hC hSF hnm hE
  subst hl
  have q0_ : ∀ w ∈ u_ws RX11 TX11 6, w ∈ wsX11_birdRanked := by decide +kernel
  have q1_ : Cond.fieldLink RX11 32 "FeatherShares$State" "birds" "I" ∈ wsX11_birdRanked := by decide +kernel
  show V G K 3 0 0 0 [some (.ref h), some (.int x), none] [] (stW G h ah as_ rr ra hm nb ns la lo nu tn sh)
  refine V.iconst hC 0 dX11_birdRanked_0 rfl ?_
  refine V.istore_n hC dX11_birdRanked_1 [some (.ref h), some (.int x), some (.int 0)] (Nat.le_of_ble_eq_true rfl) rfl ?_
  have loop2 : ∀ (n : Nat) (b : Nat), 9 - b < n → (b ≤ nb) → (fd (fun z => nI (ahn (fun z => ldn sh z ns) hm z nb)) x b = none) → V G K 3 0 0 2 [some (.ref h), some (.int x), some (.int (nI b))] [] (stW G h ah as_ rr ra hm nb ns la lo nu tn sh) := by
    intro n
    induction n with
    | zero => intro b hlt; exact absurd hlt (Nat.not_lt_zero _)
    | succ n ih2 =>
      intro b hlt2 hb hf
      refine V.iload_n hC (x := nI b) dX11_birdRanked_2 rfl ?_
      refine V.aload_n hC (x := h) dX11_birdRanked_3 rfl ?_
      refine V.getf hC (T := TX11) q0_ 2 q1_ rfl (0) rfl rfl (by decide) (.int (nI nb)) rfl dX11_birdRanked_4 ?_
      refine V.icmpN_ge hC b nb 27 dX11_birdRanked_7 rfl rfl rfl (by omega) (by omega) (fun c_7 => ?_) (fun c_7 => ?_)
      · refine V.iconst hC 0 dX11_birdRanked_27 rfl ?_
        exact hE 28 _ 0 () dX11_birdRanked_28 rfl (by obtain rfl : b = nb := (by omega); rw [hf]; rfl)
      · refine V.aload_n hC (x := h) dX11_birdRanked_10 rfl ?_
        refine V.iload_n hC (x := nI b) dX11_birdRanked_11 rfl ?_
        refine V.callVr (n := 1) (As := [.int (nI b)]) (rest := []) hC (c_birdsAheadOf (kl K) G h ah as_ rr ra hm nb ns la lo nu tn sh hb8 hs6 b (by omega)) SFk0 SFgo0 gX11_birdRanked_X11_birdsAheadOf rfl ⟨rfl, rfl⟩ (by decide +kernel) ⟨by decide, by decide, by decide, by decide⟩ [0, 1, 2, 3, 4, 5, 6, 7, 8, 9, 10, 11, 12, 13, 14] rfl (by decide) rfl rfl rfl rfl (Nat.le_of_ble_eq_true rfl) dX11_birdRanked_12 (fun r_12 u_12 hp_12 => ?_)
        subst hp_12
        show V G K 3 0 0 15 [some (.ref h), some (.int x), some (.int (nI b))] [.int (nI (ahn (fun z => ldn sh z ns) hm b nb))] (stW G h ah as_ rr ra hm nb ns la lo nu tn sh)
        refine V.iload_n hC (x := x) dX11_birdRanked_15 rfl ?_
        refine V.icmp_ne hC 21 dX11_birdRanked_16 rfl (fun c_16 => ?_) (fun c_16 => ?_)
        · refine V.iincN hC b 1 dX11_birdRanked_21 rfl [some (.ref h), some (.int x), some (.int (nI (b + 1)))] (Nat.le_of_ble_eq_true rfl) rfl rfl rfl ?_
          refine V.goto hC 2 dX11_birdRanked_24 rfl ?_
          exact ih2 (b + 1) (by omega) (by omega) (fd_next hf c_16)
        · refine V.iload_n hC (x := nI b) dX11_birdRanked_19 rfl ?_
          exact hE 20 _ (nI b) () dX11_birdRanked_20 rfl (by rw [fd_hit hf c_16 (by omega)]; rfl)
  exact loop2 _ 0 (Nat.lt_succ_self _) (by omega) rfl

set_option maxHeartbeats 4000000 in
set_option maxRecDepth 100000 in
theorem c_find (l : Launch) (G : Gx) (h ah as_ : Nat) (rr ra : Nat → Nat) (hm : Nat → Int32) (nb ns : Nat) (la : Int32) (lo : Int64) (nu : Nat → Int32) (tn : Nat → Nat) (sh : Nat → Nat → Int32) (hb8 : nb ≤ 8) (hs6 : ns ≤ 6) (x : Int32) : Ct l G SF0 yX11_find wsX11_find ({ frames := 1, cells := 0, slots := 0, locals := 21 }) [.ref h, .int x] (stW G h ah as_ rr ra hm nb ns la lo nu tn sh) mkA (fun (r : Option Nat) (_ : Unit) => r = (fd nu x ns).map rr) (fun _ : Unit => (stW G h ah as_ rr ra hm nb ns la lo nu tn sh)) 0 0 := by
  refine Ct.ofA (mk := fun r : Option Nat => va_rf r) (fun r => va_rf_or r) (Or.inl ⟨_, rfl⟩) (cc := cX11_find) (maxL := 4) (by decide) rfl ⟨by simp [Value.category], Nat.le_of_ble_eq_true rfl⟩ ?_
  intro K hl hC hSF hnm hE
  subst hl
  show V G K 4 0 0 0 [some (.ref h), some (.int x), none, none] [] (stW G h ah as_ rr ra hm nb ns la lo nu tn sh)
  refine V.iconst hC 0 dX11_find_0 rfl ?_
  refine V.istore_n hC dX11_find_1 [some (.ref h), some (.int x), some (.int 0), none] (Nat.le_of_ble_eq_true rfl) rfl ?_
  have loop2 : ∀ (n : Nat) (k : Nat), 7 - k < n → (k ≤ 6) → (fd nu x (min k ns) = none) → V G K 4 0 0 2 [some (.ref h), some (.int x), some (.int (nI k)), none] [] (stW G h ah as_ rr ra hm nb ns la lo nu tn sh) := by
    intro n
    induction n with
    | zero => intro k hlt; exact absurd hlt (Nat.not_lt_zero _)
    | succ n ih2 =>
      intro k hlt2 hk hf
      refine V.iload_n hC (x := nI k) dX11_find_2 rfl ?_
      refine V.bipush hC 6 dX11_find_3 rfl ?_
      refine V.icmpN_ge hC k 6 34 dX11_find_5 rfl rfl rfl (by omega) (by omega) (fun c_5 => ?_) (fun c_5 => ?_)
      · refine V.null hC dX11_find_34 ?_
        exact hE 35 _ none () dX11_find_35 (by rw [show min k ns = ns by omega] at hf; rw [hf]; rfl)
      · refine V.aload_n hC (x := h) dX11_find_8 rfl ?_
        refine V.iload_n hC (x := nI k) dX11_find_9 rfl ?_
        refine V.callVr (n := 1) (As := [.int (nI k)]) (rest := []) hC (c_secretPlaced (kl K) G h ah as_ rr ra hm nb ns la lo nu tn sh hb8 hs6 k (by omega)) SFk0 SFgo0 gX11_find_X11_secretPlaced rfl ⟨rfl, rfl⟩ (by decide +kernel) ⟨by decide, by decide, by decide, by decide⟩ [0, 1, 2, 3, 4, 5, 6, 7, 8, 9, 10, 11, 12, 13, 14] rfl (by decide) rfl rfl rfl rfl (Nat.le_of_ble_eq_true rfl) dX11_find_10 (fun r_10 u_10 hp_10 => ?_)
        rcases Nat.lt_or_ge k ns with c_10 | c_10
        · obtain rfl : r_10 = some (rr k) := hp_10.trans (if_pos c_10)
          show V G K 4 0 0 13 [some (.ref h), some (.int x), some (.int (nI k)), none] [.ref (rr k)] (stW G h ah as_ rr ra hm nb ns la lo nu tn sh)
          refine V.astore_n hC dX11_find_13 [some (.ref h), some (.int x), some (.int (nI k)), some (.ref (rr k))] (Nat.le_of_ble_eq_true rfl) rfl ?_
          refine V.aload_n hC (x := rr k) dX11_find_14 rfl ?_
          refine V.ifnull hC dX11_find_15 ?_
          refine V.aload_n hC (x := rr k) dX11_find_18 rfl ?_
          refine V.callVr (n := 0) (As := []) (rest := []) hC (c_ownNumber (kl K) G (rr k) (ra k) (sh k) (nu k) (nI (tn k))) SFk0 SFgo0 gX11_find_X10_ownNumber rfl ⟨rfl, rfl⟩ (by decide +kernel) ⟨by decide, by decide, by decide, by decide⟩ [3 + 2 * k, 4 + 2 * k] (by rcases (lt6 (by omega : k < 6)) with rfl | rfl | rfl | rfl | rfl | rfl <;> rfl) (by rcases (lt6 (by omega : k < 6)) with rfl | rfl | rfl | rfl | rfl | rfl <;> rfl) rfl rfl rfl rfl (Nat.le_of_ble_eq_true rfl) dX11_find_19 (fun r_19 u_19 hp_19 => ?_)
          subst hp_19
          show V G K 4 0 0 22 [some (.ref h), some (.int x), some (.int (nI k)), some (.ref (rr k))] [.int (nu k)] (stW G h ah as_ rr ra hm nb ns la lo nu tn sh)
          refine V.iload_n hC (x := x) dX11_find_22 rfl ?_
          refine V.icmp_ne hC 28 dX11_find_23 rfl (fun c_23 => ?_) (fun c_23 => ?_)
          · refine V.iincN hC k 1 dX11_find_28 rfl [some (.ref h), some (.int x), some (.int (nI (k + 1))), some (.ref (rr k))] (Nat.le_of_ble_eq_true rfl) rfl rfl rfl ?_
            refine V.goto hC 2 dX11_find_31 rfl ?_
            refine V.drop 3 (lv' := [some (.ref h), some (.int x), some (.int (nI (k + 1))), none]) rfl ?_
            exact ih2 (k + 1) (by omega) (by omega) (by rw [show min k ns = k by omega] at hf; rw [show min (k + 1) ns = k + 1 by omega]; exact fd_next hf c_23)
          · refine V.aload_n hC (x := rr k) dX11_find_26 rfl ?_
            exact hE 27 _ (some (rr k)) () dX11_find_27 (by rw [show min k ns = k by omega] at hf; rw [fd_hit hf c_23 (by omega)]; rfl)
        · obtain rfl : r_10 = none := hp_10.trans (if_neg (by omega))
          show V G K 4 0 0 13 [some (.ref h), some (.int x), some (.int (nI k)), none] [.null] (stW G h ah as_ rr ra hm nb ns la lo nu tn sh)
          refine V.astore_nN hC dX11_find_13 [some (.ref h), some (.int x), some (.int (nI k)), some (.null)] (Nat.le_of_ble_eq_true rfl) rfl ?_
          refine V.aload_nN hC dX11_find_14 rfl ?_
          refine V.ifnullN hC 28 dX11_find_15 rfl ?_
          refine V.iincN hC k 1 dX11_find_28 rfl [some (.ref h), some (.int x), some (.int (nI (k + 1))), some (.null)] (Nat.le_of_ble_eq_true rfl) rfl rfl rfl ?_
          refine V.goto hC 2 dX11_find_31 rfl ?_
          refine V.drop 3 (lv' := [some (.ref h), some (.int x), some (.int (nI (k + 1))), none]) rfl ?_
          exact ih2 (k + 1) (by omega) (by omega) (by rw [show min (k + 1) ns = min k ns by omega]; exact hf)
  exact loop2 _ 0 (Nat.lt_succ_self _) (by omega) (by rw [Nat.zero_min]; rfl)

set_option maxHeartbeats 4000000 in
set_option maxRecDepth 100000 in
theorem c_holdersIn (l : Launch) (G : Gx) (h ah as_ : Nat) (rr ra : Nat → Nat) (hm : Nat → Int32) (nb ns : Nat) (la : Int32) (lo : Int64) (nu : Nat → Int32) (tn : Nat → Nat) (sh : Nat → Nat → Int32) (hb8 : nb ≤ 8) (hs6 : ns ≤ 6) (x : Int32) (k : Nat) (hk : k < 6) : Ct l G SF0 yX11_holdersIn wsX11_holdersIn ({ frames := 1, cells := 0, slots := 0, locals := 21 }) [.ref h, .int x, .ref (rr k)] (stW G h ah as_ rr ra hm nb ns la lo nu tn sh) mkI (fun (r : Int32) (_ : Unit) => r = nI (hin hm (sh k) x nb)) (fun _ : Unit => (stW G h ah as_ rr ra hm nb ns la lo nu tn sh)) 0 0 := by
  refine Ct.ofI (cc := cX11_holdersIn) (maxL := 5) (by decide) rfl ⟨by simp [Value.category], Nat.le_of_ble_eq_true rfl⟩ ?_
  intro K hl hC hSF hnm hE
  subst hl
  have q0_ : ∀ w ∈ u_ws RX11 TX11 6, w ∈ wsX11_holdersIn := by decide +kernel
  have q1_ : Cond.fieldLink RX11 32 "FeatherShares$State" "birds" "I" ∈ wsX11_holdersIn := by decide +kernel
  show V G K 5 0 0 0 [some (.ref h), some (.int x), some (.ref (rr k)), none, none] [] (stW G h ah as_ rr ra hm nb ns la lo nu tn sh)
  refine V.iconst hC 0 dX11_holdersIn_0 rfl ?_
  refine V.istore_n hC dX11_holdersIn_1 [some (.ref h), some (.int x), some (.ref (rr k)), some (.int 0), none] (Nat.le_of_ble_eq_true rfl) rfl ?_
  refine V.iconst hC 0 dX11_holdersIn_2 rfl ?_
  refine V.istore hC dX11_holdersIn_3 [some (.ref h), some (.int x), some (.ref (rr k)), some (.int 0), some (.int 0)] (Nat.le_of_ble_eq_true rfl) rfl ?_
  have loop5 : ∀ (n : Nat) (b : Nat), 9 - b < n → (b ≤ nb) → V G K 5 0 0 5 [some (.ref h), some (.int x), some (.ref (rr k)), some (.int (nI (hin hm (sh k) x b))), some (.int (nI b))] [] (stW G h ah as_ rr ra hm nb ns la lo nu tn sh) := by
    intro n
    induction n with
    | zero => intro b hlt; exact absurd hlt (Nat.not_lt_zero _)
    | succ n ih5 =>
      intro b hlt5 hb
      have hq := hin_le hm (sh k) x b
      refine V.iload hC (x := nI b) dX11_holdersIn_5 rfl ?_
      refine V.aload_n hC (x := h) dX11_holdersIn_7 rfl ?_
      refine V.getf hC (T := TX11) q0_ 2 q1_ rfl (0) rfl rfl (by decide) (.int (nI nb)) rfl dX11_holdersIn_8 ?_
      refine V.icmpN_ge hC b nb 42 dX11_holdersIn_11 rfl rfl rfl (by omega) (by omega) (fun c_11 => ?_) (fun c_11 => ?_)
      · refine V.lset 3 (x := .int (nI (hin hm (sh k) x b))) (y := .int (nI (hin hm (sh k) x nb))) (congrArg Value.int (by rw [show b = nb by omega])) rfl (lv' := [some (.ref h), some (.int x), some (.ref (rr k)), some (.int (nI (hin hm (sh k) x nb))), some (.int (nI b))]) rfl ?_
        refine V.iload_n hC (x := nI (hin hm (sh k) x nb)) dX11_holdersIn_42 rfl ?_
        exact hE 43 _ (nI (hin hm (sh k) x nb)) () dX11_holdersIn_43 rfl rfl
      · refine V.aload_n hC (x := h) dX11_holdersIn_14 rfl ?_
        refine V.iload hC (x := nI b) dX11_holdersIn_15 rfl ?_
        refine V.callVr (n := 1) (As := [.int (nI b)]) (rest := []) hC (c_homeOf (kl K) G h ah as_ rr ra hm nb ns la lo nu tn sh hb8 hs6 b (by omega)) SFk0 SFgo0 gX11_holdersIn_X11_homeOf rfl ⟨rfl, rfl⟩ (by decide +kernel) ⟨by decide, by decide, by decide, by decide⟩ [0, 1, 2, 3, 4, 5, 6, 7, 8, 9, 10, 11, 12, 13, 14] rfl (by decide) rfl rfl rfl rfl (Nat.le_of_ble_eq_true rfl) dX11_holdersIn_17 (fun r_17 u_17 hp_17 => ?_)
        subst hp_17
        show V G K 5 0 0 20 [some (.ref h), some (.int x), some (.ref (rr k)), some (.int (nI (hin hm (sh k) x b))), some (.int (nI b))] [.int (hm b)] (stW G h ah as_ rr ra hm nb ns la lo nu tn sh)
        refine V.iload_n hC (x := x) dX11_holdersIn_20 rfl ?_
        refine V.icmp_ne hC 36 dX11_holdersIn_21 rfl (fun c_21 => ?_) (fun c_21 => ?_)
        · refine V.iincN hC b 1 dX11_holdersIn_36 rfl [some (.ref h), some (.int x), some (.ref (rr k)), some (.int (nI (hin hm (sh k) x b))), some (.int (nI (b + 1)))] (Nat.le_of_ble_eq_true rfl) rfl rfl rfl ?_
          refine V.lset 3 (x := .int (nI (hin hm (sh k) x b))) (y := .int (nI (hin hm (sh k) x (b + 1)))) (congrArg Value.int (congrArg nI (by rw [hin, if_neg (fun z => c_21 z.1)]; rfl))) rfl (lv' := [some (.ref h), some (.int x), some (.ref (rr k)), some (.int (nI (hin hm (sh k) x (b + 1)))), some (.int (nI (b + 1)))]) rfl ?_
          refine V.goto hC 5 dX11_holdersIn_39 rfl ?_
          exact ih5 (b + 1) (by omega) (by omega)
        · refine V.aload_n hC (x := (rr k)) dX11_holdersIn_24 rfl ?_
          refine V.iload hC (x := nI b) dX11_holdersIn_25 rfl ?_
          refine V.callVr (n := 1) (As := [.int (nI b)]) (rest := []) hC (c_isHeldBy (kl K) G (rr k) (ra k) (sh k) (nu k) (nI (tn k)) b (by omega)) SFk0 SFgo0 gX11_holdersIn_X10_isHeldBy rfl ⟨rfl, rfl⟩ (by decide +kernel) ⟨by decide, by decide, by decide, by decide⟩ [3 + 2 * k, 4 + 2 * k] (by rcases (lt6 (by omega : k < 6)) with rfl | rfl | rfl | rfl | rfl | rfl <;> rfl) (by rcases (lt6 (by omega : k < 6)) with rfl | rfl | rfl | rfl | rfl | rfl <;> rfl) rfl rfl rfl rfl (Nat.le_of_ble_eq_true rfl) dX11_holdersIn_27 (fun r_27 u_27 hp_27 => ?_)
          subst hp_27
          show V G K 5 0 0 30 [some (.ref h), some (.int x), some (.ref (rr k)), some (.int (nI (hin hm (sh k) x b))), some (.int (nI b))] [.int (if sh k b = -1 then 0 else 1)] (stW G h ah as_ rr ra hm nb ns la lo nu tn sh)
          refine V.if_eq hC 36 dX11_holdersIn_30 rfl (fun c_30 => ?_) (fun c_30 => ?_)
          · refine V.iincN hC b 1 dX11_holdersIn_36 rfl [some (.ref h), some (.int x), some (.ref (rr k)), some (.int (nI (hin hm (sh k) x b))), some (.int (nI (b + 1)))] (Nat.le_of_ble_eq_true rfl) rfl rfl rfl ?_
            refine V.lset 3 (x := .int (nI (hin hm (sh k) x b))) (y := .int (nI (hin hm (sh k) x (b + 1)))) (congrArg Value.int (congrArg nI (by rw [hin, if_neg (fun z => z.2 (if01 c_30))]; rfl))) rfl (lv' := [some (.ref h), some (.int x), some (.ref (rr k)), some (.int (nI (hin hm (sh k) x (b + 1)))), some (.int (nI (b + 1)))]) rfl ?_
            refine V.goto hC 5 dX11_holdersIn_39 rfl ?_
            exact ih5 (b + 1) (by omega) (by omega)
          · refine V.iincN hC (hin hm (sh k) x b) 1 dX11_holdersIn_33 rfl [some (.ref h), some (.int x), some (.ref (rr k)), some (.int (nI (hin hm (sh k) x b + 1))), some (.int (nI b))] (Nat.le_of_ble_eq_true rfl) rfl rfl rfl ?_
            refine V.iincN hC b 1 dX11_holdersIn_36 rfl [some (.ref h), some (.int x), some (.ref (rr k)), some (.int (nI (hin hm (sh k) x b + 1))), some (.int (nI (b + 1)))] (Nat.le_of_ble_eq_true rfl) rfl rfl rfl ?_
            refine V.lset 3 (x := .int (nI (hin hm (sh k) x b + 1))) (y := .int (nI (hin hm (sh k) x (b + 1)))) (congrArg Value.int (congrArg nI (by rw [hin, if_pos ⟨c_21, if01n c_30⟩]))) rfl (lv' := [some (.ref h), some (.int x), some (.ref (rr k)), some (.int (nI (hin hm (sh k) x (b + 1)))), some (.int (nI (b + 1)))]) rfl ?_
            refine V.goto hC 5 dX11_holdersIn_39 rfl ?_
            exact ih5 (b + 1) (by omega) (by omega)
  exact loop5 _ 0 (Nat.lt_succ_self _) (by omega)

set_option maxHeartbeats 4000000 in
set_option maxRecDepth 100000 in
theorem c_allShares (l : Launch) (G : Gx) (h ah as_ : Nat) (rr ra : Nat → Nat) (hm : Nat → Int32) (nb ns : Nat) (la : Int32) (lo : Int64) (nu : Nat → Int32) (tn : Nat → Nat) (sh : Nat → Nat → Int32) (hb8 : nb ≤ 8) (hs6 : ns ≤ 6) : Ct l G SF0 yX11_allShares wsX11_allShares ({ frames := 2, cells := 0, slots := 0, locals := 45 }) [.ref h] (stW G h ah as_ rr ra hm nb ns la lo nu tn sh) mkI (fun (r : Int32) (_ : Unit) => r = nI (als (fun z => ldn sh z ns) nb)) (fun _ : Unit => (stW G h ah as_ rr ra hm nb ns la lo nu tn sh)) 0 0 := by
  refine Ct.ofI (cc := cX11_allShares) (maxL := 3) (by decide) rfl ⟨by simp [Value.category], Nat.le_of_ble_eq_true rfl⟩ ?_
  intro K hl hC hSF hnm hE
  subst hl
  have q0_ : ∀ w ∈ u_ws RX11 TX11 6, w ∈ wsX11_allShares := by decide +kernel
  have q1_ : Cond.fieldLink RX11 32 "FeatherShares$State" "birds" "I" ∈ wsX11_allShares := by decide +kernel
  show V G K 3 0 0 0 [some (.ref h), none, none] [] (stW G h ah as_ rr ra hm nb ns la lo nu tn sh)
  refine V.iconst hC 0 dX11_allShares_0 rfl ?_
  refine V.istore_n hC dX11_allShares_1 [some (.ref h), some (.int 0), none] (Nat.le_of_ble_eq_true rfl) rfl ?_
  refine V.iconst hC 0 dX11_allShares_2 rfl ?_
  refine V.istore_n hC dX11_allShares_3 [some (.ref h), some (.int 0), some (.int 0)] (Nat.le_of_ble_eq_true rfl) rfl ?_
  have loop4 : ∀ (n : Nat) (b : Nat), 9 - b < n → (b ≤ nb) → V G K 3 0 0 4 [some (.ref h), some (.int (nI (als (fun z => ldn sh z ns) b))), some (.int (nI b))] [] (stW G h ah as_ rr ra hm nb ns la lo nu tn sh) := by
    intro n
    induction n with
    | zero => intro b hlt; exact absurd hlt (Nat.not_lt_zero _)
    | succ n ih4 =>
      intro b hlt4 hb
      refine V.iload_n hC (x := nI b) dX11_allShares_4 rfl ?_
      refine V.aload_n hC (x := h) dX11_allShares_5 rfl ?_
      refine V.getf hC (T := TX11) q0_ 2 q1_ rfl (0) rfl rfl (by decide) (.int (nI nb)) rfl dX11_allShares_6 ?_
      refine V.icmpN_ge hC b nb 26 dX11_allShares_9 rfl rfl rfl (by omega) (by omega) (fun c_9 => ?_) (fun c_9 => ?_)
      · refine V.lset 1 (x := .int (nI (als (fun z => ldn sh z ns) b))) (y := .int (nI (als (fun z => ldn sh z ns) nb))) (congrArg Value.int (by rw [show b = nb by omega])) rfl (lv' := [some (.ref h), some (.int (nI (als (fun z => ldn sh z ns) nb))), some (.int (nI b))]) rfl ?_
        refine V.iload_n hC (x := nI (als (fun z => ldn sh z ns) nb)) dX11_allShares_26 rfl ?_
        exact hE 27 _ (nI (als (fun z => ldn sh z ns) nb)) () dX11_allShares_27 rfl rfl
      · refine V.iload_n hC (x := nI (als (fun z => ldn sh z ns) b)) dX11_allShares_12 rfl ?_
        refine V.aload_n hC (x := h) dX11_allShares_13 rfl ?_
        refine V.iload_n hC (x := nI b) dX11_allShares_14 rfl ?_
        refine V.callVr (n := 1) (As := [.int (nI b)]) (rest := [.int (nI (als (fun z => ldn sh z ns) b))]) hC (c_loadOf (kl K) G h ah as_ rr ra hm nb ns la lo nu tn sh hb8 hs6 b (by omega)) SFk0 SFgo0 gX11_allShares_X11_loadOf rfl ⟨rfl, rfl⟩ (by decide +kernel) ⟨by decide, by decide, by decide, by decide⟩ [0, 1, 2, 3, 4, 5, 6, 7, 8, 9, 10, 11, 12, 13, 14] rfl (by decide) rfl rfl rfl rfl (Nat.le_of_ble_eq_true rfl) dX11_allShares_15 (fun r_15 u_15 hp_15 => ?_)
        subst hp_15
        show V G K 3 0 0 18 [some (.ref h), some (.int (nI (als (fun z => ldn sh z ns) b))), some (.int (nI b))] [.int (nI (ldn sh b ns)), .int (nI (als (fun z => ldn sh z ns) b))] (stW G h ah as_ rr ra hm nb ns la lo nu tn sh)
        refine V.iaddN hC (als (fun z => ldn sh z ns) b) (ldn sh b ns) dX11_allShares_18 rfl rfl ?_
        refine V.istore_n hC dX11_allShares_19 [some (.ref h), some (.int (nI ((als (fun z => ldn sh z ns) b) + (ldn sh b ns)))), some (.int (nI b))] (Nat.le_of_ble_eq_true rfl) rfl ?_
        refine V.iincN hC b 1 dX11_allShares_20 rfl [some (.ref h), some (.int (nI ((als (fun z => ldn sh z ns) b) + (ldn sh b ns)))), some (.int (nI (b + 1)))] (Nat.le_of_ble_eq_true rfl) rfl rfl rfl ?_
        refine V.goto hC 4 dX11_allShares_23 rfl ?_
        exact ih4 (b + 1) (by omega) (by omega)
  exact loop4 _ 0 (Nat.lt_succ_self _) (by omega)

set_option maxHeartbeats 4000000 in
set_option maxRecDepth 100000 in
theorem c_rebuildableTally (l : Launch) (G : Gx) (h ah as_ : Nat) (rr ra : Nat → Nat) (hm : Nat → Int32) (nb ns : Nat) (la : Int32) (lo : Int64) (nu : Nat → Int32) (tn : Nat → Nat) (sh : Nat → Nat → Int32) (hb8 : nb ≤ 8) (hs6 : ns ≤ 6) (htn : ∀ k, k < ns → tn k ≤ 4) : Ct l G SF0 yX11_rebuildableTally wsX11_rebuildableTally ({ frames := 3, cells := 0, slots := 0, locals := 64 }) [.ref h] (stW G h ah as_ rr ra hm nb ns la lo nu tn sh) mkI (fun (r : Int32) (_ : Unit) => r = nI (rbt sh tn ns)) (fun _ : Unit => (stW G h ah as_ rr ra hm nb ns la lo nu tn sh)) 0 0 := by
  refine Ct.ofI (cc := cX11_rebuildableTally) (maxL := 4) (by decide) rfl ⟨by simp [Value.category], Nat.le_of_ble_eq_true rfl⟩ ?_
  intro K hl hC hSF hnm hE
  subst hl
  show V G K 4 0 0 0 [some (.ref h), none, none, none] [] (stW G h ah as_ rr ra hm nb ns la lo nu tn sh)
  refine V.iconst hC 0 dX11_rebuildableTally_0 rfl ?_
  refine V.istore_n hC dX11_rebuildableTally_1 [some (.ref h), some (.int 0), none, none] (Nat.le_of_ble_eq_true rfl) rfl ?_
  refine V.iconst hC 0 dX11_rebuildableTally_2 rfl ?_
  refine V.istore_n hC dX11_rebuildableTally_3 [some (.ref h), some (.int 0), some (.int 0), none] (Nat.le_of_ble_eq_true rfl) rfl ?_
  have loop4 : ∀ (n : Nat) (k : Nat), 7 - k < n → (k ≤ 6) → V G K 4 0 0 4 [some (.ref h), some (.int (nI (rbt sh tn (min k ns)))), some (.int (nI k)), none] [] (stW G h ah as_ rr ra hm nb ns la lo nu tn sh) := by
    intro n
    induction n with
    | zero => intro k hlt; exact absurd hlt (Nat.not_lt_zero _)
    | succ n ih4 =>
      intro k hlt4 hk
      have hq := rbt_le sh tn (min k ns)
      refine V.iload_n hC (x := nI k) dX11_rebuildableTally_4 rfl ?_
      refine V.bipush hC 6 dX11_rebuildableTally_5 rfl ?_
      refine V.icmpN_ge hC k 6 36 dX11_rebuildableTally_7 rfl rfl rfl (by omega) (by omega) (fun c_7 => ?_) (fun c_7 => ?_)
      · refine V.lset 1 (x := .int (nI (rbt sh tn (min k ns)))) (y := .int (nI (rbt sh tn ns))) (congrArg Value.int (by rw [show min k ns = ns by omega])) rfl (lv' := [some (.ref h), some (.int (nI (rbt sh tn ns))), some (.int (nI k)), none]) rfl ?_
        refine V.iload_n hC (x := nI (rbt sh tn ns)) dX11_rebuildableTally_36 rfl ?_
        exact hE 37 _ (nI (rbt sh tn ns)) () dX11_rebuildableTally_37 rfl rfl
      · refine V.aload_n hC (x := h) dX11_rebuildableTally_10 rfl ?_
        refine V.iload_n hC (x := nI k) dX11_rebuildableTally_11 rfl ?_
        refine V.callVr (n := 1) (As := [.int (nI k)]) (rest := []) hC (c_secretPlaced (kl K) G h ah as_ rr ra hm nb ns la lo nu tn sh hb8 hs6 k (by omega)) SFk0 SFgo0 gX11_rebuildableTally_X11_secretPlaced rfl ⟨rfl, rfl⟩ (by decide +kernel) ⟨by decide, by decide, by decide, by decide⟩ [0, 1, 2, 3, 4, 5, 6, 7, 8, 9, 10, 11, 12, 13, 14] rfl (by decide) rfl rfl rfl rfl (Nat.le_of_ble_eq_true rfl) dX11_rebuildableTally_12 (fun r_12 u_12 hp_12 => ?_)
        rcases Nat.lt_or_ge k ns with c_12 | c_12
        · obtain rfl : r_12 = some (rr k) := hp_12.trans (if_pos c_12)
          show V G K 4 0 0 15 [some (.ref h), some (.int (nI (rbt sh tn (min k ns)))), some (.int (nI k)), none] [.ref (rr k)] (stW G h ah as_ rr ra hm nb ns la lo nu tn sh)
          refine V.astore_n hC dX11_rebuildableTally_15 [some (.ref h), some (.int (nI (rbt sh tn (min k ns)))), some (.int (nI k)), some (.ref (rr k))] (Nat.le_of_ble_eq_true rfl) rfl ?_
          refine V.aload_n hC (x := rr k) dX11_rebuildableTally_16 rfl ?_
          refine V.ifnull hC dX11_rebuildableTally_17 ?_
          refine V.aload_n hC (x := rr k) dX11_rebuildableTally_20 rfl ?_
          refine V.callVr (n := 0) (As := []) (rest := []) hC (c_isRebuildable (kl K) G (rr k) (ra k) (sh k) (nu k) (tn k) (htn k (by omega))) SFk0 SFgo0 gX11_rebuildableTally_X10_isRebuildable rfl ⟨rfl, rfl⟩ (by decide +kernel) ⟨by decide, by decide, by decide, by decide⟩ [3 + 2 * k, 4 + 2 * k] (by rcases (lt6 (by omega : k < 6)) with rfl | rfl | rfl | rfl | rfl | rfl <;> rfl) (by rcases (lt6 (by omega : k < 6)) with rfl | rfl | rfl | rfl | rfl | rfl <;> rfl) rfl rfl rfl rfl (Nat.le_of_ble_eq_true rfl) dX11_rebuildableTally_21 (fun r_21 u_21 hp_21 => ?_)
          subst hp_21
          show V G K 4 0 0 24 [some (.ref h), some (.int (nI (rbt sh tn (min k ns)))), some (.int (nI k)), some (.ref (rr k))] [.int (if tn k ≤ hc (sh k) 8 then 1 else 0)] (stW G h ah as_ rr ra hm nb ns la lo nu tn sh)
          refine V.if_eq hC 30 dX11_rebuildableTally_24 rfl (fun c_24 => ?_) (fun c_24 => ?_)
          · refine V.iincN hC k 1 dX11_rebuildableTally_30 rfl [some (.ref h), some (.int (nI (rbt sh tn (min k ns)))), some (.int (nI (k + 1))), some (.ref (rr k))] (Nat.le_of_ble_eq_true rfl) rfl rfl rfl ?_
            refine V.lset 1 (x := .int (nI (rbt sh tn (min k ns)))) (y := .int (nI (rbt sh tn (min (k + 1) ns)))) (congrArg Value.int (congrArg nI (by rw [show min k ns = k by omega, show min (k + 1) ns = k + 1 by omega, rbt, if_neg (if10 c_24)]; rfl))) rfl (lv' := [some (.ref h), some (.int (nI (rbt sh tn (min (k + 1) ns)))), some (.int (nI (k + 1))), some (.ref (rr k))]) rfl ?_
            refine V.goto hC 4 dX11_rebuildableTally_33 rfl ?_
            refine V.drop 3 (lv' := [some (.ref h), some (.int (nI (rbt sh tn (min (k + 1) ns)))), some (.int (nI (k + 1))), none]) rfl ?_
            exact ih4 (k + 1) (by omega) (by omega)
          · refine V.iincN hC (rbt sh tn (min k ns)) 1 dX11_rebuildableTally_27 rfl [some (.ref h), some (.int (nI (rbt sh tn (min k ns) + 1))), some (.int (nI k)), some (.ref (rr k))] (Nat.le_of_ble_eq_true rfl) rfl rfl rfl ?_
            refine V.iincN hC k 1 dX11_rebuildableTally_30 rfl [some (.ref h), some (.int (nI (rbt sh tn (min k ns) + 1))), some (.int (nI (k + 1))), some (.ref (rr k))] (Nat.le_of_ble_eq_true rfl) rfl rfl rfl ?_
            refine V.lset 1 (x := .int (nI (rbt sh tn (min k ns) + 1))) (y := .int (nI (rbt sh tn (min (k + 1) ns)))) (congrArg Value.int (congrArg nI (by rw [show min k ns = k by omega, show min (k + 1) ns = k + 1 by omega, rbt, if_pos (if10n c_24)]))) rfl (lv' := [some (.ref h), some (.int (nI (rbt sh tn (min (k + 1) ns)))), some (.int (nI (k + 1))), some (.ref (rr k))]) rfl ?_
            refine V.goto hC 4 dX11_rebuildableTally_33 rfl ?_
            refine V.drop 3 (lv' := [some (.ref h), some (.int (nI (rbt sh tn (min (k + 1) ns)))), some (.int (nI (k + 1))), none]) rfl ?_
            exact ih4 (k + 1) (by omega) (by omega)
        · obtain rfl : r_12 = none := hp_12.trans (if_neg (by omega))
          show V G K 4 0 0 15 [some (.ref h), some (.int (nI (rbt sh tn (min k ns)))), some (.int (nI k)), none] [.null] (stW G h ah as_ rr ra hm nb ns la lo nu tn sh)
          refine V.astore_nN hC dX11_rebuildableTally_15 [some (.ref h), some (.int (nI (rbt sh tn (min k ns)))), some (.int (nI k)), some (.null)] (Nat.le_of_ble_eq_true rfl) rfl ?_
          refine V.aload_nN hC dX11_rebuildableTally_16 rfl ?_
          refine V.ifnullN hC 30 dX11_rebuildableTally_17 rfl ?_
          refine V.iincN hC k 1 dX11_rebuildableTally_30 rfl [some (.ref h), some (.int (nI (rbt sh tn (min k ns)))), some (.int (nI (k + 1))), some (.null)] (Nat.le_of_ble_eq_true rfl) rfl rfl rfl ?_
          refine V.lset 1 (x := .int (nI (rbt sh tn (min k ns)))) (y := .int (nI (rbt sh tn (min (k + 1) ns)))) (congrArg Value.int (by rw [show min (k + 1) ns = min k ns by omega])) rfl (lv' := [some (.ref h), some (.int (nI (rbt sh tn (min (k + 1) ns)))), some (.int (nI (k + 1))), some (.null)]) rfl ?_
          refine V.goto hC 4 dX11_rebuildableTally_33 rfl ?_
          refine V.drop 3 (lv' := [some (.ref h), some (.int (nI (rbt sh tn (min (k + 1) ns)))), some (.int (nI (k + 1))), none]) rfl ?_
          exact ih4 (k + 1) (by omega) (by omega)
  exact loop4 _ 0 (Nat.lt_succ_self _) (by omega)
