/-! the state as one value; a change by its number -/
abbrev ASt := (Nat → Int32) × Nat × Nat × Int32 × Int64 × (Nat → Int32) × (Nat → Nat) × (Nat → Nat → Int32)
abbrev sHm (s : ASt) : Nat → Int32 := s.1
abbrev sNb (s : ASt) : Nat := s.2.1
abbrev sNs (s : ASt) : Nat := s.2.2.1
abbrev sLa (s : ASt) : Int32 := s.2.2.2.1
abbrev sLo (s : ASt) : Int64 := s.2.2.2.2.1
abbrev sNu (s : ASt) : Nat → Int32 := s.2.2.2.2.2.1
abbrev sTn (s : ASt) : Nat → Nat := s.2.2.2.2.2.2.1
abbrev sSh (s : ASt) : Nat → Nat → Int32 := s.2.2.2.2.2.2.2
abbrev stA (G : Gx) (h ah as_ : Nat) (rr ra : Nat → Nat) (s : ASt) : va_W := stW G h ah as_ rr ra (sHm s) (sNb s) (sNs s) (sLa s) (sLo s) (sNu s) (sTn s) (sSh s)
/-- what holds of every state: B bounds the numbers given and the losses -/
def InvA (B : Nat) (s : ASt) : Prop := sNb s ≤ 8 ∧ sNs s ≤ 6 ∧ (∀ k, k < sNs s → 1 ≤ sTn s k ∧ sTn s k ≤ 4 ∧ SHok (sSh s k) ∧ ∀ b, sNb s ≤ b → b < 8 → sSh s k b = -1) ∧
  (∀ b, b < sNb s → ∃ n, n < 4 ∧ sHm s b = nI n) ∧ (∃ (L : Nat) (m : Nat → Nat), L ≤ B ∧ sLa s = nI L ∧ (∀ k, k < sNs s → sNu s k = nI (m k) ∧ 1 ≤ m k ∧ m k ≤ L) ∧ ∀ i j, i < j → j < sNs s → m i < m j) ∧ ∃ m, m ≤ B ∧ sLo s = lN m
theorem InvA.up {B C : Nat} {s : ASt} (h : InvA B s) (hBC : B ≤ C) : InvA C s := by
  obtain ⟨h1, h2, h3, h4, ⟨L, m, h5, h6⟩, m2, h7, h8⟩ := h
  exact ⟨h1, h2, h3, h4, ⟨L, m, Nat.le_trans h5 hBC, h6⟩, m2, Nat.le_trans h7 hBC, h8⟩
/-- why a change is refused -/
def pwX (i : Nat) (s : ASt) (x y z : Int32) : Nat := match i with
  | 0 => pwB (sNb s) x
  | 1 => pwM (sNb s) x y
  | 2 => pwS (sNb s) (sNs s) x y z
  | 6 => pwR (fd (sNu s) x (sNs s)) y
  | 7 => pwF (fd (sNu s) x (sNs s))
  | i => if ¬ x < 0 ∧ x < nI (sNb s) then (match fd (sNu s) y (sNs s) with
    | none => 3
    | some k => pwK i (sSh s k) (sTn s k) x.toNatClampNeg z) else 2
theorem pwX_lt (i : Nat) (s : ASt) (x y z : Int32) : pwX i s x y z < 6 := by
  unfold pwX
  split
  · unfold pwB; repeat' split
    all_goals omega
  · unfold pwM; repeat' split
    all_goals omega
  · unfold pwS; repeat' split
    all_goals omega
  · unfold pwR; repeat' split
    all_goals omega
  · unfold pwF; repeat' split
    all_goals omega
  · split
    · split
      · omega
      · unfold pwK; repeat' split
        all_goals omega
    · omega
/-- the state behind a change that is not refused -/
def cX (i : Nat) (s : ASt) (x y z : Int32) : ASt := match i with
  | 0 => (upd (sHm s) (sNb s) x, sNb s + 1, s.2.2)
  | 1 => (upd (sHm s) x.toNatClampNeg y, s.2)
  | 2 => (sHm s, sNb s, sNs s + 1, sLa s + 1, sLo s, va_up (sNu s) (sNs s) (sLa s + 1), va_up (sTn s) (sNs s) y.toNatClampNeg, va_up (sSh s) (sNs s) (flf (dl x.toNatClampNeg z.toNatClampNeg y.toNatClampNeg) (fun _ => -1) (sNb s)))
  | 6 => match fd (sNu s) x (sNs s) with
    | none => s
    | some k => (sHm s, sNb s, sNs s, sLa s, sLo s, sNu s, sTn s, va_up (sSh s) k (rfs (sSh s k) (rfa y.toNatClampNeg (sTn s k))))
  | 7 => match fd (sNu s) x (sNs s) with
    | none => s
    | some c => (sHm s, sNb s, sNs s - 1, sLa s, sLo s, (fun k => sNu s (pm c (sNs s) k)), (fun k => sTn s (pm c (sNs s) k)), fun k => sSh s (pm c (sNs s) k))
  | 3 => match fd (sNu s) y (sNs s) with
    | none => s
    | some k => (sHm s, sNb s, sNs s, sLa s, sLo s + 1, sNu s, sTn s, va_up (sSh s) k (upd (sSh s k) x.toNatClampNeg (-1)))
  | 4 => match fd (sNu s) y (sNs s) with
    | none => s
    | some k => (sHm s, sNb s, sNs s, sLa s, sLo s, sNu s, sTn s, va_up (sSh s) k (upd (sSh s k) x.toNatClampNeg ((sSh s k x.toNatClampNeg + z) - (sSh s k x.toNatClampNeg + z) / 97 * 97)))
  | _ => match fd (sNu s) y (sNs s) with
    | none => s
    | some k => (sHm s, sNb s, sNs s, sLa s, sLo s, sNu s, sTn s, va_up (sSh s) k (upd (sSh s k) x.toNatClampNeg (nI (lagS (fh (sSh s k) (sTn s k) 8) (svn (sSh s k)) (x.toNatClampNeg + 1)))))
/-- what it answers -/
def rX (i : Nat) (s : ASt) (x y z : Int32) : Int32 := match i with
  | 0 => nI (sNb s)
  | 1 => sHm s x.toNatClampNeg
  | 2 => sLa s + 1
  | 6 => match fd (sNu s) x (sNs s) with
    | none => 0
    | some k => nI (rct (sSh s k) (rfa y.toNatClampNeg (sTn s k)) 8)
  | 7 => match fd (sNu s) x (sNs s) with
    | none => 0
    | some c => nI (hc (sSh s c) 8)
  | 3 => match fd (sNu s) y (sNs s) with
    | none => 0
    | some k => nI (hc (upd (sSh s k) x.toNatClampNeg (-1)) 8)
  | 4 => match fd (sNu s) y (sNs s) with
    | none => 0
    | some k => (sSh s k x.toNatClampNeg + z) - (sSh s k x.toNatClampNeg + z) / 97 * 97
  | _ => match fd (sNu s) y (sNs s) with
    | none => 0
    | some k => nI (lagS (fh (sSh s k) (sTn s k) 8) (svn (sSh s k)) (x.toNatClampNeg + 1))
theorem isR_nat {x : Int32} (h : isR x) : ∃ n, n < 97 ∧ x = nI n := i32_nat (n := 97) (by decide) h
theorem fd_lt {nu : Nat → Int32} {x : Int32} {ns k : Nat} (h : fd nu x ns = some k) (h6 : ns ≤ 6) : k < ns ∧ k < 6 := ⟨(fd_some h).1, Nat.lt_of_lt_of_le (fd_some h).1 h6⟩
