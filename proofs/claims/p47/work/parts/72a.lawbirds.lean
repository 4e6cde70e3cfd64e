/-! the law's own methods: birds (printed by gen/s72p.py) -/
theorem ask0_end {s : ASt} (y : Int32) : askV (exA 0) (qA 0 s (nI (sNb s)) y) = -2002 := by
  have e : qA 0 s (nI (sNb s)) y = (1, 0) := show qNestOf s (nI (sNb s)) = (1, 0) from qB_n (fun z => absurd z.2 (Int32.lt_irrefl))
  rw [e]
  all_goals rfl
theorem ask1_4 {s : ASt} (y : Int32) : askV (exA 1) (qA 1 s 4 y) = -2003 := by
  have e : qA 1 s 4 y = (1, 0) := show qBirdsIn s 4 = (1, 0) from qN_n (by decide)
  rw [e]
  all_goals rfl
theorem ask2_x {s : ASt} {x : Int32} (y : Int32) (h : ¬ (¬ x < 0 ∧ x < nI (sNb s))) : askV (exA 2) (qA 2 s x y) = -2004 := by
  have e : qA 2 s x y = (1, 0) := show qRank s x = (1, 0) from qI_n h
  rw [e]
  all_goals rfl
theorem ask3_end {s : ASt} (y : Int32) : askV (exA 3) (qA 3 s (nI (sNs s)) y) = -2002 := by
  have e : qA 3 s (nI (sNs s)) y = (1, 0) := show qSecAt s (nI (sNs s)) = (1, 0) from qI_n (fun z => absurd z.2 (Int32.lt_irrefl))
  rw [e]
  all_goals rfl
theorem ask5_0 {s : ASt} {B : Nat} (hI : InvA B s) (hB : B < 10000) (y : Int32) : askV (exA 5) (qA 5 s 0 y) = -2004 := by
  have e : qA 5 s 0 y = (1, 0) := show qHolders s 0 = (1, 0) from qS_n (fd_no0 hI hB)
  rw [e]
  all_goals rfl
theorem ask7_0 {s : ASt} {B : Nat} (hI : InvA B s) (hB : B < 10000) (y : Int32) : askV (exA 7) (qA 7 s 0 y) = -2004 := by
  have e : qA 7 s 0 y = (1, 0) := show qReb s 0 = (1, 0) from qS_n (fd_no0 hI hB)
  rw [e]
  all_goals rfl
theorem ask6_4 {s : ASt} (y : Int32) : askV (exA 6) (qA 6 s 4 y) = -2003 := by
  have e : qCan s 4 y = (1, 0) := qN_n (by decide)
  show askV _ ((qCan s 4 y).1, if (qCan s 4 y).2 = 0 then (0 : Int32) else 1) = _
  rw [e]
  all_goals rfl
theorem ask6_0 {s : ASt} {B : Nat} (hI : InvA B s) (hB : B < 10000) : askV (exA 6) (qA 6 s 0 0) = -2004 := by
  have e : qCan s 0 0 = (2, 0) := (qN_y (by decide)).trans (qS_n (fd_no0 hI hB))
  show askV _ ((qCan s 0 0).1, if (qCan s 0 0).2 = 0 then (0 : Int32) else 1) = _
  rw [e]
  all_goals rfl
theorem qSpare_ok {s : ASt} {B : Nat} (hI : InvA B s) (hB : B < 10000) {k : Nat} (hk : k < sNs s) : qSpare s (sNu s k) = (0, nI (hc (sSh s k) 8) - nI (sTn s k)) := qS_y (fd_own hI hB hk)
theorem qShares_ok {s : ASt} {b : Nat} (h8 : sNb s ≤ 8) (hb : b < sNb s) : qSharesOf s (nI b) = (0, nI (ldn (sSh s) b (sNs s))) := qB_y h8 hb rfl
theorem nu_inc {s : ASt} {B : Nat} (hI : InvA B s) (hB : B < 10000) {k : Nat} (h1 : 1 ≤ k) (hk : k < sNs s) : sNu s (k - 1) < sNu s k := by
  obtain ⟨L, m, hL, -, hnu, hmm⟩ := hI.2.2.2.2.1
  have a := hnu k hk
  have b := hnu (k - 1) (by omega)
  rw [a.1, b.1]
  exact nI_lt (hmm (k - 1) k (by omega) hk) (by omega)
/-- the bird of a rank -/
theorem rk_ok {s : ASt} {k : Nat} (h8 : sNb s ≤ 8) (hk : k < sNb s) : qRank s (nI k) = (0, nI (rnkd s (nI k))) ∧ rnkd s (nI k) < sNb s ∧ ahn (ldS s) (sHm s) (rnkd s (nI k)) (sNb s) = k := by
  obtain ⟨a, ha⟩ := rk_all (s := s) (x := nI k) h8 ⟨nI_nn (by omega), nI_lt hk (by omega)⟩
  obtain ⟨h1, h2, -⟩ := fd_some ha
  have e : rnkd s (nI k) = a := by
    show (fd (fun z => nI (rkS s z)) (nI k) (sNb s)).getD 0 = a
    rw [ha]
    all_goals rfl
  have hl : rkS s a < sNb s := ahn_lt h1
  refine ⟨qI_y ⟨nI_nn (by omega), nI_lt hk (by omega)⟩, by rw [e]; exact h1, ?_⟩
  rw [e]
  show rkS s a = k
  exact (nI_eq (by omega) (by omega)).mp h2
theorem rk_ahead {s : ASt} {k : Nat} (h8 : sNb s ≤ 8) (hk : k + 1 < sNb s) : ahd (ldS s) (sHm s) (rnkd s (nI k)) (rnkd s (nI (k + 1))) := by
  obtain ⟨-, a1, a2⟩ := rk_ok h8 (show k < sNb s by omega)
  obtain ⟨-, b1, b2⟩ := rk_ok h8 hk
  have hne : rnkd s (nI k) ≠ rnkd s (nI (k + 1)) := by
    intro z
    rw [z, b2] at a2
    omega
  rcases ahd_tot (ld := ldS s) (hm := sHm s) hne with q | q
  · exact q
  · have := (ahn_mono q (sNb s)).2 b1
    omega
theorem dgt0 {p q : Nat} (hp : p < 2 ^ 30) (hq : q < 2 ^ 30) : 0 < nI p - nI q ↔ q < p := dg0 hp hq
theorem mean_c : ∀ a, a < 49 → ∀ n, n < 9 → 1 ≤ n → Op.cmpValue (FP.dcmp (FP.ddiv (FP.i2d (nI a)) (FP.i2d (nI n))) (FP.ddiv (FP.i2d (nI a)) (FP.i2d (nI n)))) .l = 0 := by
  intro a _ n hn h1
  have hne : nI n ≠ 0 := fun e => by
    have := (nI_eq (b := 0) (by omega) (by decide)).mp e
    omega
  have hz : ¬ FP.Core.DZero (FP.Core.i2d (nI n)) := fun z => FP.Core.i2d_ne_zero hne ((FP.Core.zero_bits2 _).mp z)
  have h2 : FP.Core.dcmp (FP.Core.ddiv (FP.Core.i2d (nI a)) (FP.Core.i2d (nI n))) (FP.Core.ddiv (FP.Core.i2d (nI a)) (FP.Core.i2d (nI n))) = some .eq := FP.Core.dcmp_self ((FP.Core.notNaN_iff _).mp (FP.Core.ddiv_out (FP.Core.DFin.notNaN (FP.Core.i2d_fin (nI a))) (FP.Core.i2d_fin (nI n)) hz))
  rw [FP.dcmp_core, FP.ddiv_core, FP.i2d_core, h2]
  all_goals rfl
theorem rbsh_c : ∀ a, a < 7 → ∀ n, n < 7 → 1 ≤ n → Op.cmpValue (FP.fcmp (FP.fdiv (FP.i2f (nI a)) (FP.i2f (nI n))) (FP.fdiv (FP.i2f (nI a)) (FP.i2f (nI n)))) .l = 0 := by
  intro a _ n hn h1
  have hne : nI n ≠ 0 := fun e => by
    have := (nI_eq (b := 0) (by omega) (by decide)).mp e
    omega
  have hz : ¬ FP.Core.FZero (FP.Core.i2f (nI n)) := fun z => FP.Core.i2f_ne_zero hne ((FP.Core.zero_bits232 _).mp z)
  have h2 : FP.Core.fcmp (FP.Core.fdiv (FP.Core.i2f (nI a)) (FP.Core.i2f (nI n))) (FP.Core.fdiv (FP.Core.i2f (nI a)) (FP.Core.i2f (nI n))) = some .eq := FP.Core.fcmp_self ((FP.Core.notNaN_iff32 _).mp (FP.Core.fdiv_out (FP.Core.FFin.notNaN (FP.Core.i2f_fin (nI a))) (FP.Core.i2f_fin (nI n)) hz))
  rw [FP.fcmp_core, FP.fdiv_core, FP.i2f_core, h2]
  all_goals rfl
theorem mean_e {s : ASt} {B : Nat} (hI : InvA B s) (h1 : 1 ≤ sNb s) : Op.cmpValue (FP.dcmp (mean s) (FP.ddiv (FP.i2d (nI (als (ldS s) (sNb s)))) (FP.i2d (nI (sNb s))))) .l = 0 := by
  have h8 := hI.1
  have := als_le48 s hI.2.1 (sNb s)
  exact mean_c _ (show als (ldS s) (sNb s) < 49 by show als (fun z => ldn (sSh s) z (sNs s)) (sNb s) < 49; omega) _ (by omega) h1
theorem rbsh_e {s : ASt} {B : Nat} (hI : InvA B s) (h1 : 1 ≤ sNs s) : Op.cmpValue (FP.fcmp (rbsh s) (FP.fdiv (FP.i2f (nI (rbt (sSh s) (sTn s) (sNs s)))) (FP.i2f (nI (sNs s))))) .l = 0 := by
  have h6 := hI.2.1
  have := rbt_le (sSh s) (sTn s) (sNs s)
  exact rbsh_c _ (by omega) _ (by omega) h1
theorem ldq_y {sh : Nat → Nat → Int32} {b k : Nat} (h : ¬ sh k b = -1) : ldn sh b k + 1 = ldn sh b (k + 1) := by rw [ldn, if_neg h]
theorem ldq_n {sh : Nat → Nat → Int32} {b k : Nat} (h : sh k b = -1) : ldn sh b k + 0 = ldn sh b (k + 1) := by rw [ldn, if_pos h]
theorem sp_lt {a b : Nat} (ha : a < 2 ^ 30) (hb : b < 2 ^ 30) : nI a - nI b < 0 ↔ a < b := by
  rw [Int32.lt_iff_toInt_lt, pk_sub_toInt ha hb, Int32.toInt_zero]
  omega
theorem rbt_y {s : ASt} {k : Nat} (ht : sTn s k ≤ 4) (h : ¬ nI (hc (sSh s k) 8) - nI (sTn s k) < 0) : rbt (sSh s) (sTn s) k + 1 = rbt (sSh s) (sTn s) (k + 1) := by
  have := hc_le8 (sSh s k)
  rw [sp_lt (by omega) (by omega)] at h
  rw [rbt, if_pos (by omega)]
theorem rbt_n {s : ASt} {k : Nat} (ht : sTn s k ≤ 4) (h : nI (hc (sSh s k) 8) - nI (sTn s k) < 0) : rbt (sSh s) (sTn s) k + 0 = rbt (sSh s) (sTn s) (k + 1) := by
  have := hc_le8 (sSh s k)
  rw [sp_lt (by omega) (by omega)] at h
  rw [rbt, if_neg (by omega)]
theorem h_sub {x y : Nat} (hx : x < 4) (hy : y < 4) (h : nI x < nI y) : 0 < nI y - nI x := (dg0 (by omega) (by omega)).mpr ((nI_ltI (by omega) (by omega)).mp h)
/-- of two birds whose ranks follow each other the first stands ahead -/
theorem rk_ord {s : ASt} {B k : Nat} (hI : InvA B s) (hk : k + 1 < sNb s) : 0 < nI (ldn (sSh s) (rnkd s (nI k)) (sNs s)) - nI (ldn (sSh s) (rnkd s (nI (k + 1))) (sNs s)) ∨ (nI (ldn (sSh s) (rnkd s (nI k)) (sNs s)) - nI (ldn (sSh s) (rnkd s (nI (k + 1))) (sNs s)) = 0 ∧ (0 < sHm s (rnkd s (nI (k + 1))) - sHm s (rnkd s (nI k)) ∨ (sHm s (rnkd s (nI (k + 1))) - sHm s (rnkd s (nI k)) = 0 ∧ rnkd s (nI k) < rnkd s (nI (k + 1))))) := by
  have h8 := hI.1
  have h6 := hI.2.1
  obtain ⟨-, a1, -⟩ := rk_ok h8 (show k < sNb s by omega)
  obtain ⟨-, b1, -⟩ := rk_ok h8 hk
  have l1 := ldn_le (sSh s) (rnkd s (nI k)) (sNs s)
  have l2 := ldn_le (sSh s) (rnkd s (nI (k + 1))) (sNs s)
  have q1 := hN_ok hI a1
  have q2 := hN_ok hI b1
  rcases rk_ahead h8 hk with q | ⟨q, r⟩
  · exact Or.inl ((dg0 (by omega) (by omega)).mpr q)
  · refine Or.inr ⟨(de0 (by omega) (by omega)).mpr q, ?_⟩
    rw [q1.1, q2.1] at r ⊢
    rcases r with r | ⟨r, r2⟩
    · exact Or.inl (h_sub q1.2 q2.2 r)
    · exact Or.inr ⟨(de0 (by omega) (by omega)).mpr ((nI_eq (by omega) (by omega)).mp r).symm, r2⟩
theorem nu_no {s : ASt} {B : Nat} (hI : InvA B s) (hB : B < 10000) {k : Nat} (h1 : 1 ≤ k) (hk : k < sNs s) (h : sNu s k ≤ sNu s (k - 1)) : False := by
  have := nu_inc hI hB h1 hk
  rw [Int32.lt_iff_toInt_lt] at this
  rw [Int32.le_iff_toInt_le] at h
  omega
