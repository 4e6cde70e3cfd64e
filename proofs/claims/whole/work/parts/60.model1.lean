/-! the document's model: its plain parts (printed by gen/s60.py) -/
/-- the model's row of numbers says the state -/
def Rel (σ : Nat → Int32) (s : ASt) : Prop := σ 0 = nI (sNb s) ∧ σ 1 = nI (sNs s) ∧ σ 2 = sLa s ∧ σ 3 = (sLo s).toInt32 ∧ (∀ b, b < sNb s → σ (4 + b) = sHm s b) ∧ ∀ k, k < sNs s → σ (12 + 10 * k) = sNu s k ∧ σ (13 + 10 * k) = nI (sTn s k) ∧ ∀ b, b < 8 → σ (14 + 10 * k + b) = sSh s k b
def alw (x1 x2 x3 x4 : Int32) : Nat := if x1 = 0 then 1 else if x2 = 0 then 2 else if x3 = 0 then 3 else if x4 = 0 then 4 else 0
theorem alw_le (x1 x2 x3 x4 : Int32) : alw x1 x2 x3 x4 ≤ 4 := by
  unfold alw
  repeat' split
  all_goals omega
theorem oI_y {f : Nat → Int32} {x : Int32} {n k : Nat} (h : fd f x n = some k) : oI (fd f x n) = nI k := by rw [h]; rfl
/-- a number stands but once -/
theorem fd_one {B : Nat} {s : ASt} (hI : InvA B s) (hB : B < 2 ^ 30) {x : Int32} {k : Nat} (hk : k < sNs s) (h : sNu s k = x) : fd (sNu s) x k = none := by
  obtain ⟨L, m, hL, -, hnu, hmm⟩ := hI.2.2.2.2.1
  cases hf : fd (sNu s) x k with
  | none => rfl
  | some j =>
    obtain ⟨hj, hx, -⟩ := fd_some hf
    have h1 := hnu k hk
    have h2 := hnu j (Nat.lt_trans hj hk)
    have h3 := hmm j k hj hk
    have h4 : nI (m j) = nI (m k) := by rw [← h1.1, ← h2.1, h, hx]
    have h5 := (nI_eq (by omega) (by omega)).mp h4
    omega
theorem fd_s1 {f : Nat → Int32} {x : Int32} {k : Nat} (h : fd f x k = none) (h2 : f k = x) : nI k = oI (fd f x (k + 1)) := by rw [fd_hit h h2 (Nat.lt_succ_self k)]; rfl
theorem fd_s0 {f : Nat → Int32} {x : Int32} {k : Nat} (h2 : ¬ f k = x) : oI (fd f x k) = oI (fd f x (k + 1)) := by
  cases hf : fd f x k with
  | none => rw [fd_next hf h2]
  | some j => rw [fd_up hf 1]
theorem bird_iff {nb : Nat} {x : Int32} (h : nb ≤ 8) : (¬ x < 0 ∧ ¬ nI nb - 1 < x) ↔ ¬ x < 0 ∧ x < nI nb := by
  have hb := nI_toInt (n := nb) (by omega)
  have e : (nI nb - 1).toInt = (nb : Int) - 1 := pk_sub_toInt (a := nb) (b := 1) (by omega) (by decide)
  rw [Int32.lt_iff_toInt_lt, Int32.lt_iff_toInt_lt, Int32.lt_iff_toInt_lt, e, hb]
  omega
theorem if_iff {p q : Prop} [Decidable p] [Decidable q] (h : p ↔ q) (a b : Int32) : (if p then a else b) = if q then a else b := by
  by_cases hp : p
  · rw [if_pos hp, if_pos (h.mp hp)]
  · rw [if_neg hp, if_neg (fun z => hp (h.mpr z))]
theorem lt_iff3 (x : Int32) : (¬ x < 0 ∧ ¬ 3 < x) ↔ ¬ x < 0 ∧ x < 4 := by
  rw [Int32.lt_iff_toInt_lt, Int32.lt_iff_toInt_lt, Int32.lt_iff_toInt_lt, show (3 : Int32).toInt = 3 by decide, show (4 : Int32).toInt = 4 by decide]
  omega
theorem lt_iff96 (x : Int32) : (¬ x < 0 ∧ ¬ 96 < x) ↔ isR x := by
  show _ ↔ ¬ x < 0 ∧ x < 97
  rw [Int32.lt_iff_toInt_lt, Int32.lt_iff_toInt_lt, Int32.lt_iff_toInt_lt, show (96 : Int32).toInt = 96 by decide, show (97 : Int32).toInt = 97 by decide]
  omega
set_option maxHeartbeats 4000000 in
set_option maxRecDepth 100000 in
theorem m_isIn (l : Launch) (G : Gx) (x y z : Int32) : Ct l G SF0 yX13_isIn wsX13_isIn ({ frames := 0, cells := 0, slots := 0, locals := 0 }) [.int x, .int y, .int z] [] mkI (fun (r : Int32) (_ : Unit) => r = if ¬ x < y ∧ ¬ z < x then 1 else 0) (fun _ : Unit => []) 0 0 := by
  refine Ct.ofI (cc := cX13_isIn) (maxL := 3) (by decide) rfl ⟨by simp [Value.category], Nat.le_of_ble_eq_true rfl⟩ ?_
  intro K hl hC hSF hnm hE
  subst hl
  show V G K 3 0 0 0 [some (.int x), some (.int y), some (.int z)] [] []
  refine V.iload_n hC (x := x) dX13_isIn_0 rfl ?_
  refine V.iload_n hC (x := y) dX13_isIn_1 rfl ?_
  refine V.icmp_lt hC 14 dX13_isIn_2 rfl (fun c_2 => ?_) (fun c_2 => ?_)
  · refine V.iconst hC 0 dX13_isIn_14 rfl ?_
    exact hE 15 _ 0 () dX13_isIn_15 rfl ((if_neg (fun q => q.1 c_2)).symm)
  · refine V.iload_n hC (x := x) dX13_isIn_5 rfl ?_
    refine V.iload_n hC (x := z) dX13_isIn_6 rfl ?_
    refine V.icmp_gt hC 14 dX13_isIn_7 rfl (fun c_7 => ?_) (fun c_7 => ?_)
    · refine V.iconst hC 0 dX13_isIn_14 rfl ?_
      exact hE 15 _ 0 () dX13_isIn_15 rfl ((if_neg (fun q => q.2 c_7)).symm)
    · refine V.iconst hC 1 dX13_isIn_10 rfl ?_
      refine V.goto hC 15 dX13_isIn_11 rfl ?_
      exact hE 15 _ 1 () dX13_isIn_15 rfl ((if_pos ⟨c_2, c_7⟩).symm)

set_option maxHeartbeats 4000000 in
set_option maxRecDepth 100000 in
theorem m_allows (l : Launch) (G : Gx) (m nw bf sv hy tx li nmb : Nat) (iS rmb eA fA tyd ldd thr siz spt wrg tld : Int32) (x1 x2 x3 x4 : Int32) : Ct l G SF0 yX13_allows wsX13_allows ({ frames := 0, cells := 0, slots := 0, locals := 0 }) [.ref m, .int x1, .int x2, .int x3, .int x4] [(m, .inr (13, [.ref nw, .ref bf, .ref sv, .ref hy, .int iS, .int rmb, .int eA, .int fA, .ref tx, .int tyd, .ref li, .int ldd, .int thr, .int siz, .int spt, .int wrg, .int tld, .ref nmb]))] mkI (fun (r : Int32) (_ : Unit) => r = if alw x1 x2 x3 x4 = 0 then 1 else 0) (fun _ : Unit => [(m, .inr (13, [.ref nw, .ref bf, .ref sv, .ref hy, .int iS, .int rmb, .int eA, .int fA, .ref tx, .int tyd, .ref li, .int ldd, .int (nI (alw x1 x2 x3 x4)), .int siz, .int spt, .int wrg, .int tld, .ref nmb]))]) 0 0 := by
  refine Ct.ofI (cc := cX13_allows) (maxL := 5) (by decide) rfl ⟨by simp [Value.category], Nat.le_of_ble_eq_true rfl⟩ ?_
  intro K hl hC hSF hnm hE
  subst hl
  have q0_ : ∀ w ∈ u_ws RX13 TX13 18, w ∈ wsX13_allows := by decide +kernel
  have q1_ : Cond.fieldLink RX13 38 "FeatherSharesModel" "thrown" "I" ∈ wsX13_allows := by decide +kernel
  show V G K 5 0 0 0 [some (.ref m), some (.int x1), some (.int x2), some (.int x3), some (.int x4)] [] [(m, .inr (13, [.ref nw, .ref bf, .ref sv, .ref hy, .int iS, .int rmb, .int eA, .int fA, .ref tx, .int tyd, .ref li, .int ldd, .int thr, .int siz, .int spt, .int wrg, .int tld, .ref nmb]))]
  refine V.aload_n hC (x := m) dX13_allows_0 rfl ?_
  refine V.iload_n hC (x := x1) dX13_allows_1 rfl ?_
  refine V.if_ne hC 9 dX13_allows_2 rfl (fun c_2 => ?_) (fun c_2 => ?_)
  · refine V.iload_n hC (x := x2) dX13_allows_9 rfl ?_
    refine V.if_ne hC 17 dX13_allows_10 rfl (fun c_10 => ?_) (fun c_10 => ?_)
    · refine V.iload_n hC (x := x3) dX13_allows_17 rfl ?_
      refine V.if_ne hC 25 dX13_allows_18 rfl (fun c_18 => ?_) (fun c_18 => ?_)
      · refine V.iload hC (x := x4) dX13_allows_25 rfl ?_
        refine V.if_ne hC 34 dX13_allows_27 rfl (fun c_27 => ?_) (fun c_27 => ?_)
        · refine V.iconst hC 0 dX13_allows_34 rfl ?_
          refine V.topeq (nI (alw x1 x2 x3 x4)) (congrArg nI (show 0 = alw x1 x2 x3 x4 by rw [alw, if_neg c_2, if_neg c_10, if_neg c_18, if_neg c_27])) ?_
          refine V.putf hC (T := TX13) q0_ tyX13 tyX13_ok nmX13 12 q1_ rfl rfl (0) rfl rfl (by decide) (by simp) rfl rfl dX13_allows_35 [(m, .inr (13, [.ref nw, .ref bf, .ref sv, .ref hy, .int iS, .int rmb, .int eA, .int fA, .ref tx, .int tyd, .ref li, .int ldd, .int (nI (alw x1 x2 x3 x4)), .int siz, .int spt, .int wrg, .int tld, .ref nmb]))] rfl ?_
          refine V.aload_n hC (x := m) dX13_allows_38 rfl ?_
          refine V.getf hC (T := TX13) q0_ 12 q1_ rfl (0) rfl rfl (by decide) (.int (nI (alw x1 x2 x3 x4))) rfl dX13_allows_39 ?_
          refine V.if_ne hC 49 dX13_allows_42 rfl (fun c_42 => ?_) (fun c_42 => ?_)
          · refine V.iconst hC 0 dX13_allows_49 rfl ?_
            exact hE 50 _ 0 () dX13_allows_50 rfl ((if_neg (fun q => c_42 (by rw [q]; rfl))).symm)
          · refine V.iconst hC 1 dX13_allows_45 rfl ?_
            refine V.goto hC 50 dX13_allows_46 rfl ?_
            exact hE 50 _ 1 () dX13_allows_50 rfl ((if_pos ((nI_eq (by have := alw_le x1 x2 x3 x4; omega) (by decide)).mp c_42)).symm)
        · refine V.iconst hC 4 dX13_allows_30 rfl ?_
          refine V.goto hC 35 dX13_allows_31 rfl ?_
          refine V.topeq (nI (alw x1 x2 x3 x4)) (congrArg nI (show 4 = alw x1 x2 x3 x4 by rw [alw, if_neg c_2, if_neg c_10, if_neg c_18, if_pos c_27])) ?_
          refine V.putf hC (T := TX13) q0_ tyX13 tyX13_ok nmX13 12 q1_ rfl rfl (0) rfl rfl (by decide) (by simp) rfl rfl dX13_allows_35 [(m, .inr (13, [.ref nw, .ref bf, .ref sv, .ref hy, .int iS, .int rmb, .int eA, .int fA, .ref tx, .int tyd, .ref li, .int ldd, .int (nI (alw x1 x2 x3 x4)), .int siz, .int spt, .int wrg, .int tld, .ref nmb]))] rfl ?_
          refine V.aload_n hC (x := m) dX13_allows_38 rfl ?_
          refine V.getf hC (T := TX13) q0_ 12 q1_ rfl (0) rfl rfl (by decide) (.int (nI (alw x1 x2 x3 x4))) rfl dX13_allows_39 ?_
          refine V.if_ne hC 49 dX13_allows_42 rfl (fun c_42 => ?_) (fun c_42 => ?_)
          · refine V.iconst hC 0 dX13_allows_49 rfl ?_
            exact hE 50 _ 0 () dX13_allows_50 rfl ((if_neg (fun q => c_42 (by rw [q]; rfl))).symm)
          · refine V.iconst hC 1 dX13_allows_45 rfl ?_
            refine V.goto hC 50 dX13_allows_46 rfl ?_
            exact hE 50 _ 1 () dX13_allows_50 rfl ((if_pos ((nI_eq (by have := alw_le x1 x2 x3 x4; omega) (by decide)).mp c_42)).symm)
      · refine V.iconst hC 3 dX13_allows_21 rfl ?_
        refine V.goto hC 35 dX13_allows_22 rfl ?_
        refine V.topeq (nI (alw x1 x2 x3 x4)) (congrArg nI (show 3 = alw x1 x2 x3 x4 by rw [alw, if_neg c_2, if_neg c_10, if_pos c_18])) ?_
        refine V.putf hC (T := TX13) q0_ tyX13 tyX13_ok nmX13 12 q1_ rfl rfl (0) rfl rfl (by decide) (by simp) rfl rfl dX13_allows_35 [(m, .inr (13, [.ref nw, .ref bf, .ref sv, .ref hy, .int iS, .int rmb, .int eA, .int fA, .ref tx, .int tyd, .ref li, .int ldd, .int (nI (alw x1 x2 x3 x4)), .int siz, .int spt, .int wrg, .int tld, .ref nmb]))] rfl ?_
        refine V.aload_n hC (x := m) dX13_allows_38 rfl ?_
        refine V.getf hC (T := TX13) q0_ 12 q1_ rfl (0) rfl rfl (by decide) (.int (nI (alw x1 x2 x3 x4))) rfl dX13_allows_39 ?_
        refine V.if_ne hC 49 dX13_allows_42 rfl (fun c_42 => ?_) (fun c_42 => ?_)
        · refine V.iconst hC 0 dX13_allows_49 rfl ?_
          exact hE 50 _ 0 () dX13_allows_50 rfl ((if_neg (fun q => c_42 (by rw [q]; rfl))).symm)
        · refine V.iconst hC 1 dX13_allows_45 rfl ?_
          refine V.goto hC 50 dX13_allows_46 rfl ?_
          exact hE 50 _ 1 () dX13_allows_50 rfl ((if_pos ((nI_eq (by have := alw_le x1 x2 x3 x4; omega) (by decide)).mp c_42)).symm)
    · refine V.iconst hC 2 dX13_allows_13 rfl ?_
      refine V.goto hC 35 dX13_allows_14 rfl ?_
      refine V.topeq (nI (alw x1 x2 x3 x4)) (congrArg nI (show 2 = alw x1 x2 x3 x4 by rw [alw, if_neg c_2, if_pos c_10])) ?_
      refine V.putf hC (T := TX13) q0_ tyX13 tyX13_ok nmX13 12 q1_ rfl rfl (0) rfl rfl (by decide) (by simp) rfl rfl dX13_allows_35 [(m, .inr (13, [.ref nw, .ref bf, .ref sv, .ref hy, .int iS, .int rmb, .int eA, .int fA, .ref tx, .int tyd, .ref li, .int ldd, .int (nI (alw x1 x2 x3 x4)), .int siz, .int spt, .int wrg, .int tld, .ref nmb]))] rfl ?_
      refine V.aload_n hC (x := m) dX13_allows_38 rfl ?_
      refine V.getf hC (T := TX13) q0_ 12 q1_ rfl (0) rfl rfl (by decide) (.int (nI (alw x1 x2 x3 x4))) rfl dX13_allows_39 ?_
      refine V.if_ne hC 49 dX13_allows_42 rfl (fun c_42 => ?_) (fun c_42 => ?_)
      · refine V.iconst hC 0 dX13_allows_49 rfl ?_
        exact hE 50 _ 0 () dX13_allows_50 rfl ((if_neg (fun q => c_42 (by rw [q]; rfl))).symm)
      · refine V.iconst hC 1 dX13_allows_45 rfl ?_
        refine V.goto hC 50 dX13_allows_46 rfl ?_
        exact hE 50 _ 1 () dX13_allows_50 rfl ((if_pos ((nI_eq (by have := alw_le x1 x2 x3 x4; omega) (by decide)).mp c_42)).symm)
  · refine V.iconst hC 1 dX13_allows_5 rfl ?_
    refine V.goto hC 35 dX13_allows_6 rfl ?_
    refine V.topeq (nI (alw x1 x2 x3 x4)) (congrArg nI (show 1 = alw x1 x2 x3 x4 by rw [alw, if_pos c_2])) ?_
    refine V.putf hC (T := TX13) q0_ tyX13 tyX13_ok nmX13 12 q1_ rfl rfl (0) rfl rfl (by decide) (by simp) rfl rfl dX13_allows_35 [(m, .inr (13, [.ref nw, .ref bf, .ref sv, .ref hy, .int iS, .int rmb, .int eA, .int fA, .ref tx, .int tyd, .ref li, .int ldd, .int (nI (alw x1 x2 x3 x4)), .int siz, .int spt, .int wrg, .int tld, .ref nmb]))] rfl ?_
    refine V.aload_n hC (x := m) dX13_allows_38 rfl ?_
    refine V.getf hC (T := TX13) q0_ 12 q1_ rfl (0) rfl rfl (by decide) (.int (nI (alw x1 x2 x3 x4))) rfl dX13_allows_39 ?_
    refine V.if_ne hC 49 dX13_allows_42 rfl (fun c_42 => ?_) (fun c_42 => ?_)
    · refine V.iconst hC 0 dX13_allows_49 rfl ?_
      exact hE 50 _ 0 () dX13_allows_50 rfl ((if_neg (fun q => c_42 (by rw [q]; rfl))).symm)
    · refine V.iconst hC 1 dX13_allows_45 rfl ?_
      refine V.goto hC 50 dX13_allows_46 rfl ?_
      exact hE 50 _ 1 () dX13_allows_50 rfl ((if_pos ((nI_eq (by have := alw_le x1 x2 x3 x4; omega) (by decide)).mp c_42)).symm)

set_option maxHeartbeats 4000000 in
set_option maxRecDepth 100000 in
theorem m_goes (l : Launch) (G : Gx) (m nw bf sv hy tx li nmb : Nat) (iS rmb eA fA tyd ldd thr siz spt wrg tld : Int32) (x1 : Int32) : Ct l G SF0 yX13_goes wsX13_goes ({ frames := 1, cells := 0, slots := 0, locals := 24 }) [.ref m, .int x1] [(m, .inr (13, [.ref nw, .ref bf, .ref sv, .ref hy, .int iS, .int rmb, .int eA, .int fA, .ref tx, .int tyd, .ref li, .int ldd, .int thr, .int siz, .int spt, .int wrg, .int tld, .ref nmb]))] mkI (fun (r : Int32) (_ : Unit) => r = if alw x1 1 1 1 = 0 then 1 else 0) (fun _ : Unit => [(m, .inr (13, [.ref nw, .ref bf, .ref sv, .ref hy, .int iS, .int rmb, .int eA, .int fA, .ref tx, .int tyd, .ref li, .int ldd, .int (nI (alw x1 1 1 1)), .int siz, .int spt, .int wrg, .int tld, .ref nmb]))]) 0 0 := by
  refine Ct.ofI (cc := cX13_goes) (maxL := 2) (by decide) rfl ⟨by simp [Value.category], Nat.le_of_ble_eq_true rfl⟩ ?_
  intro K hl hC hSF hnm hE
  subst hl
  show V G K 2 0 0 0 [some (.ref m), some (.int x1)] [] [(m, .inr (13, [.ref nw, .ref bf, .ref sv, .ref hy, .int iS, .int rmb, .int eA, .int fA, .ref tx, .int tyd, .ref li, .int ldd, .int thr, .int siz, .int spt, .int wrg, .int tld, .ref nmb]))]
  refine V.aload_n hC (x := m) dX13_goes_0 rfl ?_
  refine V.iload_n hC (x := x1) dX13_goes_1 rfl ?_
  refine V.iconst hC 1 dX13_goes_2 rfl ?_
  refine V.iconst hC 1 dX13_goes_3 rfl ?_
  refine V.iconst hC 1 dX13_goes_4 rfl ?_
  refine V.callV (n := 4) (As := [.int x1, .int 1, .int 1, .int 1]) (rest := []) hC (m_allows (kl K) G m nw bf sv hy tx li nmb iS rmb eA fA tyd ldd thr siz spt wrg tld x1 1 1 1) SFk0 SFgo0 gX13_goes_X13_allows rfl ⟨rfl, rfl⟩ (by decide +kernel) ⟨by decide, by decide, by decide, by decide⟩ [0] rfl (by decide) (fun _ => rfl) rfl rfl rfl rfl (Nat.le_of_ble_eq_true rfl) dX13_goes_5 (fun r_5 u_5 hp_5 => ?_)
  subst hp_5
  show V G K 2 0 0 8 [some (.ref m), some (.int x1)] [.int (if alw x1 1 1 1 = 0 then 1 else 0)] [(m, .inr (13, [.ref nw, .ref bf, .ref sv, .ref hy, .int iS, .int rmb, .int eA, .int fA, .ref tx, .int tyd, .ref li, .int ldd, .int (nI (alw x1 1 1 1)), .int siz, .int spt, .int wrg, .int tld, .ref nmb]))]
  exact hE 8 _ (if alw x1 1 1 1 = 0 then 1 else 0) () dX13_goes_8 (by split <;> rfl) rfl

set_option maxHeartbeats 4000000 in
set_option maxRecDepth 100000 in
theorem m_isNest (l : Launch) (G : Gx) (x : Int32) : Ct l G SF0 yX13_isNest wsX13_isNest ({ frames := 1, cells := 0, slots := 0, locals := 22 }) [.int x] [] mkI (fun (r : Int32) (_ : Unit) => r = if ¬ x < 0 ∧ x < 4 then 1 else 0) (fun _ : Unit => []) 0 0 := by
  refine Ct.ofI (cc := cX13_isNest) (maxL := 1) (by decide) rfl ⟨by simp [Value.category], Nat.le_of_ble_eq_true rfl⟩ ?_
  intro K hl hC hSF hnm hE
  subst hl
  show V G K 1 0 0 0 [some (.int x)] [] []
  refine V.iload_n hC (x := x) dX13_isNest_0 rfl ?_
  refine V.iconst hC 0 dX13_isNest_1 rfl ?_
  refine V.iconst hC 3 dX13_isNest_2 rfl ?_
  refine V.callSr (n := 3) (As := [.int x, .int 0, .int 3]) (rest := []) hC (m_isIn (kl K) G x 0 3) SFk0 SFgo0 gX13_isNest_X13_isIn rfl ⟨rfl, rfl⟩ (by decide +kernel) ⟨by decide, by decide, by decide, by decide⟩ [] rfl (by decide) rfl rfl (Nat.le_of_ble_eq_true rfl) dX13_isNest_3 (fun r_3 u_3 hp_3 => ?_)
  subst hp_3
  show V G K 1 0 0 6 [some (.int x)] [.int (if ¬ x < 0 ∧ ¬ 3 < x then 1 else 0)] []
  exact hE 6 _ (if ¬ x < 0 ∧ ¬ 3 < x then 1 else 0) () dX13_isNest_6 (by split <;> rfl) (if_iff (lt_iff3 x) 1 0)

set_option maxHeartbeats 4000000 in
set_option maxRecDepth 100000 in
theorem m_isNumber (l : Launch) (G : Gx) (x : Int32) : Ct l G SF0 yX13_isNumber wsX13_isNumber ({ frames := 1, cells := 0, slots := 0, locals := 22 }) [.int x] [] mkI (fun (r : Int32) (_ : Unit) => r = if isR x then 1 else 0) (fun _ : Unit => []) 0 0 := by
  refine Ct.ofI (cc := cX13_isNumber) (maxL := 1) (by decide) rfl ⟨by simp [Value.category], Nat.le_of_ble_eq_true rfl⟩ ?_
  intro K hl hC hSF hnm hE
  subst hl
  show V G K 1 0 0 0 [some (.int x)] [] []
  refine V.iload_n hC (x := x) dX13_isNumber_0 rfl ?_
  refine V.iconst hC 0 dX13_isNumber_1 rfl ?_
  refine V.bipush hC 96 dX13_isNumber_2 rfl ?_
  refine V.callSr (n := 3) (As := [.int x, .int 0, .int 96]) (rest := []) hC (m_isIn (kl K) G x 0 96) SFk0 SFgo0 gX13_isNumber_X13_isIn rfl ⟨rfl, rfl⟩ (by decide +kernel) ⟨by decide, by decide, by decide, by decide⟩ [] rfl (by decide) rfl rfl (Nat.le_of_ble_eq_true rfl) dX13_isNumber_4 (fun r_4 u_4 hp_4 => ?_)
  subst hp_4
  show V G K 1 0 0 7 [some (.int x)] [.int (if ¬ x < 0 ∧ ¬ 96 < x then 1 else 0)] []
  exact hE 7 _ (if ¬ x < 0 ∧ ¬ 96 < x then 1 else 0) () dX13_isNumber_7 (by split <;> rfl) (if_iff (lt_iff96 x) 1 0)

set_option maxHeartbeats 4000000 in
set_option maxRecDepth 100000 in
theorem m_isBird (l : Launch) (G : Gx) (m nw bf sv hy tx li nmb : Nat) (iS rmb eA fA tyd ldd thr siz spt wrg tld : Int32) (σ : Nat → Int32) (s : ASt) (B : Nat) (hR : Rel σ s) (hI : InvA B s) (hB : B < 2 ^ 30) (x : Int32) : Ct l G SF0 yX13_isBird wsX13_isBird ({ frames := 1, cells := 0, slots := 0, locals := 22 }) [.ref m, .int x] [(m, .inr (13, [.ref nw, .ref bf, .ref sv, .ref hy, .int iS, .int rmb, .int eA, .int fA, .ref tx, .int tyd, .ref li, .int ldd, .int thr, .int siz, .int spt, .int wrg, .int tld, .ref nmb])), (nw, .inl (gI G, 72, .inl σ))] mkI (fun (r : Int32) (_ : Unit) => r = if ¬ x < 0 ∧ x < nI (sNb s) then 1 else 0) (fun _ : Unit => [(m, .inr (13, [.ref nw, .ref bf, .ref sv, .ref hy, .int iS, .int rmb, .int eA, .int fA, .ref tx, .int tyd, .ref li, .int ldd, .int thr, .int siz, .int spt, .int wrg, .int tld, .ref nmb])), (nw, .inl (gI G, 72, .inl σ))]) 0 0 := by
  have hb8 := hI.1
  have hs6 := hI.2.1
  refine Ct.ofI (cc := cX13_isBird) (maxL := 2) (by decide) rfl ⟨by simp [Value.category], Nat.le_of_ble_eq_true rfl⟩ ?_
  intro K hl hC hSF hnm hE
  subst hl
  have q0_ : ∀ w ∈ u_ws RX13 TX13 18, w ∈ wsX13_isBird := by decide +kernel
  have q1_ : Cond.fieldLink RX13 9 "FeatherSharesModel" "now" "[I" ∈ wsX13_isBird := by decide +kernel
  show V G K 2 0 0 0 [some (.ref m), some (.int x)] [] [(m, .inr (13, [.ref nw, .ref bf, .ref sv, .ref hy, .int iS, .int rmb, .int eA, .int fA, .ref tx, .int tyd, .ref li, .int ldd, .int thr, .int siz, .int spt, .int wrg, .int tld, .ref nmb])), (nw, .inl (gI G, 72, .inl σ))]
  refine V.iload_n hC (x := x) dX13_isBird_0 rfl ?_
  refine V.iconst hC 0 dX13_isBird_1 rfl ?_
  refine V.aload_n hC (x := m) dX13_isBird_2 rfl ?_
  refine V.getf hC (T := TX13) q0_ 0 q1_ rfl (0) rfl rfl (by decide) (.ref nw) rfl dX13_isBird_3 ?_
  refine V.iconst hC 0 dX13_isBird_6 rfl ?_
  refine V.iald hC dX13_isBird_7 (1) rfl 0 rfl (by omega) (by decide) ?_
  refine V.iconst hC 1 dX13_isBird_8 rfl ?_
  refine V.isub hC dX13_isBird_9 ?_
  refine V.callSr (n := 3) (As := [.int x, .int 0, .int ((σ 0) - 1)]) (rest := []) hC (m_isIn (kl K) G x 0 (σ 0 - 1)) SFk0 SFgo0 gX13_isBird_X13_isIn rfl ⟨rfl, rfl⟩ (by decide +kernel) ⟨by decide, by decide, by decide, by decide⟩ [] rfl (by decide) rfl rfl (Nat.le_of_ble_eq_true rfl) dX13_isBird_10 (fun r_10 u_10 hp_10 => ?_)
  subst hp_10
  show V G K 2 0 0 13 [some (.ref m), some (.int x)] [.int (if ¬ x < 0 ∧ ¬ σ 0 - 1 < x then 1 else 0)] [(m, .inr (13, [.ref nw, .ref bf, .ref sv, .ref hy, .int iS, .int rmb, .int eA, .int fA, .ref tx, .int tyd, .ref li, .int ldd, .int thr, .int siz, .int spt, .int wrg, .int tld, .ref nmb])), (nw, .inl (gI G, 72, .inl σ))]
  exact hE 13 _ (if ¬ x < 0 ∧ ¬ σ 0 - 1 < x then 1 else 0) () dX13_isBird_13 (by split <;> rfl) (by rw [hR.1]; exact if_iff (bird_iff hb8) 1 0)

set_option maxHeartbeats 4000000 in
set_option maxRecDepth 100000 in
theorem m_of (l : Launch) (G : Gx) (m nw bf sv hy tx li nmb : Nat) (iS rmb eA fA tyd ldd thr siz spt wrg tld : Int32) (σ : Nat → Int32) (k : Nat) (hk : k < 6) (i : Nat) (hi : i < 10) : Ct l G SF0 yX13_of wsX13_of ({ frames := 1, cells := 0, slots := 0, locals := 16 }) [.ref m, .int (nI k), .int (nI i)] [(m, .inr (13, [.ref nw, .ref bf, .ref sv, .ref hy, .int iS, .int rmb, .int eA, .int fA, .ref tx, .int tyd, .ref li, .int ldd, .int thr, .int siz, .int spt, .int wrg, .int tld, .ref nmb])), (nw, .inl (gI G, 72, .inl σ))] mkI (fun (r : Int32) (_ : Unit) => r = σ (12 + 10 * k + i)) (fun _ : Unit => [(m, .inr (13, [.ref nw, .ref bf, .ref sv, .ref hy, .int iS, .int rmb, .int eA, .int fA, .ref tx, .int tyd, .ref li, .int ldd, .int thr, .int siz, .int spt, .int wrg, .int tld, .ref nmb])), (nw, .inl (gI G, 72, .inl σ))]) 0 0 := by
  refine Ct.ofI (cc := cX13_of) (maxL := 3) (by decide) rfl ⟨by simp [Value.category], Nat.le_of_ble_eq_true rfl⟩ ?_
  intro K hl hC hSF hnm hE
  subst hl
  have q0_ : ∀ w ∈ u_ws RX13 TX13 18, w ∈ wsX13_of := by decide +kernel
  have q1_ : Cond.fieldLink RX13 9 "FeatherSharesModel" "now" "[I" ∈ wsX13_of := by decide +kernel
  have q2_ : Cond.methodLink RX13 71 Lib.Math.max.name ∈ wsX13_of := by decide +kernel
  have q3_ : Cond.static Lib.Math.max.name ∈ wsX13_of := by decide +kernel
  have q4_ : Cond.initialized "java/lang/Math" ∈ wsX13_of := by decide +kernel
  have q5_ : Cond.code Lib.Math.max.name Lib.Math.max.code 2 (some .int) ∈ wsX13_of := by decide +kernel
  show V G K 3 0 0 0 [some (.ref m), some (.int (nI k)), some (.int (nI i))] [] [(m, .inr (13, [.ref nw, .ref bf, .ref sv, .ref hy, .int iS, .int rmb, .int eA, .int fA, .ref tx, .int tyd, .ref li, .int ldd, .int thr, .int siz, .int spt, .int wrg, .int tld, .ref nmb])), (nw, .inl (gI G, 72, .inl σ))]
  refine V.aload_n hC (x := m) dX13_of_0 rfl ?_
  refine V.getf hC (T := TX13) q0_ 0 q1_ rfl (0) rfl rfl (by decide) (.ref nw) rfl dX13_of_1 ?_
  refine V.bipush hC 12 dX13_of_4 rfl ?_
  refine V.bipush hC 10 dX13_of_6 rfl ?_
  refine V.iconst hC 0 dX13_of_8 rfl ?_
  refine V.iload_n hC (x := nI k) dX13_of_9 rfl ?_
  refine V.mmax hC q2_ q3_ q4_ q5_ ⟨Nat.le_of_ble_eq_true rfl, Nat.le_of_ble_eq_true rfl, Nat.le_of_ble_eq_true rfl, Nat.le_of_ble_eq_true rfl⟩ dX13_of_10 ?_
  refine V.topeq (nI k) (by have := nI_max (a := 0) (b := k) (by decide) (by omega); rw [Nat.max_eq_right (Nat.zero_le k)] at this; exact this) ?_
  refine V.imulN hC 10 k dX13_of_13 rfl rfl ?_
  refine V.iaddN hC 12 (10 * k) dX13_of_14 rfl rfl ?_
  refine V.iload_n hC (x := nI i) dX13_of_15 rfl ?_
  refine V.iaddN hC (12 + (10 * k)) i dX13_of_16 rfl rfl ?_
  refine V.iald hC dX13_of_17 (1) rfl ((12 + (10 * k)) + i) rfl (by omega) (by decide) ?_
  exact hE 18 _ (σ ((12 + (10 * k)) + i)) () dX13_of_18 rfl rfl
