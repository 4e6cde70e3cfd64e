/-! the law's own methods: the script, changes, questions (printed by gen/s67p.py) -/
theorem ushr8 (r : Int32) : ∃ w, w < 2 ^ 24 ∧ (r.toUInt32 >>> ((8 : Int32).toUInt32 &&& Int32.toUInt32 31)).toInt32 = nI w := by
  refine ⟨(r.toUInt32 >>> 8).toNat, ?_, ?_⟩
  · have h : (r.toUInt32 >>> 8).toNat = r.toUInt32.toNat >>> 8 := by
      rw [UInt32.toNat_shiftRight]
      all_goals rfl
    rw [h, Nat.shiftRight_eq_div_pow]
    have := r.toUInt32.toNat_lt
    omega
  · have e : ((8 : Int32).toUInt32 &&& Int32.toUInt32 31) = 8 := by decide
    rw [e]
    apply Int32.toBitVec_inj.mp
    show (r.toUInt32 >>> 8).toBitVec = BitVec.ofNat 32 (r.toUInt32 >>> 8).toBitVec.toNat
    rw [BitVec.ofNat_toNat, BitVec.setWidth_eq]
theorem FOk.step {B : Nat} {s : ASt} {D : DX} (h : FOk B s D) {w : Nat} (hw : w < 8) {x y z : Int32} (h0 : pwX w s x y z = 0) {rr ra : Nat → Nat} {u : Scr} (hu : Sok u) : FOk (B + 1) (cX w s x y z) (dC D s rr ra u) := by
  obtain ⟨h1, h2, h3, h4, h5⟩ := h
  exact ⟨h1.step hw h0, Nat.min_le_right _ _, Nat.mod_lt _ (by decide), hu, h5⟩
theorem XE_pos {L : List String} {q : Nat × Int32} {E : String} (h : XE L q E) : ¬ q.1 = 0 := by
  obtain ⟨j, -, hq, -⟩ := h
  rw [hq]
  exact Nat.succ_ne_zero j
theorem XE_no {L : List String} {q : Nat × Int32} {E : String} (h : XE L q E) {v : Int32} (e : q = (0, v)) : False := XE_pos h (by rw [e])
/-- a secret's number is its own alone -/
theorem fd_own {B : Nat} {s : ASt} (hI : InvA B s) (hB : B < 10000) {k : Nat} (hk : k < sNs s) : fd (sNu s) (sNu s k) (sNs s) = some k := by
  cases hf : fd (sNu s) (sNu s k) (sNs s) with
  | none => exact absurd rfl (fd_none hf k hk)
  | some j =>
    obtain ⟨hj, hx, -⟩ := fd_some hf
    obtain ⟨L, m, hL, -, hnu, hmm⟩ := hI.2.2.2.2.1
    have h1 := hnu j hj
    have h2 := hnu k hk
    rw [h1.1, h2.1] at hx
    have e := (nI_eq (by omega) (by omega)).mp hx
    rcases Nat.lt_trichotomy j k with q | q | q
    · have := hmm j k q hk
      omega
    · rw [q]
    · have := hmm k j q hj
      omega
theorem fd_no0 {B : Nat} {s : ASt} (hI : InvA B s) (hB : B < 10000) : fd (sNu s) 0 (sNs s) = none := by
  cases hf : fd (sNu s) 0 (sNs s) with
  | none => rfl
  | some j =>
    obtain ⟨hj, hx, -⟩ := fd_some hf
    obtain ⟨L, m, hL, -, hnu, -⟩ := hI.2.2.2.2.1
    have h1 := hnu j hj
    rw [h1.1, show (0 : Int32) = nI 0 from rfl] at hx
    have e := (nI_eq (by omega) (by omega)).mp hx
    omega
theorem qSecAt_ok {s : ASt} {k : Nat} (h6 : sNs s ≤ 6) (hk : k < sNs s) : qSecAt s (nI k) = (0, sNu s k) := by
  rw [qSecAt, qI_y ⟨nI_nn (by omega), nI_lt hk (by omega)⟩, nI_clamp (by omega)]
theorem qNest_ok {s : ASt} {b : Nat} (h8 : sNb s ≤ 8) (hb : b < sNb s) : qNestOf s (nI b) = (0, sHm s b) := qB_y h8 hb rfl
theorem qThr_ok {s : ASt} {x : Int32} {k : Nat} (h : fd (sNu s) x (sNs s) = some k) : qThr s x = (0, nI (sTn s k)) := qS_y h
/-- what is asked, by its number -/
def qA (w : Nat) (s : ASt) (a b : Int32) : Nat × Int32 := match w with
  | 0 => qNestOf s a
  | 1 => qBirdsIn s a
  | 2 => qRank s a
  | 3 => qSecAt s a
  | 4 => qShare s a b
  | 5 => qHolders s a
  | 6 => ((qCan s a b).1, if (qCan s a b).2 = 0 then 0 else 1)
  | 7 => qReb s a
  | 8 => qReb s a
  | 9 => qUnf s a
  | 10 => qLeast s a
  | 11 => qPoss s a b
  | 12 => qPoss s a b
  | _ => qInv a
def exA (w : Nat) : List String := match w with
  | 0 => ["java/lang/IndexOutOfBoundsException"]
  | 1 => ["java/lang/IllegalArgumentException"]
  | 2 => ["java/util/NoSuchElementException"]
  | 3 => ["java/lang/IndexOutOfBoundsException"]
  | 4 => ["java/lang/IndexOutOfBoundsException", "java/util/NoSuchElementException", "java/lang/IllegalStateException"]
  | 5 => ["java/util/NoSuchElementException"]
  | 6 => ["java/lang/IllegalArgumentException", "java/util/NoSuchElementException"]
  | 7 => ["java/util/NoSuchElementException", "java/lang/IllegalStateException"]
  | 8 => ["java/util/NoSuchElementException", "java/lang/IllegalStateException"]
  | 9 => ["java/util/NoSuchElementException", "java/lang/IllegalStateException"]
  | 10 => ["java/util/NoSuchElementException", "java/lang/IllegalStateException"]
  | 11 => ["java/util/NoSuchElementException", "java/lang/IllegalArgumentException"]
  | 12 => ["java/util/NoSuchElementException", "java/lang/IllegalArgumentException"]
  | _ => ["java/lang/IllegalArgumentException"]
def cod (E : String) : Int32 := if E = "java/lang/IndexOutOfBoundsException" then -2002 else if E = "java/lang/IllegalArgumentException" then -2003 else if E = "java/lang/IllegalStateException" then -2005 else -2004
/-- what ask answers -/
def askV (L : List String) (q : Nat × Int32) : Int32 := if q.1 = 0 then q.2 else cod (L.getD (q.1 - 1) "")
theorem askV_0 {L : List String} {q : Nat × Int32} {v : Int32} (h : q = (0, v)) : askV L q = v := by rw [h]; all_goals rfl
theorem askV_x {L : List String} {q : Nat × Int32} {E : String} (h : XE L q E) : askV L q = cod E := by
  obtain ⟨j, -, hq, hE⟩ := h
  rw [hq, hE]
  all_goals rfl
theorem exA_mem : ∀ w, w < 14 → ∀ j, j < (exA w).length → (exA w).getD j "" = "java/lang/IndexOutOfBoundsException" ∨ (exA w).getD j "" = "java/lang/IllegalArgumentException" ∨ (exA w).getD j "" = "java/lang/IllegalStateException" ∨ (exA w).getD j "" = "java/util/NoSuchElementException" := by decide
theorem XE_mem {w : Nat} (hw : w < 14) {q : Nat × Int32} {E : String} (h : XE (exA w) q E) : E = "java/lang/IndexOutOfBoundsException" ∨ E = "java/lang/IllegalArgumentException" ∨ E = "java/lang/IllegalStateException" ∨ E = "java/util/NoSuchElementException" := by
  obtain ⟨j, hj, -, hE⟩ := h
  rw [hE]
  exact exA_mem w hw j hj
theorem lt14 {w : Nat} (h : w < 14) : w = 0 ∨ w = 1 ∨ w = 2 ∨ w = 3 ∨ w = 4 ∨ w = 5 ∨ w = 6 ∨ w = 7 ∨ w = 8 ∨ w = 9 ∨ w = 10 ∨ w = 11 ∨ w = 12 ∨ w = 13 := by omega
theorem lt20 {w : Nat} (h : w < 20) : w = 0 ∨ w = 1 ∨ w = 2 ∨ w = 3 ∨ w = 4 ∨ w = 5 ∨ w = 6 ∨ w = 7 ∨ w = 8 ∨ w = 9 ∨ w = 10 ∨ w = 11 ∨ w = 12 ∨ w = 13 ∨ w = 14 ∨ w = 15 ∨ w = 16 ∨ w = 17 ∨ w = 18 ∨ w = 19 := by omega
/-- all that changes can change, in one number -/
def lk1 (s : ASt) : Nat → Int32
  | 0 => 31 * (31 * nI (sNb s) + nI (sNs s)) + (sLo s).toInt32
  | b + 1 => 31 * lk1 s b + sHm s b
def lk3 (s : ASt) (k : Nat) (x : Int32) : Nat → Int32
  | 0 => x
  | b + 1 => 31 * lk3 s k x b + askV (exA 4) (qA 4 s (nI b) (sNu s k))
def lk2 (s : ASt) : Nat → Int32
  | 0 => lk1 s (sNb s)
  | k + 1 => lk3 s k (31 * (31 * lk2 s k + sNu s k) + nI (sTn s k)) (sNb s)
theorem max1 {n : Nat} (h : n ≤ 8) : (if (1 : Int32) < nI n then nI n else 1) = nI (max 1 n) := by
  have : ∀ k, k < 9 → (if (1 : Int32) < nI k then nI k else 1) = nI (max 1 k) := by decide
  exact this n (by omega)
set_option maxHeartbeats 4000000 in
set_option maxRecDepth 100000 in
theorem l_cell (l : Launch) (G : Gx) (sc len : Nat) (xs : Nat → Int32) (hlen : len < 2 ^ 31) (a : Nat) (ha : a < 2 ^ 30) : Ct l G (SFs G sc len xs) yL_cell (wsL_cell ++ hx9) ({ frames := 0, cells := 0, slots := 0, locals := 0 }) [.ref sc, .int (nI a)] (flt []) mkI (fun (_ : Int32) (_ : Unit) => True) (fun _ : Unit => (flt [])) 0 0 := by
  refine Ct.ofI (cc := cL_cell) (maxL := 3) (by decide) rfl ⟨by simp [Value.category], Nat.le_of_ble_eq_true rfl⟩ ?_
  intro K hl hC hSF hnm hE
  subst hl
  have hgos := SFgoS (SFs.k G sc len xs) hSF
  have hgot := SFgo.s hgos
  have hgo := SFgo.x hgot
  have hSFs := hSF
  replace hSF := hSF.1
  have hSFt := hSF
  replace hSF := hSF.1
  have q0_ : Cond.constant RL 7 (69069) ∈ (wsL_cell ++ hx9) := by decide +kernel
  have q1_ : Cond.constant RL 8 (1103515245) ∈ (wsL_cell ++ hx9) := by decide +kernel
  show V G K 3 0 0 0 [some (.ref sc), some (.int (nI a)), none] [] (flt [])
  refine V.ldc hC 69069 dL_cell_0 q0_ ?_
  refine V.iload_n hC (x := nI a) dL_cell_2 rfl ?_
  refine V.aload_n hC (x := sc) dL_cell_3 rfl ?_
  refine V.slen hC hSFs.2.1 hSFs.2.2.1 hSFs.2.2.2 dL_cell_4 ?_
  refine V.icmpN_ge hC a len 14 dL_cell_5 rfl rfl rfl (by omega) (by omega) (fun c_5 => ?_) (fun c_5 => ?_)
  · refine V.iconst hC 0 dL_cell_14 rfl ?_
    refine V.sipush hC 1009 dL_cell_15 rfl ?_
    refine V.iload_n hC (x := nI a) dL_cell_18 rfl ?_
    refine V.imulN hC 1009 a dL_cell_19 rfl rfl ?_
    refine V.iaddN hC 0 (1009 * a) dL_cell_20 rfl rfl ?_
    refine V.imulN hC 69069 (0 + (1009 * a)) dL_cell_21 rfl rfl ?_
    refine V.sipush hC 12345 dL_cell_22 rfl ?_
    refine V.iaddN hC (69069 * (0 + (1009 * a))) 12345 dL_cell_25 rfl rfl ?_
    refine V.istore_n hC dL_cell_26 [some (.ref sc), some (.int (nI a)), some (.int (nI ((69069 * (0 + (1009 * a))) + 12345)))] (Nat.le_of_ble_eq_true rfl) rfl ?_
    refine V.iload_n hC (x := nI ((69069 * (0 + (1009 * a))) + 12345)) dL_cell_27 rfl ?_
    refine V.iload_n hC (x := nI ((69069 * (0 + (1009 * a))) + 12345)) dL_cell_28 rfl ?_
    refine V.bipush hC 13 dL_cell_29 rfl ?_
    refine V.iushr hC dL_cell_31 ?_
    refine V.ixor hC dL_cell_32 ?_
    refine V.ldc hC 1103515245 dL_cell_33 q1_ ?_
    refine V.imul hC dL_cell_35 ?_
    refine V.istore_n hC dL_cell_36 [some (.ref sc), some (.int (nI a)), some (.int (((nI ((69069 * (0 + (1009 * a))) + 12345)) ^^^ (((nI ((69069 * (0 + (1009 * a))) + 12345)).toUInt32 >>> ((13 : Int32).toUInt32 &&& Int32.toUInt32 31)).toInt32)) * 1103515245))] (Nat.le_of_ble_eq_true rfl) rfl ?_
    refine V.iload_n hC (x := ((nI ((69069 * (0 + (1009 * a))) + 12345)) ^^^ (((nI ((69069 * (0 + (1009 * a))) + 12345)).toUInt32 >>> ((13 : Int32).toUInt32 &&& Int32.toUInt32 31)).toInt32)) * 1103515245) dL_cell_37 rfl ?_
    refine V.iload_n hC (x := ((nI ((69069 * (0 + (1009 * a))) + 12345)) ^^^ (((nI ((69069 * (0 + (1009 * a))) + 12345)).toUInt32 >>> ((13 : Int32).toUInt32 &&& Int32.toUInt32 31)).toInt32)) * 1103515245) dL_cell_38 rfl ?_
    refine V.bipush hC 16 dL_cell_39 rfl ?_
    refine V.iushr hC dL_cell_41 ?_
    refine V.ixor hC dL_cell_42 ?_
    exact hE 43 _ ((((nI ((69069 * (0 + (1009 * a))) + 12345)) ^^^ (((nI ((69069 * (0 + (1009 * a))) + 12345)).toUInt32 >>> ((13 : Int32).toUInt32 &&& Int32.toUInt32 31)).toInt32)) * 1103515245) ^^^ (((((nI ((69069 * (0 + (1009 * a))) + 12345)) ^^^ (((nI ((69069 * (0 + (1009 * a))) + 12345)).toUInt32 >>> ((13 : Int32).toUInt32 &&& Int32.toUInt32 31)).toInt32)) * 1103515245).toUInt32 >>> ((16 : Int32).toUInt32 &&& Int32.toUInt32 31)).toInt32)) () dL_cell_43 rfl trivial
  · refine V.aload_n hC (x := sc) dL_cell_8 rfl ?_
    refine V.iload_n hC (x := nI a) dL_cell_9 rfl ?_
    refine V.sld hC hSFs.2.1 hSFs.2.2.1 hSFs.2.2.2 dL_cell_10 a rfl c_5 (by omega) ?_
    refine V.goto hC 15 dL_cell_11 rfl ?_
    refine V.sipush hC 1009 dL_cell_15 rfl ?_
    refine V.iload_n hC (x := nI a) dL_cell_18 rfl ?_
    refine V.imulN hC 1009 a dL_cell_19 rfl rfl ?_
    refine V.iadd hC dL_cell_20 ?_
    refine V.imul hC dL_cell_21 ?_
    refine V.sipush hC 12345 dL_cell_22 rfl ?_
    refine V.iadd hC dL_cell_25 ?_
    refine V.istore_n hC dL_cell_26 [some (.ref sc), some (.int (nI a)), some (.int ((69069 * ((xs a) + (nI (1009 * a)))) + 12345))] (Nat.le_of_ble_eq_true rfl) rfl ?_
    refine V.iload_n hC (x := (69069 * ((xs a) + (nI (1009 * a)))) + 12345) dL_cell_27 rfl ?_
    refine V.iload_n hC (x := (69069 * ((xs a) + (nI (1009 * a)))) + 12345) dL_cell_28 rfl ?_
    refine V.bipush hC 13 dL_cell_29 rfl ?_
    refine V.iushr hC dL_cell_31 ?_
    refine V.ixor hC dL_cell_32 ?_
    refine V.ldc hC 1103515245 dL_cell_33 q1_ ?_
    refine V.imul hC dL_cell_35 ?_
    refine V.istore_n hC dL_cell_36 [some (.ref sc), some (.int (nI a)), some (.int ((((69069 * ((xs a) + (nI (1009 * a)))) + 12345) ^^^ ((((69069 * ((xs a) + (nI (1009 * a)))) + 12345).toUInt32 >>> ((13 : Int32).toUInt32 &&& Int32.toUInt32 31)).toInt32)) * 1103515245))] (Nat.le_of_ble_eq_true rfl) rfl ?_
    refine V.iload_n hC (x := (((69069 * ((xs a) + (nI (1009 * a)))) + 12345) ^^^ ((((69069 * ((xs a) + (nI (1009 * a)))) + 12345).toUInt32 >>> ((13 : Int32).toUInt32 &&& Int32.toUInt32 31)).toInt32)) * 1103515245) dL_cell_37 rfl ?_
    refine V.iload_n hC (x := (((69069 * ((xs a) + (nI (1009 * a)))) + 12345) ^^^ ((((69069 * ((xs a) + (nI (1009 * a)))) + 12345).toUInt32 >>> ((13 : Int32).toUInt32 &&& Int32.toUInt32 31)).toInt32)) * 1103515245) dL_cell_38 rfl ?_
    refine V.bipush hC 16 dL_cell_39 rfl ?_
    refine V.iushr hC dL_cell_41 ?_
    refine V.ixor hC dL_cell_42 ?_
    exact hE 43 _ (((((69069 * ((xs a) + (nI (1009 * a)))) + 12345) ^^^ ((((69069 * ((xs a) + (nI (1009 * a)))) + 12345).toUInt32 >>> ((13 : Int32).toUInt32 &&& Int32.toUInt32 31)).toInt32)) * 1103515245) ^^^ ((((((69069 * ((xs a) + (nI (1009 * a)))) + 12345) ^^^ ((((69069 * ((xs a) + (nI (1009 * a)))) + 12345).toUInt32 >>> ((13 : Int32).toUInt32 &&& Int32.toUInt32 31)).toInt32)) * 1103515245).toUInt32 >>> ((16 : Int32).toUInt32 &&& Int32.toUInt32 31)).toInt32)) () dL_cell_43 rfl trivial

set_option maxHeartbeats 4000000 in
set_option maxRecDepth 100000 in
theorem l_pick (l : Launch) (G : Gx) (sc len : Nat) (xs : Nat → Int32) (hlen : len < 2 ^ 31) (a : Nat) (ha : a < 2 ^ 30) (m : Nat) (hm1 : 1 ≤ m) (hm : m < 2 ^ 30) : Ct l G (SFs G sc len xs) yL_pick (wsL_pick ++ hx9) ({ frames := 1, cells := 0, slots := 0, locals := 22 }) [.ref sc, .int (nI a), .int (nI m)] (flt []) mkI (fun (r : Int32) (_ : Unit) => ∃ n, n < m ∧ r = nI n) (fun _ : Unit => (flt [])) 0 0 := by
  refine Ct.ofI (cc := cL_pick) (maxL := 3) (by decide) rfl ⟨by simp [Value.category], Nat.le_of_ble_eq_true rfl⟩ ?_
  intro K hl hC hSF hnm hE
  subst hl
  have hgos := SFgoS (SFs.k G sc len xs) hSF
  have hgot := SFgo.s hgos
  have hgo := SFgo.x hgot
  have hSFs := hSF
  replace hSF := hSF.1
  have hSFt := hSF
  replace hSF := hSF.1
  show V G K 3 0 0 0 [some (.ref sc), some (.int (nI a)), some (.int (nI m))] [] (flt [])
  refine V.aload_n hC (x := sc) dL_pick_0 rfl ?_
  refine V.iload_n hC (x := nI a) dL_pick_1 rfl ?_
  refine V.callSBN (n := 2) (As := [.ref sc, .int (nI a)]) (rest := []) hC (l_cell (kl K) G sc len xs hlen a ha) (SFs.k G sc len xs) hgos (gx2 gL_pick_L_cell) rfl ⟨rfl, rfl⟩ (by decide +kernel) ⟨by decide, by decide, by decide, by decide⟩ (L := []) (N := 0) rfl [] [] (by decide) rfl (fun _ : Unit => []) (fun _ => rfl) rfl rfl (Nat.le_of_ble_eq_true rfl) dL_pick_2 (fun r_2 u_2 hp_2 => ?_)
  show V G K 3 0 0 5 [some (.ref sc), some (.int (nI a)), some (.int (nI m))] [.int r_2] (flt [])
  refine V.bipush hC 8 dL_pick_5 rfl ?_
  refine V.iushr hC dL_pick_7 ?_
  obtain ⟨w_, hw_, ew_⟩ := ushr8 r_2
  refine V.topeq (nI w_) ew_ ?_
  refine V.iload_n hC (x := nI m) dL_pick_8 rfl ?_
  refine V.iremN hC w_ m dL_pick_9 rfl rfl (by omega) (by omega) (by omega) ?_
  exact hE 10 _ (nI (w_ % m)) () dL_pick_10 rfl ⟨w_ % m, Nat.mod_lt _ hm1, rfl⟩

set_option maxHeartbeats 4000000 in
set_option maxRecDepth 100000 in
theorem l_plain0 (l : Launch) (G : Gx) (hst : l.stackTraces = false) (F : FX) (s : ASt) (D : DX) (B : Nat) (hok : FOk B s D) (x y z : Int32) : CtX l G (SFt G) yL_plain (wsL_plain ++ hx9) ({ frames := 9, cells := 1, slots := 6, locals := 166 }) [.ref (F.1 0), .int (nI 0), .int x, .int y, .int z] (flt [FW G F s D]) mkI (fun (r : Int32) (u : (Nat → Nat) × (Nat → Nat) × Scr) => pwX 0 s x 0 0 = 0 ∧ r = rX 0 s x 0 0 ∧ Sok u.2.2) (fun u : (Nat → Nat) × (Nat → Nat) × Scr => flt [FW G F (cX 0 s x 0 0) (dC D s u.1 u.2.1 u.2.2)]) (fun (E : String) (_ : Unit) => ¬ pwX 0 s x 0 0 = 0 ∧ E = exE (pwX 0 s x 0 0)) (fun _ : Unit => (flt [FW G F s D])) 1 6 := by
  refine CtX.ofI (cc := cL_plain) (maxL := 5) (by decide) rfl ⟨by simp [Value.category], Nat.le_of_ble_eq_true rfl⟩ ?_
  intro K hl hC hSF hnm hQ hE
  subst hl
  have hgot := SFgoS (SFt.k G) hSF
  have hgo := SFgo.x hgot
  have hSFt := hSF
  replace hSF := hSF.1
  show V G K 5 0 0 0 [some (.ref (F.1 0)), some (.int (nI 0)), some (.int x), some (.int y), some (.int z)] [] (flt [FW G F s D])
  refine V.iload_n hC (x := nI 0) dL_plain_0 rfl ?_
  refine V.tableIn hC (x := nI 0) (off := 47) 48 dL_plain_1 (by decide) (by decide) (by decide) rfl ?_
  refine V.aload_n hC (x := (F.1 0)) dL_plain_48 rfl ?_
  refine V.iload_n hC (x := x) dL_plain_49 rfl ?_
  refine V.callVBXN (n := 1) (As := [.int x]) (rest := []) hC (f_addBird (kl K) G hst F s D B hok x) (SFt.k G) hgot (gx1 gL_plain_X12_addBird) rfl ⟨rfl, rfl⟩ (by decide +kernel) ⟨by decide, by decide, by decide, by decide⟩ (L := [FW G F s D]) (N := 1) rfl [0] [] (by decide) (List.append_nil (FW G F s D)) (fun u_50 : (Nat → Nat) × (Nat → Nat) × Scr => [FW G F (cX 0 s x 0 0) (dC D s u_50.1 u_50.2.1 u_50.2.2)]) (fun u_50 => List.append_nil (FW G F (cX 0 s x 0 0) (dC D s u_50.1 u_50.2.1 u_50.2.2))) (fun _ : Unit => [FW G F s D]) (fun _ => List.append_nil (FW G F s D)) rfl rfl rfl rfl (Nat.le_of_ble_eq_true rfl) dL_plain_50 (fun E_ u_ hx_ => VX.out hC hQ () hx_ rfl (Nat.le_of_ble_eq_true rfl) (Nat.le_of_ble_eq_true rfl)) (fun r_50 u_50 hp_50 => ?_)
  show V G K 5 1 6 53 [some (.ref (F.1 0)), some (.int (nI 0)), some (.int x), some (.int y), some (.int z)] [.int r_50] (flt [FW G F (cX 0 s x 0 0) (dC D s u_50.1 u_50.2.1 u_50.2.2)])
  exact hE 53 _ r_50 u_50 dL_plain_53 rfl hp_50

set_option maxHeartbeats 4000000 in
set_option maxRecDepth 100000 in
theorem l_plain1 (l : Launch) (G : Gx) (hst : l.stackTraces = false) (F : FX) (s : ASt) (D : DX) (B : Nat) (hok : FOk B s D) (x y z : Int32) : CtX l G (SFt G) yL_plain (wsL_plain ++ hx9) ({ frames := 9, cells := 1, slots := 6, locals := 166 }) [.ref (F.1 0), .int (nI 1), .int x, .int y, .int z] (flt [FW G F s D]) mkI (fun (r : Int32) (u : (Nat → Nat) × (Nat → Nat) × Scr) => pwX 1 s x y 0 = 0 ∧ r = rX 1 s x y 0 ∧ Sok u.2.2) (fun u : (Nat → Nat) × (Nat → Nat) × Scr => flt [FW G F (cX 1 s x y 0) (dC D s u.1 u.2.1 u.2.2)]) (fun (E : String) (_ : Unit) => ¬ pwX 1 s x y 0 = 0 ∧ E = exE (pwX 1 s x y 0)) (fun _ : Unit => (flt [FW G F s D])) 1 6 := by
  refine CtX.ofI (cc := cL_plain) (maxL := 5) (by decide) rfl ⟨by simp [Value.category], Nat.le_of_ble_eq_true rfl⟩ ?_
  intro K hl hC hSF hnm hQ hE
  subst hl
  have hgot := SFgoS (SFt.k G) hSF
  have hgo := SFgo.x hgot
  have hSFt := hSF
  replace hSF := hSF.1
  show V G K 5 0 0 0 [some (.ref (F.1 0)), some (.int (nI 1)), some (.int x), some (.int y), some (.int z)] [] (flt [FW G F s D])
  refine V.iload_n hC (x := nI 1) dL_plain_0 rfl ?_
  refine V.tableIn hC (x := nI 1) (off := 53) 54 dL_plain_1 (by decide) (by decide) (by decide) rfl ?_
  refine V.aload_n hC (x := (F.1 0)) dL_plain_54 rfl ?_
  refine V.iload_n hC (x := x) dL_plain_55 rfl ?_
  refine V.iload_n hC (x := y) dL_plain_56 rfl ?_
  refine V.callVBXN (n := 2) (As := [.int x, .int y]) (rest := []) hC (f_move (kl K) G hst F s D B hok x y) (SFt.k G) hgot (gx1 gL_plain_X12_move) rfl ⟨rfl, rfl⟩ (by decide +kernel) ⟨by decide, by decide, by decide, by decide⟩ (L := [FW G F s D]) (N := 1) rfl [0] [] (by decide) (List.append_nil (FW G F s D)) (fun u_57 : (Nat → Nat) × (Nat → Nat) × Scr => [FW G F (cX 1 s x y 0) (dC D s u_57.1 u_57.2.1 u_57.2.2)]) (fun u_57 => List.append_nil (FW G F (cX 1 s x y 0) (dC D s u_57.1 u_57.2.1 u_57.2.2))) (fun _ : Unit => [FW G F s D]) (fun _ => List.append_nil (FW G F s D)) rfl rfl rfl rfl (Nat.le_of_ble_eq_true rfl) dL_plain_57 (fun E_ u_ hx_ => VX.out hC hQ () hx_ rfl (Nat.le_of_ble_eq_true rfl) (Nat.le_of_ble_eq_true rfl)) (fun r_57 u_57 hp_57 => ?_)
  show V G K 5 1 6 60 [some (.ref (F.1 0)), some (.int (nI 1)), some (.int x), some (.int y), some (.int z)] [.int r_57] (flt [FW G F (cX 1 s x y 0) (dC D s u_57.1 u_57.2.1 u_57.2.2)])
  exact hE 60 _ r_57 u_57 dL_plain_60 rfl hp_57

set_option maxHeartbeats 4000000 in
set_option maxRecDepth 100000 in
theorem l_plain2 (l : Launch) (G : Gx) (hst : l.stackTraces = false) (F : FX) (s : ASt) (D : DX) (B : Nat) (hok : FOk B s D) (x y z : Int32) : CtX l G (SFt G) yL_plain (wsL_plain ++ hx9) ({ frames := 9, cells := 1, slots := 6, locals := 166 }) [.ref (F.1 0), .int (nI 2), .int x, .int y, .int z] (flt [FW G F s D]) mkI (fun (r : Int32) (u : (Nat → Nat) × (Nat → Nat) × Scr) => pwX 2 s x y z = 0 ∧ r = rX 2 s x y z ∧ Sok u.2.2) (fun u : (Nat → Nat) × (Nat → Nat) × Scr => flt [FW G F (cX 2 s x y z) (dC D s u.1 u.2.1 u.2.2)]) (fun (E : String) (_ : Unit) => ¬ pwX 2 s x y z = 0 ∧ E = exE (pwX 2 s x y z)) (fun _ : Unit => (flt [FW G F s D])) 1 6 := by
  refine CtX.ofI (cc := cL_plain) (maxL := 5) (by decide) rfl ⟨by simp [Value.category], Nat.le_of_ble_eq_true rfl⟩ ?_
  intro K hl hC hSF hnm hQ hE
  subst hl
  have hgot := SFgoS (SFt.k G) hSF
  have hgo := SFgo.x hgot
  have hSFt := hSF
  replace hSF := hSF.1
  show V G K 5 0 0 0 [some (.ref (F.1 0)), some (.int (nI 2)), some (.int x), some (.int y), some (.int z)] [] (flt [FW G F s D])
  refine V.iload_n hC (x := nI 2) dL_plain_0 rfl ?_
  refine V.tableIn hC (x := nI 2) (off := 60) 61 dL_plain_1 (by decide) (by decide) (by decide) rfl ?_
  refine V.aload_n hC (x := (F.1 0)) dL_plain_61 rfl ?_
  refine V.iload_n hC (x := x) dL_plain_62 rfl ?_
  refine V.iload_n hC (x := y) dL_plain_63 rfl ?_
  refine V.iload hC (x := z) dL_plain_64 rfl ?_
  refine V.callVBXN (n := 3) (As := [.int x, .int y, .int z]) (rest := []) hC (f_split (kl K) G hst F s D B hok x y z) (SFt.k G) hgot (gx1 gL_plain_X12_split) rfl ⟨rfl, rfl⟩ (by decide +kernel) ⟨by decide, by decide, by decide, by decide⟩ (L := [FW G F s D]) (N := 1) rfl [0] [] (by decide) (List.append_nil (FW G F s D)) (fun u_66 : (Nat → Nat) × (Nat → Nat) × Scr => [FW G F (cX 2 s x y z) (dC D s u_66.1 u_66.2.1 u_66.2.2)]) (fun u_66 => List.append_nil (FW G F (cX 2 s x y z) (dC D s u_66.1 u_66.2.1 u_66.2.2))) (fun _ : Unit => [FW G F s D]) (fun _ => List.append_nil (FW G F s D)) rfl rfl rfl rfl (Nat.le_of_ble_eq_true rfl) dL_plain_66 (fun E_ u_ hx_ => VX.out hC hQ () hx_ rfl (Nat.le_of_ble_eq_true rfl) (Nat.le_of_ble_eq_true rfl)) (fun r_66 u_66 hp_66 => ?_)
  show V G K 5 1 6 69 [some (.ref (F.1 0)), some (.int (nI 2)), some (.int x), some (.int y), some (.int z)] [.int r_66] (flt [FW G F (cX 2 s x y z) (dC D s u_66.1 u_66.2.1 u_66.2.2)])
  exact hE 69 _ r_66 u_66 dL_plain_69 rfl hp_66

set_option maxHeartbeats 4000000 in
set_option maxRecDepth 100000 in
theorem l_plain3 (l : Launch) (G : Gx) (hst : l.stackTraces = false) (F : FX) (s : ASt) (D : DX) (B : Nat) (hok : FOk B s D) (x y z : Int32) : CtX l G (SFt G) yL_plain (wsL_plain ++ hx9) ({ frames := 9, cells := 1, slots := 6, locals := 166 }) [.ref (F.1 0), .int (nI 3), .int x, .int y, .int z] (flt [FW G F s D]) mkI (fun (r : Int32) (u : (Nat → Nat) × (Nat → Nat) × Scr) => pwX 3 s x y 0 = 0 ∧ r = rX 3 s x y 0 ∧ Sok u.2.2) (fun u : (Nat → Nat) × (Nat → Nat) × Scr => flt [FW G F (cX 3 s x y 0) (dC D s u.1 u.2.1 u.2.2)]) (fun (E : String) (_ : Unit) => ¬ pwX 3 s x y 0 = 0 ∧ E = exE (pwX 3 s x y 0)) (fun _ : Unit => (flt [FW G F s D])) 1 6 := by
  refine CtX.ofI (cc := cL_plain) (maxL := 5) (by decide) rfl ⟨by simp [Value.category], Nat.le_of_ble_eq_true rfl⟩ ?_
  intro K hl hC hSF hnm hQ hE
  subst hl
  have hgot := SFgoS (SFt.k G) hSF
  have hgo := SFgo.x hgot
  have hSFt := hSF
  replace hSF := hSF.1
  show V G K 5 0 0 0 [some (.ref (F.1 0)), some (.int (nI 3)), some (.int x), some (.int y), some (.int z)] [] (flt [FW G F s D])
  refine V.iload_n hC (x := nI 3) dL_plain_0 rfl ?_
  refine V.tableIn hC (x := nI 3) (off := 69) 70 dL_plain_1 (by decide) (by decide) (by decide) rfl ?_
  refine V.aload_n hC (x := (F.1 0)) dL_plain_70 rfl ?_
  refine V.iload_n hC (x := x) dL_plain_71 rfl ?_
  refine V.iload_n hC (x := y) dL_plain_72 rfl ?_
  refine V.callVBXN (n := 2) (As := [.int x, .int y]) (rest := []) hC (f_lose (kl K) G hst F s D B hok x y) (SFt.k G) hgot (gx1 gL_plain_X12_lose) rfl ⟨rfl, rfl⟩ (by decide +kernel) ⟨by decide, by decide, by decide, by decide⟩ (L := [FW G F s D]) (N := 1) rfl [0] [] (by decide) (List.append_nil (FW G F s D)) (fun u_73 : (Nat → Nat) × (Nat → Nat) × Scr => [FW G F (cX 3 s x y 0) (dC D s u_73.1 u_73.2.1 u_73.2.2)]) (fun u_73 => List.append_nil (FW G F (cX 3 s x y 0) (dC D s u_73.1 u_73.2.1 u_73.2.2))) (fun _ : Unit => [FW G F s D]) (fun _ => List.append_nil (FW G F s D)) rfl rfl rfl rfl (Nat.le_of_ble_eq_true rfl) dL_plain_73 (fun E_ u_ hx_ => VX.out hC hQ () hx_ rfl (Nat.le_of_ble_eq_true rfl) (Nat.le_of_ble_eq_true rfl)) (fun r_73 u_73 hp_73 => ?_)
  show V G K 5 1 6 76 [some (.ref (F.1 0)), some (.int (nI 3)), some (.int x), some (.int y), some (.int z)] [.int r_73] (flt [FW G F (cX 3 s x y 0) (dC D s u_73.1 u_73.2.1 u_73.2.2)])
  exact hE 76 _ r_73 u_73 dL_plain_76 rfl hp_73

set_option maxHeartbeats 4000000 in
set_option maxRecDepth 100000 in
theorem l_plain4 (l : Launch) (G : Gx) (hst : l.stackTraces = false) (F : FX) (s : ASt) (D : DX) (B : Nat) (hok : FOk B s D) (x y z : Int32) : CtX l G (SFt G) yL_plain (wsL_plain ++ hx9) ({ frames := 9, cells := 1, slots := 6, locals := 166 }) [.ref (F.1 0), .int (nI 4), .int x, .int y, .int z] (flt [FW G F s D]) mkI (fun (r : Int32) (u : (Nat → Nat) × (Nat → Nat) × Scr) => pwX 4 s x y z = 0 ∧ r = rX 4 s x y z ∧ Sok u.2.2) (fun u : (Nat → Nat) × (Nat → Nat) × Scr => flt [FW G F (cX 4 s x y z) (dC D s u.1 u.2.1 u.2.2)]) (fun (E : String) (_ : Unit) => ¬ pwX 4 s x y z = 0 ∧ E = exE (pwX 4 s x y z)) (fun _ : Unit => (flt [FW G F s D])) 1 6 := by
  refine CtX.ofI (cc := cL_plain) (maxL := 5) (by decide) rfl ⟨by simp [Value.category], Nat.le_of_ble_eq_true rfl⟩ ?_
  intro K hl hC hSF hnm hQ hE
  subst hl
  have hgot := SFgoS (SFt.k G) hSF
  have hgo := SFgo.x hgot
  have hSFt := hSF
  replace hSF := hSF.1
  show V G K 5 0 0 0 [some (.ref (F.1 0)), some (.int (nI 4)), some (.int x), some (.int y), some (.int z)] [] (flt [FW G F s D])
  refine V.iload_n hC (x := nI 4) dL_plain_0 rfl ?_
  refine V.tableIn hC (x := nI 4) (off := 76) 77 dL_plain_1 (by decide) (by decide) (by decide) rfl ?_
  refine V.aload_n hC (x := (F.1 0)) dL_plain_77 rfl ?_
  refine V.iload_n hC (x := x) dL_plain_78 rfl ?_
  refine V.iload_n hC (x := y) dL_plain_79 rfl ?_
  refine V.iload hC (x := z) dL_plain_80 rfl ?_
  refine V.callVBXN (n := 3) (As := [.int x, .int y, .int z]) (rest := []) hC (f_spoil (kl K) G hst F s D B hok x y z) (SFt.k G) hgot (gx1 gL_plain_X12_spoil) rfl ⟨rfl, rfl⟩ (by decide +kernel) ⟨by decide, by decide, by decide, by decide⟩ (L := [FW G F s D]) (N := 1) rfl [0] [] (by decide) (List.append_nil (FW G F s D)) (fun u_82 : (Nat → Nat) × (Nat → Nat) × Scr => [FW G F (cX 4 s x y z) (dC D s u_82.1 u_82.2.1 u_82.2.2)]) (fun u_82 => List.append_nil (FW G F (cX 4 s x y z) (dC D s u_82.1 u_82.2.1 u_82.2.2))) (fun _ : Unit => [FW G F s D]) (fun _ => List.append_nil (FW G F s D)) rfl rfl rfl rfl (Nat.le_of_ble_eq_true rfl) dL_plain_82 (fun E_ u_ hx_ => VX.out hC hQ () hx_ rfl (Nat.le_of_ble_eq_true rfl) (Nat.le_of_ble_eq_true rfl)) (fun r_82 u_82 hp_82 => ?_)
  show V G K 5 1 6 85 [some (.ref (F.1 0)), some (.int (nI 4)), some (.int x), some (.int y), some (.int z)] [.int r_82] (flt [FW G F (cX 4 s x y z) (dC D s u_82.1 u_82.2.1 u_82.2.2)])
  exact hE 85 _ r_82 u_82 dL_plain_85 rfl hp_82

set_option maxHeartbeats 4000000 in
set_option maxRecDepth 100000 in
theorem l_plain5 (l : Launch) (G : Gx) (hst : l.stackTraces = false) (F : FX) (s : ASt) (D : DX) (B : Nat) (hok : FOk B s D) (x y z : Int32) : CtX l G (SFt G) yL_plain (wsL_plain ++ hx9) ({ frames := 9, cells := 1, slots := 6, locals := 166 }) [.ref (F.1 0), .int (nI 5), .int x, .int y, .int z] (flt [FW G F s D]) mkI (fun (r : Int32) (u : (Nat → Nat) × (Nat → Nat) × Scr) => pwX 5 s x y 0 = 0 ∧ r = rX 5 s x y 0 ∧ Sok u.2.2) (fun u : (Nat → Nat) × (Nat → Nat) × Scr => flt [FW G F (cX 5 s x y 0) (dC D s u.1 u.2.1 u.2.2)]) (fun (E : String) (_ : Unit) => ¬ pwX 5 s x y 0 = 0 ∧ E = exE (pwX 5 s x y 0)) (fun _ : Unit => (flt [FW G F s D])) 1 6 := by
  refine CtX.ofI (cc := cL_plain) (maxL := 5) (by decide) rfl ⟨by simp [Value.category], Nat.le_of_ble_eq_true rfl⟩ ?_
  intro K hl hC hSF hnm hQ hE
  subst hl
  have hgot := SFgoS (SFt.k G) hSF
  have hgo := SFgo.x hgot
  have hSFt := hSF
  replace hSF := hSF.1
  show V G K 5 0 0 0 [some (.ref (F.1 0)), some (.int (nI 5)), some (.int x), some (.int y), some (.int z)] [] (flt [FW G F s D])
  refine V.iload_n hC (x := nI 5) dL_plain_0 rfl ?_
  refine V.tableIn hC (x := nI 5) (off := 85) 86 dL_plain_1 (by decide) (by decide) (by decide) rfl ?_
  refine V.aload_n hC (x := (F.1 0)) dL_plain_86 rfl ?_
  refine V.iload_n hC (x := x) dL_plain_87 rfl ?_
  refine V.iload_n hC (x := y) dL_plain_88 rfl ?_
  refine V.callVBXN (n := 2) (As := [.int x, .int y]) (rest := []) hC (f_issue (kl K) G hst F s D B hok x y) (SFt.k G) hgot (gx1 gL_plain_X12_issue) rfl ⟨rfl, rfl⟩ (by decide +kernel) ⟨by decide, by decide, by decide, by decide⟩ (L := [FW G F s D]) (N := 1) rfl [0] [] (by decide) (List.append_nil (FW G F s D)) (fun u_89 : (Nat → Nat) × (Nat → Nat) × Scr => [FW G F (cX 5 s x y 0) (dC D s u_89.1 u_89.2.1 u_89.2.2)]) (fun u_89 => List.append_nil (FW G F (cX 5 s x y 0) (dC D s u_89.1 u_89.2.1 u_89.2.2))) (fun _ : Unit => [FW G F s D]) (fun _ => List.append_nil (FW G F s D)) rfl rfl rfl rfl (Nat.le_of_ble_eq_true rfl) dL_plain_89 (fun E_ u_ hx_ => VX.out hC hQ () hx_ rfl (Nat.le_of_ble_eq_true rfl) (Nat.le_of_ble_eq_true rfl)) (fun r_89 u_89 hp_89 => ?_)
  show V G K 5 1 6 92 [some (.ref (F.1 0)), some (.int (nI 5)), some (.int x), some (.int y), some (.int z)] [.int r_89] (flt [FW G F (cX 5 s x y 0) (dC D s u_89.1 u_89.2.1 u_89.2.2)])
  exact hE 92 _ r_89 u_89 dL_plain_92 rfl hp_89

set_option maxHeartbeats 4000000 in
set_option maxRecDepth 100000 in
theorem l_plain6 (l : Launch) (G : Gx) (hst : l.stackTraces = false) (F : FX) (s : ASt) (D : DX) (B : Nat) (hok : FOk B s D) (x y z : Int32) : CtX l G (SFt G) yL_plain (wsL_plain ++ hx9) ({ frames := 9, cells := 1, slots := 6, locals := 166 }) [.ref (F.1 0), .int (nI 6), .int x, .int y, .int z] (flt [FW G F s D]) mkI (fun (r : Int32) (u : (Nat → Nat) × (Nat → Nat) × Scr) => pwX 6 s x y 0 = 0 ∧ r = rX 6 s x y 0 ∧ Sok u.2.2) (fun u : (Nat → Nat) × (Nat → Nat) × Scr => flt [FW G F (cX 6 s x y 0) (dC D s u.1 u.2.1 u.2.2)]) (fun (E : String) (_ : Unit) => ¬ pwX 6 s x y 0 = 0 ∧ E = exE (pwX 6 s x y 0)) (fun _ : Unit => (flt [FW G F s D])) 1 6 := by
  refine CtX.ofI (cc := cL_plain) (maxL := 5) (by decide) rfl ⟨by simp [Value.category], Nat.le_of_ble_eq_true rfl⟩ ?_
  intro K hl hC hSF hnm hQ hE
  subst hl
  have hgot := SFgoS (SFt.k G) hSF
  have hgo := SFgo.x hgot
  have hSFt := hSF
  replace hSF := hSF.1
  show V G K 5 0 0 0 [some (.ref (F.1 0)), some (.int (nI 6)), some (.int x), some (.int y), some (.int z)] [] (flt [FW G F s D])
  refine V.iload_n hC (x := nI 6) dL_plain_0 rfl ?_
  refine V.tableIn hC (x := nI 6) (off := 92) 93 dL_plain_1 (by decide) (by decide) (by decide) rfl ?_
  refine V.aload_n hC (x := (F.1 0)) dL_plain_93 rfl ?_
  refine V.iload_n hC (x := x) dL_plain_94 rfl ?_
  refine V.iload_n hC (x := y) dL_plain_95 rfl ?_
  refine V.callVBXN (n := 2) (As := [.int x, .int y]) (rest := []) hC (f_refresh (kl K) G hst F s D B hok x y) (SFt.k G) hgot (gx1 gL_plain_X12_refresh) rfl ⟨rfl, rfl⟩ (by decide +kernel) ⟨by decide, by decide, by decide, by decide⟩ (L := [FW G F s D]) (N := 1) rfl [0] [] (by decide) (List.append_nil (FW G F s D)) (fun u_96 : (Nat → Nat) × (Nat → Nat) × Scr => [FW G F (cX 6 s x y 0) (dC D s u_96.1 u_96.2.1 u_96.2.2)]) (fun u_96 => List.append_nil (FW G F (cX 6 s x y 0) (dC D s u_96.1 u_96.2.1 u_96.2.2))) (fun _ : Unit => [FW G F s D]) (fun _ => List.append_nil (FW G F s D)) rfl rfl rfl rfl (Nat.le_of_ble_eq_true rfl) dL_plain_96 (fun E_ u_ hx_ => VX.out hC hQ () hx_ rfl (Nat.le_of_ble_eq_true rfl) (Nat.le_of_ble_eq_true rfl)) (fun r_96 u_96 hp_96 => ?_)
  show V G K 5 1 6 99 [some (.ref (F.1 0)), some (.int (nI 6)), some (.int x), some (.int y), some (.int z)] [.int r_96] (flt [FW G F (cX 6 s x y 0) (dC D s u_96.1 u_96.2.1 u_96.2.2)])
  exact hE 99 _ r_96 u_96 dL_plain_99 rfl hp_96

set_option maxHeartbeats 4000000 in
set_option maxRecDepth 100000 in
theorem l_plain7 (l : Launch) (G : Gx) (hst : l.stackTraces = false) (F : FX) (s : ASt) (D : DX) (B : Nat) (hok : FOk B s D) (x y z : Int32) : CtX l G (SFt G) yL_plain (wsL_plain ++ hx9) ({ frames := 9, cells := 1, slots := 6, locals := 166 }) [.ref (F.1 0), .int (nI 7), .int x, .int y, .int z] (flt [FW G F s D]) mkI (fun (r : Int32) (u : (Nat → Nat) × (Nat → Nat) × Scr) => pwX 7 s x 0 0 = 0 ∧ r = rX 7 s x 0 0 ∧ Sok u.2.2) (fun u : (Nat → Nat) × (Nat → Nat) × Scr => flt [FW G F (cX 7 s x 0 0) (dC D s u.1 u.2.1 u.2.2)]) (fun (E : String) (_ : Unit) => ¬ pwX 7 s x 0 0 = 0 ∧ E = exE (pwX 7 s x 0 0)) (fun _ : Unit => (flt [FW G F s D])) 1 6 := by
  refine CtX.ofI (cc := cL_plain) (maxL := 5) (by decide) rfl ⟨by simp [Value.category], Nat.le_of_ble_eq_true rfl⟩ ?_
  intro K hl hC hSF hnm hQ hE
  subst hl
  have hgot := SFgoS (SFt.k G) hSF
  have hgo := SFgo.x hgot
  have hSFt := hSF
  replace hSF := hSF.1
  show V G K 5 0 0 0 [some (.ref (F.1 0)), some (.int (nI 7)), some (.int x), some (.int y), some (.int z)] [] (flt [FW G F s D])
  refine V.iload_n hC (x := nI 7) dL_plain_0 rfl ?_
  refine V.tableIn hC (x := nI 7) (off := 99) 100 dL_plain_1 (by decide) (by decide) (by decide) rfl ?_
  refine V.aload_n hC (x := (F.1 0)) dL_plain_100 rfl ?_
  refine V.iload_n hC (x := x) dL_plain_101 rfl ?_
  refine V.callVBXN (n := 1) (As := [.int x]) (rest := []) hC (f_forget (kl K) G hst F s D B hok x) (SFt.k G) hgot (gx1 gL_plain_X12_forget) rfl ⟨rfl, rfl⟩ (by decide +kernel) ⟨by decide, by decide, by decide, by decide⟩ (L := [FW G F s D]) (N := 1) rfl [0] [] (by decide) (List.append_nil (FW G F s D)) (fun u_102 : (Nat → Nat) × (Nat → Nat) × Scr => [FW G F (cX 7 s x 0 0) (dC D s u_102.1 u_102.2.1 u_102.2.2)]) (fun u_102 => List.append_nil (FW G F (cX 7 s x 0 0) (dC D s u_102.1 u_102.2.1 u_102.2.2))) (fun _ : Unit => [FW G F s D]) (fun _ => List.append_nil (FW G F s D)) rfl rfl rfl rfl (Nat.le_of_ble_eq_true rfl) dL_plain_102 (fun E_ u_ hx_ => VX.out hC hQ () hx_ rfl (Nat.le_of_ble_eq_true rfl) (Nat.le_of_ble_eq_true rfl)) (fun r_102 u_102 hp_102 => ?_)
  show V G K 5 1 6 105 [some (.ref (F.1 0)), some (.int (nI 7)), some (.int x), some (.int y), some (.int z)] [.int r_102] (flt [FW G F (cX 7 s x 0 0) (dC D s u_102.1 u_102.2.1 u_102.2.2)])
  exact hE 105 _ r_102 u_102 dL_plain_105 rfl hp_102

set_option maxHeartbeats 4000000 in
set_option maxRecDepth 100000 in
theorem l_plain (l : Launch) (G : Gx) (hst : l.stackTraces = false) (F : FX) (s : ASt) (D : DX) (B : Nat) (hok : FOk B s D) (w : Nat) (hw : w < 8) (x y z : Int32) : CtX l G (SFt G) yL_plain (wsL_plain ++ hx9) ({ frames := 9, cells := 1, slots := 6, locals := 166 }) [.ref (F.1 0), .int (nI w), .int x, .int y, .int z] (flt [FW G F s D]) mkI (fun (_ : Int32) (u : ASt × DX) => FOk (B + 1) u.1 u.2) (fun u : ASt × DX => flt [FW G F u.1 u.2]) (fun (E : String) (_ : Unit) => ∃ v, 1 ≤ v ∧ v < 6 ∧ E = exE v) (fun _ : Unit => flt [FW G F s D]) 1 6 := by
  obtain rfl | rfl | rfl | rfl | rfl | rfl | rfl | rfl := lt8 hw
  · exact CtX.mono (l_plain0 l G hst F s D B hok x y z) (fun r u hp => ⟨(cX 0 s x 0 0, dC D s u.1 u.2.1 u.2.2), hok.step (by decide) hp.1 hp.2.2, rfl⟩) (fun E u hp => ⟨(), ⟨pwX 0 s x 0 0, Nat.pos_of_ne_zero hp.1, pwX_lt _ _ _ _ _, hp.2⟩, rfl⟩)
  · exact CtX.mono (l_plain1 l G hst F s D B hok x y z) (fun r u hp => ⟨(cX 1 s x y 0, dC D s u.1 u.2.1 u.2.2), hok.step (by decide) hp.1 hp.2.2, rfl⟩) (fun E u hp => ⟨(), ⟨pwX 1 s x y 0, Nat.pos_of_ne_zero hp.1, pwX_lt _ _ _ _ _, hp.2⟩, rfl⟩)
  · exact CtX.mono (l_plain2 l G hst F s D B hok x y z) (fun r u hp => ⟨(cX 2 s x y z, dC D s u.1 u.2.1 u.2.2), hok.step (by decide) hp.1 hp.2.2, rfl⟩) (fun E u hp => ⟨(), ⟨pwX 2 s x y z, Nat.pos_of_ne_zero hp.1, pwX_lt _ _ _ _ _, hp.2⟩, rfl⟩)
  · exact CtX.mono (l_plain3 l G hst F s D B hok x y z) (fun r u hp => ⟨(cX 3 s x y 0, dC D s u.1 u.2.1 u.2.2), hok.step (by decide) hp.1 hp.2.2, rfl⟩) (fun E u hp => ⟨(), ⟨pwX 3 s x y 0, Nat.pos_of_ne_zero hp.1, pwX_lt _ _ _ _ _, hp.2⟩, rfl⟩)
  · exact CtX.mono (l_plain4 l G hst F s D B hok x y z) (fun r u hp => ⟨(cX 4 s x y z, dC D s u.1 u.2.1 u.2.2), hok.step (by decide) hp.1 hp.2.2, rfl⟩) (fun E u hp => ⟨(), ⟨pwX 4 s x y z, Nat.pos_of_ne_zero hp.1, pwX_lt _ _ _ _ _, hp.2⟩, rfl⟩)
  · exact CtX.mono (l_plain5 l G hst F s D B hok x y z) (fun r u hp => ⟨(cX 5 s x y 0, dC D s u.1 u.2.1 u.2.2), hok.step (by decide) hp.1 hp.2.2, rfl⟩) (fun E u hp => ⟨(), ⟨pwX 5 s x y 0, Nat.pos_of_ne_zero hp.1, pwX_lt _ _ _ _ _, hp.2⟩, rfl⟩)
  · exact CtX.mono (l_plain6 l G hst F s D B hok x y z) (fun r u hp => ⟨(cX 6 s x y 0, dC D s u.1 u.2.1 u.2.2), hok.step (by decide) hp.1 hp.2.2, rfl⟩) (fun E u hp => ⟨(), ⟨pwX 6 s x y 0, Nat.pos_of_ne_zero hp.1, pwX_lt _ _ _ _ _, hp.2⟩, rfl⟩)
  · exact CtX.mono (l_plain7 l G hst F s D B hok x y z) (fun r u hp => ⟨(cX 7 s x 0 0, dC D s u.1 u.2.1 u.2.2), hok.step (by decide) hp.1 hp.2.2, rfl⟩) (fun E u hp => ⟨(), ⟨pwX 7 s x 0 0, Nat.pos_of_ne_zero hp.1, pwX_lt _ _ _ _ _, hp.2⟩, rfl⟩)

set_option maxHeartbeats 4000000 in
set_option maxRecDepth 100000 in
theorem l_deed (l : Launch) (G : Gx) (hst : l.stackTraces = false) (F : FX) (s : ASt) (D : DX) (B : Nat) (hok : FOk B s D) (w : Nat) (hw : w < 8) (x y z : Int32) : CtX l G (SFt G) yL_deed (wsL_deed ++ hx9) ({ frames := 10, cells := 1, slots := 6, locals := 190 }) [.ref (F.1 0), .int (nI w), .int x, .int y, .int z] (flt [FW G F s D]) mkI (fun (_ : Int32) (u : ASt × DX) => FOk (B + 1) u.1 u.2) (fun u : ASt × DX => flt [FW G F u.1 u.2]) (fun (_ : String) (_ : Unit) => False) (fun _ : Unit => (flt [FW G F s D])) 1 6 := by
  refine CtX.ofIW (hh := [(0, 9, 10, 52), (0, 9, 16, 54), (0, 9, 22, 56), (0, 9, 28, 58), (0, 9, 34, 60)]) (cc := cL_deed) (maxL := 6) (by decide) rfl ⟨by simp [Value.category], Nat.le_of_ble_eq_true rfl⟩ ?_
  intro K hl hC hSF hnm htab hE
  subst hl
  have hgot := SFgoS (SFt.k G) hSF
  have hgo := SFgo.x hgot
  have hSFt := hSF
  replace hSF := hSF.1
  show V G K 6 0 0 0 [some (.ref (F.1 0)), some (.int (nI w)), some (.int x), some (.int y), some (.int z), none] [] (flt [FW G F s D])
  refine V.aload_n hC (x := (F.1 0)) dL_deed_0 rfl ?_
  refine V.iload_n hC (x := nI w) dL_deed_1 rfl ?_
  refine V.iload_n hC (x := x) dL_deed_2 rfl ?_
  refine V.iload_n hC (x := y) dL_deed_3 rfl ?_
  refine V.iload hC (x := z) dL_deed_4 rfl ?_
  refine V.callSBXN (n := 5) (As := [.ref (F.1 0), .int (nI w), .int x, .int y, .int z]) (rest := []) hC (l_plain (kl K) G hst F s D B hok w hw x y z) (SFt.k G) hgot (gx2 gL_deed_L_plain) rfl ⟨rfl, rfl⟩ (by decide +kernel) ⟨by decide, by decide, by decide, by decide⟩ (L := [FW G F s D]) (N := 1) rfl [0] [] (by decide) rfl (fun u_6 : ASt × DX => [FW G F u_6.1 u_6.2]) (fun _ => rfl) (fun _ : Unit => [FW G F s D]) (fun _ => rfl) rfl rfl (Nat.le_of_ble_eq_true rfl) dL_deed_6 (fun E_ u_ hx_ => ?_) (fun r_6 u_6 hp_6 => ?_)
  · obtain ⟨v_, hn_, hl_, he_⟩ := hx_
    subst he_
    obtain hv_ | hv_ | hv_ | hv_ | hv_ : v_ = 1 ∨ v_ = 2 ∨ v_ = 3 ∨ v_ = 4 ∨ v_ = 5 := by omega
    · rw [hv_]
      refine VX.catch hC (E := "java/lang/IllegalArgumentException") (name := "java/lang/IllegalArgumentException") _ htab [⟨0, 9, 10, 52⟩] ⟨0, 9, 16, 54⟩ [⟨0, 9, 22, 56⟩, ⟨0, 9, 28, 58⟩, ⟨0, 9, 34, 60⟩] rfl (List.forall_mem_cons.mpr ⟨Or.inr ⟨by decide, _, (hx_in hx9_52), hSFt.nc _ _ (by decide) (by decide) (by decide)⟩, (fun z hz => absurd hz List.not_mem_nil)⟩) rfl (by decide) (hx_in hx9_54) (hSFt.ca _ (by decide)) (fun qx => ?_)
      show V G K 6 1 6 16 [some (.ref (F.1 0)), some (.int (nI w)), some (.int x), some (.int y), some (.int z), none] [.ref qx] (flt [FW G F s D])
      refine V.astore hC dL_deed_16 [some (.ref (F.1 0)), some (.int (nI w)), some (.int x), some (.int y), some (.int z), some (.ref qx)] (Nat.le_of_ble_eq_true rfl) rfl ?_
      refine V.sipush hC (-2003) dL_deed_18 rfl ?_
      exact hE 21 _ (-2003) (s, D) dL_deed_21 rfl (hok.up (Nat.le_succ B))
    · rw [hv_]
      refine VX.catch hC (E := "java/lang/IndexOutOfBoundsException") (name := "java/lang/IndexOutOfBoundsException") _ htab [] ⟨0, 9, 10, 52⟩ [⟨0, 9, 16, 54⟩, ⟨0, 9, 22, 56⟩, ⟨0, 9, 28, 58⟩, ⟨0, 9, 34, 60⟩] rfl (fun z hz => absurd hz List.not_mem_nil) rfl (by decide) (hx_in hx9_52) (hSFt.ca _ (by decide)) (fun qx => ?_)
      show V G K 6 1 6 10 [some (.ref (F.1 0)), some (.int (nI w)), some (.int x), some (.int y), some (.int z), none] [.ref qx] (flt [FW G F s D])
      refine V.astore hC dL_deed_10 [some (.ref (F.1 0)), some (.int (nI w)), some (.int x), some (.int y), some (.int z), some (.ref qx)] (Nat.le_of_ble_eq_true rfl) rfl ?_
      refine V.sipush hC (-2002) dL_deed_12 rfl ?_
      exact hE 15 _ (-2002) (s, D) dL_deed_15 rfl (hok.up (Nat.le_succ B))
    · rw [hv_]
      refine VX.catch hC (E := "java/util/NoSuchElementException") (name := "java/util/NoSuchElementException") _ htab [⟨0, 9, 10, 52⟩, ⟨0, 9, 16, 54⟩, ⟨0, 9, 22, 56⟩, ⟨0, 9, 28, 58⟩] ⟨0, 9, 34, 60⟩ [] rfl (List.forall_mem_cons.mpr ⟨Or.inr ⟨by decide, _, (hx_in hx9_52), hSFt.nc _ _ (by decide) (by decide) (by decide)⟩, (List.forall_mem_cons.mpr ⟨Or.inr ⟨by decide, _, (hx_in hx9_54), hSFt.nc _ _ (by decide) (by decide) (by decide)⟩, (List.forall_mem_cons.mpr ⟨Or.inr ⟨by decide, _, (hx_in hx9_56), hSFt.nc _ _ (by decide) (by decide) (by decide)⟩, (List.forall_mem_cons.mpr ⟨Or.inr ⟨by decide, _, (hx_in hx9_58), hSFt.nc _ _ (by decide) (by decide) (by decide)⟩, (fun z hz => absurd hz List.not_mem_nil)⟩)⟩)⟩)⟩) rfl (by decide) (hx_in hx9_60) (hSFt.ca _ (by decide)) (fun qx => ?_)
      show V G K 6 1 6 34 [some (.ref (F.1 0)), some (.int (nI w)), some (.int x), some (.int y), some (.int z), none] [.ref qx] (flt [FW G F s D])
      refine V.astore hC dL_deed_34 [some (.ref (F.1 0)), some (.int (nI w)), some (.int x), some (.int y), some (.int z), some (.ref qx)] (Nat.le_of_ble_eq_true rfl) rfl ?_
      refine V.sipush hC (-2004) dL_deed_36 rfl ?_
      exact hE 39 _ (-2004) (s, D) dL_deed_39 rfl (hok.up (Nat.le_succ B))
    · rw [hv_]
      refine VX.catch hC (E := "java/lang/IllegalStateException") (name := "java/lang/IllegalStateException") _ htab [⟨0, 9, 10, 52⟩, ⟨0, 9, 16, 54⟩] ⟨0, 9, 22, 56⟩ [⟨0, 9, 28, 58⟩, ⟨0, 9, 34, 60⟩] rfl (List.forall_mem_cons.mpr ⟨Or.inr ⟨by decide, _, (hx_in hx9_52), hSFt.nc _ _ (by decide) (by decide) (by decide)⟩, (List.forall_mem_cons.mpr ⟨Or.inr ⟨by decide, _, (hx_in hx9_54), hSFt.nc _ _ (by decide) (by decide) (by decide)⟩, (fun z hz => absurd hz List.not_mem_nil)⟩)⟩) rfl (by decide) (hx_in hx9_56) (hSFt.ca _ (by decide)) (fun qx => ?_)
      show V G K 6 1 6 22 [some (.ref (F.1 0)), some (.int (nI w)), some (.int x), some (.int y), some (.int z), none] [.ref qx] (flt [FW G F s D])
      refine V.astore hC dL_deed_22 [some (.ref (F.1 0)), some (.int (nI w)), some (.int x), some (.int y), some (.int z), some (.ref qx)] (Nat.le_of_ble_eq_true rfl) rfl ?_
      refine V.sipush hC (-2005) dL_deed_24 rfl ?_
      exact hE 27 _ (-2005) (s, D) dL_deed_27 rfl (hok.up (Nat.le_succ B))
    · rw [hv_]
      refine VX.catch hC (E := "java/lang/UnsupportedOperationException") (name := "java/lang/UnsupportedOperationException") _ htab [⟨0, 9, 10, 52⟩, ⟨0, 9, 16, 54⟩, ⟨0, 9, 22, 56⟩] ⟨0, 9, 28, 58⟩ [⟨0, 9, 34, 60⟩] rfl (List.forall_mem_cons.mpr ⟨Or.inr ⟨by decide, _, (hx_in hx9_52), hSFt.nc _ _ (by decide) (by decide) (by decide)⟩, (List.forall_mem_cons.mpr ⟨Or.inr ⟨by decide, _, (hx_in hx9_54), hSFt.nc _ _ (by decide) (by decide) (by decide)⟩, (List.forall_mem_cons.mpr ⟨Or.inr ⟨by decide, _, (hx_in hx9_56), hSFt.nc _ _ (by decide) (by decide) (by decide)⟩, (fun z hz => absurd hz List.not_mem_nil)⟩)⟩)⟩) rfl (by decide) (hx_in hx9_58) (hSFt.ca _ (by decide)) (fun qx => ?_)
      show V G K 6 1 6 28 [some (.ref (F.1 0)), some (.int (nI w)), some (.int x), some (.int y), some (.int z), none] [.ref qx] (flt [FW G F s D])
      refine V.astore hC dL_deed_28 [some (.ref (F.1 0)), some (.int (nI w)), some (.int x), some (.int y), some (.int z), some (.ref qx)] (Nat.le_of_ble_eq_true rfl) rfl ?_
      refine V.sipush hC (-2001) dL_deed_30 rfl ?_
      exact hE 33 _ (-2001) (s, D) dL_deed_33 rfl (hok.up (Nat.le_succ B))
  · show V G K 6 1 6 9 [some (.ref (F.1 0)), some (.int (nI w)), some (.int x), some (.int y), some (.int z), none] [.int r_6] (flt [FW G F u_6.1 u_6.2])
    exact hE 9 _ r_6 u_6 dL_deed_9 rfl hp_6

theorem qCan_told {s : ASt} {x y : Int32} {r : Int32} (h : qCan s x y = (0, r)) : ∃ b, b ≤ 1 ∧ r = nI b ∧ qA 6 s x y = (0, nI b) := by
  have key : (qCan s x y).2 = 0 ∨ (qCan s x y).2 = 1 := by
    unfold qCan qN qS
    repeat' split
    all_goals first
      | (simp; done)
      | (simp; omega)
  have e : (qCan s x y).2 = r := by rw [h]
  rw [e] at key
  rcases key with k | k
  · subst k
    exact ⟨0, by decide, rfl, by show ((qCan s x y).1, if (qCan s x y).2 = 0 then (0 : Int32) else 1) = _; rw [h]; rfl⟩
  · subst k
    exact ⟨1, by decide, rfl, by show ((qCan s x y).1, if (qCan s x y).2 = 0 then (0 : Int32) else 1) = _; rw [h]; rfl⟩
theorem XE_6 {s : ASt} {x y : Int32} {E : String} (h : XE ["java/lang/IllegalArgumentException", "java/util/NoSuchElementException"] (qCan s x y) E) : XE (exA 6) (qA 6 s x y) E := by
  obtain ⟨j, hj, hq, hE⟩ := h
  refine ⟨j, hj, ?_, hE⟩
  show ((qCan s x y).1, if (qCan s x y).2 = 0 then (0 : Int32) else 1) = _
  rw [hq]
  all_goals rfl
set_option maxHeartbeats 4000000 in
set_option maxRecDepth 100000 in
theorem l_asked0 (l : Launch) (G : Gx) (hst : l.stackTraces = false) (F : FX) (s : ASt) (D : DX) (B : Nat) (hok : FOk B s D) (x y : Int32) : CtX l G (SFt G) yL_asked (wsL_asked ++ hx9) ({ frames := 9, cells := 3, slots := 18, locals := 149 }) [.ref (F.1 0), .int (nI 0), .int x, .int y] (flt [FW G F s D]) mkI (fun (r : Int32) (u : DX) => qA 0 s x y = (0, r) ∧ DK D u) (fun u : DX => flt [FW G F s u]) (fun (E : String) (u : DX) => XE (exA 0) (qA 0 s x y) E ∧ DK D u) (fun u : DX => flt [FW G F s u]) 3 18 := by
  refine CtX.ofI (cc := cL_asked) (maxL := 4) (by decide) rfl ⟨by simp [Value.category], Nat.le_of_ble_eq_true rfl⟩ ?_
  intro K hl hC hSF hnm hQ hE
  subst hl
  have hgot := SFgoS (SFt.k G) hSF
  have hgo := SFgo.x hgot
  have hSFt := hSF
  replace hSF := hSF.1
  show V G K 4 0 0 0 [some (.ref (F.1 0)), some (.int (nI 0)), some (.int x), some (.int y)] [] (flt [FW G F s D])
  refine V.iload_n hC (x := nI 0) dL_asked_0 rfl ?_
  refine V.tableIn hC (x := nI 0) (off := 75) 76 dL_asked_1 (by decide) (by decide) (by decide) rfl ?_
  refine V.aload_n hC (x := (F.1 0)) dL_asked_76 rfl ?_
  refine V.iload_n hC (x := x) dL_asked_77 rfl ?_
  refine V.callVBXN (n := 1) (As := [.int x]) (rest := []) hC (f_nestOf (kl K) G hst F s D B hok x) (SFt.k G) hgot (gx1 gL_asked_X12_nestOf) rfl ⟨rfl, rfl⟩ (by decide +kernel) ⟨by decide, by decide, by decide, by decide⟩ (L := [FW G F s D]) (N := 1) rfl [0] [] (by decide) (List.append_nil (FW G F s D)) (fun _ : Unit => [FW G F s D]) (fun _ => List.append_nil (FW G F s D)) (fun _ : Unit => [FW G F s D]) (fun _ => List.append_nil (FW G F s D)) rfl rfl rfl rfl (Nat.le_of_ble_eq_true rfl) dL_asked_78 (fun E_ u_ hx_ => VX.out hC hQ D ⟨hx_, DK.refl hok⟩ rfl (Nat.le_of_ble_eq_true rfl) (Nat.le_of_ble_eq_true rfl)) (fun r_78 u_78 hp_78 => ?_)
  show V G K 4 1 6 81 [some (.ref (F.1 0)), some (.int (nI 0)), some (.int x), some (.int y)] [.int r_78] (flt [FW G F s D])
  refine V.widen (k := 3) (n := 18) (Nat.le_of_ble_eq_true rfl) (Nat.le_of_ble_eq_true rfl) ?_
  exact hE 81 _ r_78 D dL_asked_81 rfl ⟨hp_78, DK.refl hok⟩

set_option maxHeartbeats 4000000 in
set_option maxRecDepth 100000 in
theorem l_asked1 (l : Launch) (G : Gx) (hst : l.stackTraces = false) (F : FX) (s : ASt) (D : DX) (B : Nat) (hok : FOk B s D) (x y : Int32) : CtX l G (SFt G) yL_asked (wsL_asked ++ hx9) ({ frames := 9, cells := 3, slots := 18, locals := 149 }) [.ref (F.1 0), .int (nI 1), .int x, .int y] (flt [FW G F s D]) mkI (fun (r : Int32) (u : DX) => qA 1 s x y = (0, r) ∧ DK D u) (fun u : DX => flt [FW G F s u]) (fun (E : String) (u : DX) => XE (exA 1) (qA 1 s x y) E ∧ DK D u) (fun u : DX => flt [FW G F s u]) 3 18 := by
  refine CtX.ofI (cc := cL_asked) (maxL := 4) (by decide) rfl ⟨by simp [Value.category], Nat.le_of_ble_eq_true rfl⟩ ?_
  intro K hl hC hSF hnm hQ hE
  subst hl
  have hgot := SFgoS (SFt.k G) hSF
  have hgo := SFgo.x hgot
  have hSFt := hSF
  replace hSF := hSF.1
  show V G K 4 0 0 0 [some (.ref (F.1 0)), some (.int (nI 1)), some (.int x), some (.int y)] [] (flt [FW G F s D])
  refine V.iload_n hC (x := nI 1) dL_asked_0 rfl ?_
  refine V.tableIn hC (x := nI 1) (off := 81) 82 dL_asked_1 (by decide) (by decide) (by decide) rfl ?_
  refine V.aload_n hC (x := (F.1 0)) dL_asked_82 rfl ?_
  refine V.iload_n hC (x := x) dL_asked_83 rfl ?_
  refine V.callVBXN (n := 1) (As := [.int x]) (rest := []) hC (f_birdsIn (kl K) G hst F s D B hok x) (SFt.k G) hgot (gx1 gL_asked_X12_birdsIn) rfl ⟨rfl, rfl⟩ (by decide +kernel) ⟨by decide, by decide, by decide, by decide⟩ (L := [FW G F s D]) (N := 1) rfl [0] [] (by decide) (List.append_nil (FW G F s D)) (fun _ : Unit => [FW G F s D]) (fun _ => List.append_nil (FW G F s D)) (fun _ : Unit => [FW G F s D]) (fun _ => List.append_nil (FW G F s D)) rfl rfl rfl rfl (Nat.le_of_ble_eq_true rfl) dL_asked_84 (fun E_ u_ hx_ => VX.out hC hQ D ⟨hx_, DK.refl hok⟩ rfl (Nat.le_of_ble_eq_true rfl) (Nat.le_of_ble_eq_true rfl)) (fun r_84 u_84 hp_84 => ?_)
  show V G K 4 1 6 87 [some (.ref (F.1 0)), some (.int (nI 1)), some (.int x), some (.int y)] [.int r_84] (flt [FW G F s D])
  refine V.widen (k := 3) (n := 18) (Nat.le_of_ble_eq_true rfl) (Nat.le_of_ble_eq_true rfl) ?_
  exact hE 87 _ r_84 D dL_asked_87 rfl ⟨hp_84, DK.refl hok⟩

set_option maxHeartbeats 4000000 in
set_option maxRecDepth 100000 in
theorem l_asked2 (l : Launch) (G : Gx) (hst : l.stackTraces = false) (F : FX) (s : ASt) (D : DX) (B : Nat) (hok : FOk B s D) (x y : Int32) : CtX l G (SFt G) yL_asked (wsL_asked ++ hx9) ({ frames := 9, cells := 3, slots := 18, locals := 149 }) [.ref (F.1 0), .int (nI 2), .int x, .int y] (flt [FW G F s D]) mkI (fun (r : Int32) (u : DX) => qA 2 s x y = (0, r) ∧ DK D u) (fun u : DX => flt [FW G F s u]) (fun (E : String) (u : DX) => XE (exA 2) (qA 2 s x y) E ∧ DK D u) (fun u : DX => flt [FW G F s u]) 3 18 := by
  refine CtX.ofI (cc := cL_asked) (maxL := 4) (by decide) rfl ⟨by simp [Value.category], Nat.le_of_ble_eq_true rfl⟩ ?_
  intro K hl hC hSF hnm hQ hE
  subst hl
  have hgot := SFgoS (SFt.k G) hSF
  have hgo := SFgo.x hgot
  have hSFt := hSF
  replace hSF := hSF.1
  show V G K 4 0 0 0 [some (.ref (F.1 0)), some (.int (nI 2)), some (.int x), some (.int y)] [] (flt [FW G F s D])
  refine V.iload_n hC (x := nI 2) dL_asked_0 rfl ?_
  refine V.tableIn hC (x := nI 2) (off := 87) 88 dL_asked_1 (by decide) (by decide) (by decide) rfl ?_
  refine V.aload_n hC (x := (F.1 0)) dL_asked_88 rfl ?_
  refine V.iload_n hC (x := x) dL_asked_89 rfl ?_
  refine V.callVBXN (n := 1) (As := [.int x]) (rest := []) hC (f_birdAtRank (kl K) G hst F s D B hok x) (SFt.k G) hgot (gx1 gL_asked_X12_birdAtRank) rfl ⟨rfl, rfl⟩ (by decide +kernel) ⟨by decide, by decide, by decide, by decide⟩ (L := [FW G F s D]) (N := 1) rfl [0] [] (by decide) (List.append_nil (FW G F s D)) (fun _ : Unit => [FW G F s D]) (fun _ => List.append_nil (FW G F s D)) (fun _ : Unit => [FW G F s D]) (fun _ => List.append_nil (FW G F s D)) rfl rfl rfl rfl (Nat.le_of_ble_eq_true rfl) dL_asked_90 (fun E_ u_ hx_ => VX.out hC hQ D ⟨hx_, DK.refl hok⟩ rfl (Nat.le_of_ble_eq_true rfl) (Nat.le_of_ble_eq_true rfl)) (fun r_90 u_90 hp_90 => ?_)
  show V G K 4 1 6 93 [some (.ref (F.1 0)), some (.int (nI 2)), some (.int x), some (.int y)] [.int r_90] (flt [FW G F s D])
  refine V.widen (k := 3) (n := 18) (Nat.le_of_ble_eq_true rfl) (Nat.le_of_ble_eq_true rfl) ?_
  exact hE 93 _ r_90 D dL_asked_93 rfl ⟨hp_90, DK.refl hok⟩

set_option maxHeartbeats 4000000 in
set_option maxRecDepth 100000 in
theorem l_asked3 (l : Launch) (G : Gx) (hst : l.stackTraces = false) (F : FX) (s : ASt) (D : DX) (B : Nat) (hok : FOk B s D) (x y : Int32) : CtX l G (SFt G) yL_asked (wsL_asked ++ hx9) ({ frames := 9, cells := 3, slots := 18, locals := 149 }) [.ref (F.1 0), .int (nI 3), .int x, .int y] (flt [FW G F s D]) mkI (fun (r : Int32) (u : DX) => qA 3 s x y = (0, r) ∧ DK D u) (fun u : DX => flt [FW G F s u]) (fun (E : String) (u : DX) => XE (exA 3) (qA 3 s x y) E ∧ DK D u) (fun u : DX => flt [FW G F s u]) 3 18 := by
  refine CtX.ofI (cc := cL_asked) (maxL := 4) (by decide) rfl ⟨by simp [Value.category], Nat.le_of_ble_eq_true rfl⟩ ?_
  intro K hl hC hSF hnm hQ hE
  subst hl
  have hgot := SFgoS (SFt.k G) hSF
  have hgo := SFgo.x hgot
  have hSFt := hSF
  replace hSF := hSF.1
  show V G K 4 0 0 0 [some (.ref (F.1 0)), some (.int (nI 3)), some (.int x), some (.int y)] [] (flt [FW G F s D])
  refine V.iload_n hC (x := nI 3) dL_asked_0 rfl ?_
  refine V.tableIn hC (x := nI 3) (off := 93) 94 dL_asked_1 (by decide) (by decide) (by decide) rfl ?_
  refine V.aload_n hC (x := (F.1 0)) dL_asked_94 rfl ?_
  refine V.iload_n hC (x := x) dL_asked_95 rfl ?_
  refine V.callVBXN (n := 1) (As := [.int x]) (rest := []) hC (f_secretAt (kl K) G hst F s D B hok x) (SFt.k G) hgot (gx1 gL_asked_X12_secretAt) rfl ⟨rfl, rfl⟩ (by decide +kernel) ⟨by decide, by decide, by decide, by decide⟩ (L := [FW G F s D]) (N := 1) rfl [0] [] (by decide) (List.append_nil (FW G F s D)) (fun _ : Unit => [FW G F s D]) (fun _ => List.append_nil (FW G F s D)) (fun _ : Unit => [FW G F s D]) (fun _ => List.append_nil (FW G F s D)) rfl rfl rfl rfl (Nat.le_of_ble_eq_true rfl) dL_asked_96 (fun E_ u_ hx_ => VX.out hC hQ D ⟨hx_, DK.refl hok⟩ rfl (Nat.le_of_ble_eq_true rfl) (Nat.le_of_ble_eq_true rfl)) (fun r_96 u_96 hp_96 => ?_)
  show V G K 4 1 6 99 [some (.ref (F.1 0)), some (.int (nI 3)), some (.int x), some (.int y)] [.int r_96] (flt [FW G F s D])
  refine V.widen (k := 3) (n := 18) (Nat.le_of_ble_eq_true rfl) (Nat.le_of_ble_eq_true rfl) ?_
  exact hE 99 _ r_96 D dL_asked_99 rfl ⟨hp_96, DK.refl hok⟩

set_option maxHeartbeats 4000000 in
set_option maxRecDepth 100000 in
theorem l_asked4 (l : Launch) (G : Gx) (hst : l.stackTraces = false) (F : FX) (s : ASt) (D : DX) (B : Nat) (hok : FOk B s D) (x y : Int32) : CtX l G (SFt G) yL_asked (wsL_asked ++ hx9) ({ frames := 9, cells := 3, slots := 18, locals := 149 }) [.ref (F.1 0), .int (nI 4), .int x, .int y] (flt [FW G F s D]) mkI (fun (r : Int32) (u : DX) => qA 4 s x y = (0, r) ∧ DK D u) (fun u : DX => flt [FW G F s u]) (fun (E : String) (u : DX) => XE (exA 4) (qA 4 s x y) E ∧ DK D u) (fun u : DX => flt [FW G F s u]) 3 18 := by
  refine CtX.ofI (cc := cL_asked) (maxL := 4) (by decide) rfl ⟨by simp [Value.category], Nat.le_of_ble_eq_true rfl⟩ ?_
  intro K hl hC hSF hnm hQ hE
  subst hl
  have hgot := SFgoS (SFt.k G) hSF
  have hgo := SFgo.x hgot
  have hSFt := hSF
  replace hSF := hSF.1
  show V G K 4 0 0 0 [some (.ref (F.1 0)), some (.int (nI 4)), some (.int x), some (.int y)] [] (flt [FW G F s D])
  refine V.iload_n hC (x := nI 4) dL_asked_0 rfl ?_
  refine V.tableIn hC (x := nI 4) (off := 99) 100 dL_asked_1 (by decide) (by decide) (by decide) rfl ?_
  refine V.aload_n hC (x := (F.1 0)) dL_asked_100 rfl ?_
  refine V.iload_n hC (x := x) dL_asked_101 rfl ?_
  refine V.iload_n hC (x := y) dL_asked_102 rfl ?_
  refine V.callVBXN (n := 2) (As := [.int x, .int y]) (rest := []) hC (f_share (kl K) G hst F s D B hok x y) (SFt.k G) hgot (gx1 gL_asked_X12_share) rfl ⟨rfl, rfl⟩ (by decide +kernel) ⟨by decide, by decide, by decide, by decide⟩ (L := [FW G F s D]) (N := 1) rfl [0] [] (by decide) (List.append_nil (FW G F s D)) (fun _ : Unit => [FW G F s D]) (fun _ => List.append_nil (FW G F s D)) (fun _ : Unit => [FW G F s D]) (fun _ => List.append_nil (FW G F s D)) rfl rfl rfl rfl (Nat.le_of_ble_eq_true rfl) dL_asked_103 (fun E_ u_ hx_ => VX.out hC hQ D ⟨hx_, DK.refl hok⟩ rfl (Nat.le_of_ble_eq_true rfl) (Nat.le_of_ble_eq_true rfl)) (fun r_103 u_103 hp_103 => ?_)
  show V G K 4 3 18 106 [some (.ref (F.1 0)), some (.int (nI 4)), some (.int x), some (.int y)] [.int r_103] (flt [FW G F s D])
  exact hE 106 _ r_103 D dL_asked_106 rfl ⟨hp_103, DK.refl hok⟩

set_option maxHeartbeats 4000000 in
set_option maxRecDepth 100000 in
theorem l_asked5 (l : Launch) (G : Gx) (hst : l.stackTraces = false) (F : FX) (s : ASt) (D : DX) (B : Nat) (hok : FOk B s D) (x y : Int32) : CtX l G (SFt G) yL_asked (wsL_asked ++ hx9) ({ frames := 9, cells := 3, slots := 18, locals := 149 }) [.ref (F.1 0), .int (nI 5), .int x, .int y] (flt [FW G F s D]) mkI (fun (r : Int32) (u : DX) => qA 5 s x y = (0, r) ∧ DK D u) (fun u : DX => flt [FW G F s u]) (fun (E : String) (u : DX) => XE (exA 5) (qA 5 s x y) E ∧ DK D u) (fun u : DX => flt [FW G F s u]) 3 18 := by
  refine CtX.ofI (cc := cL_asked) (maxL := 4) (by decide) rfl ⟨by simp [Value.category], Nat.le_of_ble_eq_true rfl⟩ ?_
  intro K hl hC hSF hnm hQ hE
  subst hl
  have hgot := SFgoS (SFt.k G) hSF
  have hgo := SFgo.x hgot
  have hSFt := hSF
  replace hSF := hSF.1
  show V G K 4 0 0 0 [some (.ref (F.1 0)), some (.int (nI 5)), some (.int x), some (.int y)] [] (flt [FW G F s D])
  refine V.iload_n hC (x := nI 5) dL_asked_0 rfl ?_
  refine V.tableIn hC (x := nI 5) (off := 106) 107 dL_asked_1 (by decide) (by decide) (by decide) rfl ?_
  refine V.aload_n hC (x := (F.1 0)) dL_asked_107 rfl ?_
  refine V.iload_n hC (x := x) dL_asked_108 rfl ?_
  refine V.callVBXN (n := 1) (As := [.int x]) (rest := []) hC (f_holders (kl K) G hst F s D B hok x) (SFt.k G) hgot (gx1 gL_asked_X12_holders) rfl ⟨rfl, rfl⟩ (by decide +kernel) ⟨by decide, by decide, by decide, by decide⟩ (L := [FW G F s D]) (N := 1) rfl [0] [] (by decide) (List.append_nil (FW G F s D)) (fun _ : Unit => [FW G F s D]) (fun _ => List.append_nil (FW G F s D)) (fun _ : Unit => [FW G F s D]) (fun _ => List.append_nil (FW G F s D)) rfl rfl rfl rfl (Nat.le_of_ble_eq_true rfl) dL_asked_109 (fun E_ u_ hx_ => VX.out hC hQ D ⟨hx_, DK.refl hok⟩ rfl (Nat.le_of_ble_eq_true rfl) (Nat.le_of_ble_eq_true rfl)) (fun r_109 u_109 hp_109 => ?_)
  show V G K 4 1 6 112 [some (.ref (F.1 0)), some (.int (nI 5)), some (.int x), some (.int y)] [.int r_109] (flt [FW G F s D])
  refine V.widen (k := 3) (n := 18) (Nat.le_of_ble_eq_true rfl) (Nat.le_of_ble_eq_true rfl) ?_
  exact hE 112 _ r_109 D dL_asked_112 rfl ⟨hp_109, DK.refl hok⟩

set_option maxHeartbeats 4000000 in
set_option maxRecDepth 100000 in
theorem l_asked6 (l : Launch) (G : Gx) (hst : l.stackTraces = false) (F : FX) (s : ASt) (D : DX) (B : Nat) (hok : FOk B s D) (x y : Int32) : CtX l G (SFt G) yL_asked (wsL_asked ++ hx9) ({ frames := 9, cells := 3, slots := 18, locals := 149 }) [.ref (F.1 0), .int (nI 6), .int x, .int y] (flt [FW G F s D]) mkI (fun (r : Int32) (u : DX) => qA 6 s x y = (0, r) ∧ DK D u) (fun u : DX => flt [FW G F s u]) (fun (E : String) (u : DX) => XE (exA 6) (qA 6 s x y) E ∧ DK D u) (fun u : DX => flt [FW G F s u]) 3 18 := by
  refine CtX.ofI (cc := cL_asked) (maxL := 4) (by decide) rfl ⟨by simp [Value.category], Nat.le_of_ble_eq_true rfl⟩ ?_
  intro K hl hC hSF hnm hQ hE
  subst hl
  have hgot := SFgoS (SFt.k G) hSF
  have hgo := SFgo.x hgot
  have hSFt := hSF
  replace hSF := hSF.1
  show V G K 4 0 0 0 [some (.ref (F.1 0)), some (.int (nI 6)), some (.int x), some (.int y)] [] (flt [FW G F s D])
  refine V.iload_n hC (x := nI 6) dL_asked_0 rfl ?_
  refine V.tableIn hC (x := nI 6) (off := 112) 113 dL_asked_1 (by decide) (by decide) (by decide) rfl ?_
  refine V.aload_n hC (x := (F.1 0)) dL_asked_113 rfl ?_
  refine V.iload_n hC (x := x) dL_asked_114 rfl ?_
  refine V.iload_n hC (x := y) dL_asked_115 rfl ?_
  refine V.callVBXN (n := 2) (As := [.int x, .int y]) (rest := []) hC (f_canNest (kl K) G hst F s D B hok x y) (SFt.k G) hgot (gx1 gL_asked_X12_canNestRebuild) rfl ⟨rfl, rfl⟩ (by decide +kernel) ⟨by decide, by decide, by decide, by decide⟩ (L := [FW G F s D]) (N := 1) rfl [0] [] (by decide) (List.append_nil (FW G F s D)) (fun _ : Unit => [FW G F s D]) (fun _ => List.append_nil (FW G F s D)) (fun _ : Unit => [FW G F s D]) (fun _ => List.append_nil (FW G F s D)) rfl rfl rfl rfl (Nat.le_of_ble_eq_true rfl) dL_asked_116 (fun E_ u_ hx_ => VX.out hC hQ D ⟨XE_6 hx_, DK.refl hok⟩ rfl (Nat.le_of_ble_eq_true rfl) (Nat.le_of_ble_eq_true rfl)) (fun r_116 u_116 hp_116 => ?_)
  show V G K 4 2 12 119 [some (.ref (F.1 0)), some (.int (nI 6)), some (.int x), some (.int y)] [.int r_116] (flt [FW G F s D])
  obtain ⟨b_, hb_, eb_, hk_⟩ := qCan_told hp_116
  refine V.topeq (nI b_) eb_ ?_
  refine V.callSBN (n := 1) (As := [.int (nI b_)]) (rest := []) hC (l_told (kl K) G b_ hb_) SFk0 SFgo0 (gx2 gL_asked_L_told) rfl ⟨rfl, rfl⟩ (by decide +kernel) ⟨by decide, by decide, by decide, by decide⟩ (L := [FW G F s D]) (N := 1) rfl [] [0] (by decide) rfl (fun _ : Unit => []) (fun _ => rfl) rfl rfl (Nat.le_of_ble_eq_true rfl) dL_asked_119 (fun r_119 u_119 hp_119 => ?_)
  subst hp_119
  show V G K 4 2 12 122 [some (.ref (F.1 0)), some (.int (nI 6)), some (.int x), some (.int y)] [.int (nI b_)] (flt [FW G F s D])
  refine V.widen (k := 3) (n := 18) (Nat.le_of_ble_eq_true rfl) (Nat.le_of_ble_eq_true rfl) ?_
  exact hE 122 _ (nI b_) D dL_asked_122 rfl ⟨hk_, DK.refl hok⟩

set_option maxHeartbeats 4000000 in
set_option maxRecDepth 100000 in
theorem l_asked7 (l : Launch) (G : Gx) (hst : l.stackTraces = false) (F : FX) (s : ASt) (D : DX) (B : Nat) (hok : FOk B s D) (x y : Int32) : CtX l G (SFt G) yL_asked (wsL_asked ++ hx9) ({ frames := 9, cells := 3, slots := 18, locals := 149 }) [.ref (F.1 0), .int (nI 7), .int x, .int y] (flt [FW G F s D]) mkI (fun (r : Int32) (u : DX) => qA 7 s x y = (0, r) ∧ DK D u) (fun u : DX => flt [FW G F s u]) (fun (E : String) (u : DX) => XE (exA 7) (qA 7 s x y) E ∧ DK D u) (fun u : DX => flt [FW G F s u]) 3 18 := by
  refine CtX.ofI (cc := cL_asked) (maxL := 4) (by decide) rfl ⟨by simp [Value.category], Nat.le_of_ble_eq_true rfl⟩ ?_
  intro K hl hC hSF hnm hQ hE
  subst hl
  have hgot := SFgoS (SFt.k G) hSF
  have hgo := SFgo.x hgot
  have hSFt := hSF
  replace hSF := hSF.1
  show V G K 4 0 0 0 [some (.ref (F.1 0)), some (.int (nI 7)), some (.int x), some (.int y)] [] (flt [FW G F s D])
  refine V.iload_n hC (x := nI 7) dL_asked_0 rfl ?_
  refine V.tableIn hC (x := nI 7) (off := 122) 123 dL_asked_1 (by decide) (by decide) (by decide) rfl ?_
  refine V.aload_n hC (x := (F.1 0)) dL_asked_123 rfl ?_
  refine V.iload_n hC (x := x) dL_asked_124 rfl ?_
  refine V.callVBXN (n := 1) (As := [.int x]) (rest := []) hC (f_rebuild (kl K) G hst F s D B hok x) (SFt.k G) hgot (gx1 gL_asked_X12_rebuild) rfl ⟨rfl, rfl⟩ (by decide +kernel) ⟨by decide, by decide, by decide, by decide⟩ (L := [FW G F s D]) (N := 1) rfl [0] [] (by decide) (List.append_nil (FW G F s D)) (fun u_125 : Scr => [FW G F s (dE D u_125)]) (fun u_125 => List.append_nil (FW G F s (dE D u_125))) (fun _ : Unit => [FW G F s D]) (fun _ => List.append_nil (FW G F s D)) rfl rfl rfl rfl (Nat.le_of_ble_eq_true rfl) dL_asked_125 (fun E_ u_ hx_ => VX.out hC hQ D ⟨hx_, DK.refl hok⟩ rfl (Nat.le_of_ble_eq_true rfl) (Nat.le_of_ble_eq_true rfl)) (fun r_125 u_125 hp_125 => ?_)
  show V G K 4 2 12 128 [some (.ref (F.1 0)), some (.int (nI 7)), some (.int x), some (.int y)] [.int r_125] (flt [FW G F s (dE D u_125)])
  refine V.widen (k := 3) (n := 18) (Nat.le_of_ble_eq_true rfl) (Nat.le_of_ble_eq_true rfl) ?_
  exact hE 128 _ r_125 (dE D u_125) dL_asked_128 rfl ⟨hp_125.1, ⟨u_125, hp_125.2, rfl⟩⟩

set_option maxHeartbeats 4000000 in
set_option maxRecDepth 100000 in
theorem l_asked8 (l : Launch) (G : Gx) (hst : l.stackTraces = false) (F : FX) (s : ASt) (D : DX) (B : Nat) (hok : FOk B s D) (x y : Int32) : CtX l G (SFt G) yL_asked (wsL_asked ++ hx9) ({ frames := 9, cells := 3, slots := 18, locals := 149 }) [.ref (F.1 0), .int (nI 8), .int x, .int y] (flt [FW G F s D]) mkI (fun (r : Int32) (u : DX) => qA 8 s x y = (0, r) ∧ DK D u) (fun u : DX => flt [FW G F s u]) (fun (E : String) (u : DX) => XE (exA 8) (qA 8 s x y) E ∧ DK D u) (fun u : DX => flt [FW G F s u]) 3 18 := by
  refine CtX.ofI (cc := cL_asked) (maxL := 4) (by decide) rfl ⟨by simp [Value.category], Nat.le_of_ble_eq_true rfl⟩ ?_
  intro K hl hC hSF hnm hQ hE
  subst hl
  have hgot := SFgoS (SFt.k G) hSF
  have hgo := SFgo.x hgot
  have hSFt := hSF
  replace hSF := hSF.1
  show V G K 4 0 0 0 [some (.ref (F.1 0)), some (.int (nI 8)), some (.int x), some (.int y)] [] (flt [FW G F s D])
  refine V.iload_n hC (x := nI 8) dL_asked_0 rfl ?_
  refine V.tableIn hC (x := nI 8) (off := 128) 129 dL_asked_1 (by decide) (by decide) (by decide) rfl ?_
  refine V.aload_n hC (x := (F.1 0)) dL_asked_129 rfl ?_
  refine V.iload_n hC (x := x) dL_asked_130 rfl ?_
  refine V.callVBXN (n := 1) (As := [.int x]) (rest := []) hC (f_rebuildElim (kl K) G hst F s D B hok x) (SFt.k G) hgot (gx1 gL_asked_X12_rebuildByElimination) rfl ⟨rfl, rfl⟩ (by decide +kernel) ⟨by decide, by decide, by decide, by decide⟩ (L := [FW G F s D]) (N := 1) rfl [0] [] (by decide) (List.append_nil (FW G F s D)) (fun u_131 : Scr => [FW G F s (dE D u_131)]) (fun u_131 => List.append_nil (FW G F s (dE D u_131))) (fun _ : Unit => [FW G F s D]) (fun _ => List.append_nil (FW G F s D)) rfl rfl rfl rfl (Nat.le_of_ble_eq_true rfl) dL_asked_131 (fun E_ u_ hx_ => VX.out hC hQ D ⟨hx_, DK.refl hok⟩ rfl (Nat.le_of_ble_eq_true rfl) (Nat.le_of_ble_eq_true rfl)) (fun r_131 u_131 hp_131 => ?_)
  show V G K 4 2 12 134 [some (.ref (F.1 0)), some (.int (nI 8)), some (.int x), some (.int y)] [.int r_131] (flt [FW G F s (dE D u_131)])
  refine V.widen (k := 3) (n := 18) (Nat.le_of_ble_eq_true rfl) (Nat.le_of_ble_eq_true rfl) ?_
  exact hE 134 _ r_131 (dE D u_131) dL_asked_134 rfl ⟨hp_131.1, ⟨u_131, hp_131.2, rfl⟩⟩

set_option maxHeartbeats 4000000 in
set_option maxRecDepth 100000 in
theorem l_asked9 (l : Launch) (G : Gx) (hst : l.stackTraces = false) (F : FX) (s : ASt) (D : DX) (B : Nat) (hok : FOk B s D) (x y : Int32) : CtX l G (SFt G) yL_asked (wsL_asked ++ hx9) ({ frames := 9, cells := 3, slots := 18, locals := 149 }) [.ref (F.1 0), .int (nI 9), .int x, .int y] (flt [FW G F s D]) mkI (fun (r : Int32) (u : DX) => qA 9 s x y = (0, r) ∧ DK D u) (fun u : DX => flt [FW G F s u]) (fun (E : String) (u : DX) => XE (exA 9) (qA 9 s x y) E ∧ DK D u) (fun u : DX => flt [FW G F s u]) 3 18 := by
  refine CtX.ofI (cc := cL_asked) (maxL := 4) (by decide) rfl ⟨by simp [Value.category], Nat.le_of_ble_eq_true rfl⟩ ?_
  intro K hl hC hSF hnm hQ hE
  subst hl
  have hgot := SFgoS (SFt.k G) hSF
  have hgo := SFgo.x hgot
  have hSFt := hSF
  replace hSF := hSF.1
  show V G K 4 0 0 0 [some (.ref (F.1 0)), some (.int (nI 9)), some (.int x), some (.int y)] [] (flt [FW G F s D])
  refine V.iload_n hC (x := nI 9) dL_asked_0 rfl ?_
  refine V.tableIn hC (x := nI 9) (off := 134) 135 dL_asked_1 (by decide) (by decide) (by decide) rfl ?_
  refine V.aload_n hC (x := (F.1 0)) dL_asked_135 rfl ?_
  refine V.iload_n hC (x := x) dL_asked_136 rfl ?_
  refine V.callVBXN (n := 1) (As := [.int x]) (rest := []) hC (f_unfit (kl K) G hst F s D B hok x) (SFt.k G) hgot (gx1 gL_asked_X12_unfitShares) rfl ⟨rfl, rfl⟩ (by decide +kernel) ⟨by decide, by decide, by decide, by decide⟩ (L := [FW G F s D]) (N := 1) rfl [0] [] (by decide) (List.append_nil (FW G F s D)) (fun u_137 : Scr => [FW G F s (dE D u_137)]) (fun u_137 => List.append_nil (FW G F s (dE D u_137))) (fun _ : Unit => [FW G F s D]) (fun _ => List.append_nil (FW G F s D)) rfl rfl rfl rfl (Nat.le_of_ble_eq_true rfl) dL_asked_137 (fun E_ u_ hx_ => VX.out hC hQ D ⟨hx_, DK.refl hok⟩ rfl (Nat.le_of_ble_eq_true rfl) (Nat.le_of_ble_eq_true rfl)) (fun r_137 u_137 hp_137 => ?_)
  show V G K 4 2 12 140 [some (.ref (F.1 0)), some (.int (nI 9)), some (.int x), some (.int y)] [.int r_137] (flt [FW G F s (dE D u_137)])
  refine V.widen (k := 3) (n := 18) (Nat.le_of_ble_eq_true rfl) (Nat.le_of_ble_eq_true rfl) ?_
  exact hE 140 _ r_137 (dE D u_137) dL_asked_140 rfl ⟨hp_137.1, ⟨u_137, hp_137.2, rfl⟩⟩

set_option maxHeartbeats 4000000 in
set_option maxRecDepth 100000 in
theorem l_asked10 (l : Launch) (G : Gx) (hst : l.stackTraces = false) (F : FX) (s : ASt) (D : DX) (B : Nat) (hok : FOk B s D) (x y : Int32) : CtX l G (SFt G) yL_asked (wsL_asked ++ hx9) ({ frames := 9, cells := 3, slots := 18, locals := 149 }) [.ref (F.1 0), .int (nI 10), .int x, .int y] (flt [FW G F s D]) mkI (fun (r : Int32) (u : DX) => qA 10 s x y = (0, r) ∧ DK D u) (fun u : DX => flt [FW G F s u]) (fun (E : String) (u : DX) => XE (exA 10) (qA 10 s x y) E ∧ DK D u) (fun u : DX => flt [FW G F s u]) 3 18 := by
  refine CtX.ofI (cc := cL_asked) (maxL := 4) (by decide) rfl ⟨by simp [Value.category], Nat.le_of_ble_eq_true rfl⟩ ?_
  intro K hl hC hSF hnm hQ hE
  subst hl
  have hgot := SFgoS (SFt.k G) hSF
  have hgo := SFgo.x hgot
  have hSFt := hSF
  replace hSF := hSF.1
  show V G K 4 0 0 0 [some (.ref (F.1 0)), some (.int (nI 10)), some (.int x), some (.int y)] [] (flt [FW G F s D])
  refine V.iload_n hC (x := nI 10) dL_asked_0 rfl ?_
  refine V.tableIn hC (x := nI 10) (off := 140) 141 dL_asked_1 (by decide) (by decide) (by decide) rfl ?_
  refine V.aload_n hC (x := (F.1 0)) dL_asked_141 rfl ?_
  refine V.iload_n hC (x := x) dL_asked_142 rfl ?_
  refine V.callVBXN (n := 1) (As := [.int x]) (rest := []) hC (f_least (kl K) G hst F s D B hok x) (SFt.k G) hgot (gx1 gL_asked_X12_leastUnfitShares) rfl ⟨rfl, rfl⟩ (by decide +kernel) ⟨by decide, by decide, by decide, by decide⟩ (L := [FW G F s D]) (N := 1) rfl [0] [] (by decide) (List.append_nil (FW G F s D)) (fun u_143 : Scr => [FW G F s (dE D u_143)]) (fun u_143 => List.append_nil (FW G F s (dE D u_143))) (fun _ : Unit => [FW G F s D]) (fun _ => List.append_nil (FW G F s D)) rfl rfl rfl rfl (Nat.le_of_ble_eq_true rfl) dL_asked_143 (fun E_ u_ hx_ => VX.out hC hQ D ⟨hx_, DK.refl hok⟩ rfl (Nat.le_of_ble_eq_true rfl) (Nat.le_of_ble_eq_true rfl)) (fun r_143 u_143 hp_143 => ?_)
  show V G K 4 2 12 146 [some (.ref (F.1 0)), some (.int (nI 10)), some (.int x), some (.int y)] [.int r_143] (flt [FW G F s (dE D u_143)])
  refine V.widen (k := 3) (n := 18) (Nat.le_of_ble_eq_true rfl) (Nat.le_of_ble_eq_true rfl) ?_
  exact hE 146 _ r_143 (dE D u_143) dL_asked_146 rfl ⟨hp_143.1, ⟨u_143, hp_143.2, rfl⟩⟩

set_option maxHeartbeats 4000000 in
set_option maxRecDepth 100000 in
theorem l_asked11 (l : Launch) (G : Gx) (hst : l.stackTraces = false) (F : FX) (s : ASt) (D : DX) (B : Nat) (hok : FOk B s D) (x y : Int32) : CtX l G (SFt G) yL_asked (wsL_asked ++ hx9) ({ frames := 9, cells := 3, slots := 18, locals := 149 }) [.ref (F.1 0), .int (nI 11), .int x, .int y] (flt [FW G F s D]) mkI (fun (r : Int32) (u : DX) => qA 11 s x y = (0, r) ∧ DK D u) (fun u : DX => flt [FW G F s u]) (fun (E : String) (u : DX) => XE (exA 11) (qA 11 s x y) E ∧ DK D u) (fun u : DX => flt [FW G F s u]) 3 18 := by
  refine CtX.ofI (cc := cL_asked) (maxL := 4) (by decide) rfl ⟨by simp [Value.category], Nat.le_of_ble_eq_true rfl⟩ ?_
  intro K hl hC hSF hnm hQ hE
  subst hl
  have hgot := SFgoS (SFt.k G) hSF
  have hgo := SFgo.x hgot
  have hSFt := hSF
  replace hSF := hSF.1
  show V G K 4 0 0 0 [some (.ref (F.1 0)), some (.int (nI 11)), some (.int x), some (.int y)] [] (flt [FW G F s D])
  refine V.iload_n hC (x := nI 11) dL_asked_0 rfl ?_
  refine V.tableIn hC (x := nI 11) (off := 146) 147 dL_asked_1 (by decide) (by decide) (by decide) rfl ?_
  refine V.aload_n hC (x := (F.1 0)) dL_asked_147 rfl ?_
  refine V.iload_n hC (x := x) dL_asked_148 rfl ?_
  refine V.iload_n hC (x := y) dL_asked_149 rfl ?_
  refine V.callVBXN (n := 2) (As := [.int x, .int y]) (rest := []) hC (f_possible (kl K) G hst F s D B hok x y) (SFt.k G) hgot (gx1 gL_asked_X12_possibleValues) rfl ⟨rfl, rfl⟩ (by decide +kernel) ⟨by decide, by decide, by decide, by decide⟩ (L := [FW G F s D]) (N := 1) rfl [0] [] (by decide) (List.append_nil (FW G F s D)) (fun u_150 : Scr => [FW G F s (dE D u_150)]) (fun u_150 => List.append_nil (FW G F s (dE D u_150))) (fun _ : Unit => [FW G F s D]) (fun _ => List.append_nil (FW G F s D)) rfl rfl rfl rfl (Nat.le_of_ble_eq_true rfl) dL_asked_150 (fun E_ u_ hx_ => VX.out hC hQ D ⟨hx_, DK.refl hok⟩ rfl (Nat.le_of_ble_eq_true rfl) (Nat.le_of_ble_eq_true rfl)) (fun r_150 u_150 hp_150 => ?_)
  show V G K 4 2 12 153 [some (.ref (F.1 0)), some (.int (nI 11)), some (.int x), some (.int y)] [.int r_150] (flt [FW G F s (dE D u_150)])
  refine V.widen (k := 3) (n := 18) (Nat.le_of_ble_eq_true rfl) (Nat.le_of_ble_eq_true rfl) ?_
  exact hE 153 _ r_150 (dE D u_150) dL_asked_153 rfl ⟨hp_150.1, ⟨u_150, hp_150.2, rfl⟩⟩

set_option maxHeartbeats 4000000 in
set_option maxRecDepth 100000 in
theorem l_asked12 (l : Launch) (G : Gx) (hst : l.stackTraces = false) (F : FX) (s : ASt) (D : DX) (B : Nat) (hok : FOk B s D) (x y : Int32) : CtX l G (SFt G) yL_asked (wsL_asked ++ hx9) ({ frames := 9, cells := 3, slots := 18, locals := 149 }) [.ref (F.1 0), .int (nI 12), .int x, .int y] (flt [FW G F s D]) mkI (fun (r : Int32) (u : DX) => qA 12 s x y = (0, r) ∧ DK D u) (fun u : DX => flt [FW G F s u]) (fun (E : String) (u : DX) => XE (exA 12) (qA 12 s x y) E ∧ DK D u) (fun u : DX => flt [FW G F s u]) 3 18 := by
  refine CtX.ofI (cc := cL_asked) (maxL := 4) (by decide) rfl ⟨by simp [Value.category], Nat.le_of_ble_eq_true rfl⟩ ?_
  intro K hl hC hSF hnm hQ hE
  subst hl
  have hgot := SFgoS (SFt.k G) hSF
  have hgo := SFgo.x hgot
  have hSFt := hSF
  replace hSF := hSF.1
  show V G K 4 0 0 0 [some (.ref (F.1 0)), some (.int (nI 12)), some (.int x), some (.int y)] [] (flt [FW G F s D])
  refine V.iload_n hC (x := nI 12) dL_asked_0 rfl ?_
  refine V.tableIn hC (x := nI 12) (off := 153) 154 dL_asked_1 (by decide) (by decide) (by decide) rfl ?_
  refine V.aload_n hC (x := (F.1 0)) dL_asked_154 rfl ?_
  refine V.iload_n hC (x := x) dL_asked_155 rfl ?_
  refine V.iload_n hC (x := y) dL_asked_156 rfl ?_
  refine V.callVBXN (n := 2) (As := [.int x, .int y]) (rest := []) hC (f_possibleT (kl K) G hst F s D B hok x y) (SFt.k G) hgot (gx1 gL_asked_X12_possibleValuesByTrying) rfl ⟨rfl, rfl⟩ (by decide +kernel) ⟨by decide, by decide, by decide, by decide⟩ (L := [FW G F s D]) (N := 1) rfl [0] [] (by decide) (List.append_nil (FW G F s D)) (fun u_157 : Scr => [FW G F s (dE D u_157)]) (fun u_157 => List.append_nil (FW G F s (dE D u_157))) (fun _ : Unit => [FW G F s D]) (fun _ => List.append_nil (FW G F s D)) rfl rfl rfl rfl (Nat.le_of_ble_eq_true rfl) dL_asked_157 (fun E_ u_ hx_ => VX.out hC hQ D ⟨hx_, DK.refl hok⟩ rfl (Nat.le_of_ble_eq_true rfl) (Nat.le_of_ble_eq_true rfl)) (fun r_157 u_157 hp_157 => ?_)
  show V G K 4 2 12 160 [some (.ref (F.1 0)), some (.int (nI 12)), some (.int x), some (.int y)] [.int r_157] (flt [FW G F s (dE D u_157)])
  refine V.widen (k := 3) (n := 18) (Nat.le_of_ble_eq_true rfl) (Nat.le_of_ble_eq_true rfl) ?_
  exact hE 160 _ r_157 (dE D u_157) dL_asked_160 rfl ⟨hp_157.1, ⟨u_157, hp_157.2, rfl⟩⟩

set_option maxHeartbeats 4000000 in
set_option maxRecDepth 100000 in
theorem l_asked13 (l : Launch) (G : Gx) (hst : l.stackTraces = false) (F : FX) (s : ASt) (D : DX) (B : Nat) (hok : FOk B s D) (x y : Int32) : CtX l G (SFt G) yL_asked (wsL_asked ++ hx9) ({ frames := 9, cells := 3, slots := 18, locals := 149 }) [.ref (F.1 0), .int (nI 13), .int x, .int y] (flt [FW G F s D]) mkI (fun (r : Int32) (u : DX) => qA 13 s x y = (0, r) ∧ DK D u) (fun u : DX => flt [FW G F s u]) (fun (E : String) (u : DX) => XE (exA 13) (qA 13 s x y) E ∧ DK D u) (fun u : DX => flt [FW G F s u]) 3 18 := by
  refine CtX.ofI (cc := cL_asked) (maxL := 4) (by decide) rfl ⟨by simp [Value.category], Nat.le_of_ble_eq_true rfl⟩ ?_
  intro K hl hC hSF hnm hQ hE
  subst hl
  have hgot := SFgoS (SFt.k G) hSF
  have hgo := SFgo.x hgot
  have hSFt := hSF
  replace hSF := hSF.1
  show V G K 4 0 0 0 [some (.ref (F.1 0)), some (.int (nI 13)), some (.int x), some (.int y)] [] (flt [FW G F s D])
  refine V.iload_n hC (x := nI 13) dL_asked_0 rfl ?_
  refine V.tableIn hC (x := nI 13) (off := 160) 161 dL_asked_1 (by decide) (by decide) (by decide) rfl ?_
  refine V.aload_n hC (x := (F.1 0)) dL_asked_161 rfl ?_
  refine V.iload_n hC (x := x) dL_asked_162 rfl ?_
  refine V.callVBXN (n := 1) (As := [.int x]) (rest := []) hC (f_inverse (kl K) G hst F s D B hok x) (SFt.k G) hgot (gx1 gL_asked_X12_inverse) rfl ⟨rfl, rfl⟩ (by decide +kernel) ⟨by decide, by decide, by decide, by decide⟩ (L := [FW G F s D]) (N := 1) rfl [0] [] (by decide) (List.append_nil (FW G F s D)) (fun _ : Unit => [FW G F s D]) (fun _ => List.append_nil (FW G F s D)) (fun _ : Unit => [FW G F s D]) (fun _ => List.append_nil (FW G F s D)) rfl rfl rfl rfl (Nat.le_of_ble_eq_true rfl) dL_asked_163 (fun E_ u_ hx_ => VX.out hC hQ D ⟨hx_, DK.refl hok⟩ rfl (Nat.le_of_ble_eq_true rfl) (Nat.le_of_ble_eq_true rfl)) (fun r_163 u_163 hp_163 => ?_)
  show V G K 4 1 6 166 [some (.ref (F.1 0)), some (.int (nI 13)), some (.int x), some (.int y)] [.int r_163] (flt [FW G F s D])
  refine V.widen (k := 3) (n := 18) (Nat.le_of_ble_eq_true rfl) (Nat.le_of_ble_eq_true rfl) ?_
  exact hE 166 _ r_163 D dL_asked_166 rfl ⟨hp_163, DK.refl hok⟩

set_option maxHeartbeats 4000000 in
set_option maxRecDepth 100000 in
theorem l_asked (l : Launch) (G : Gx) (hst : l.stackTraces = false) (F : FX) (s : ASt) (D : DX) (B : Nat) (hok : FOk B s D) (w : Nat) (hw : w < 14) (x y : Int32) : CtX l G (SFt G) yL_asked (wsL_asked ++ hx9) ({ frames := 9, cells := 3, slots := 18, locals := 149 }) [.ref (F.1 0), .int (nI w), .int x, .int y] (flt [FW G F s D]) mkI (fun (r : Int32) (u : DX) => qA w s x y = (0, r) ∧ DK D u) (fun u : DX => flt [FW G F s u]) (fun (E : String) (u : DX) => XE (exA w) (qA w s x y) E ∧ DK D u) (fun u : DX => flt [FW G F s u]) 3 18 := by
  obtain rfl | rfl | rfl | rfl | rfl | rfl | rfl | rfl | rfl | rfl | rfl | rfl | rfl | rfl := lt14 hw
  · exact l_asked0 l G hst F s D B hok x y
  · exact l_asked1 l G hst F s D B hok x y
  · exact l_asked2 l G hst F s D B hok x y
  · exact l_asked3 l G hst F s D B hok x y
  · exact l_asked4 l G hst F s D B hok x y
  · exact l_asked5 l G hst F s D B hok x y
  · exact l_asked6 l G hst F s D B hok x y
  · exact l_asked7 l G hst F s D B hok x y
  · exact l_asked8 l G hst F s D B hok x y
  · exact l_asked9 l G hst F s D B hok x y
  · exact l_asked10 l G hst F s D B hok x y
  · exact l_asked11 l G hst F s D B hok x y
  · exact l_asked12 l G hst F s D B hok x y
  · exact l_asked13 l G hst F s D B hok x y

set_option maxHeartbeats 4000000 in
set_option maxRecDepth 100000 in
theorem l_ask (l : Launch) (G : Gx) (hst : l.stackTraces = false) (F : FX) (s : ASt) (D : DX) (B : Nat) (hok : FOk B s D) (w : Nat) (hw : w < 14) (x y : Int32) : CtX l G (SFt G) yL_ask (wsL_ask ++ hx9) ({ frames := 10, cells := 3, slots := 18, locals := 172 }) [.ref (F.1 0), .int (nI w), .int x, .int y] (flt [FW G F s D]) mkI (fun (r : Int32) (u : DX) => r = askV (exA w) (qA w s x y) ∧ DK D u) (fun u : DX => flt [FW G F s u]) (fun (_ : String) (_ : Unit) => False) (fun _ : Unit => (flt [FW G F s D])) 3 18 := by
  refine CtX.ofIW (hh := [(0, 7, 8, 52), (0, 7, 14, 54), (0, 7, 20, 56), (0, 7, 26, 60)]) (cc := cL_ask) (maxL := 5) (by decide) rfl ⟨by simp [Value.category], Nat.le_of_ble_eq_true rfl⟩ ?_
  intro K hl hC hSF hnm htab hE
  subst hl
  have hgot := SFgoS (SFt.k G) hSF
  have hgo := SFgo.x hgot
  have hSFt := hSF
  replace hSF := hSF.1
  show V G K 5 0 0 0 [some (.ref (F.1 0)), some (.int (nI w)), some (.int x), some (.int y), none] [] (flt [FW G F s D])
  refine V.aload_n hC (x := (F.1 0)) dL_ask_0 rfl ?_
  refine V.iload_n hC (x := nI w) dL_ask_1 rfl ?_
  refine V.iload_n hC (x := x) dL_ask_2 rfl ?_
  refine V.iload_n hC (x := y) dL_ask_3 rfl ?_
  refine V.callSBXN (n := 4) (As := [.ref (F.1 0), .int (nI w), .int x, .int y]) (rest := []) hC (l_asked (kl K) G hst F s D B hok w hw x y) (SFt.k G) hgot (gx2 gL_ask_L_asked) rfl ⟨rfl, rfl⟩ (by decide +kernel) ⟨by decide, by decide, by decide, by decide⟩ (L := [FW G F s D]) (N := 1) rfl [0] [] (by decide) rfl (fun u_4 : DX => [FW G F s u_4]) (fun _ => rfl) (fun u_ : DX => [FW G F s u_]) (fun _ => rfl) rfl rfl (Nat.le_of_ble_eq_true rfl) dL_ask_4 (fun E_ u_ hx_ => ?_) (fun r_4 u_4 hp_4 => ?_)
  · obtain ⟨hx1_, hx2_⟩ := hx_
    obtain hv_ | hv_ | hv_ | hv_ := XE_mem hw hx1_
    · subst hv_
      refine VX.catch hC (E := "java/lang/IndexOutOfBoundsException") (name := "java/lang/IndexOutOfBoundsException") _ htab [] ⟨0, 7, 8, 52⟩ [⟨0, 7, 14, 54⟩, ⟨0, 7, 20, 56⟩, ⟨0, 7, 26, 60⟩] rfl (fun z hz => absurd hz List.not_mem_nil) rfl (by decide) (hx_in hx9_52) (hSFt.ca _ (by decide)) (fun qx => ?_)
      show V G K 5 3 18 8 [some (.ref (F.1 0)), some (.int (nI w)), some (.int x), some (.int y), none] [.ref qx] (flt [FW G F s u_])
      refine V.astore hC dL_ask_8 [some (.ref (F.1 0)), some (.int (nI w)), some (.int x), some (.int y), some (.ref qx)] (Nat.le_of_ble_eq_true rfl) rfl ?_
      refine V.sipush hC (-2002) dL_ask_10 rfl ?_
      exact hE 13 _ (-2002) u_ dL_ask_13 rfl ⟨(askV_x hx1_).symm, hx2_⟩
    · subst hv_
      refine VX.catch hC (E := "java/lang/IllegalArgumentException") (name := "java/lang/IllegalArgumentException") _ htab [⟨0, 7, 8, 52⟩] ⟨0, 7, 14, 54⟩ [⟨0, 7, 20, 56⟩, ⟨0, 7, 26, 60⟩] rfl (List.forall_mem_cons.mpr ⟨Or.inr ⟨by decide, _, (hx_in hx9_52), hSFt.nc _ _ (by decide) (by decide) (by decide)⟩, (fun z hz => absurd hz List.not_mem_nil)⟩) rfl (by decide) (hx_in hx9_54) (hSFt.ca _ (by decide)) (fun qx => ?_)
      show V G K 5 3 18 14 [some (.ref (F.1 0)), some (.int (nI w)), some (.int x), some (.int y), none] [.ref qx] (flt [FW G F s u_])
      refine V.astore hC dL_ask_14 [some (.ref (F.1 0)), some (.int (nI w)), some (.int x), some (.int y), some (.ref qx)] (Nat.le_of_ble_eq_true rfl) rfl ?_
      refine V.sipush hC (-2003) dL_ask_16 rfl ?_
      exact hE 19 _ (-2003) u_ dL_ask_19 rfl ⟨(askV_x hx1_).symm, hx2_⟩
    · subst hv_
      refine VX.catch hC (E := "java/lang/IllegalStateException") (name := "java/lang/IllegalStateException") _ htab [⟨0, 7, 8, 52⟩, ⟨0, 7, 14, 54⟩] ⟨0, 7, 20, 56⟩ [⟨0, 7, 26, 60⟩] rfl (List.forall_mem_cons.mpr ⟨Or.inr ⟨by decide, _, (hx_in hx9_52), hSFt.nc _ _ (by decide) (by decide) (by decide)⟩, (List.forall_mem_cons.mpr ⟨Or.inr ⟨by decide, _, (hx_in hx9_54), hSFt.nc _ _ (by decide) (by decide) (by decide)⟩, (fun z hz => absurd hz List.not_mem_nil)⟩)⟩) rfl (by decide) (hx_in hx9_56) (hSFt.ca _ (by decide)) (fun qx => ?_)
      show V G K 5 3 18 20 [some (.ref (F.1 0)), some (.int (nI w)), some (.int x), some (.int y), none] [.ref qx] (flt [FW G F s u_])
      refine V.astore hC dL_ask_20 [some (.ref (F.1 0)), some (.int (nI w)), some (.int x), some (.int y), some (.ref qx)] (Nat.le_of_ble_eq_true rfl) rfl ?_
      refine V.sipush hC (-2005) dL_ask_22 rfl ?_
      exact hE 25 _ (-2005) u_ dL_ask_25 rfl ⟨(askV_x hx1_).symm, hx2_⟩
    · subst hv_
      refine VX.catch hC (E := "java/util/NoSuchElementException") (name := "java/util/NoSuchElementException") _ htab [⟨0, 7, 8, 52⟩, ⟨0, 7, 14, 54⟩, ⟨0, 7, 20, 56⟩] ⟨0, 7, 26, 60⟩ [] rfl (List.forall_mem_cons.mpr ⟨Or.inr ⟨by decide, _, (hx_in hx9_52), hSFt.nc _ _ (by decide) (by decide) (by decide)⟩, (List.forall_mem_cons.mpr ⟨Or.inr ⟨by decide, _, (hx_in hx9_54), hSFt.nc _ _ (by decide) (by decide) (by decide)⟩, (List.forall_mem_cons.mpr ⟨Or.inr ⟨by decide, _, (hx_in hx9_56), hSFt.nc _ _ (by decide) (by decide) (by decide)⟩, (fun z hz => absurd hz List.not_mem_nil)⟩)⟩)⟩) rfl (by decide) (hx_in hx9_60) (hSFt.ca _ (by decide)) (fun qx => ?_)
      show V G K 5 3 18 26 [some (.ref (F.1 0)), some (.int (nI w)), some (.int x), some (.int y), none] [.ref qx] (flt [FW G F s u_])
      refine V.astore hC dL_ask_26 [some (.ref (F.1 0)), some (.int (nI w)), some (.int x), some (.int y), some (.ref qx)] (Nat.le_of_ble_eq_true rfl) rfl ?_
      refine V.sipush hC (-2004) dL_ask_28 rfl ?_
      exact hE 31 _ (-2004) u_ dL_ask_31 rfl ⟨(askV_x hx1_).symm, hx2_⟩
  · show V G K 5 3 18 7 [some (.ref (F.1 0)), some (.int (nI w)), some (.int x), some (.int y), none] [.int r_4] (flt [FW G F s u_4])
    exact hE 7 _ r_4 u_4 dL_ask_7 rfl ⟨(askV_0 hp_4.1).symm, hp_4.2⟩
