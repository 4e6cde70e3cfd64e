/-! the document's model: its words, which word stands somewhere (printed by gen/s82.py) -/
section LDCS
variable {G : Gx} {K : Cx} {cc : ByteArray} {nL cells slots pc : Nat} {own : String} {Ts : List Cond} {rm : Room} {lv : List (Option Value)} {st : List Value} {ws : va_W}
theorem V.ldcS (hC : Cok G K cc nL own Ts rm) {tx : String} {index q : Nat} (hZ : vk_R own index tx q (ks K)) (hdg : decode cc pc = .ok (.ldc index, 2)) (h : V G K nL cells slots (pc + 2) lv (.ref q :: st) ws) : V G K nL cells slots pc lv st ws :=
  fun H locs ls hP hD hS hl => va_ldcS hC.1 hC.2.1 hC.2.2.2.1 hZ hdg (h H locs ls hP hD hS hl)
end LDCS
/-- the signs of the words -/
def nch (j : Nat) : Nat := nmL.getD j 0
def nby (j : Nat) : Int32 := (([nmL.map nI] : List (List Int32)).getD 0 []).getD j 0
theorem nby_of : ∀ j, j < 48 → ((nby j &&& 255).toUInt32 % 65536).toInt32 = nI (nch j) := by decide
theorem nch_nar : ∀ j, j < 48 → narrow .char (.int (nI (nch j))) = .int (nI (nch j)) := by decide
/-- where a word begins, how long it is -/
def stw (w : Nat) : Nat := ([0, 5, 10, 16, 21, 27, 33, 41, 48] : List Nat).getD w 48
def wl (w : Nat) : Nat := stw (w + 1) - stw w
theorem stw_le : ∀ w, w < 9 → stw w ≤ 48 := by decide
theorem wl_le : ∀ w, w < 8 → 5 ≤ wl w ∧ wl w ≤ 8 ∧ stw w + wl w ≤ 48 ∧ stw (w + 1) = stw w + wl w := by decide
theorem nch_chr : ∀ w, w < 8 → ∀ k, k < wl w → nch (stw w + k) = chr w k := by decide
theorem chr_w : ∀ w, w < 8 → ∀ k, k < wl w → ¬ chr w k = 35 ∧ ¬ chr w k = 37 := by decide
theorem chr_ne : ∀ w, w < 8 → ∀ i, i < 8 → i ≠ w → ∃ k, k < 3 ∧ chr i k ≠ chr w k := by decide
theorem lt9 {i : Nat} (h : i < 9) : i = 0 ∨ i = 1 ∨ i = 2 ∨ i = 3 ∨ i = 4 ∨ i = 5 ∨ i = 6 ∨ i = 7 ∨ i = 8 := by omega
/-- how far word w stands at sr, the first n of its signs looked at -/
def pfx (tf : Nat → Int32) (ln sr w : Nat) : Nat → Nat
  | 0 => 0
  | j + 1 => if pfx tf ln sr w j = j ∧ sgn tf ln (sr + j) = nI (chr w j) then j + 1 else pfx tf ln sr w j
theorem pfx_le (tf : Nat → Int32) (ln sr w : Nat) : ∀ n, pfx tf ln sr w n ≤ n
  | 0 => Nat.le_refl 0
  | n + 1 => by
    have := pfx_le tf ln sr w n
    rw [pfx]
    split <;> omega
theorem pfx_go {tf : Nat → Int32} {ln sr w j : Nat} (h : pfx tf ln sr w j = j) (h2 : sgn tf ln (sr + j) = nI (chr w j)) : pfx tf ln sr w (j + 1) = j + 1 := by rw [pfx, if_pos ⟨h, h2⟩]
theorem pfx_stop {tf : Nat → Int32} {ln sr w j : Nat} (h : pfx tf ln sr w j = j) (h2 : ¬ sgn tf ln (sr + j) = nI (chr w j)) : ∀ n, pfx tf ln sr w (j + n) = j
  | 0 => h
  | n + 1 => by
    have ih := pfx_stop h h2 n
    rw [← Nat.add_assoc, pfx]
    by_cases e : n = 0
    · subst e
      rw [if_neg (fun z => h2 z.2)]
      exact h
    · rw [if_neg (fun z => by omega)]
      exact ih
theorem pfx_end {tf : Nat → Int32} {ln sr w j n : Nat} (h : pfx tf ln sr w j = j) (h2 : ¬ sgn tf ln (sr + j) = nI (chr w j)) (hn : j ≤ n) : pfx tf ln sr w n = j := by
  have := pfx_stop h h2 (n - j)
  rw [show j + (n - j) = n by omega] at this
  exact this
/-- a word that stands so far has its signs there -/
theorem pfx_ch {tf : Nat → Int32} {ln sr w : Nat} : ∀ {n : Nat}, pfx tf ln sr w n = n → ∀ k, k < n → sgn tf ln (sr + k) = nI (chr w k)
  | n + 1, h, k, hk => by
    rw [pfx] at h
    by_cases q : pfx tf ln sr w n = n ∧ sgn tf ln (sr + n) = nI (chr w n)
    · by_cases e : k = n
      · subst e
        exact q.2
      · exact pfx_ch q.1 k (by omega)
    · rw [if_neg q] at h
      have := pfx_le tf ln sr w n
      omega
/-- how far a word can stand where its sign k is another -/
theorem pfx_lt {tf : Nat → Int32} {ln sr w k : Nat} (h : ¬ sgn tf ln (sr + k) = nI (chr w k)) : ∀ n, pfx tf ln sr w n ≤ k
  | 0 => Nat.zero_le _
  | n + 1 => by
    have ih := pfx_lt h n
    rw [pfx]
    split
    · rename_i q
      have : n ≠ k := fun e => h (by rw [← e]; exact q.2)
      omega
    · exact ih
/-- the first word that stands at sr, n looked at -/
def wkf (tf : Nat → Int32) (ln sr : Nat) : Nat → Option Nat
  | 0 => none
  | w + 1 => match wkf tf ln sr w with
    | some k => some k
    | none => if pfx tf ln sr w (wl w) = wl w then some w else none
/-- the furthest place that the first n words reach -/
def wkr (tf : Nat → Int32) (ln sr : Nat) : Nat → Nat
  | 0 => sr
  | w + 1 => max (wkr tf ln sr w) (sr + pfx tf ln sr w (wl w))
theorem wkf_y {tf : Nat → Int32} {ln sr w : Nat} (h : wkf tf ln sr w = none) (h2 : pfx tf ln sr w (wl w) = wl w) : wkf tf ln sr (w + 1) = some w := by rw [wkf, h]; exact if_pos h2
theorem wkf_n {tf : Nat → Int32} {ln sr w : Nat} (h : wkf tf ln sr w = none) (h2 : ¬ pfx tf ln sr w (wl w) = wl w) : wkf tf ln sr (w + 1) = none := by rw [wkf, h]; exact if_neg h2
theorem wkf_up {tf : Nat → Int32} {ln sr w k : Nat} (h : wkf tf ln sr w = some k) : ∀ n, wkf tf ln sr (w + n) = some k
  | 0 => h
  | n + 1 => by rw [← Nat.add_assoc, wkf, wkf_up h n]
theorem wkf_up8 {tf : Nat → Int32} {ln sr w k : Nat} (h : wkf tf ln sr w = some k) (hw : w ≤ 8) : wkf tf ln sr 8 = some k := by
  have := wkf_up h (8 - w)
  rw [show w + (8 - w) = 8 by omega] at this
  exact this
theorem wkf_some {tf : Nat → Int32} {ln sr : Nat} : ∀ {n k : Nat}, wkf tf ln sr n = some k → k < n ∧ pfx tf ln sr k (wl k) = wl k
  | n + 1, k, h => by
    rw [wkf] at h
    cases hx : wkf tf ln sr n with
    | some j =>
      rw [hx] at h
      cases h
      exact ⟨Nat.lt_succ_of_lt (wkf_some hx).1, (wkf_some hx).2⟩
    | none =>
      rw [hx] at h
      simp only at h
      split at h
      · rename_i h0
        cases h
        exact ⟨Nat.lt_succ_self _, h0⟩
      · cases h
theorem wkf_none {tf : Nat → Int32} {ln sr : Nat} : ∀ {n : Nat}, wkf tf ln sr n = none → ∀ k, k < n → ¬ pfx tf ln sr k (wl k) = wl k
  | n + 1, h, k, hk => by
    rw [wkf] at h
    cases hx : wkf tf ln sr n with
    | some j => rw [hx] at h; cases h
    | none =>
      rw [hx] at h
      simp only at h
      split at h
      · cases h
      · rename_i h0
        by_cases e : k = n
        · subst e
          exact h0
        · exact wkf_none hx k (by omega)
theorem wkr_le {tf : Nat → Int32} {ln sr : Nat} : ∀ n, n ≤ 8 → wkr tf ln sr n ≤ sr + 8
  | 0, _ => Nat.le_add_right _ _
  | n + 1, h => by
    have ih := wkr_le (tf := tf) (ln := ln) (sr := sr) n (by omega)
    have := pfx_le tf ln sr n (wl n)
    have := (wl_le n (by omega)).2.1
    rw [wkr]
    omega
theorem oI_some {o : Option Nat} (h : ¬ oI o = -1) : ∃ k, o = some k := by
  cases o with
  | none => exact absurd rfl h
  | some k => exact ⟨k, rfl⟩
theorem oI_none {o : Option Nat} {n : Nat} (h : oI o = -1) (ho : ∀ k, o = some k → k < n) (hn : n < 2 ^ 31) : o = none := by
  cases o with
  | none => rfl
  | some k => exact absurd h (nI_m1 (by have := ho k rfl; omega))
set_option maxHeartbeats 4000000 in
set_option maxRecDepth 100000 in
theorem c_isLatin1N (l : Launch) (G : Gx)  : Ct l G (SFt G) yJ0_isLatin1_aae02 wsJ0_isLatin1_aae02 ({ frames := 0, cells := 0, slots := 0, locals := 0 }) [.ref (adN G)] [] mkI (fun (r : Int32) (_ : Unit) => r = 1) (fun _ : Unit => []) 0 0 := by
  refine Ct.ofI (cc := cJ0_isLatin1_aae02) (maxL := 1) (by decide) rfl ⟨by simp [Value.category], Nat.le_of_ble_eq_true rfl⟩ ?_
  intro K hl hC hSF hnm hE
  subst hl
  have hgot := SFgoS (SFt.k G) hSF
  have hgo := SFgo.x hgot
  have hSFt := hSF
  replace hSF := hSF.1
  have q0_ : Cond.fieldLink RJ0 38 "java/lang/String" "COMPACT_STRINGS" "Z" ∈ wsJ0_isLatin1_aae02 := by decide +kernel
  have q1_ : Cond.fieldLink RJ0 15 "java/lang/String" "coder" "B" ∈ wsJ0_isLatin1_aae02 := by decide +kernel
  show V G K 1 0 0 0 [some (.ref (adN G))] [] []
  refine V.gets hC (n := "COMPACT_STRINGS") hSF.2.2.2.2.2.2.2.2.2.2.1 q0_ rfl dJ0_isLatin1_aae02_0 ?_
  refine V.ifN_eq hC 1 17 dJ0_isLatin1_aae02_3 rfl rfl (by omega) (fun c_3 => ?_) (fun c_3 => ?_)
  · exact absurd c_3 (by decide)
  · refine V.aload_n hC (x := adN G) dJ0_isLatin1_aae02_6 rfl ?_
    refine V.getOF hC (hSFt.2.1.2.2.2.2.2.2.1 0 (by decide)).2.1 q1_ rfl dJ0_isLatin1_aae02_7 ?_
    refine V.ifN_ne hC 0 17 dJ0_isLatin1_aae02_10 rfl rfl (by omega) (fun c_10 => ?_) (fun c_10 => ?_)
    · exact absurd rfl c_10
    · refine V.iconst hC 1 dJ0_isLatin1_aae02_13 rfl ?_
      refine V.goto hC 18 dJ0_isLatin1_aae02_14 rfl ?_
      exact hE 18 _ 1 () dJ0_isLatin1_aae02_18 rfl rfl

set_option maxHeartbeats 4000000 in
set_option maxRecDepth 100000 in
theorem c_latinAtN (l : Launch) (G : Gx) (j : Nat) (hj : j < 48) : Ct l G (SFt G) yJ1_charAt_3b067 wsJ1_charAt_3b067 ({ frames := 2, cells := 0, slots := 0, locals := 43 }) [.ref (adM G), .int (nI j)] [] mkI (fun (r : Int32) (_ : Unit) => r = nI (nch j)) (fun _ : Unit => []) 0 0 := by
  refine Ct.ofI (cc := cJ1_charAt_3b067) (maxL := 2) (by decide) rfl ⟨by simp [Value.category], Nat.le_of_ble_eq_true rfl⟩ ?_
  intro K hl hC hSF hnm hE
  subst hl
  have hgot := SFgoS (SFt.k G) hSF
  have hgo := SFgo.x hgot
  have hSFt := hSF
  replace hSF := hSF.1
  show V G K 2 0 0 0 [some (.ref (adM G)), some (.int (nI j))] [] []
  refine V.iload_n hC (x := nI j) dJ1_charAt_3b067_0 rfl ?_
  refine V.aload_n hC (x := adM G) dJ1_charAt_3b067_1 rfl ?_
  refine V.tlen hC (hSFt.2.1.2.2.2.2.2.2.1 0 (by decide)).2.2.2 48 rfl dJ1_charAt_3b067_2 ?_
  refine V.callSr (n := 2) (As := [.int (nI j), .int 48]) (rest := []) hC (c_checkIx0 (kl K) G j 48 hj (by decide)) (SFx.k G) hgo gJ1_charAt_3b067_J0_checkIndex_df160 rfl ⟨rfl, rfl⟩ (by decide +kernel) ⟨by decide, by decide, by decide, by decide⟩ [] rfl (by decide) rfl rfl (Nat.le_of_ble_eq_true rfl) dJ1_charAt_3b067_3 (fun r_3 u_3 hp_3 => ?_)
  show V G K 2 0 0 6 [some (.ref (adM G)), some (.int (nI j))] [] []
  refine V.aload_n hC (x := adM G) dJ1_charAt_3b067_6 rfl ?_
  refine V.iload_n hC (x := nI j) dJ1_charAt_3b067_7 rfl ?_
  refine V.tb hC (hSFt.2.1.2.2.2.2.2.2.1 0 (by decide)).2.2.2 dJ1_charAt_3b067_8 j rfl hj (by decide) (.int (nby j)) rfl ?_
  refine V.sipush hC 255 dJ1_charAt_3b067_9 rfl ?_
  refine V.iand hC dJ1_charAt_3b067_12 ?_
  refine V.i2c hC dJ1_charAt_3b067_13 ?_
  refine V.topeq (nI (nch j)) (nby_of j hj) ?_
  exact hE 14 _ (nI (nch j)) () dJ1_charAt_3b067_14 (nch_nar j hj) rfl

set_option maxHeartbeats 4000000 in
set_option maxRecDepth 100000 in
theorem c_charAtN (l : Launch) (G : Gx) (j : Nat) (hj : j < 48) : Ct l G (SFt G) yJ0_charAt_5068e wsJ0_charAt_5068e ({ frames := 3, cells := 0, slots := 0, locals := 64 }) [.ref (adN G), .int (nI j)] [] mkI (fun (r : Int32) (_ : Unit) => r = nI (nch j)) (fun _ : Unit => []) 0 0 := by
  refine Ct.ofI (cc := cJ0_charAt_5068e) (maxL := 2) (by decide) rfl ⟨by simp [Value.category], Nat.le_of_ble_eq_true rfl⟩ ?_
  intro K hl hC hSF hnm hE
  subst hl
  have hgot := SFgoS (SFt.k G) hSF
  have hgo := SFgo.x hgot
  have hSFt := hSF
  replace hSF := hSF.1
  have q0_ : Cond.fieldLink RJ0 9 "java/lang/String" "value" "[B" ∈ wsJ0_charAt_5068e := by decide +kernel
  show V G K 2 0 0 0 [some (.ref (adN G)), some (.int (nI j))] [] []
  refine V.aload_n hC (x := adN G) dJ0_charAt_5068e_0 rfl ?_
  refine V.callO (n := 0) (As := []) (rest := []) hC (c_isLatin1N (kl K) G) (SFt.k G) hgot (hSFt.2.1.2.2.2.2.2.2.1 0 (by decide)).1 gJ0_charAt_5068e_J0_isLatin1_aae02 rfl ⟨rfl, rfl⟩ (by decide +kernel) ⟨by decide, by decide, by decide, by decide⟩ [] rfl (by decide) (fun _ => rfl) rfl rfl (Nat.le_of_ble_eq_true rfl) dJ0_charAt_5068e_1 (fun r_1 u_1 hp_1 => ?_)
  subst hp_1
  show V G K 2 0 0 4 [some (.ref (adN G)), some (.int (nI j))] [.int (nI 1)] []
  refine V.ifN_eq hC 1 16 dJ0_charAt_5068e_4 rfl rfl (by omega) (fun c_4 => ?_) (fun c_4 => ?_)
  · exact absurd c_4 (by decide)
  · refine V.aload_n hC (x := adN G) dJ0_charAt_5068e_7 rfl ?_
    refine V.getOF hC (hSFt.2.1.2.2.2.2.2.2.1 0 (by decide)).2.2.1 q0_ rfl dJ0_charAt_5068e_8 ?_
    refine V.iload_n hC (x := nI j) dJ0_charAt_5068e_11 rfl ?_
    refine V.callSr (n := 2) (As := [.ref (adM G), .int (nI j)]) (rest := []) hC (c_latinAtN (kl K) G j hj) (SFt.k G) hgot gJ0_charAt_5068e_J1_charAt_3b067 rfl ⟨rfl, rfl⟩ (by decide +kernel) ⟨by decide, by decide, by decide, by decide⟩ [] rfl (by decide) rfl rfl (Nat.le_of_ble_eq_true rfl) dJ0_charAt_5068e_12 (fun r_12 u_12 hp_12 => ?_)
    subst hp_12
    show V G K 2 0 0 15 [some (.ref (adN G)), some (.int (nI j))] [.int (nI (nch j))] []
    exact hE 15 _ (nI (nch j)) () dJ0_charAt_5068e_15 (nch_nar j hj) rfl

set_option maxHeartbeats 4000000 in
set_option maxRecDepth 100000 in
theorem m_startOf0 (l : Launch) (G : Gx)  : Ct l G SF0 yX13_startOf wsX13_startOf ({ frames := 0, cells := 0, slots := 0, locals := 0 }) [.int (nI 0)] [] mkI (fun (r : Int32) (_ : Unit) => r = nI (stw 0)) (fun _ : Unit => []) 0 0 := by
  refine Ct.ofI (cc := cX13_startOf) (maxL := 1) (by decide) rfl ⟨by simp [Value.category], Nat.le_of_ble_eq_true rfl⟩ ?_
  intro K hl hC hSF hnm hE
  subst hl
  show V G K 1 0 0 0 [some (.int (nI 0))] [] []
  refine V.iload_n hC (x := nI 0) dX13_startOf_0 rfl ?_
  refine V.tableIn hC (x := nI 0) (off := 47) 48 dX13_startOf_1 (by decide) (by decide) (by decide) rfl ?_
  refine V.iconst hC 5 dX13_startOf_48 rfl ?_
  refine V.iload_n hC (x := nI 0) dX13_startOf_49 rfl ?_
  refine V.imulN hC 5 0 dX13_startOf_50 rfl rfl ?_
  exact hE 51 _ (nI (5 * 0)) () dX13_startOf_51 rfl (by decide)

set_option maxHeartbeats 4000000 in
set_option maxRecDepth 100000 in
theorem m_startOf1 (l : Launch) (G : Gx)  : Ct l G SF0 yX13_startOf wsX13_startOf ({ frames := 0, cells := 0, slots := 0, locals := 0 }) [.int (nI 1)] [] mkI (fun (r : Int32) (_ : Unit) => r = nI (stw 1)) (fun _ : Unit => []) 0 0 := by
  refine Ct.ofI (cc := cX13_startOf) (maxL := 1) (by decide) rfl ⟨by simp [Value.category], Nat.le_of_ble_eq_true rfl⟩ ?_
  intro K hl hC hSF hnm hE
  subst hl
  show V G K 1 0 0 0 [some (.int (nI 1))] [] []
  refine V.iload_n hC (x := nI 1) dX13_startOf_0 rfl ?_
  refine V.tableIn hC (x := nI 1) (off := 47) 48 dX13_startOf_1 (by decide) (by decide) (by decide) rfl ?_
  refine V.iconst hC 5 dX13_startOf_48 rfl ?_
  refine V.iload_n hC (x := nI 1) dX13_startOf_49 rfl ?_
  refine V.imulN hC 5 1 dX13_startOf_50 rfl rfl ?_
  exact hE 51 _ (nI (5 * 1)) () dX13_startOf_51 rfl (by decide)

set_option maxHeartbeats 4000000 in
set_option maxRecDepth 100000 in
theorem m_startOf2 (l : Launch) (G : Gx)  : Ct l G SF0 yX13_startOf wsX13_startOf ({ frames := 0, cells := 0, slots := 0, locals := 0 }) [.int (nI 2)] [] mkI (fun (r : Int32) (_ : Unit) => r = nI (stw 2)) (fun _ : Unit => []) 0 0 := by
  refine Ct.ofI (cc := cX13_startOf) (maxL := 1) (by decide) rfl ⟨by simp [Value.category], Nat.le_of_ble_eq_true rfl⟩ ?_
  intro K hl hC hSF hnm hE
  subst hl
  show V G K 1 0 0 0 [some (.int (nI 2))] [] []
  refine V.iload_n hC (x := nI 2) dX13_startOf_0 rfl ?_
  refine V.tableIn hC (x := nI 2) (off := 47) 48 dX13_startOf_1 (by decide) (by decide) (by decide) rfl ?_
  refine V.iconst hC 5 dX13_startOf_48 rfl ?_
  refine V.iload_n hC (x := nI 2) dX13_startOf_49 rfl ?_
  refine V.imulN hC 5 2 dX13_startOf_50 rfl rfl ?_
  exact hE 51 _ (nI (5 * 2)) () dX13_startOf_51 rfl (by decide)

set_option maxHeartbeats 4000000 in
set_option maxRecDepth 100000 in
theorem m_startOf3 (l : Launch) (G : Gx)  : Ct l G SF0 yX13_startOf wsX13_startOf ({ frames := 0, cells := 0, slots := 0, locals := 0 }) [.int (nI 3)] [] mkI (fun (r : Int32) (_ : Unit) => r = nI (stw 3)) (fun _ : Unit => []) 0 0 := by
  refine Ct.ofI (cc := cX13_startOf) (maxL := 1) (by decide) rfl ⟨by simp [Value.category], Nat.le_of_ble_eq_true rfl⟩ ?_
  intro K hl hC hSF hnm hE
  subst hl
  show V G K 1 0 0 0 [some (.int (nI 3))] [] []
  refine V.iload_n hC (x := nI 3) dX13_startOf_0 rfl ?_
  refine V.tableIn hC (x := nI 3) (off := 51) 52 dX13_startOf_1 (by decide) (by decide) (by decide) rfl ?_
  refine V.bipush hC 16 dX13_startOf_52 rfl ?_
  exact hE 54 _ 16 () dX13_startOf_54 rfl (by decide)

set_option maxHeartbeats 4000000 in
set_option maxRecDepth 100000 in
theorem m_startOf4 (l : Launch) (G : Gx)  : Ct l G SF0 yX13_startOf wsX13_startOf ({ frames := 0, cells := 0, slots := 0, locals := 0 }) [.int (nI 4)] [] mkI (fun (r : Int32) (_ : Unit) => r = nI (stw 4)) (fun _ : Unit => []) 0 0 := by
  refine Ct.ofI (cc := cX13_startOf) (maxL := 1) (by decide) rfl ⟨by simp [Value.category], Nat.le_of_ble_eq_true rfl⟩ ?_
  intro K hl hC hSF hnm hE
  subst hl
  show V G K 1 0 0 0 [some (.int (nI 4))] [] []
  refine V.iload_n hC (x := nI 4) dX13_startOf_0 rfl ?_
  refine V.tableIn hC (x := nI 4) (off := 54) 55 dX13_startOf_1 (by decide) (by decide) (by decide) rfl ?_
  refine V.bipush hC 21 dX13_startOf_55 rfl ?_
  refine V.bipush hC 6 dX13_startOf_57 rfl ?_
  refine V.iload_n hC (x := nI 4) dX13_startOf_59 rfl ?_
  refine V.iconst hC 4 dX13_startOf_60 rfl ?_
  refine V.isubN hC 4 4 dX13_startOf_61 rfl rfl (by decide) ?_
  refine V.imulN hC 6 (4 - 4) dX13_startOf_62 rfl rfl ?_
  refine V.iaddN hC 21 (6 * (4 - 4)) dX13_startOf_63 rfl rfl ?_
  exact hE 64 _ (nI (21 + (6 * (4 - 4)))) () dX13_startOf_64 rfl (by decide)

set_option maxHeartbeats 4000000 in
set_option maxRecDepth 100000 in
theorem m_startOf5 (l : Launch) (G : Gx)  : Ct l G SF0 yX13_startOf wsX13_startOf ({ frames := 0, cells := 0, slots := 0, locals := 0 }) [.int (nI 5)] [] mkI (fun (r : Int32) (_ : Unit) => r = nI (stw 5)) (fun _ : Unit => []) 0 0 := by
  refine Ct.ofI (cc := cX13_startOf) (maxL := 1) (by decide) rfl ⟨by simp [Value.category], Nat.le_of_ble_eq_true rfl⟩ ?_
  intro K hl hC hSF hnm hE
  subst hl
  show V G K 1 0 0 0 [some (.int (nI 5))] [] []
  refine V.iload_n hC (x := nI 5) dX13_startOf_0 rfl ?_
  refine V.tableIn hC (x := nI 5) (off := 54) 55 dX13_startOf_1 (by decide) (by decide) (by decide) rfl ?_
  refine V.bipush hC 21 dX13_startOf_55 rfl ?_
  refine V.bipush hC 6 dX13_startOf_57 rfl ?_
  refine V.iload_n hC (x := nI 5) dX13_startOf_59 rfl ?_
  refine V.iconst hC 4 dX13_startOf_60 rfl ?_
  refine V.isubN hC 5 4 dX13_startOf_61 rfl rfl (by decide) ?_
  refine V.imulN hC 6 (5 - 4) dX13_startOf_62 rfl rfl ?_
  refine V.iaddN hC 21 (6 * (5 - 4)) dX13_startOf_63 rfl rfl ?_
  exact hE 64 _ (nI (21 + (6 * (5 - 4)))) () dX13_startOf_64 rfl (by decide)

set_option maxHeartbeats 4000000 in
set_option maxRecDepth 100000 in
theorem m_startOf6 (l : Launch) (G : Gx)  : Ct l G SF0 yX13_startOf wsX13_startOf ({ frames := 0, cells := 0, slots := 0, locals := 0 }) [.int (nI 6)] [] mkI (fun (r : Int32) (_ : Unit) => r = nI (stw 6)) (fun _ : Unit => []) 0 0 := by
  refine Ct.ofI (cc := cX13_startOf) (maxL := 1) (by decide) rfl ⟨by simp [Value.category], Nat.le_of_ble_eq_true rfl⟩ ?_
  intro K hl hC hSF hnm hE
  subst hl
  show V G K 1 0 0 0 [some (.int (nI 6))] [] []
  refine V.iload_n hC (x := nI 6) dX13_startOf_0 rfl ?_
  refine V.tableIn hC (x := nI 6) (off := 54) 55 dX13_startOf_1 (by decide) (by decide) (by decide) rfl ?_
  refine V.bipush hC 21 dX13_startOf_55 rfl ?_
  refine V.bipush hC 6 dX13_startOf_57 rfl ?_
  refine V.iload_n hC (x := nI 6) dX13_startOf_59 rfl ?_
  refine V.iconst hC 4 dX13_startOf_60 rfl ?_
  refine V.isubN hC 6 4 dX13_startOf_61 rfl rfl (by decide) ?_
  refine V.imulN hC 6 (6 - 4) dX13_startOf_62 rfl rfl ?_
  refine V.iaddN hC 21 (6 * (6 - 4)) dX13_startOf_63 rfl rfl ?_
  exact hE 64 _ (nI (21 + (6 * (6 - 4)))) () dX13_startOf_64 rfl (by decide)

set_option maxHeartbeats 4000000 in
set_option maxRecDepth 100000 in
theorem m_startOf7 (l : Launch) (G : Gx)  : Ct l G SF0 yX13_startOf wsX13_startOf ({ frames := 0, cells := 0, slots := 0, locals := 0 }) [.int (nI 7)] [] mkI (fun (r : Int32) (_ : Unit) => r = nI (stw 7)) (fun _ : Unit => []) 0 0 := by
  refine Ct.ofI (cc := cX13_startOf) (maxL := 1) (by decide) rfl ⟨by simp [Value.category], Nat.le_of_ble_eq_true rfl⟩ ?_
  intro K hl hC hSF hnm hE
  subst hl
  show V G K 1 0 0 0 [some (.int (nI 7))] [] []
  refine V.iload_n hC (x := nI 7) dX13_startOf_0 rfl ?_
  refine V.tableIn hC (x := nI 7) (off := 64) 65 dX13_startOf_1 (by decide) (by decide) (by decide) rfl ?_
  refine V.bipush hC 41 dX13_startOf_65 rfl ?_
  exact hE 67 _ 41 () dX13_startOf_67 rfl (by decide)

set_option maxHeartbeats 4000000 in
set_option maxRecDepth 100000 in
theorem m_startOf8 (l : Launch) (G : Gx)  : Ct l G SF0 yX13_startOf wsX13_startOf ({ frames := 0, cells := 0, slots := 0, locals := 0 }) [.int (nI 8)] [] mkI (fun (r : Int32) (_ : Unit) => r = nI (stw 8)) (fun _ : Unit => []) 0 0 := by
  refine Ct.ofI (cc := cX13_startOf) (maxL := 1) (by decide) rfl ⟨by simp [Value.category], Nat.le_of_ble_eq_true rfl⟩ ?_
  intro K hl hC hSF hnm hE
  subst hl
  show V G K 1 0 0 0 [some (.int (nI 8))] [] []
  refine V.iload_n hC (x := nI 8) dX13_startOf_0 rfl ?_
  refine V.tableOut hC (x := nI 8) 68 dX13_startOf_1 (by decide) rfl ?_
  refine V.bipush hC 48 dX13_startOf_68 rfl ?_
  exact hE 70 _ 48 () dX13_startOf_70 rfl (by decide)

theorem m_startOf (l : Launch) (G : Gx) (w : Nat) (hw : w < 9) : Ct l G SF0 yX13_startOf wsX13_startOf ({ frames := 0, cells := 0, slots := 0, locals := 0 }) [.int (nI w)] [] mkI (fun (r : Int32) (_ : Unit) => r = nI (stw w)) (fun _ : Unit => []) 0 0 := by
  obtain rfl | rfl | rfl | rfl | rfl | rfl | rfl | rfl | rfl := lt9 hw
  · exact m_startOf0 l G
  · exact m_startOf1 l G
  · exact m_startOf2 l G
  · exact m_startOf3 l G
  · exact m_startOf4 l G
  · exact m_startOf5 l G
  · exact m_startOf6 l G
  · exact m_startOf7 l G
  · exact m_startOf8 l G
set_option maxHeartbeats 4000000 in
set_option maxRecDepth 100000 in
theorem m_kindHere (l : Launch) (G : Gx) (m nw bf sv hy tx li nmb : Nat) (iS rmb eA fA tyd ldd thr tld : Int32) (ln sr : Nat) (hln : ln ≤ 60) (hsr : sr ≤ ln) (τ : Nat → Int32) : Ct l G (SFt G) yX13_kindHere wsX13_kindHere ({ frames := 4, cells := 0, slots := 0, locals := 85 }) [.ref m] [(m, .inr (13, [.ref nw, .ref bf, .ref sv, .ref hy, .int iS, .int rmb, .int eA, .int fA, .ref tx, .int tyd, .ref li, .int ldd, .int thr, .int (nI ln), .int (nI sr), .int (-1), .int tld, .ref nmb])), (tx, .inl (gI G, 60, .inl τ))] mkI (fun (r : Int32) (u : Nat × Int32) => (∃ k, wkf τ ln sr 8 = some k ∧ r = nI k ∧ u.1 = sr + wl k ∧ u.2 = -1) ∨ (wkf τ ln sr 8 = none ∧ r = -1 ∧ u.1 = sr ∧ u.2 = nI (wkr τ ln sr 8))) (fun u : Nat × Int32 => [(m, .inr (13, [.ref nw, .ref bf, .ref sv, .ref hy, .int iS, .int rmb, .int eA, .int fA, .ref tx, .int tyd, .ref li, .int ldd, .int thr, .int (nI ln), .int (nI (u.1)), .int (u.2), .int tld, .ref nmb])), (tx, .inl (gI G, 60, .inl τ))]) 0 0 := by
  refine Ct.ofI (cc := cX13_kindHere) (maxL := 6) (by decide) rfl ⟨by simp [Value.category], Nat.le_of_ble_eq_true rfl⟩ ?_
  intro K hl hC hSF hnm hE
  subst hl
  have hgot := SFgoS (SFt.k G) hSF
  have hgo := SFgo.x hgot
  have hSFt := hSF
  replace hSF := hSF.1
  have q0_ : ∀ w ∈ u_ws RX13 TX13 18, w ∈ wsX13_kindHere := by decide +kernel
  have q1_ : Cond.fieldLink RX13 188 "FeatherSharesModel" "spot" "I" ∈ wsX13_kindHere := by decide +kernel
  have q2_ : Cond.fieldLink RX13 194 "FeatherSharesModel" "wrong" "I" ∈ wsX13_kindHere := by decide +kernel
  have q3_ : Cond.methodLink RX13 71 Lib.Math.max.name ∈ wsX13_kindHere := by decide +kernel
  have q4_ : Cond.static Lib.Math.max.name ∈ wsX13_kindHere := by decide +kernel
  have q5_ : Cond.initialized "java/lang/Math" ∈ wsX13_kindHere := by decide +kernel
  have q6_ : Cond.code Lib.Math.max.name Lib.Math.max.code 2 (some .int) ∈ wsX13_kindHere := by decide +kernel
  have q7_ : Cond.fieldLink RX13 191 "FeatherSharesModel" "size" "I" ∈ wsX13_kindHere := by decide +kernel
  have q8_ : Cond.fieldLink RX13 29 "FeatherSharesModel" "text" "[I" ∈ wsX13_kindHere := by decide +kernel
  show V G K 6 0 0 0 [some (.ref m), none, none, none, none, none] [] [(m, .inr (13, [.ref nw, .ref bf, .ref sv, .ref hy, .int iS, .int rmb, .int eA, .int fA, .ref tx, .int tyd, .ref li, .int ldd, .int thr, .int (nI ln), .int (nI sr), .int (-1), .int tld, .ref nmb])), (tx, .inl (gI G, 60, .inl τ))]
  refine V.aload_n hC (x := m) dX13_kindHere_0 rfl ?_
  refine V.getf hC (T := TX13) q0_ 14 q1_ rfl (0) rfl rfl (by decide) (.int (nI sr)) rfl dX13_kindHere_1 ?_
  refine V.istore_n hC dX13_kindHere_4 [some (.ref m), some (.int (nI sr)), none, none, none, none] (Nat.le_of_ble_eq_true rfl) rfl ?_
  refine V.iconst hC (-1) dX13_kindHere_5 rfl ?_
  refine V.istore_n hC dX13_kindHere_6 [some (.ref m), some (.int (nI sr)), some (.int (-1)), none, none, none] (Nat.le_of_ble_eq_true rfl) rfl ?_
  refine V.lset 2 (x := .int (-1)) (y := .int (oI (wkf τ ln sr 0))) (congrArg Value.int rfl) rfl (lv' := [some (.ref m), some (.int (nI sr)), some (.int (oI (wkf τ ln sr 0))), none, none, none]) rfl ?_
  refine V.iconst hC 0 dX13_kindHere_7 rfl ?_
  refine V.istore_n hC dX13_kindHere_8 [some (.ref m), some (.int (nI sr)), some (.int (oI (wkf τ ln sr 0))), some (.int 0), none, none] (Nat.le_of_ble_eq_true rfl) rfl ?_
  have loop9 : ∀ (n : Nat) (w : Nat), 8 - w < n → (w ≤ 8) → V G K 6 0 0 9 [some (.ref m), some (.int (nI (wkr τ ln sr w))), some (.int (oI (wkf τ ln sr w))), some (.int (nI w)), none, none] [] [(m, .inr (13, [.ref nw, .ref bf, .ref sv, .ref hy, .int iS, .int rmb, .int eA, .int fA, .ref tx, .int tyd, .ref li, .int ldd, .int thr, .int (nI ln), .int (nI sr), .int (-1), .int tld, .ref nmb])), (tx, .inl (gI G, 60, .inl τ))] := by
    intro n
    induction n with
    | zero => intro w hlt; exact absurd hlt (Nat.not_lt_zero _)
    | succ n ih9 =>
      intro w hlt9 hw
      have hkr := wkr_le (tf := τ) (ln := ln) (sr := sr) w hw
      refine V.iload_n hC (x := nI w) dX13_kindHere_9 rfl ?_
      refine V.bipush hC 8 dX13_kindHere_10 rfl ?_
      refine V.icmpN_ge hC w 8 121 dX13_kindHere_12 rfl rfl rfl (by omega) (by omega) (fun c_12 => ?_) (fun c_12 => ?_)
      · have hw8 : w = 8 := by omega
        have hkw : wkf τ ln sr w = wkf τ ln sr 8 := by rw [hw8]
        rcases hk8 : wkf τ ln sr 8 with _ | k
        · refine V.lset 2 (x := .int (oI (wkf τ ln sr w))) (y := .int (-1)) (congrArg Value.int (by rw [hkw, hk8]; rfl)) rfl (lv' := [some (.ref m), some (.int (nI (wkr τ ln sr w))), some (.int (-1)), some (.int (nI w)), none, none]) rfl ?_
          refine V.lset 1 (x := .int (nI (wkr τ ln sr w))) (y := .int (nI (wkr τ ln sr 8))) (congrArg Value.int (by rw [hw8])) rfl (lv' := [some (.ref m), some (.int (nI (wkr τ ln sr 8))), some (.int (-1)), some (.int (nI w)), none, none]) rfl ?_
          refine V.aload_n hC (x := m) dX13_kindHere_121 rfl ?_
          refine V.iload_n hC (x := -1) dX13_kindHere_122 rfl ?_
          refine V.iconst hC (-1) dX13_kindHere_123 rfl ?_
          refine V.icmp_ne hC 131 dX13_kindHere_124 rfl (fun c_124 => ?_) (fun c_124 => ?_)
          · exact absurd rfl c_124
          · refine V.iload_n hC (x := nI (wkr τ ln sr 8)) dX13_kindHere_127 rfl ?_
            refine V.goto hC 135 dX13_kindHere_128 rfl ?_
            refine V.putf hC (T := TX13) q0_ tyX13 tyX13_ok nmX13 15 q2_ rfl rfl (0) rfl rfl (by decide) (by simp) rfl rfl dX13_kindHere_135 [(m, .inr (13, [.ref nw, .ref bf, .ref sv, .ref hy, .int iS, .int rmb, .int eA, .int fA, .ref tx, .int tyd, .ref li, .int ldd, .int thr, .int (nI ln), .int (nI sr), .int (nI (wkr τ ln sr 8)), .int tld, .ref nmb])), (tx, .inl (gI G, 60, .inl τ))] rfl ?_
            refine V.aload_n hC (x := m) dX13_kindHere_138 rfl ?_
            refine V.dup hC dX13_kindHere_139 rfl ?_
            refine V.getf hC (T := TX13) q0_ 14 q1_ rfl (0) rfl rfl (by decide) (.int (nI sr)) rfl dX13_kindHere_140 ?_
            refine V.iload_n hC (x := -1) dX13_kindHere_143 rfl ?_
            refine V.iconst hC (-1) dX13_kindHere_144 rfl ?_
            refine V.icmp_ne hC 152 dX13_kindHere_145 rfl (fun c_145 => ?_) (fun c_145 => ?_)
            · exact absurd rfl c_145
            · refine V.iconst hC 0 dX13_kindHere_148 rfl ?_
              refine V.goto hC 163 dX13_kindHere_149 rfl ?_
              refine V.iaddN hC sr 0 dX13_kindHere_163 rfl rfl ?_
              refine V.putf hC (T := TX13) q0_ tyX13 tyX13_ok nmX13 14 q1_ rfl rfl (0) rfl rfl (by decide) (by simp) rfl rfl dX13_kindHere_164 [(m, .inr (13, [.ref nw, .ref bf, .ref sv, .ref hy, .int iS, .int rmb, .int eA, .int fA, .ref tx, .int tyd, .ref li, .int ldd, .int thr, .int (nI ln), .int (nI (sr + 0)), .int (nI (wkr τ ln sr 8)), .int tld, .ref nmb])), (tx, .inl (gI G, 60, .inl τ))] rfl ?_
              refine V.iload_n hC (x := -1) dX13_kindHere_167 rfl ?_
              exact hE 168 _ (-1) (sr, nI (wkr τ ln sr 8)) dX13_kindHere_168 rfl (Or.inr ⟨hk8, rfl, rfl, rfl⟩)
        · have hks := wkf_some hk8
          refine V.lset 2 (x := .int (oI (wkf τ ln sr w))) (y := .int (nI k)) (congrArg Value.int (by rw [hkw, hk8]; rfl)) rfl (lv' := [some (.ref m), some (.int (nI (wkr τ ln sr w))), some (.int (nI k)), some (.int (nI w)), none, none]) rfl ?_
          refine V.aload_n hC (x := m) dX13_kindHere_121 rfl ?_
          refine V.iload_n hC (x := nI k) dX13_kindHere_122 rfl ?_
          refine V.iconst hC (-1) dX13_kindHere_123 rfl ?_
          refine V.icmp_ne hC 131 dX13_kindHere_124 rfl (fun c_124 => ?_) (fun c_124 => ?_)
          · refine V.aload_n hC (x := m) dX13_kindHere_131 rfl ?_
            refine V.getf hC (T := TX13) q0_ 15 q2_ rfl (0) rfl rfl (by decide) (.int (-1)) rfl dX13_kindHere_132 ?_
            refine V.putf hC (T := TX13) q0_ tyX13 tyX13_ok nmX13 15 q2_ rfl rfl (0) rfl rfl (by decide) (by simp) rfl rfl dX13_kindHere_135 [(m, .inr (13, [.ref nw, .ref bf, .ref sv, .ref hy, .int iS, .int rmb, .int eA, .int fA, .ref tx, .int tyd, .ref li, .int ldd, .int thr, .int (nI ln), .int (nI sr), .int (-1), .int tld, .ref nmb])), (tx, .inl (gI G, 60, .inl τ))] rfl ?_
            refine V.aload_n hC (x := m) dX13_kindHere_138 rfl ?_
            refine V.dup hC dX13_kindHere_139 rfl ?_
            refine V.getf hC (T := TX13) q0_ 14 q1_ rfl (0) rfl rfl (by decide) (.int (nI sr)) rfl dX13_kindHere_140 ?_
            refine V.iload_n hC (x := nI k) dX13_kindHere_143 rfl ?_
            refine V.iconst hC (-1) dX13_kindHere_144 rfl ?_
            refine V.icmp_ne hC 152 dX13_kindHere_145 rfl (fun c_145 => ?_) (fun c_145 => ?_)
            · refine V.iload_n hC (x := nI k) dX13_kindHere_152 rfl ?_
              refine V.iconst hC 1 dX13_kindHere_153 rfl ?_
              refine V.iaddN hC k 1 dX13_kindHere_154 rfl rfl ?_
              refine V.callSr (n := 1) (As := [.int (nI (k + 1))]) (rest := [.int (nI sr), .ref m]) hC (m_startOf (kl K) G (k + 1) (by omega)) SFk0 SFgo0 gX13_kindHere_X13_startOf rfl ⟨rfl, rfl⟩ (by decide +kernel) ⟨by decide, by decide, by decide, by decide⟩ [] rfl (by decide) rfl rfl (Nat.le_of_ble_eq_true rfl) dX13_kindHere_155 (fun r_155 u_155 hp_155 => ?_)
              subst hp_155
              show V G K 6 0 0 158 [some (.ref m), some (.int (nI (wkr τ ln sr w))), some (.int (nI k)), some (.int (nI w)), none, none] [.int (nI (stw (k + 1))), .int (nI sr), .ref m] [(m, .inr (13, [.ref nw, .ref bf, .ref sv, .ref hy, .int iS, .int rmb, .int eA, .int fA, .ref tx, .int tyd, .ref li, .int ldd, .int thr, .int (nI ln), .int (nI sr), .int (-1), .int tld, .ref nmb])), (tx, .inl (gI G, 60, .inl τ))]
              refine V.iload_n hC (x := nI k) dX13_kindHere_158 rfl ?_
              refine V.callSr (n := 1) (As := [.int (nI k)]) (rest := [.int (nI (stw (k + 1))), .int (nI sr), .ref m]) hC (m_startOf (kl K) G k (by omega)) SFk0 SFgo0 gX13_kindHere_X13_startOf rfl ⟨rfl, rfl⟩ (by decide +kernel) ⟨by decide, by decide, by decide, by decide⟩ [] rfl (by decide) rfl rfl (Nat.le_of_ble_eq_true rfl) dX13_kindHere_159 (fun r_159 u_159 hp_159 => ?_)
              subst hp_159
              show V G K 6 0 0 162 [some (.ref m), some (.int (nI (wkr τ ln sr w))), some (.int (nI k)), some (.int (nI w)), none, none] [.int (nI (stw k)), .int (nI (stw (k + 1))), .int (nI sr), .ref m] [(m, .inr (13, [.ref nw, .ref bf, .ref sv, .ref hy, .int iS, .int rmb, .int eA, .int fA, .ref tx, .int tyd, .ref li, .int ldd, .int thr, .int (nI ln), .int (nI sr), .int (-1), .int tld, .ref nmb])), (tx, .inl (gI G, 60, .inl τ))]
              refine V.isubN hC (stw (k + 1)) (stw k) dX13_kindHere_162 rfl rfl (by have := wl_le k hks.1; omega) ?_
              refine V.topeq (nI (wl k)) (congrArg nI (show stw (k + 1) - stw k = wl k from rfl)) ?_
              refine V.iaddN hC sr (wl k) dX13_kindHere_163 rfl rfl ?_
              refine V.putf hC (T := TX13) q0_ tyX13 tyX13_ok nmX13 14 q1_ rfl rfl (0) rfl rfl (by decide) (by simp) rfl rfl dX13_kindHere_164 [(m, .inr (13, [.ref nw, .ref bf, .ref sv, .ref hy, .int iS, .int rmb, .int eA, .int fA, .ref tx, .int tyd, .ref li, .int ldd, .int thr, .int (nI ln), .int (nI (sr + (wl k))), .int (-1), .int tld, .ref nmb])), (tx, .inl (gI G, 60, .inl τ))] rfl ?_
              refine V.iload_n hC (x := nI k) dX13_kindHere_167 rfl ?_
              exact hE 168 _ (nI k) (sr + wl k, -1) dX13_kindHere_168 rfl (Or.inl ⟨k, hk8, rfl, rfl, rfl⟩)
            · exact absurd c_145 (nI_m1 (by omega))
          · exact absurd c_124 (nI_m1 (by omega))
      · refine V.iload_n hC (x := oI (wkf τ ln sr w)) dX13_kindHere_15 rfl ?_
        refine V.iconst hC (-1) dX13_kindHere_16 rfl ?_
        refine V.icmp_ne hC 121 dX13_kindHere_17 rfl (fun c_17 => ?_) (fun c_17 => ?_)
        · obtain ⟨k, hkk⟩ := oI_some c_17
          have hk8 := wkf_up8 hkk hw
          have hks := wkf_some hk8
          refine V.lset 2 (x := .int (oI (wkf τ ln sr w))) (y := .int (nI k)) (congrArg Value.int (by rw [hkk]; rfl)) rfl (lv' := [some (.ref m), some (.int (nI (wkr τ ln sr w))), some (.int (nI k)), some (.int (nI w)), none, none]) rfl ?_
          refine V.aload_n hC (x := m) dX13_kindHere_121 rfl ?_
          refine V.iload_n hC (x := nI k) dX13_kindHere_122 rfl ?_
          refine V.iconst hC (-1) dX13_kindHere_123 rfl ?_
          refine V.icmp_ne hC 131 dX13_kindHere_124 rfl (fun c_124 => ?_) (fun c_124 => ?_)
          · refine V.aload_n hC (x := m) dX13_kindHere_131 rfl ?_
            refine V.getf hC (T := TX13) q0_ 15 q2_ rfl (0) rfl rfl (by decide) (.int (-1)) rfl dX13_kindHere_132 ?_
            refine V.putf hC (T := TX13) q0_ tyX13 tyX13_ok nmX13 15 q2_ rfl rfl (0) rfl rfl (by decide) (by simp) rfl rfl dX13_kindHere_135 [(m, .inr (13, [.ref nw, .ref bf, .ref sv, .ref hy, .int iS, .int rmb, .int eA, .int fA, .ref tx, .int tyd, .ref li, .int ldd, .int thr, .int (nI ln), .int (nI sr), .int (-1), .int tld, .ref nmb])), (tx, .inl (gI G, 60, .inl τ))] rfl ?_
            refine V.aload_n hC (x := m) dX13_kindHere_138 rfl ?_
            refine V.dup hC dX13_kindHere_139 rfl ?_
            refine V.getf hC (T := TX13) q0_ 14 q1_ rfl (0) rfl rfl (by decide) (.int (nI sr)) rfl dX13_kindHere_140 ?_
            refine V.iload_n hC (x := nI k) dX13_kindHere_143 rfl ?_
            refine V.iconst hC (-1) dX13_kindHere_144 rfl ?_
            refine V.icmp_ne hC 152 dX13_kindHere_145 rfl (fun c_145 => ?_) (fun c_145 => ?_)
            · refine V.iload_n hC (x := nI k) dX13_kindHere_152 rfl ?_
              refine V.iconst hC 1 dX13_kindHere_153 rfl ?_
              refine V.iaddN hC k 1 dX13_kindHere_154 rfl rfl ?_
              refine V.callSr (n := 1) (As := [.int (nI (k + 1))]) (rest := [.int (nI sr), .ref m]) hC (m_startOf (kl K) G (k + 1) (by omega)) SFk0 SFgo0 gX13_kindHere_X13_startOf rfl ⟨rfl, rfl⟩ (by decide +kernel) ⟨by decide, by decide, by decide, by decide⟩ [] rfl (by decide) rfl rfl (Nat.le_of_ble_eq_true rfl) dX13_kindHere_155 (fun r_155 u_155 hp_155 => ?_)
              subst hp_155
              show V G K 6 0 0 158 [some (.ref m), some (.int (nI (wkr τ ln sr w))), some (.int (nI k)), some (.int (nI w)), none, none] [.int (nI (stw (k + 1))), .int (nI sr), .ref m] [(m, .inr (13, [.ref nw, .ref bf, .ref sv, .ref hy, .int iS, .int rmb, .int eA, .int fA, .ref tx, .int tyd, .ref li, .int ldd, .int thr, .int (nI ln), .int (nI sr), .int (-1), .int tld, .ref nmb])), (tx, .inl (gI G, 60, .inl τ))]
              refine V.iload_n hC (x := nI k) dX13_kindHere_158 rfl ?_
              refine V.callSr (n := 1) (As := [.int (nI k)]) (rest := [.int (nI (stw (k + 1))), .int (nI sr), .ref m]) hC (m_startOf (kl K) G k (by omega)) SFk0 SFgo0 gX13_kindHere_X13_startOf rfl ⟨rfl, rfl⟩ (by decide +kernel) ⟨by decide, by decide, by decide, by decide⟩ [] rfl (by decide) rfl rfl (Nat.le_of_ble_eq_true rfl) dX13_kindHere_159 (fun r_159 u_159 hp_159 => ?_)
              subst hp_159
              show V G K 6 0 0 162 [some (.ref m), some (.int (nI (wkr τ ln sr w))), some (.int (nI k)), some (.int (nI w)), none, none] [.int (nI (stw k)), .int (nI (stw (k + 1))), .int (nI sr), .ref m] [(m, .inr (13, [.ref nw, .ref bf, .ref sv, .ref hy, .int iS, .int rmb, .int eA, .int fA, .ref tx, .int tyd, .ref li, .int ldd, .int thr, .int (nI ln), .int (nI sr), .int (-1), .int tld, .ref nmb])), (tx, .inl (gI G, 60, .inl τ))]
              refine V.isubN hC (stw (k + 1)) (stw k) dX13_kindHere_162 rfl rfl (by have := wl_le k hks.1; omega) ?_
              refine V.topeq (nI (wl k)) (congrArg nI (show stw (k + 1) - stw k = wl k from rfl)) ?_
              refine V.iaddN hC sr (wl k) dX13_kindHere_163 rfl rfl ?_
              refine V.putf hC (T := TX13) q0_ tyX13 tyX13_ok nmX13 14 q1_ rfl rfl (0) rfl rfl (by decide) (by simp) rfl rfl dX13_kindHere_164 [(m, .inr (13, [.ref nw, .ref bf, .ref sv, .ref hy, .int iS, .int rmb, .int eA, .int fA, .ref tx, .int tyd, .ref li, .int ldd, .int thr, .int (nI ln), .int (nI (sr + (wl k))), .int (-1), .int tld, .ref nmb])), (tx, .inl (gI G, 60, .inl τ))] rfl ?_
              refine V.iload_n hC (x := nI k) dX13_kindHere_167 rfl ?_
              exact hE 168 _ (nI k) (sr + wl k, -1) dX13_kindHere_168 rfl (Or.inl ⟨k, hk8, rfl, rfl, rfl⟩)
            · exact absurd c_145 (nI_m1 (by omega))
          · exact absurd c_124 (nI_m1 (by omega))
        · have hwn := oI_none c_17 (fun k h => (wkf_some h).1) (n := w) (by omega)
          have hwl := wl_le w (by omega)
          have hst := stw_le w (by omega)
          refine V.iload_n hC (x := nI w) dX13_kindHere_20 rfl ?_
          refine V.iconst hC 1 dX13_kindHere_21 rfl ?_
          refine V.iaddN hC w 1 dX13_kindHere_22 rfl rfl ?_
          refine V.callSr (n := 1) (As := [.int (nI (w + 1))]) (rest := []) hC (m_startOf (kl K) G (w + 1) (by omega)) SFk0 SFgo0 gX13_kindHere_X13_startOf rfl ⟨rfl, rfl⟩ (by decide +kernel) ⟨by decide, by decide, by decide, by decide⟩ [] rfl (by decide) rfl rfl (Nat.le_of_ble_eq_true rfl) dX13_kindHere_23 (fun r_23 u_23 hp_23 => ?_)
          subst hp_23
          show V G K 6 0 0 26 [some (.ref m), some (.int (nI (wkr τ ln sr w))), some (.int (oI (wkf τ ln sr w))), some (.int (nI w)), none, none] [.int (nI (stw (w + 1)))] [(m, .inr (13, [.ref nw, .ref bf, .ref sv, .ref hy, .int iS, .int rmb, .int eA, .int fA, .ref tx, .int tyd, .ref li, .int ldd, .int thr, .int (nI ln), .int (nI sr), .int (-1), .int tld, .ref nmb])), (tx, .inl (gI G, 60, .inl τ))]
          refine V.iload_n hC (x := nI w) dX13_kindHere_26 rfl ?_
          refine V.callSr (n := 1) (As := [.int (nI w)]) (rest := [.int (nI (stw (w + 1)))]) hC (m_startOf (kl K) G w (by omega)) SFk0 SFgo0 gX13_kindHere_X13_startOf rfl ⟨rfl, rfl⟩ (by decide +kernel) ⟨by decide, by decide, by decide, by decide⟩ [] rfl (by decide) rfl rfl (Nat.le_of_ble_eq_true rfl) dX13_kindHere_27 (fun r_27 u_27 hp_27 => ?_)
          subst hp_27
          show V G K 6 0 0 30 [some (.ref m), some (.int (nI (wkr τ ln sr w))), some (.int (oI (wkf τ ln sr w))), some (.int (nI w)), none, none] [.int (nI (stw w)), .int (nI (stw (w + 1)))] [(m, .inr (13, [.ref nw, .ref bf, .ref sv, .ref hy, .int iS, .int rmb, .int eA, .int fA, .ref tx, .int tyd, .ref li, .int ldd, .int thr, .int (nI ln), .int (nI sr), .int (-1), .int tld, .ref nmb])), (tx, .inl (gI G, 60, .inl τ))]
          refine V.isubN hC (stw (w + 1)) (stw w) dX13_kindHere_30 rfl rfl (by omega) ?_
          refine V.topeq (nI (wl w)) (congrArg nI (show stw (w + 1) - stw w = wl w from rfl)) ?_
          refine V.istore hC dX13_kindHere_31 [some (.ref m), some (.int (nI (wkr τ ln sr w))), some (.int (oI (wkf τ ln sr w))), some (.int (nI w)), some (.int (nI (wl w))), none] (Nat.le_of_ble_eq_true rfl) rfl ?_
          refine V.iconst hC 0 dX13_kindHere_33 rfl ?_
          refine V.istore hC dX13_kindHere_34 [some (.ref m), some (.int (nI (wkr τ ln sr w))), some (.int (oI (wkf τ ln sr w))), some (.int (nI w)), some (.int (nI (wl w))), some (.int 0)] (Nat.le_of_ble_eq_true rfl) rfl ?_
          have loop36 : ∀ (n : Nat) (k : Nat), 8 - k < n → (k ≤ wl w) → (pfx τ ln sr w k = k) → V G K 6 0 0 36 [some (.ref m), some (.int (nI (wkr τ ln sr w))), some (.int (oI (wkf τ ln sr w))), some (.int (nI w)), some (.int (nI (wl w))), some (.int (nI k))] [] [(m, .inr (13, [.ref nw, .ref bf, .ref sv, .ref hy, .int iS, .int rmb, .int eA, .int fA, .ref tx, .int tyd, .ref li, .int ldd, .int thr, .int (nI ln), .int (nI sr), .int (-1), .int tld, .ref nmb])), (tx, .inl (gI G, 60, .inl τ))] := by
            intro n
            induction n with
            | zero => intro k hlt; exact absurd hlt (Nat.not_lt_zero _)
            | succ n ih36 =>
              intro k hlt36 hk hpx
              refine V.iload hC (x := nI k) dX13_kindHere_36 rfl ?_
              refine V.iload hC (x := nI (wl w)) dX13_kindHere_38 rfl ?_
              refine V.icmpN_ge hC k (wl w) 90 dX13_kindHere_40 rfl rfl rfl (by omega) (by omega) (fun c_40 => ?_) (fun c_40 => ?_)
              · have hek : k = wl w := by omega
                have he : pfx τ ln sr w (wl w) = k := by rw [← hek]; exact hpx
                refine V.iload_n hC (x := nI (wkr τ ln sr w)) dX13_kindHere_90 rfl ?_
                refine V.aload_n hC (x := m) dX13_kindHere_91 rfl ?_
                refine V.getf hC (T := TX13) q0_ 14 q1_ rfl (0) rfl rfl (by decide) (.int (nI sr)) rfl dX13_kindHere_92 ?_
                refine V.iload hC (x := nI k) dX13_kindHere_95 rfl ?_
                refine V.iaddN hC sr k dX13_kindHere_97 rfl rfl ?_
                refine V.mmax hC q3_ q4_ q5_ q6_ ⟨Nat.le_of_ble_eq_true rfl, Nat.le_of_ble_eq_true rfl, Nat.le_of_ble_eq_true rfl, Nat.le_of_ble_eq_true rfl⟩ dX13_kindHere_98 ?_
                refine V.topeq (nI (wkr τ ln sr (w + 1))) ((nI_max (by omega) (by omega)).trans (congrArg nI (by rw [wkr, he]))) ?_
                refine V.istore_n hC dX13_kindHere_101 [some (.ref m), some (.int (nI (wkr τ ln sr (w + 1)))), some (.int (oI (wkf τ ln sr w))), some (.int (nI w)), some (.int (nI (wl w))), some (.int (nI k))] (Nat.le_of_ble_eq_true rfl) rfl ?_
                refine V.iload hC (x := nI k) dX13_kindHere_102 rfl ?_
                refine V.iload hC (x := nI (wl w)) dX13_kindHere_104 rfl ?_
                refine V.icmpN_ne hC k (wl w) 113 dX13_kindHere_106 rfl rfl rfl (by omega) (by omega) (fun c_106 => ?_) (fun c_106 => ?_)
                · refine V.iload_n hC (x := oI (wkf τ ln sr w)) dX13_kindHere_113 rfl ?_
                  refine V.istore_n hC dX13_kindHere_114 [some (.ref m), some (.int (nI (wkr τ ln sr (w + 1)))), some (.int (oI (wkf τ ln sr w))), some (.int (nI w)), some (.int (nI (wl w))), some (.int (nI k))] (Nat.le_of_ble_eq_true rfl) rfl ?_
                  refine V.lset 2 (x := .int (oI (wkf τ ln sr w))) (y := .int (oI (wkf τ ln sr (w + 1)))) (congrArg Value.int (by rw [hwn, wkf_n hwn (by omega)])) rfl (lv' := [some (.ref m), some (.int (nI (wkr τ ln sr (w + 1)))), some (.int (oI (wkf τ ln sr (w + 1)))), some (.int (nI w)), some (.int (nI (wl w))), some (.int (nI k))]) rfl ?_
                  refine V.iincN hC w 1 dX13_kindHere_115 rfl [some (.ref m), some (.int (nI (wkr τ ln sr (w + 1)))), some (.int (oI (wkf τ ln sr (w + 1)))), some (.int (nI (w + 1))), some (.int (nI (wl w))), some (.int (nI k))] (Nat.le_of_ble_eq_true rfl) rfl rfl rfl ?_
                  refine V.goto hC 9 dX13_kindHere_118 rfl ?_
                  refine V.drop 4 (lv' := [some (.ref m), some (.int (nI (wkr τ ln sr (w + 1)))), some (.int (oI (wkf τ ln sr (w + 1)))), some (.int (nI (w + 1))), none, some (.int (nI k))]) rfl ?_
                  refine V.drop 5 (lv' := [some (.ref m), some (.int (nI (wkr τ ln sr (w + 1)))), some (.int (oI (wkf τ ln sr (w + 1)))), some (.int (nI (w + 1))), none, none]) rfl ?_
                  exact ih9 (w + 1) (by omega) (by omega)
                · refine V.iload_n hC (x := nI w) dX13_kindHere_109 rfl ?_
                  refine V.goto hC 114 dX13_kindHere_110 rfl ?_
                  refine V.istore_n hC dX13_kindHere_114 [some (.ref m), some (.int (nI (wkr τ ln sr (w + 1)))), some (.int (nI w)), some (.int (nI w)), some (.int (nI (wl w))), some (.int (nI k))] (Nat.le_of_ble_eq_true rfl) rfl ?_
                  refine V.lset 2 (x := .int (nI w)) (y := .int (oI (wkf τ ln sr (w + 1)))) (congrArg Value.int (by rw [wkf_y hwn (by omega)]; rfl)) rfl (lv' := [some (.ref m), some (.int (nI (wkr τ ln sr (w + 1)))), some (.int (oI (wkf τ ln sr (w + 1)))), some (.int (nI w)), some (.int (nI (wl w))), some (.int (nI k))]) rfl ?_
                  refine V.iincN hC w 1 dX13_kindHere_115 rfl [some (.ref m), some (.int (nI (wkr τ ln sr (w + 1)))), some (.int (oI (wkf τ ln sr (w + 1)))), some (.int (nI (w + 1))), some (.int (nI (wl w))), some (.int (nI k))] (Nat.le_of_ble_eq_true rfl) rfl rfl rfl ?_
                  refine V.goto hC 9 dX13_kindHere_118 rfl ?_
                  refine V.drop 4 (lv' := [some (.ref m), some (.int (nI (wkr τ ln sr (w + 1)))), some (.int (oI (wkf τ ln sr (w + 1)))), some (.int (nI (w + 1))), none, some (.int (nI k))]) rfl ?_
                  refine V.drop 5 (lv' := [some (.ref m), some (.int (nI (wkr τ ln sr (w + 1)))), some (.int (oI (wkf τ ln sr (w + 1)))), some (.int (nI (w + 1))), none, none]) rfl ?_
                  exact ih9 (w + 1) (by omega) (by omega)
              · refine V.aload_n hC (x := m) dX13_kindHere_43 rfl ?_
                refine V.getf hC (T := TX13) q0_ 14 q1_ rfl (0) rfl rfl (by decide) (.int (nI sr)) rfl dX13_kindHere_44 ?_
                refine V.iload hC (x := nI k) dX13_kindHere_47 rfl ?_
                refine V.iaddN hC sr k dX13_kindHere_49 rfl rfl ?_
                refine V.aload_n hC (x := m) dX13_kindHere_50 rfl ?_
                refine V.getf hC (T := TX13) q0_ 13 q7_ rfl (0) rfl rfl (by decide) (.int (nI ln)) rfl dX13_kindHere_51 ?_
                refine V.icmpN_ge hC (sr + k) ln 90 dX13_kindHere_54 rfl rfl rfl (by omega) (by omega) (fun c_54 => ?_) (fun c_54 => ?_)
                · have he : pfx τ ln sr w (wl w) = k := pfx_end hpx (by rw [sgn, if_neg (by omega)]; exact fun z => chr_m1 w (by omega) k z.symm) (by omega)
                  refine V.iload_n hC (x := nI (wkr τ ln sr w)) dX13_kindHere_90 rfl ?_
                  refine V.aload_n hC (x := m) dX13_kindHere_91 rfl ?_
                  refine V.getf hC (T := TX13) q0_ 14 q1_ rfl (0) rfl rfl (by decide) (.int (nI sr)) rfl dX13_kindHere_92 ?_
                  refine V.iload hC (x := nI k) dX13_kindHere_95 rfl ?_
                  refine V.iaddN hC sr k dX13_kindHere_97 rfl rfl ?_
                  refine V.mmax hC q3_ q4_ q5_ q6_ ⟨Nat.le_of_ble_eq_true rfl, Nat.le_of_ble_eq_true rfl, Nat.le_of_ble_eq_true rfl, Nat.le_of_ble_eq_true rfl⟩ dX13_kindHere_98 ?_
                  refine V.topeq (nI (wkr τ ln sr (w + 1))) ((nI_max (by omega) (by omega)).trans (congrArg nI (by rw [wkr, he]))) ?_
                  refine V.istore_n hC dX13_kindHere_101 [some (.ref m), some (.int (nI (wkr τ ln sr (w + 1)))), some (.int (oI (wkf τ ln sr w))), some (.int (nI w)), some (.int (nI (wl w))), some (.int (nI k))] (Nat.le_of_ble_eq_true rfl) rfl ?_
                  refine V.iload hC (x := nI k) dX13_kindHere_102 rfl ?_
                  refine V.iload hC (x := nI (wl w)) dX13_kindHere_104 rfl ?_
                  refine V.icmpN_ne hC k (wl w) 113 dX13_kindHere_106 rfl rfl rfl (by omega) (by omega) (fun c_106 => ?_) (fun c_106 => ?_)
                  · refine V.iload_n hC (x := oI (wkf τ ln sr w)) dX13_kindHere_113 rfl ?_
                    refine V.istore_n hC dX13_kindHere_114 [some (.ref m), some (.int (nI (wkr τ ln sr (w + 1)))), some (.int (oI (wkf τ ln sr w))), some (.int (nI w)), some (.int (nI (wl w))), some (.int (nI k))] (Nat.le_of_ble_eq_true rfl) rfl ?_
                    refine V.lset 2 (x := .int (oI (wkf τ ln sr w))) (y := .int (oI (wkf τ ln sr (w + 1)))) (congrArg Value.int (by rw [hwn, wkf_n hwn (by omega)])) rfl (lv' := [some (.ref m), some (.int (nI (wkr τ ln sr (w + 1)))), some (.int (oI (wkf τ ln sr (w + 1)))), some (.int (nI w)), some (.int (nI (wl w))), some (.int (nI k))]) rfl ?_
                    refine V.iincN hC w 1 dX13_kindHere_115 rfl [some (.ref m), some (.int (nI (wkr τ ln sr (w + 1)))), some (.int (oI (wkf τ ln sr (w + 1)))), some (.int (nI (w + 1))), some (.int (nI (wl w))), some (.int (nI k))] (Nat.le_of_ble_eq_true rfl) rfl rfl rfl ?_
                    refine V.goto hC 9 dX13_kindHere_118 rfl ?_
                    refine V.drop 4 (lv' := [some (.ref m), some (.int (nI (wkr τ ln sr (w + 1)))), some (.int (oI (wkf τ ln sr (w + 1)))), some (.int (nI (w + 1))), none, some (.int (nI k))]) rfl ?_
                    refine V.drop 5 (lv' := [some (.ref m), some (.int (nI (wkr τ ln sr (w + 1)))), some (.int (oI (wkf τ ln sr (w + 1)))), some (.int (nI (w + 1))), none, none]) rfl ?_
                    exact ih9 (w + 1) (by omega) (by omega)
                  · refine V.iload_n hC (x := nI w) dX13_kindHere_109 rfl ?_
                    refine V.goto hC 114 dX13_kindHere_110 rfl ?_
                    refine V.istore_n hC dX13_kindHere_114 [some (.ref m), some (.int (nI (wkr τ ln sr (w + 1)))), some (.int (nI w)), some (.int (nI w)), some (.int (nI (wl w))), some (.int (nI k))] (Nat.le_of_ble_eq_true rfl) rfl ?_
                    refine V.lset 2 (x := .int (nI w)) (y := .int (oI (wkf τ ln sr (w + 1)))) (congrArg Value.int (by rw [wkf_y hwn (by omega)]; rfl)) rfl (lv' := [some (.ref m), some (.int (nI (wkr τ ln sr (w + 1)))), some (.int (oI (wkf τ ln sr (w + 1)))), some (.int (nI w)), some (.int (nI (wl w))), some (.int (nI k))]) rfl ?_
                    refine V.iincN hC w 1 dX13_kindHere_115 rfl [some (.ref m), some (.int (nI (wkr τ ln sr (w + 1)))), some (.int (oI (wkf τ ln sr (w + 1)))), some (.int (nI (w + 1))), some (.int (nI (wl w))), some (.int (nI k))] (Nat.le_of_ble_eq_true rfl) rfl rfl rfl ?_
                    refine V.goto hC 9 dX13_kindHere_118 rfl ?_
                    refine V.drop 4 (lv' := [some (.ref m), some (.int (nI (wkr τ ln sr (w + 1)))), some (.int (oI (wkf τ ln sr (w + 1)))), some (.int (nI (w + 1))), none, some (.int (nI k))]) rfl ?_
                    refine V.drop 5 (lv' := [some (.ref m), some (.int (nI (wkr τ ln sr (w + 1)))), some (.int (oI (wkf τ ln sr (w + 1)))), some (.int (nI (w + 1))), none, none]) rfl ?_
                    exact ih9 (w + 1) (by omega) (by omega)
                · refine V.aload_n hC (x := m) dX13_kindHere_57 rfl ?_
                  refine V.getf hC (T := TX13) q0_ 8 q8_ rfl (0) rfl rfl (by decide) (.ref tx) rfl dX13_kindHere_58 ?_
                  refine V.aload_n hC (x := m) dX13_kindHere_61 rfl ?_
                  refine V.getf hC (T := TX13) q0_ 14 q1_ rfl (0) rfl rfl (by decide) (.int (nI sr)) rfl dX13_kindHere_62 ?_
                  refine V.iload hC (x := nI k) dX13_kindHere_65 rfl ?_
                  refine V.iaddN hC sr k dX13_kindHere_67 rfl rfl ?_
                  refine V.iald hC dX13_kindHere_68 (1) rfl (sr + k) rfl (by omega) (by decide) ?_
                  refine V.ldcS hC hSFt.2.2.2 dX13_kindHere_69 ?_
                  refine V.iload_n hC (x := nI w) dX13_kindHere_71 rfl ?_
                  refine V.callSr (n := 1) (As := [.int (nI w)]) (rest := [.ref (adN G), .int (τ (sr + k))]) hC (m_startOf (kl K) G w (by omega)) SFk0 SFgo0 gX13_kindHere_X13_startOf rfl ⟨rfl, rfl⟩ (by decide +kernel) ⟨by decide, by decide, by decide, by decide⟩ [] rfl (by decide) rfl rfl (Nat.le_of_ble_eq_true rfl) dX13_kindHere_72 (fun r_72 u_72 hp_72 => ?_)
                  subst hp_72
                  show V G K 6 0 0 75 [some (.ref m), some (.int (nI (wkr τ ln sr w))), some (.int (oI (wkf τ ln sr w))), some (.int (nI w)), some (.int (nI (wl w))), some (.int (nI k))] [.int (nI (stw w)), .ref (adN G), .int (τ (sr + k))] [(m, .inr (13, [.ref nw, .ref bf, .ref sv, .ref hy, .int iS, .int rmb, .int eA, .int fA, .ref tx, .int tyd, .ref li, .int ldd, .int thr, .int (nI ln), .int (nI sr), .int (-1), .int tld, .ref nmb])), (tx, .inl (gI G, 60, .inl τ))]
                  refine V.iload hC (x := nI k) dX13_kindHere_75 rfl ?_
                  refine V.iaddN hC (stw w) k dX13_kindHere_77 rfl rfl ?_
                  refine V.callO (n := 1) (As := [.int (nI ((stw w) + k))]) (rest := [.int (τ (sr + k))]) hC (c_charAtN (kl K) G (stw w + k) (by omega)) (SFt.k G) hgot (hSFt.2.1.2.2.2.2.2.2.1 0 (by decide)).1 gX13_kindHere_J0_charAt_5068e rfl ⟨rfl, rfl⟩ (by decide +kernel) ⟨by decide, by decide, by decide, by decide⟩ [] rfl (by decide) (fun _ => rfl) rfl rfl (Nat.le_of_ble_eq_true rfl) dX13_kindHere_78 (fun r_78 u_78 hp_78 => ?_)
                  subst hp_78
                  show V G K 6 0 0 81 [some (.ref m), some (.int (nI (wkr τ ln sr w))), some (.int (oI (wkf τ ln sr w))), some (.int (nI w)), some (.int (nI (wl w))), some (.int (nI k))] [.int (nI (nch (stw w + k))), .int (τ (sr + k))] [(m, .inr (13, [.ref nw, .ref bf, .ref sv, .ref hy, .int iS, .int rmb, .int eA, .int fA, .ref tx, .int tyd, .ref li, .int ldd, .int thr, .int (nI ln), .int (nI sr), .int (-1), .int tld, .ref nmb])), (tx, .inl (gI G, 60, .inl τ))]
                  refine V.topeq (nI (chr w k)) (congrArg nI (nch_chr w (by omega) k (by omega))) ?_
                  refine V.icmp_ne hC 90 dX13_kindHere_81 rfl (fun c_81 => ?_) (fun c_81 => ?_)
                  · have he : pfx τ ln sr w (wl w) = k := pfx_end hpx (by rw [sgn, if_pos (by omega)]; exact c_81) (by omega)
                    refine V.iload_n hC (x := nI (wkr τ ln sr w)) dX13_kindHere_90 rfl ?_
                    refine V.aload_n hC (x := m) dX13_kindHere_91 rfl ?_
                    refine V.getf hC (T := TX13) q0_ 14 q1_ rfl (0) rfl rfl (by decide) (.int (nI sr)) rfl dX13_kindHere_92 ?_
                    refine V.iload hC (x := nI k) dX13_kindHere_95 rfl ?_
                    refine V.iaddN hC sr k dX13_kindHere_97 rfl rfl ?_
                    refine V.mmax hC q3_ q4_ q5_ q6_ ⟨Nat.le_of_ble_eq_true rfl, Nat.le_of_ble_eq_true rfl, Nat.le_of_ble_eq_true rfl, Nat.le_of_ble_eq_true rfl⟩ dX13_kindHere_98 ?_
                    refine V.topeq (nI (wkr τ ln sr (w + 1))) ((nI_max (by omega) (by omega)).trans (congrArg nI (by rw [wkr, he]))) ?_
                    refine V.istore_n hC dX13_kindHere_101 [some (.ref m), some (.int (nI (wkr τ ln sr (w + 1)))), some (.int (oI (wkf τ ln sr w))), some (.int (nI w)), some (.int (nI (wl w))), some (.int (nI k))] (Nat.le_of_ble_eq_true rfl) rfl ?_
                    refine V.iload hC (x := nI k) dX13_kindHere_102 rfl ?_
                    refine V.iload hC (x := nI (wl w)) dX13_kindHere_104 rfl ?_
                    refine V.icmpN_ne hC k (wl w) 113 dX13_kindHere_106 rfl rfl rfl (by omega) (by omega) (fun c_106 => ?_) (fun c_106 => ?_)
                    · refine V.iload_n hC (x := oI (wkf τ ln sr w)) dX13_kindHere_113 rfl ?_
                      refine V.istore_n hC dX13_kindHere_114 [some (.ref m), some (.int (nI (wkr τ ln sr (w + 1)))), some (.int (oI (wkf τ ln sr w))), some (.int (nI w)), some (.int (nI (wl w))), some (.int (nI k))] (Nat.le_of_ble_eq_true rfl) rfl ?_
                      refine V.lset 2 (x := .int (oI (wkf τ ln sr w))) (y := .int (oI (wkf τ ln sr (w + 1)))) (congrArg Value.int (by rw [hwn, wkf_n hwn (by omega)])) rfl (lv' := [some (.ref m), some (.int (nI (wkr τ ln sr (w + 1)))), some (.int (oI (wkf τ ln sr (w + 1)))), some (.int (nI w)), some (.int (nI (wl w))), some (.int (nI k))]) rfl ?_
                      refine V.iincN hC w 1 dX13_kindHere_115 rfl [some (.ref m), some (.int (nI (wkr τ ln sr (w + 1)))), some (.int (oI (wkf τ ln sr (w + 1)))), some (.int (nI (w + 1))), some (.int (nI (wl w))), some (.int (nI k))] (Nat.le_of_ble_eq_true rfl) rfl rfl rfl ?_
                      refine V.goto hC 9 dX13_kindHere_118 rfl ?_
                      refine V.drop 4 (lv' := [some (.ref m), some (.int (nI (wkr τ ln sr (w + 1)))), some (.int (oI (wkf τ ln sr (w + 1)))), some (.int (nI (w + 1))), none, some (.int (nI k))]) rfl ?_
                      refine V.drop 5 (lv' := [some (.ref m), some (.int (nI (wkr τ ln sr (w + 1)))), some (.int (oI (wkf τ ln sr (w + 1)))), some (.int (nI (w + 1))), none, none]) rfl ?_
                      exact ih9 (w + 1) (by omega) (by omega)
                    · refine V.iload_n hC (x := nI w) dX13_kindHere_109 rfl ?_
                      refine V.goto hC 114 dX13_kindHere_110 rfl ?_
                      refine V.istore_n hC dX13_kindHere_114 [some (.ref m), some (.int (nI (wkr τ ln sr (w + 1)))), some (.int (nI w)), some (.int (nI w)), some (.int (nI (wl w))), some (.int (nI k))] (Nat.le_of_ble_eq_true rfl) rfl ?_
                      refine V.lset 2 (x := .int (nI w)) (y := .int (oI (wkf τ ln sr (w + 1)))) (congrArg Value.int (by rw [wkf_y hwn (by omega)]; rfl)) rfl (lv' := [some (.ref m), some (.int (nI (wkr τ ln sr (w + 1)))), some (.int (oI (wkf τ ln sr (w + 1)))), some (.int (nI w)), some (.int (nI (wl w))), some (.int (nI k))]) rfl ?_
                      refine V.iincN hC w 1 dX13_kindHere_115 rfl [some (.ref m), some (.int (nI (wkr τ ln sr (w + 1)))), some (.int (oI (wkf τ ln sr (w + 1)))), some (.int (nI (w + 1))), some (.int (nI (wl w))), some (.int (nI k))] (Nat.le_of_ble_eq_true rfl) rfl rfl rfl ?_
                      refine V.goto hC 9 dX13_kindHere_118 rfl ?_
                      refine V.drop 4 (lv' := [some (.ref m), some (.int (nI (wkr τ ln sr (w + 1)))), some (.int (oI (wkf τ ln sr (w + 1)))), some (.int (nI (w + 1))), none, some (.int (nI k))]) rfl ?_
                      refine V.drop 5 (lv' := [some (.ref m), some (.int (nI (wkr τ ln sr (w + 1)))), some (.int (oI (wkf τ ln sr (w + 1)))), some (.int (nI (w + 1))), none, none]) rfl ?_
                      exact ih9 (w + 1) (by omega) (by omega)
                  · refine V.iincN hC k 1 dX13_kindHere_84 rfl [some (.ref m), some (.int (nI (wkr τ ln sr w))), some (.int (oI (wkf τ ln sr w))), some (.int (nI w)), some (.int (nI (wl w))), some (.int (nI (k + 1)))] (Nat.le_of_ble_eq_true rfl) rfl rfl rfl ?_
                    refine V.goto hC 36 dX13_kindHere_87 rfl ?_
                    exact ih36 (k + 1) (by omega) (by omega) (pfx_go hpx (by rw [sgn, if_pos (by omega)]; exact c_81))
          exact loop36 _ 0 (Nat.lt_succ_self _) (by omega) rfl
  exact loop9 _ 0 (Nat.lt_succ_self _) (by omega)
