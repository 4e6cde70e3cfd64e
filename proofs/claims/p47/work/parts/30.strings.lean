/-! the forms as strings (printed by gen/s30.py) -/
section TROWS
variable {G : Gx} {K : Cx} {cc : ByteArray} {nL cells slots pc : Nat} {own : String} {Ts : List Cond} {rm : Room} {lv : List (Option Value)} {st : List Value} {ws : va_W}
theorem V.tb (hC : Cok G K cc nL own Ts rm) {t N : Nat} {f : Nat → Value} (hT : va_T .byte t N f (kA K) (ks K) (ks K).heap) (hdg : decode cc pc = .ok (.baload, 1)) {i : Int32} (j : Nat) (hi : i = nI j) (hj : j < N) (hn : N < 2 ^ 31) (v : Value) (hv : f j = v) (h : V G K nL cells slots (pc + 1) lv (v :: st) ws) : V G K nL cells slots pc lv (.int i :: .ref t :: st) ws :=
  fun H locs ls hP hD hS hl => va_tb hC.1 hC.2.1 hT hS (ix_in hi hj hn) (by rw [ix_cl hi hj hn]; exact hv) hdg (h H locs ls hP hD hS hl)
theorem V.tq (hC : Cok G K cc nL own Ts rm) {C : String} {t N : Nat} {f : Nat → Value} (hT : va_T (.object C) t N f (kA K) (ks K) (ks K).heap) (hdg : decode cc pc = .ok (.aaload, 1)) {i : Int32} (j : Nat) (hi : i = nI j) (hj : j < N) (hn : N < 2 ^ 31) (v : Value) (hv : f j = v) (h : V G K nL cells slots (pc + 1) lv (v :: st) ws) : V G K nL cells slots pc lv (.int i :: .ref t :: st) ws :=
  fun H locs ls hP hD hS hl => vb_tq hC.1 hC.2.1 hT hS (ix_in hi hj hn) (by rw [ix_cl hi hj hn]; exact hv) hdg (h H locs ls hP hD hS hl)
theorem V.tlen (hC : Cok G K cc nL own Ts rm) {ty : FieldType} {t N : Nat} {f : Nat → Value} (hT : va_T ty t N f (kA K) (ks K) (ks K).heap) (v : Int32) (hv : Int32.ofNat N = v) (hdg : decode cc pc = .ok (.arraylength, 1)) (h : V G K nL cells slots (pc + 1) lv (.int v :: st) ws) : V G K nL cells slots pc lv (.ref t :: st) ws :=
  fun H locs ls hP hD hS hl => va_tlen hC.1 hC.2.1 hT hS hv hdg (h H locs ls hP hD hS hl)
end TROWS
/-- the sign at a place of a form -/
def chr (i j : Nat) : Nat := (fmS.getD i []).getD j 0
theorem len_11 : ∀ i, i < 8 → fLen.getD i 0 ≤ 11 := by decide
theorem len_lt (i : Nat) (hi : i < 8) : fLen.getD i 0 < 2 ^ 31 := Nat.lt_of_le_of_lt (len_11 i hi) (by decide)
theorem shr0 : ∀ i, i < 8 → nI (fLen.getD i 0) >>> ((0 : Int32) &&& 31) = nI (fLen.getD i 0) := by decide
theorem chr_of : ∀ i, i < 8 → ∀ j, j < fLen.getD i 0 → (((fByt.getD i []).getD j 0 &&& 255).toUInt32 % 65536).toInt32 = nI (chr i j) := by decide
theorem chr_nar : ∀ i, i < 8 → ∀ j, j < fLen.getD i 0 → narrow .char (.int (nI (chr i j))) = .int (nI (chr i j)) := by decide
set_option maxHeartbeats 4000000 in
set_option maxRecDepth 100000 in
theorem c_coder (l : Launch) (G : Gx) (i : Nat) (hi : i < 8) : Ct l G (SFx G) yJ0_coder_7d493 wsJ0_coder_7d493 ({ frames := 0, cells := 0, slots := 0, locals := 0 }) [.ref (adK G i)] [] mkI (fun (r : Int32) (_ : Unit) => r = 0) (fun _ : Unit => []) 0 0 := by
  refine Ct.ofI (cc := cJ0_coder_7d493) (maxL := 1) (by decide) rfl ⟨by simp [Value.category], Nat.le_of_ble_eq_true rfl⟩ ?_
  intro K hl hC hSF hnm hE
  subst hl
  have hgo := SFgoS (SFx.k G) hSF
  have q0_ : Cond.fieldLink RJ0 38 "java/lang/String" "COMPACT_STRINGS" "Z" ∈ wsJ0_coder_7d493 := by decide +kernel
  have q1_ : Cond.fieldLink RJ0 15 "java/lang/String" "coder" "B" ∈ wsJ0_coder_7d493 := by decide +kernel
  show V G K 1 0 0 0 [some (.ref (adK G i))] [] []
  refine V.gets hC (n := "COMPACT_STRINGS") hSF.2.2.2.2.2.2.2.2.2.2.1 q0_ rfl dJ0_coder_7d493_0 ?_
  refine V.ifN_eq hC 1 13 dJ0_coder_7d493_3 rfl rfl (by omega) (fun c_3 => ?_) (fun c_3 => ?_)
  · exact absurd c_3 (by decide)
  · refine V.aload_n hC (x := adK G i) dJ0_coder_7d493_6 rfl ?_
    refine V.getOF hC (hSF.2.2.2.2.2.2.2.2.2.1.1 i hi).2.1 q1_ rfl dJ0_coder_7d493_7 ?_
    refine V.goto hC 14 dJ0_coder_7d493_10 rfl ?_
    exact hE 14 _ (nI 0) () dJ0_coder_7d493_14 rfl rfl

set_option maxHeartbeats 4000000 in
set_option maxRecDepth 100000 in
theorem c_strLength (l : Launch) (G : Gx) (i : Nat) (hi : i < 8) : Ct l G (SFx G) yJ0_length_8abf5 wsJ0_length_8abf5 ({ frames := 1, cells := 0, slots := 0, locals := 20 }) [.ref (adK G i)] [] mkI (fun (r : Int32) (_ : Unit) => r = nI (fLen.getD i 0)) (fun _ : Unit => []) 0 0 := by
  refine Ct.ofI (cc := cJ0_length_8abf5) (maxL := 1) (by decide) rfl ⟨by simp [Value.category], Nat.le_of_ble_eq_true rfl⟩ ?_
  intro K hl hC hSF hnm hE
  subst hl
  have hgo := SFgoS (SFx.k G) hSF
  have q0_ : Cond.fieldLink RJ0 9 "java/lang/String" "value" "[B" ∈ wsJ0_length_8abf5 := by decide +kernel
  show V G K 1 0 0 0 [some (.ref (adK G i))] [] []
  refine V.aload_n hC (x := adK G i) dJ0_length_8abf5_0 rfl ?_
  refine V.getOF hC (hSF.2.2.2.2.2.2.2.2.2.1.1 i hi).2.2.1 q0_ rfl dJ0_length_8abf5_1 ?_
  refine V.tlen hC (hSF.2.2.2.2.2.2.2.2.2.1.1 i hi).2.2.2 (nI (fLen.getD i 0)) rfl dJ0_length_8abf5_4 ?_
  refine V.aload_n hC (x := adK G i) dJ0_length_8abf5_5 rfl ?_
  refine V.callO (n := 0) (As := []) (rest := [.int (nI (fLen.getD i 0))]) hC (c_coder (kl K) G i hi) (SFx.k G) hgo (hSF.2.2.2.2.2.2.2.2.2.1.1 i hi).1 gJ0_length_8abf5_J0_coder_7d493 rfl ⟨rfl, rfl⟩ (by decide +kernel) ⟨by decide, by decide, by decide, by decide⟩ [] rfl (by decide) (fun _ => rfl) rfl rfl (Nat.le_of_ble_eq_true rfl) dJ0_length_8abf5_6 (fun r_6 u_6 hp_6 => ?_)
  subst hp_6
  show V G K 1 0 0 9 [some (.ref (adK G i))] [.int (nI 0), .int (nI (fLen.getD i 0))] []
  refine V.ishr hC dJ0_length_8abf5_9 ?_
  refine V.topeq (nI (fLen.getD i 0)) (shr0 i hi) ?_
  exact hE 10 _ (nI (fLen.getD i 0)) () dJ0_length_8abf5_10 rfl rfl

set_option maxHeartbeats 4000000 in
set_option maxRecDepth 100000 in
theorem c_isLatin1 (l : Launch) (G : Gx) (i : Nat) (hi : i < 8) : Ct l G (SFx G) yJ0_isLatin1_aae02 wsJ0_isLatin1_aae02 ({ frames := 0, cells := 0, slots := 0, locals := 0 }) [.ref (adK G i)] [] mkI (fun (r : Int32) (_ : Unit) => r = 1) (fun _ : Unit => []) 0 0 := by
  refine Ct.ofI (cc := cJ0_isLatin1_aae02) (maxL := 1) (by decide) rfl ⟨by simp [Value.category], Nat.le_of_ble_eq_true rfl⟩ ?_
  intro K hl hC hSF hnm hE
  subst hl
  have hgo := SFgoS (SFx.k G) hSF
  have q0_ : Cond.fieldLink RJ0 38 "java/lang/String" "COMPACT_STRINGS" "Z" ∈ wsJ0_isLatin1_aae02 := by decide +kernel
  have q1_ : Cond.fieldLink RJ0 15 "java/lang/String" "coder" "B" ∈ wsJ0_isLatin1_aae02 := by decide +kernel
  show V G K 1 0 0 0 [some (.ref (adK G i))] [] []
  refine V.gets hC (n := "COMPACT_STRINGS") hSF.2.2.2.2.2.2.2.2.2.2.1 q0_ rfl dJ0_isLatin1_aae02_0 ?_
  refine V.ifN_eq hC 1 17 dJ0_isLatin1_aae02_3 rfl rfl (by omega) (fun c_3 => ?_) (fun c_3 => ?_)
  · exact absurd c_3 (by decide)
  · refine V.aload_n hC (x := adK G i) dJ0_isLatin1_aae02_6 rfl ?_
    refine V.getOF hC (hSF.2.2.2.2.2.2.2.2.2.1.1 i hi).2.1 q1_ rfl dJ0_isLatin1_aae02_7 ?_
    refine V.ifN_ne hC 0 17 dJ0_isLatin1_aae02_10 rfl rfl (by omega) (fun c_10 => ?_) (fun c_10 => ?_)
    · exact absurd rfl c_10
    · refine V.iconst hC 1 dJ0_isLatin1_aae02_13 rfl ?_
      refine V.goto hC 18 dJ0_isLatin1_aae02_14 rfl ?_
      exact hE 18 _ 1 () dJ0_isLatin1_aae02_18 rfl rfl

set_option maxHeartbeats 4000000 in
set_option maxRecDepth 100000 in
theorem c_checkIx (l : Launch) (G : Gx) (j n : Nat) (hj : j < n) (hn : n < 1000) (f : Option Nat) : Ct l G SF0 yJ3_checkIndex_8e157 wsJ3_checkIndex_8e157 ({ frames := 0, cells := 0, slots := 0, locals := 0 }) [.int (nI j), .int (nI n), va_rf (f)] [] mkI (fun (r : Int32) (_ : Unit) => r = nI j) (fun _ : Unit => []) 0 0 := by
  refine Ct.ofI (cc := cJ3_checkIndex_8e157) (maxL := 3) (by decide) rfl ⟨by cases f <;> simp [Value.category, va_rf], Nat.le_of_ble_eq_true rfl⟩ ?_
  intro K hl hC hSF hnm hE
  subst hl
  show V G K 3 0 0 0 [some (.int (nI j)), some (.int (nI n)), some (va_rf (f))] [] []
  refine V.iload_n hC (x := nI j) dJ3_checkIndex_8e157_0 rfl ?_
  refine V.ifN_lt hC j 9 dJ3_checkIndex_8e157_1 rfl rfl (by omega) ?_
  refine V.iload_n hC (x := nI j) dJ3_checkIndex_8e157_4 rfl ?_
  refine V.iload_n hC (x := nI n) dJ3_checkIndex_8e157_5 rfl ?_
  refine V.icmpN_lt hC j n 16 dJ3_checkIndex_8e157_6 rfl rfl rfl (by omega) (by omega) (fun c_6 => ?_) (fun c_6 => ?_)
  · refine V.iload_n hC (x := nI j) dJ3_checkIndex_8e157_16 rfl ?_
    exact hE 17 _ (nI j) () dJ3_checkIndex_8e157_17 rfl rfl
  · exact absurd hj (by omega)

set_option maxHeartbeats 4000000 in
set_option maxRecDepth 100000 in
theorem c_checkIx0 (l : Launch) (G : Gx) (j n : Nat) (hj : j < n) (hn : n < 1000) : Ct l G (SFx G) yJ0_checkIndex_df160 wsJ0_checkIndex_df160 ({ frames := 1, cells := 0, slots := 0, locals := 22 }) [.int (nI j), .int (nI n)] [] mkV (fun (_ : Unit) (_ : Unit) => True) (fun _ : Unit => []) 0 0 := by
  refine Ct.ofV (cc := cJ0_checkIndex_df160) (maxL := 2) (by decide) rfl ⟨by simp [Value.category], Nat.le_of_ble_eq_true rfl⟩ ?_
  intro K hl hC hSF hnm hE
  subst hl
  have hgo := SFgoS (SFx.k G) hSF
  have q0_ : Cond.fieldLink RJ0 1053 "jdk/internal/util/Preconditions" "SIOOBE_FORMATTER" "Ljava/util/function/BiFunction;" ∈ wsJ0_checkIndex_df160 := by decide +kernel
  show V G K 2 0 0 0 [some (.int (nI j)), some (.int (nI n))] [] []
  refine V.iload_n hC (x := nI j) dJ0_checkIndex_df160_0 rfl ?_
  refine V.iload_n hC (x := nI n) dJ0_checkIndex_df160_1 rfl ?_
  rcases hSF.2.2.2.2.2.2.2.2.2.2.2.1 with hz_ | ⟨t_, hz_⟩
  · refine V.gets hC (n := "SIOOBE_FORMATTER") hz_ q0_ rfl dJ0_checkIndex_df160_2 ?_
    refine V.callSr (n := 3) (As := [.int (nI j), .int (nI n), .null]) (rest := []) hC (c_checkIx (kl K) G j n hj hn (none)) SFk0 SFgo0 gJ0_checkIndex_df160_J3_checkIndex_8e157 rfl ⟨rfl, rfl⟩ (by decide +kernel) ⟨by decide, by decide, by decide, by decide⟩ [] rfl (by decide) rfl rfl (Nat.le_of_ble_eq_true rfl) dJ0_checkIndex_df160_5 (fun r_5 u_5 hp_5 => ?_)
    subst hp_5
    show V G K 2 0 0 8 [some (.int (nI j)), some (.int (nI n))] [.int (nI j)] []
    refine V.pop hC dJ0_checkIndex_df160_8 rfl ?_
    exact hE 9 _ () dJ0_checkIndex_df160_9 trivial
  · refine V.gets hC (n := "SIOOBE_FORMATTER") hz_ q0_ rfl dJ0_checkIndex_df160_2 ?_
    refine V.callSr (n := 3) (As := [.int (nI j), .int (nI n), .ref t_]) (rest := []) hC (c_checkIx (kl K) G j n hj hn (some t_)) SFk0 SFgo0 gJ0_checkIndex_df160_J3_checkIndex_8e157 rfl ⟨rfl, rfl⟩ (by decide +kernel) ⟨by decide, by decide, by decide, by decide⟩ [] rfl (by decide) rfl rfl (Nat.le_of_ble_eq_true rfl) dJ0_checkIndex_df160_5 (fun r_5 u_5 hp_5 => ?_)
    subst hp_5
    show V G K 2 0 0 8 [some (.int (nI j)), some (.int (nI n))] [.int (nI j)] []
    refine V.pop hC dJ0_checkIndex_df160_8 rfl ?_
    exact hE 9 _ () dJ0_checkIndex_df160_9 trivial

set_option maxHeartbeats 4000000 in
set_option maxRecDepth 100000 in
theorem c_latinAt (l : Launch) (G : Gx) (i : Nat) (hi : i < 8) (j : Nat) (hj : j < fLen.getD i 0) : Ct l G (SFx G) yJ1_charAt_3b067 wsJ1_charAt_3b067 ({ frames := 2, cells := 0, slots := 0, locals := 43 }) [.ref (adV G i), .int (nI j)] [] mkI (fun (r : Int32) (_ : Unit) => r = nI (chr i j)) (fun _ : Unit => []) 0 0 := by
  refine Ct.ofI (cc := cJ1_charAt_3b067) (maxL := 2) (by decide) rfl ⟨by simp [Value.category], Nat.le_of_ble_eq_true rfl⟩ ?_
  intro K hl hC hSF hnm hE
  subst hl
  have hgo := SFgoS (SFx.k G) hSF
  show V G K 2 0 0 0 [some (.ref (adV G i)), some (.int (nI j))] [] []
  refine V.iload_n hC (x := nI j) dJ1_charAt_3b067_0 rfl ?_
  refine V.aload_n hC (x := adV G i) dJ1_charAt_3b067_1 rfl ?_
  refine V.tlen hC (hSF.2.2.2.2.2.2.2.2.2.1.1 i hi).2.2.2 (nI (fLen.getD i 0)) rfl dJ1_charAt_3b067_2 ?_
  refine V.callSr (n := 2) (As := [.int (nI j), .int (nI (fLen.getD i 0))]) (rest := []) hC (c_checkIx0 (kl K) G j (fLen.getD i 0) hj (by have := len_11 i hi; omega)) (SFx.k G) hgo gJ1_charAt_3b067_J0_checkIndex_df160 rfl ⟨rfl, rfl⟩ (by decide +kernel) ⟨by decide, by decide, by decide, by decide⟩ [] rfl (by decide) rfl rfl (Nat.le_of_ble_eq_true rfl) dJ1_charAt_3b067_3 (fun r_3 u_3 hp_3 => ?_)
  show V G K 2 0 0 6 [some (.ref (adV G i)), some (.int (nI j))] [] []
  refine V.aload_n hC (x := adV G i) dJ1_charAt_3b067_6 rfl ?_
  refine V.iload_n hC (x := nI j) dJ1_charAt_3b067_7 rfl ?_
  refine V.tb hC (hSF.2.2.2.2.2.2.2.2.2.1.1 i hi).2.2.2 dJ1_charAt_3b067_8 j rfl hj (len_lt i hi) (.int ((fByt.getD i []).getD j 0)) rfl ?_
  refine V.sipush hC 255 dJ1_charAt_3b067_9 rfl ?_
  refine V.iand hC dJ1_charAt_3b067_12 ?_
  refine V.i2c hC dJ1_charAt_3b067_13 ?_
  refine V.topeq (nI (chr i j)) (chr_of i hi j hj) ?_
  exact hE 14 _ (nI (chr i j)) () dJ1_charAt_3b067_14 (chr_nar i hi j hj) rfl

set_option maxHeartbeats 4000000 in
set_option maxRecDepth 100000 in
theorem c_charAt (l : Launch) (G : Gx) (i : Nat) (hi : i < 8) (j : Nat) (hj : j < fLen.getD i 0) : Ct l G (SFx G) yJ0_charAt_5068e wsJ0_charAt_5068e ({ frames := 3, cells := 0, slots := 0, locals := 64 }) [.ref (adK G i), .int (nI j)] [] mkI (fun (r : Int32) (_ : Unit) => r = nI (chr i j)) (fun _ : Unit => []) 0 0 := by
  refine Ct.ofI (cc := cJ0_charAt_5068e) (maxL := 2) (by decide) rfl ⟨by simp [Value.category], Nat.le_of_ble_eq_true rfl⟩ ?_
  intro K hl hC hSF hnm hE
  subst hl
  have hgo := SFgoS (SFx.k G) hSF
  have q0_ : Cond.fieldLink RJ0 9 "java/lang/String" "value" "[B" ∈ wsJ0_charAt_5068e := by decide +kernel
  show V G K 2 0 0 0 [some (.ref (adK G i)), some (.int (nI j))] [] []
  refine V.aload_n hC (x := adK G i) dJ0_charAt_5068e_0 rfl ?_
  refine V.callO (n := 0) (As := []) (rest := []) hC (c_isLatin1 (kl K) G i hi) (SFx.k G) hgo (hSF.2.2.2.2.2.2.2.2.2.1.1 i hi).1 gJ0_charAt_5068e_J0_isLatin1_aae02 rfl ⟨rfl, rfl⟩ (by decide +kernel) ⟨by decide, by decide, by decide, by decide⟩ [] rfl (by decide) (fun _ => rfl) rfl rfl (Nat.le_of_ble_eq_true rfl) dJ0_charAt_5068e_1 (fun r_1 u_1 hp_1 => ?_)
  subst hp_1
  show V G K 2 0 0 4 [some (.ref (adK G i)), some (.int (nI j))] [.int (nI 1)] []
  refine V.ifN_eq hC 1 16 dJ0_charAt_5068e_4 rfl rfl (by omega) (fun c_4 => ?_) (fun c_4 => ?_)
  · exact absurd c_4 (by decide)
  · refine V.aload_n hC (x := adK G i) dJ0_charAt_5068e_7 rfl ?_
    refine V.getOF hC (hSF.2.2.2.2.2.2.2.2.2.1.1 i hi).2.2.1 q0_ rfl dJ0_charAt_5068e_8 ?_
    refine V.iload_n hC (x := nI j) dJ0_charAt_5068e_11 rfl ?_
    refine V.callSr (n := 2) (As := [.ref (adV G i), .int (nI j)]) (rest := []) hC (c_latinAt (kl K) G i hi j hj) (SFx.k G) hgo gJ0_charAt_5068e_J1_charAt_3b067 rfl ⟨rfl, rfl⟩ (by decide +kernel) ⟨by decide, by decide, by decide, by decide⟩ [] rfl (by decide) rfl rfl (Nat.le_of_ble_eq_true rfl) dJ0_charAt_5068e_12 (fun r_12 u_12 hp_12 => ?_)
    subst hp_12
    show V G K 2 0 0 15 [some (.ref (adK G i)), some (.int (nI j))] [.int (nI (chr i j))] []
    exact hE 15 _ (nI (chr i j)) () dJ0_charAt_5068e_15 (chr_nar i hi j hj) rfl
