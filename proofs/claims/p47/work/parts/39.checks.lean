/-! FeatherShares: the checks that throw (printed by gen/s39.py) -/
def exE (p : Nat) : String := ["", "java/lang/IllegalArgumentException", "java/lang/IndexOutOfBoundsException", "java/util/NoSuchElementException", "java/lang/IllegalStateException", "java/lang/UnsupportedOperationException"].getD p ""
set_option maxHeartbeats 4000000 in
set_option maxRecDepth 100000 in
theorem c_raise0 (l : Launch) (G : Gx) (hst : l.stackTraces = false) : CtX l G (SFt G) yX12_raise wsX12_raise ({ frames := 1, cells := 1, slots := 6, locals := 20 }) [.ref (adP G 0)] [] mkV (fun (_ : Unit) (_ : Unit) => 0 = 0) (fun _ : Unit => []) (fun (E : String) (_ : Unit) => ¬ 0 = 0 ∧ E = exE 0) (fun _ : Unit => []) 1 6 := by
  refine CtX.ofV (cc := cX12_raise) (maxL := 1) (by decide) rfl ⟨by simp [Value.category], Nat.le_of_ble_eq_true rfl⟩ ?_
  intro K hl hC hSF hnm hQ hE
  subst hl
  have hgot := SFgoS (SFt.k G) hSF
  have hgo := SFgo.x hgot
  have hSFt := hSF
  replace hSF := hSF.1
  have q0_ : Cond.fieldLink RX12 341 "FeatherShares$1" "$SwitchMap$FeatherShares$Problem" "[I" ∈ wsX12_raise := by decide +kernel
  show V G K 1 0 0 0 [some (.ref (adP G 0))] [] []
  refine V.gets hC (n := "$SwitchMap$FeatherShares$Problem") hSF.2.2.2.2.1 q0_ rfl dX12_raise_0 ?_
  refine V.aload_n hC (x := adP G 0) dX12_raise_3 rfl ?_
  refine V.callU (x := ⟨"FeatherShares$Problem", "ordinal", "()I"⟩) (n := 0) (As := []) (rest := [.ref (smP G)]) hC (c_ordinalP (kl K) G 0 (by decide)) (SFx.k G) hgo (hSF.pO 0 (by decide)) gX12_raise_Jx29ce0_ordinal_8abf5_u347X6 rfl ⟨rfl, rfl⟩ rfl (by decide +kernel) ⟨by decide, by decide, by decide, by decide⟩ [] rfl (by decide) (fun _ => rfl) rfl rfl (Nat.le_of_ble_eq_true rfl) dX12_raise_4 (fun r_4 u_4 hp_4 => ?_)
  subst hp_4
  show V G K 1 0 0 7 [some (.ref (adP G 0))] [.int (nI 0), .ref (smP G)] []
  refine V.ti hC hSF.2.2.2.2.2.1 dX12_raise_7 0 rfl (by decide) (by decide) (.int (nI 0)) rfl ?_
  refine V.tableOut hC (x := nI 0) 99 dX12_raise_8 (by decide) rfl ?_
  refine V.widen (k := 1) (n := 6) (Nat.le_of_ble_eq_true rfl) (Nat.le_of_ble_eq_true rfl) ?_
  exact hE 99 _ () dX12_raise_99 rfl

set_option maxHeartbeats 4000000 in
set_option maxRecDepth 100000 in
theorem c_raise1 (l : Launch) (G : Gx) (hst : l.stackTraces = false) : CtX l G (SFt G) yX12_raise wsX12_raise ({ frames := 6, cells := 1, slots := 6, locals := 82 }) [.ref (adP G 1)] [] mkV (fun (_ : Unit) (_ : Unit) => 1 = 0) (fun _ : Unit => []) (fun (E : String) (_ : Unit) => ¬ 1 = 0 ∧ E = exE 1) (fun _ : Unit => []) 1 6 := by
  refine CtX.ofV (cc := cX12_raise) (maxL := 1) (by decide) rfl ⟨by simp [Value.category], Nat.le_of_ble_eq_true rfl⟩ ?_
  intro K hl hC hSF hnm hQ hE
  subst hl
  have hgot := SFgoS (SFt.k G) hSF
  have hgo := SFgo.x hgot
  have hSFt := hSF
  replace hSF := hSF.1
  have q0_ : Cond.fieldLink RX12 341 "FeatherShares$1" "$SwitchMap$FeatherShares$Problem" "[I" ∈ wsX12_raise := by decide +kernel
  have q1_ : Cond.classLink RX12 209 "java/lang/IllegalArgumentException" ∈ wsX12_raise := by decide +kernel
  have q2_ : Cond.initialized "java/lang/IllegalArgumentException" ∈ wsX12_raise := by decide +kernel
  have q3_ : ∀ w ∈ (vx_atS RX12 213 "java/lang/IllegalArgumentException" nm2).filter goodWord, w ∈ wsX12_raise := by decide +kernel
  show V G K 1 0 0 0 [some (.ref (adP G 1))] [] []
  refine V.gets hC (n := "$SwitchMap$FeatherShares$Problem") hSF.2.2.2.2.1 q0_ rfl dX12_raise_0 ?_
  refine V.aload_n hC (x := adP G 1) dX12_raise_3 rfl ?_
  refine V.callU (x := ⟨"FeatherShares$Problem", "ordinal", "()I"⟩) (n := 0) (As := []) (rest := [.ref (smP G)]) hC (c_ordinalP (kl K) G 1 (by decide)) (SFx.k G) hgo (hSF.pO 1 (by decide)) gX12_raise_Jx29ce0_ordinal_8abf5_u347X6 rfl ⟨rfl, rfl⟩ rfl (by decide +kernel) ⟨by decide, by decide, by decide, by decide⟩ [] rfl (by decide) (fun _ => rfl) rfl rfl (Nat.le_of_ble_eq_true rfl) dX12_raise_4 (fun r_4 u_4 hp_4 => ?_)
  subst hp_4
  show V G K 1 0 0 7 [some (.ref (adP G 1))] [.int (nI 1), .ref (smP G)] []
  refine V.ti hC hSF.2.2.2.2.2.1 dX12_raise_7 1 rfl (by decide) (by decide) (.int (nI 1)) rfl ?_
  refine V.tableIn hC (x := nI 1) (off := 36) 44 dX12_raise_8 (by decide) (by decide) (by decide) rfl ?_
  exact V.throwSW hC hQ hst (text := "an argument is out of range") () ⟨by decide, rfl⟩ rfl thr2_IA hSFt.2.1.1 hSFt.2.1.2.1 (hSFt.msg (350, "an argument is out of range") (by decide)) (hSFt.ca _ (by decide)) hSFt.de q1_ q2_ q3_ dX12_raise_44 dX12_raise_47 dX12_raise_48 dX12_raise_51 dX12_raise_54 ⟨by decide, by decide, by decide, by decide, by decide, by decide⟩

set_option maxHeartbeats 4000000 in
set_option maxRecDepth 100000 in
theorem c_raise2 (l : Launch) (G : Gx) (hst : l.stackTraces = false) : CtX l G (SFt G) yX12_raise wsX12_raise ({ frames := 6, cells := 1, slots := 6, locals := 82 }) [.ref (adP G 2)] [] mkV (fun (_ : Unit) (_ : Unit) => 2 = 0) (fun _ : Unit => []) (fun (E : String) (_ : Unit) => ¬ 2 = 0 ∧ E = exE 2) (fun _ : Unit => []) 1 6 := by
  refine CtX.ofV (cc := cX12_raise) (maxL := 1) (by decide) rfl ⟨by simp [Value.category], Nat.le_of_ble_eq_true rfl⟩ ?_
  intro K hl hC hSF hnm hQ hE
  subst hl
  have hgot := SFgoS (SFt.k G) hSF
  have hgo := SFgo.x hgot
  have hSFt := hSF
  replace hSF := hSF.1
  have q0_ : Cond.fieldLink RX12 341 "FeatherShares$1" "$SwitchMap$FeatherShares$Problem" "[I" ∈ wsX12_raise := by decide +kernel
  have q1_ : Cond.classLink RX12 145 "java/lang/IndexOutOfBoundsException" ∈ wsX12_raise := by decide +kernel
  have q2_ : Cond.initialized "java/lang/IndexOutOfBoundsException" ∈ wsX12_raise := by decide +kernel
  have q3_ : ∀ w ∈ (vx_atS RX12 149 "java/lang/IndexOutOfBoundsException" nm2).filter goodWord, w ∈ wsX12_raise := by decide +kernel
  show V G K 1 0 0 0 [some (.ref (adP G 2))] [] []
  refine V.gets hC (n := "$SwitchMap$FeatherShares$Problem") hSF.2.2.2.2.1 q0_ rfl dX12_raise_0 ?_
  refine V.aload_n hC (x := adP G 2) dX12_raise_3 rfl ?_
  refine V.callU (x := ⟨"FeatherShares$Problem", "ordinal", "()I"⟩) (n := 0) (As := []) (rest := [.ref (smP G)]) hC (c_ordinalP (kl K) G 2 (by decide)) (SFx.k G) hgo (hSF.pO 2 (by decide)) gX12_raise_Jx29ce0_ordinal_8abf5_u347X6 rfl ⟨rfl, rfl⟩ rfl (by decide +kernel) ⟨by decide, by decide, by decide, by decide⟩ [] rfl (by decide) (fun _ => rfl) rfl rfl (Nat.le_of_ble_eq_true rfl) dX12_raise_4 (fun r_4 u_4 hp_4 => ?_)
  subst hp_4
  show V G K 1 0 0 7 [some (.ref (adP G 2))] [.int (nI 2), .ref (smP G)] []
  refine V.ti hC hSF.2.2.2.2.2.1 dX12_raise_7 2 rfl (by decide) (by decide) (.int (nI 2)) rfl ?_
  refine V.tableIn hC (x := nI 2) (off := 47) 55 dX12_raise_8 (by decide) (by decide) (by decide) rfl ?_
  exact V.throwSW hC hQ hst (text := "there is no such bird") () ⟨by decide, rfl⟩ rfl thr2_IO hSFt.2.1.1 hSFt.2.1.2.1 (hSFt.msg (352, "there is no such bird") (by decide)) (hSFt.ca _ (by decide)) hSFt.de q1_ q2_ q3_ dX12_raise_55 dX12_raise_58 dX12_raise_59 dX12_raise_62 dX12_raise_65 ⟨by decide, by decide, by decide, by decide, by decide, by decide⟩

set_option maxHeartbeats 4000000 in
set_option maxRecDepth 100000 in
theorem c_raise3 (l : Launch) (G : Gx) (hst : l.stackTraces = false) : CtX l G (SFt G) yX12_raise wsX12_raise ({ frames := 6, cells := 1, slots := 6, locals := 82 }) [.ref (adP G 3)] [] mkV (fun (_ : Unit) (_ : Unit) => 3 = 0) (fun _ : Unit => []) (fun (E : String) (_ : Unit) => ¬ 3 = 0 ∧ E = exE 3) (fun _ : Unit => []) 1 6 := by
  refine CtX.ofV (cc := cX12_raise) (maxL := 1) (by decide) rfl ⟨by simp [Value.category], Nat.le_of_ble_eq_true rfl⟩ ?_
  intro K hl hC hSF hnm hQ hE
  subst hl
  have hgot := SFgoS (SFt.k G) hSF
  have hgo := SFgo.x hgot
  have hSFt := hSF
  replace hSF := hSF.1
  have q0_ : Cond.fieldLink RX12 341 "FeatherShares$1" "$SwitchMap$FeatherShares$Problem" "[I" ∈ wsX12_raise := by decide +kernel
  have q1_ : Cond.classLink RX12 125 "java/util/NoSuchElementException" ∈ wsX12_raise := by decide +kernel
  have q2_ : Cond.initialized "java/util/NoSuchElementException" ∈ wsX12_raise := by decide +kernel
  have q3_ : ∀ w ∈ (vx_atS RX12 129 "java/util/NoSuchElementException" nm2).filter goodWord, w ∈ wsX12_raise := by decide +kernel
  show V G K 1 0 0 0 [some (.ref (adP G 3))] [] []
  refine V.gets hC (n := "$SwitchMap$FeatherShares$Problem") hSF.2.2.2.2.1 q0_ rfl dX12_raise_0 ?_
  refine V.aload_n hC (x := adP G 3) dX12_raise_3 rfl ?_
  refine V.callU (x := ⟨"FeatherShares$Problem", "ordinal", "()I"⟩) (n := 0) (As := []) (rest := [.ref (smP G)]) hC (c_ordinalP (kl K) G 3 (by decide)) (SFx.k G) hgo (hSF.pO 3 (by decide)) gX12_raise_Jx29ce0_ordinal_8abf5_u347X6 rfl ⟨rfl, rfl⟩ rfl (by decide +kernel) ⟨by decide, by decide, by decide, by decide⟩ [] rfl (by decide) (fun _ => rfl) rfl rfl (Nat.le_of_ble_eq_true rfl) dX12_raise_4 (fun r_4 u_4 hp_4 => ?_)
  subst hp_4
  show V G K 1 0 0 7 [some (.ref (adP G 3))] [.int (nI 3), .ref (smP G)] []
  refine V.ti hC hSF.2.2.2.2.2.1 dX12_raise_7 3 rfl (by decide) (by decide) (.int (nI 3)) rfl ?_
  refine V.tableIn hC (x := nI 3) (off := 58) 66 dX12_raise_8 (by decide) (by decide) (by decide) rfl ?_
  exact V.throwSW hC hQ hst (text := "there is no such secret") () ⟨by decide, rfl⟩ rfl thr2_NS hSFt.2.1.1 hSFt.2.1.2.1 (hSFt.msg (354, "there is no such secret") (by decide)) (hSFt.ca _ (by decide)) hSFt.de q1_ q2_ q3_ dX12_raise_66 dX12_raise_69 dX12_raise_70 dX12_raise_73 dX12_raise_76 ⟨by decide, by decide, by decide, by decide, by decide, by decide⟩

set_option maxHeartbeats 4000000 in
set_option maxRecDepth 100000 in
theorem c_raise4 (l : Launch) (G : Gx) (hst : l.stackTraces = false) : CtX l G (SFt G) yX12_raise wsX12_raise ({ frames := 6, cells := 1, slots := 6, locals := 82 }) [.ref (adP G 4)] [] mkV (fun (_ : Unit) (_ : Unit) => 4 = 0) (fun _ : Unit => []) (fun (E : String) (_ : Unit) => ¬ 4 = 0 ∧ E = exE 4) (fun _ : Unit => []) 1 6 := by
  refine CtX.ofV (cc := cX12_raise) (maxL := 1) (by decide) rfl ⟨by simp [Value.category], Nat.le_of_ble_eq_true rfl⟩ ?_
  intro K hl hC hSF hnm hQ hE
  subst hl
  have hgot := SFgoS (SFt.k G) hSF
  have hgo := SFgo.x hgot
  have hSFt := hSF
  replace hSF := hSF.1
  have q0_ : Cond.fieldLink RX12 341 "FeatherShares$1" "$SwitchMap$FeatherShares$Problem" "[I" ∈ wsX12_raise := by decide +kernel
  have q1_ : Cond.classLink RX12 165 "java/lang/IllegalStateException" ∈ wsX12_raise := by decide +kernel
  have q2_ : Cond.initialized "java/lang/IllegalStateException" ∈ wsX12_raise := by decide +kernel
  have q3_ : ∀ w ∈ (vx_atS RX12 169 "java/lang/IllegalStateException" nm2).filter goodWord, w ∈ wsX12_raise := by decide +kernel
  show V G K 1 0 0 0 [some (.ref (adP G 4))] [] []
  refine V.gets hC (n := "$SwitchMap$FeatherShares$Problem") hSF.2.2.2.2.1 q0_ rfl dX12_raise_0 ?_
  refine V.aload_n hC (x := adP G 4) dX12_raise_3 rfl ?_
  refine V.callU (x := ⟨"FeatherShares$Problem", "ordinal", "()I"⟩) (n := 0) (As := []) (rest := [.ref (smP G)]) hC (c_ordinalP (kl K) G 4 (by decide)) (SFx.k G) hgo (hSF.pO 4 (by decide)) gX12_raise_Jx29ce0_ordinal_8abf5_u347X6 rfl ⟨rfl, rfl⟩ rfl (by decide +kernel) ⟨by decide, by decide, by decide, by decide⟩ [] rfl (by decide) (fun _ => rfl) rfl rfl (Nat.le_of_ble_eq_true rfl) dX12_raise_4 (fun r_4 u_4 hp_4 => ?_)
  subst hp_4
  show V G K 1 0 0 7 [some (.ref (adP G 4))] [.int (nI 4), .ref (smP G)] []
  refine V.ti hC hSF.2.2.2.2.2.1 dX12_raise_7 4 rfl (by decide) (by decide) (.int (nI 4)) rfl ?_
  refine V.tableIn hC (x := nI 4) (off := 69) 77 dX12_raise_8 (by decide) (by decide) (by decide) rfl ?_
  exact V.throwSW hC hQ hst (text := "the state does not allow the call") () ⟨by decide, rfl⟩ rfl thr2_IS hSFt.2.1.1 hSFt.2.1.2.1 (hSFt.msg (356, "the state does not allow the call") (by decide)) (hSFt.ca _ (by decide)) hSFt.de q1_ q2_ q3_ dX12_raise_77 dX12_raise_80 dX12_raise_81 dX12_raise_84 dX12_raise_87 ⟨by decide, by decide, by decide, by decide, by decide, by decide⟩

set_option maxHeartbeats 4000000 in
set_option maxRecDepth 100000 in
theorem c_raise5 (l : Launch) (G : Gx) (hst : l.stackTraces = false) : CtX l G (SFt G) yX12_raise wsX12_raise ({ frames := 6, cells := 1, slots := 6, locals := 82 }) [.ref (adP G 5)] [] mkV (fun (_ : Unit) (_ : Unit) => 5 = 0) (fun _ : Unit => []) (fun (E : String) (_ : Unit) => ¬ 5 = 0 ∧ E = exE 5) (fun _ : Unit => []) 1 6 := by
  refine CtX.ofV (cc := cX12_raise) (maxL := 1) (by decide) rfl ⟨by simp [Value.category], Nat.le_of_ble_eq_true rfl⟩ ?_
  intro K hl hC hSF hnm hQ hE
  subst hl
  have hgot := SFgoS (SFt.k G) hSF
  have hgo := SFgo.x hgot
  have hSFt := hSF
  replace hSF := hSF.1
  have q0_ : Cond.fieldLink RX12 341 "FeatherShares$1" "$SwitchMap$FeatherShares$Problem" "[I" ∈ wsX12_raise := by decide +kernel
  have q1_ : Cond.classLink RX12 268 "java/lang/UnsupportedOperationException" ∈ wsX12_raise := by decide +kernel
  have q2_ : Cond.initialized "java/lang/UnsupportedOperationException" ∈ wsX12_raise := by decide +kernel
  have q3_ : ∀ w ∈ (vx_atS RX12 272 "java/lang/UnsupportedOperationException" nm2).filter goodWord, w ∈ wsX12_raise := by decide +kernel
  show V G K 1 0 0 0 [some (.ref (adP G 5))] [] []
  refine V.gets hC (n := "$SwitchMap$FeatherShares$Problem") hSF.2.2.2.2.1 q0_ rfl dX12_raise_0 ?_
  refine V.aload_n hC (x := adP G 5) dX12_raise_3 rfl ?_
  refine V.callU (x := ⟨"FeatherShares$Problem", "ordinal", "()I"⟩) (n := 0) (As := []) (rest := [.ref (smP G)]) hC (c_ordinalP (kl K) G 5 (by decide)) (SFx.k G) hgo (hSF.pO 5 (by decide)) gX12_raise_Jx29ce0_ordinal_8abf5_u347X6 rfl ⟨rfl, rfl⟩ rfl (by decide +kernel) ⟨by decide, by decide, by decide, by decide⟩ [] rfl (by decide) (fun _ => rfl) rfl rfl (Nat.le_of_ble_eq_true rfl) dX12_raise_4 (fun r_4 u_4 hp_4 => ?_)
  subst hp_4
  show V G K 1 0 0 7 [some (.ref (adP G 5))] [.int (nI 5), .ref (smP G)] []
  refine V.ti hC hSF.2.2.2.2.2.1 dX12_raise_7 5 rfl (by decide) (by decide) (.int (nI 5)) rfl ?_
  refine V.tableIn hC (x := nI 5) (off := 80) 88 dX12_raise_8 (by decide) (by decide) (by decide) rfl ?_
  exact V.throwSW hC hQ hst (text := "there are fewer holders than the threshold") () ⟨by decide, rfl⟩ rfl thr2_UO hSFt.2.1.1 hSFt.2.1.2.1 (hSFt.msg (358, "there are fewer holders than the threshold") (by decide)) (hSFt.ca _ (by decide)) hSFt.de q1_ q2_ q3_ dX12_raise_88 dX12_raise_91 dX12_raise_92 dX12_raise_95 dX12_raise_98 ⟨by decide, by decide, by decide, by decide, by decide, by decide⟩

theorem c_raise (l : Launch) (G : Gx) (hst : l.stackTraces = false) (p : Nat) (hp : p < 6) : CtX l G (SFt G) yX12_raise wsX12_raise ({ frames := 6, cells := 1, slots := 6, locals := 82 }) [.ref (adP G p)] [] mkV (fun (_ : Unit) (_ : Unit) => p = 0) (fun _ : Unit => []) (fun (E : String) (_ : Unit) => ¬ p = 0 ∧ E = exE p) (fun _ : Unit => []) 1 6 := by
  obtain rfl | rfl | rfl | rfl | rfl | rfl := lt6 hp
  · exact CtX.room (c_raise0 l G hst) (by decide) (by decide) (by decide) (by decide)
  · exact CtX.room (c_raise1 l G hst) (by decide) (by decide) (by decide) (by decide)
  · exact CtX.room (c_raise2 l G hst) (by decide) (by decide) (by decide) (by decide)
  · exact CtX.room (c_raise3 l G hst) (by decide) (by decide) (by decide) (by decide)
  · exact CtX.room (c_raise4 l G hst) (by decide) (by decide) (by decide) (by decide)
  · exact CtX.room (c_raise5 l G hst) (by decide) (by decide) (by decide) (by decide)
set_option maxHeartbeats 4000000 in
set_option maxRecDepth 100000 in
theorem c_requireBird (l : Launch) (G : Gx) (hst : l.stackTraces = false) (fs h h2 h3 hh hr hg hq hl : Nat) (iS eA fA : Int32) (ah as_ : Nat) (rr ra : Nat → Nat) (s : ASt) (B : Nat) (hI : InvA B s) (x : Int32) : CtX l G (SFt G) yX12_requireBird wsX12_requireBird ({ frames := 6, cells := 1, slots := 6, locals := 82 }) [.ref fs, .int x] ([(fs, .inr (12, [.ref h, .ref h2, .ref h3, .ref hh, .ref hr, .ref hg, .ref hq, .ref hl, .int iS, .int eA, .int fA]))] ++ (stW G h ah as_ rr ra (sHm s) (sNb s) (sNs s) (sLa s) (sLo s) (sNu s) (sTn s) (sSh s))) mkV (fun (_ : Unit) (_ : Unit) => ¬ x < 0 ∧ x < nI (sNb s)) (fun _ : Unit => ([(fs, .inr (12, [.ref h, .ref h2, .ref h3, .ref hh, .ref hr, .ref hg, .ref hq, .ref hl, .int iS, .int eA, .int fA]))] ++ (stW G h ah as_ rr ra (sHm s) (sNb s) (sNs s) (sLa s) (sLo s) (sNu s) (sTn s) (sSh s)))) (fun (E : String) (_ : Unit) => E = "java/lang/IndexOutOfBoundsException" ∧ ¬ (¬ x < 0 ∧ x < nI (sNb s))) (fun _ : Unit => ([(fs, .inr (12, [.ref h, .ref h2, .ref h3, .ref hh, .ref hr, .ref hg, .ref hq, .ref hl, .int iS, .int eA, .int fA]))] ++ (stW G h ah as_ rr ra (sHm s) (sNb s) (sNs s) (sLa s) (sLo s) (sNu s) (sTn s) (sSh s)))) 1 6 := by
  have hb8 := hI.1
  have hs6 := hI.2.1
  refine CtX.ofV (cc := cX12_requireBird) (maxL := 2) (by decide) rfl ⟨by simp [Value.category], Nat.le_of_ble_eq_true rfl⟩ ?_
  intro K hl hC hSF hnm hQ hE
  subst hl
  have hgot := SFgoS (SFt.k G) hSF
  have hgo := SFgo.x hgot
  have hSFt := hSF
  replace hSF := hSF.1
  have q0_ : ∀ w ∈ u_ws RX12 TX12 11, w ∈ wsX12_requireBird := by decide +kernel
  have q1_ : Cond.fieldLink RX12 20 "FeatherShares" "state" "LFeatherShares$State;" ∈ wsX12_requireBird := by decide +kernel
  have q2_ : Cond.classLink RX12 145 "java/lang/IndexOutOfBoundsException" ∈ wsX12_requireBird := by decide +kernel
  have q3_ : Cond.initialized "java/lang/IndexOutOfBoundsException" ∈ wsX12_requireBird := by decide +kernel
  have q4_ : ∀ w ∈ (vx_atS RX12 149 "java/lang/IndexOutOfBoundsException" nm2).filter goodWord, w ∈ wsX12_requireBird := by decide +kernel
  show V G K 2 0 0 0 [some (.ref fs), some (.int x)] [] ([(fs, .inr (12, [.ref h, .ref h2, .ref h3, .ref hh, .ref hr, .ref hg, .ref hq, .ref hl, .int iS, .int eA, .int fA]))] ++ (stW G h ah as_ rr ra (sHm s) (sNb s) (sNs s) (sLa s) (sLo s) (sNu s) (sTn s) (sSh s)))
  refine V.aload_n hC (x := fs) dX12_requireBird_0 rfl ?_
  refine V.getf hC (T := TX12) q0_ 0 q1_ rfl (0) rfl rfl (by decide) (.ref h) rfl dX12_requireBird_1 ?_
  refine V.iload_n hC (x := x) dX12_requireBird_4 rfl ?_
  refine V.callVr (n := 1) (As := [.int x]) (rest := []) hC (c_hasBird (kl K) G h ah as_ rr ra (sHm s) (sNb s) (sNs s) (sLa s) (sLo s) (sNu s) (sTn s) (sSh s) hb8 hs6 x) SFk0 SFgo0 gX12_requireBird_X11_hasBird rfl ⟨rfl, rfl⟩ (by decide +kernel) ⟨by decide, by decide, by decide, by decide⟩ [1, 2, 3, 4, 5, 6, 7, 8, 9, 10, 11, 12, 13, 14, 15] rfl (by decide) rfl rfl rfl rfl (Nat.le_of_ble_eq_true rfl) dX12_requireBird_5 (fun r_5 u_5 hp_5 => ?_)
  subst hp_5
  show V G K 2 0 0 8 [some (.ref fs), some (.int x)] [.int (if ¬ x < 0 ∧ x < nI (sNb s) then 1 else 0)] ([(fs, .inr (12, [.ref h, .ref h2, .ref h3, .ref hh, .ref hr, .ref hg, .ref hq, .ref hl, .int iS, .int eA, .int fA]))] ++ (stW G h ah as_ rr ra (sHm s) (sNb s) (sNs s) (sLa s) (sLo s) (sNu s) (sTn s) (sSh s)))
  refine V.if_ne hC 22 dX12_requireBird_8 rfl (fun c_8 => ?_) (fun c_8 => ?_)
  · refine V.widen (k := 1) (n := 6) (Nat.le_of_ble_eq_true rfl) (Nat.le_of_ble_eq_true rfl) ?_
    exact hE 22 _ () dX12_requireBird_22 (if10n c_8)
  · exact V.throwSW hC hQ hst (text := "there is no such bird") () ⟨rfl, if10 c_8⟩ rfl thr2_IO hSFt.2.1.1 hSFt.2.1.2.1 (hSFt.msg (352, "there is no such bird") (by decide)) (hSFt.ca _ (by decide)) hSFt.de q2_ q3_ q4_ dX12_requireBird_11 dX12_requireBird_14 dX12_requireBird_15 dX12_requireBird_18 dX12_requireBird_21 ⟨by decide, by decide, by decide, by decide, by decide, by decide⟩

set_option maxHeartbeats 4000000 in
set_option maxRecDepth 100000 in
theorem c_requireNest (l : Launch) (G : Gx) (hst : l.stackTraces = false) (x : Int32) : CtX l G (SFt G) yX12_requireNest wsX12_requireNest ({ frames := 6, cells := 1, slots := 6, locals := 82 }) [.int x] [] mkV (fun (_ : Unit) (_ : Unit) => ¬ x < 0 ∧ x < 4) (fun _ : Unit => []) (fun (E : String) (_ : Unit) => E = "java/lang/IllegalArgumentException" ∧ ¬ (¬ x < 0 ∧ x < 4)) (fun _ : Unit => []) 1 6 := by
  refine CtX.ofV (cc := cX12_requireNest) (maxL := 1) (by decide) rfl ⟨by simp [Value.category], Nat.le_of_ble_eq_true rfl⟩ ?_
  intro K hl hC hSF hnm hQ hE
  subst hl
  have hgot := SFgoS (SFt.k G) hSF
  have hgo := SFgo.x hgot
  have hSFt := hSF
  replace hSF := hSF.1
  have q0_ : Cond.classLink RX12 209 "java/lang/IllegalArgumentException" ∈ wsX12_requireNest := by decide +kernel
  have q1_ : Cond.initialized "java/lang/IllegalArgumentException" ∈ wsX12_requireNest := by decide +kernel
  have q2_ : ∀ w ∈ (vx_atS RX12 213 "java/lang/IllegalArgumentException" nm2).filter goodWord, w ∈ wsX12_requireNest := by decide +kernel
  show V G K 1 0 0 0 [some (.int x)] [] []
  refine V.iload_n hC (x := x) dX12_requireNest_0 rfl ?_
  refine V.callSr (n := 1) (As := [.int x]) (rest := []) hC (c_isNest (kl K) G x) SFk0 SFgo0 gX12_requireNest_X11_isNest rfl ⟨rfl, rfl⟩ (by decide +kernel) ⟨by decide, by decide, by decide, by decide⟩ [] rfl (by decide) rfl rfl (Nat.le_of_ble_eq_true rfl) dX12_requireNest_1 (fun r_1 u_1 hp_1 => ?_)
  subst hp_1
  show V G K 1 0 0 4 [some (.int x)] [.int (if ¬ x < 0 ∧ x < 4 then 1 else 0)] []
  refine V.if_ne hC 18 dX12_requireNest_4 rfl (fun c_4 => ?_) (fun c_4 => ?_)
  · refine V.widen (k := 1) (n := 6) (Nat.le_of_ble_eq_true rfl) (Nat.le_of_ble_eq_true rfl) ?_
    exact hE 18 _ () dX12_requireNest_18 (if10n c_4)
  · exact V.throwSW hC hQ hst (text := "the nest is out of range") () ⟨rfl, if10 c_4⟩ rfl thr2_IA hSFt.2.1.1 hSFt.2.1.2.1 (hSFt.msg (366, "the nest is out of range") (by decide)) (hSFt.ca _ (by decide)) hSFt.de q0_ q1_ q2_ dX12_requireNest_7 dX12_requireNest_10 dX12_requireNest_11 dX12_requireNest_14 dX12_requireNest_17 ⟨by decide, by decide, by decide, by decide, by decide, by decide⟩

set_option maxHeartbeats 4000000 in
set_option maxRecDepth 100000 in
theorem c_existing (l : Launch) (G : Gx) (hst : l.stackTraces = false) (fs h h2 h3 hh hr hg hq hl : Nat) (iS eA fA : Int32) (ah as_ : Nat) (rr ra : Nat → Nat) (s : ASt) (B : Nat) (hI : InvA B s) (x : Int32) : CtX l G (SFt G) yX12_existing wsX12_existing ({ frames := 6, cells := 1, slots := 6, locals := 82 }) [.ref fs, .int x] ([(fs, .inr (12, [.ref h, .ref h2, .ref h3, .ref hh, .ref hr, .ref hg, .ref hq, .ref hl, .int iS, .int eA, .int fA]))] ++ (stW G h ah as_ rr ra (sHm s) (sNb s) (sNs s) (sLa s) (sLo s) (sNu s) (sTn s) (sSh s))) mkA (fun (r : Option Nat) (_ : Unit) => ∃ k, fd (sNu s) x (sNs s) = some k ∧ r = some (rr k)) (fun _ : Unit => ([(fs, .inr (12, [.ref h, .ref h2, .ref h3, .ref hh, .ref hr, .ref hg, .ref hq, .ref hl, .int iS, .int eA, .int fA]))] ++ (stW G h ah as_ rr ra (sHm s) (sNb s) (sNs s) (sLa s) (sLo s) (sNu s) (sTn s) (sSh s)))) (fun (E : String) (_ : Unit) => E = "java/util/NoSuchElementException" ∧ fd (sNu s) x (sNs s) = none) (fun _ : Unit => ([(fs, .inr (12, [.ref h, .ref h2, .ref h3, .ref hh, .ref hr, .ref hg, .ref hq, .ref hl, .int iS, .int eA, .int fA]))] ++ (stW G h ah as_ rr ra (sHm s) (sNb s) (sNs s) (sLa s) (sLo s) (sNu s) (sTn s) (sSh s)))) 1 6 := by
  have hb8 := hI.1
  have hs6 := hI.2.1
  refine CtX.ofA (mk := fun r : Option Nat => va_rf r) (fun r => va_rf_or r) (Or.inl ⟨_, rfl⟩) (cc := cX12_existing) (maxL := 3) (by decide) rfl ⟨by simp [Value.category], Nat.le_of_ble_eq_true rfl⟩ ?_
  intro K hl hC hSF hnm hQ hE
  subst hl
  have hgot := SFgoS (SFt.k G) hSF
  have hgo := SFgo.x hgot
  have hSFt := hSF
  replace hSF := hSF.1
  have q0_ : ∀ w ∈ u_ws RX12 TX12 11, w ∈ wsX12_existing := by decide +kernel
  have q1_ : Cond.fieldLink RX12 20 "FeatherShares" "state" "LFeatherShares$State;" ∈ wsX12_existing := by decide +kernel
  have q2_ : Cond.classLink RX12 125 "java/util/NoSuchElementException" ∈ wsX12_existing := by decide +kernel
  have q3_ : Cond.initialized "java/util/NoSuchElementException" ∈ wsX12_existing := by decide +kernel
  have q4_ : ∀ w ∈ (vx_atS RX12 129 "java/util/NoSuchElementException" nm2).filter goodWord, w ∈ wsX12_existing := by decide +kernel
  show V G K 3 0 0 0 [some (.ref fs), some (.int x), none] [] ([(fs, .inr (12, [.ref h, .ref h2, .ref h3, .ref hh, .ref hr, .ref hg, .ref hq, .ref hl, .int iS, .int eA, .int fA]))] ++ (stW G h ah as_ rr ra (sHm s) (sNb s) (sNs s) (sLa s) (sLo s) (sNu s) (sTn s) (sSh s)))
  refine V.aload_n hC (x := fs) dX12_existing_0 rfl ?_
  refine V.getf hC (T := TX12) q0_ 0 q1_ rfl (0) rfl rfl (by decide) (.ref h) rfl dX12_existing_1 ?_
  refine V.iload_n hC (x := x) dX12_existing_4 rfl ?_
  refine V.callVr (n := 1) (As := [.int x]) (rest := []) hC (c_find (kl K) G h ah as_ rr ra (sHm s) (sNb s) (sNs s) (sLa s) (sLo s) (sNu s) (sTn s) (sSh s) hb8 hs6 x) SFk0 SFgo0 gX12_existing_X11_find rfl ⟨rfl, rfl⟩ (by decide +kernel) ⟨by decide, by decide, by decide, by decide⟩ [1, 2, 3, 4, 5, 6, 7, 8, 9, 10, 11, 12, 13, 14, 15] rfl (by decide) rfl rfl rfl rfl (Nat.le_of_ble_eq_true rfl) dX12_existing_5 (fun r_5 u_5 hp_5 => ?_)
  rcases hf : fd (sNu s) x (sNs s) with _ | k
  · rw [hf] at hp_5
    subst hp_5
    show V G K 3 0 0 8 [some (.ref fs), some (.int x), none] [.null] ([(fs, .inr (12, [.ref h, .ref h2, .ref h3, .ref hh, .ref hr, .ref hg, .ref hq, .ref hl, .int iS, .int eA, .int fA]))] ++ (stW G h ah as_ rr ra (sHm s) (sNb s) (sNs s) (sLa s) (sLo s) (sNu s) (sTn s) (sSh s)))
    refine V.astore_nN hC dX12_existing_8 [some (.ref fs), some (.int x), some (.null)] (Nat.le_of_ble_eq_true rfl) rfl ?_
    refine V.aload_nN hC dX12_existing_9 rfl ?_
    refine V.ifnonnullN hC dX12_existing_10 ?_
    exact V.throwSW hC hQ hst (text := "there is no such secret") () ⟨rfl, hf⟩ rfl thr2_NS hSFt.2.1.1 hSFt.2.1.2.1 (hSFt.msg (354, "there is no such secret") (by decide)) (hSFt.ca _ (by decide)) hSFt.de q2_ q3_ q4_ dX12_existing_13 dX12_existing_16 dX12_existing_17 dX12_existing_20 dX12_existing_23 ⟨by decide, by decide, by decide, by decide, by decide, by decide⟩
  · rw [hf] at hp_5
    subst hp_5
    have hk := (fd_lt hf hs6).2
    show V G K 3 0 0 8 [some (.ref fs), some (.int x), none] [.ref (rr k)] ([(fs, .inr (12, [.ref h, .ref h2, .ref h3, .ref hh, .ref hr, .ref hg, .ref hq, .ref hl, .int iS, .int eA, .int fA]))] ++ (stW G h ah as_ rr ra (sHm s) (sNb s) (sNs s) (sLa s) (sLo s) (sNu s) (sTn s) (sSh s)))
    refine V.astore_n hC dX12_existing_8 [some (.ref fs), some (.int x), some (.ref (rr k))] (Nat.le_of_ble_eq_true rfl) rfl ?_
    refine V.aload_n hC (x := rr k) dX12_existing_9 rfl ?_
    refine V.ifnonnull hC 24 dX12_existing_10 rfl ?_
    refine V.aload_n hC (x := rr k) dX12_existing_24 rfl ?_
    refine V.widen (k := 1) (n := 6) (Nat.le_of_ble_eq_true rfl) (Nat.le_of_ble_eq_true rfl) ?_
    exact hE 25 _ (some (rr k)) () dX12_existing_25 ⟨k, hf, rfl⟩

set_option maxHeartbeats 4000000 in
set_option maxRecDepth 100000 in
theorem c_rebuildable (l : Launch) (G : Gx) (hst : l.stackTraces = false) (fs h h2 h3 hh hr hg hq hl : Nat) (iS eA fA : Int32) (ah as_ : Nat) (rr ra : Nat → Nat) (s : ASt) (B : Nat) (hI : InvA B s) (x : Int32) : CtX l G (SFt G) yX12_rebuildable wsX12_rebuildable ({ frames := 7, cells := 2, slots := 12, locals := 104 }) [.ref fs, .int x] ([(fs, .inr (12, [.ref h, .ref h2, .ref h3, .ref hh, .ref hr, .ref hg, .ref hq, .ref hl, .int iS, .int eA, .int fA]))] ++ (stW G h ah as_ rr ra (sHm s) (sNb s) (sNs s) (sLa s) (sLo s) (sNu s) (sTn s) (sSh s))) mkA (fun (r : Option Nat) (_ : Unit) => ∃ k, fd (sNu s) x (sNs s) = some k ∧ r = some (rr k) ∧ sTn s k ≤ hc (sSh s k) 8) (fun _ : Unit => ([(fs, .inr (12, [.ref h, .ref h2, .ref h3, .ref hh, .ref hr, .ref hg, .ref hq, .ref hl, .int iS, .int eA, .int fA]))] ++ (stW G h ah as_ rr ra (sHm s) (sNb s) (sNs s) (sLa s) (sLo s) (sNu s) (sTn s) (sSh s)))) (fun (E : String) (_ : Unit) => (E = "java/util/NoSuchElementException" ∧ fd (sNu s) x (sNs s) = none) ∨ (E = "java/lang/IllegalStateException" ∧ ∃ k, fd (sNu s) x (sNs s) = some k ∧ ¬ sTn s k ≤ hc (sSh s k) 8)) (fun _ : Unit => ([(fs, .inr (12, [.ref h, .ref h2, .ref h3, .ref hh, .ref hr, .ref hg, .ref hq, .ref hl, .int iS, .int eA, .int fA]))] ++ (stW G h ah as_ rr ra (sHm s) (sNb s) (sNs s) (sLa s) (sLo s) (sNu s) (sTn s) (sSh s)))) 2 12 := by
  have hb8 := hI.1
  have hs6 := hI.2.1
  refine CtX.ofA (mk := fun r : Option Nat => va_rf r) (fun r => va_rf_or r) (Or.inl ⟨_, rfl⟩) (cc := cX12_rebuildable) (maxL := 3) (by decide) rfl ⟨by simp [Value.category], Nat.le_of_ble_eq_true rfl⟩ ?_
  intro K hl hC hSF hnm hQ hE
  subst hl
  have hgot := SFgoS (SFt.k G) hSF
  have hgo := SFgo.x hgot
  have hSFt := hSF
  replace hSF := hSF.1
  have q0_ : Cond.classLink RX12 165 "java/lang/IllegalStateException" ∈ wsX12_rebuildable := by decide +kernel
  have q1_ : Cond.initialized "java/lang/IllegalStateException" ∈ wsX12_rebuildable := by decide +kernel
  have q2_ : ∀ w ∈ (vx_atS RX12 169 "java/lang/IllegalStateException" nm2).filter goodWord, w ∈ wsX12_rebuildable := by decide +kernel
  show V G K 3 0 0 0 [some (.ref fs), some (.int x), none] [] ([(fs, .inr (12, [.ref h, .ref h2, .ref h3, .ref hh, .ref hr, .ref hg, .ref hq, .ref hl, .int iS, .int eA, .int fA]))] ++ (stW G h ah as_ rr ra (sHm s) (sNb s) (sNs s) (sLa s) (sLo s) (sNu s) (sTn s) (sSh s)))
  refine V.aload_n hC (x := fs) dX12_rebuildable_0 rfl ?_
  refine V.iload_n hC (x := x) dX12_rebuildable_1 rfl ?_
  refine V.callVXr (n := 1) (As := [.int x]) (rest := []) hC (c_existing (kl K) G hst fs h h2 h3 hh hr hg hq hl iS eA fA ah as_ rr ra s B hI x) (SFt.k G) hgot gX12_rebuildable_X12_existing rfl ⟨rfl, rfl⟩ (by decide +kernel) ⟨by decide, by decide, by decide, by decide⟩ [0, 1, 2, 3, 4, 5, 6, 7, 8, 9, 10, 11, 12, 13, 14, 15] rfl (by decide) rfl rfl rfl rfl (Nat.le_of_ble_eq_true rfl) dX12_rebuildable_2 (fun E_ u_ hx_ => VX.out hC hQ () (Or.inl hx_) rfl (Nat.le_of_ble_eq_true rfl) (Nat.le_of_ble_eq_true rfl)) (fun r_2 u_2 hp_2 => ?_)
  obtain ⟨k, hf, er_2⟩ := hp_2
  subst er_2
  have hk := (fd_lt hf hs6).2
  have ik := hI.2.2.1 k (fd_lt hf hs6).1
  show V G K 3 1 6 5 [some (.ref fs), some (.int x), none] [.ref (rr k)] ([(fs, .inr (12, [.ref h, .ref h2, .ref h3, .ref hh, .ref hr, .ref hg, .ref hq, .ref hl, .int iS, .int eA, .int fA]))] ++ (stW G h ah as_ rr ra (sHm s) (sNb s) (sNs s) (sLa s) (sLo s) (sNu s) (sTn s) (sSh s)))
  refine V.astore_n hC dX12_rebuildable_5 [some (.ref fs), some (.int x), some (.ref (rr k))] (Nat.le_of_ble_eq_true rfl) rfl ?_
  refine V.aload_n hC (x := rr k) dX12_rebuildable_6 rfl ?_
  refine V.callVr (n := 0) (As := []) (rest := []) hC (c_isRebuildable (kl K) G (rr k) (ra k) (sSh s k) (sNu s k) (sTn s k) ik.2.1) SFk0 SFgo0 gX12_rebuildable_X10_isRebuildable rfl ⟨rfl, rfl⟩ (by decide +kernel) ⟨by decide, by decide, by decide, by decide⟩ [1 + (3 + 2 * k), 1 + (4 + 2 * k)] (by rcases (lt6 hk) with rfl | rfl | rfl | rfl | rfl | rfl <;> rfl) (by rcases (lt6 hk) with rfl | rfl | rfl | rfl | rfl | rfl <;> rfl) rfl rfl rfl rfl (Nat.le_of_ble_eq_true rfl) dX12_rebuildable_7 (fun r_7 u_7 hp_7 => ?_)
  subst hp_7
  show V G K 3 1 6 10 [some (.ref fs), some (.int x), some (.ref (rr k))] [.int (if sTn s k ≤ hc (sSh s k) 8 then 1 else 0)] ([(fs, .inr (12, [.ref h, .ref h2, .ref h3, .ref hh, .ref hr, .ref hg, .ref hq, .ref hl, .int iS, .int eA, .int fA]))] ++ (stW G h ah as_ rr ra (sHm s) (sNb s) (sNs s) (sLa s) (sLo s) (sNu s) (sTn s) (sSh s)))
  refine V.if_ne hC 24 dX12_rebuildable_10 rfl (fun c_10 => ?_) (fun c_10 => ?_)
  · refine V.aload_n hC (x := rr k) dX12_rebuildable_24 rfl ?_
    refine V.widen (k := 2) (n := 12) (Nat.le_of_ble_eq_true rfl) (Nat.le_of_ble_eq_true rfl) ?_
    exact hE 25 _ (some (rr k)) () dX12_rebuildable_25 ⟨k, hf, rfl, if10n c_10⟩
  · exact V.throwSW hC hQ hst (text := "there are fewer holders than the threshold") () (Or.inr ⟨rfl, k, hf, if10 c_10⟩) rfl thr2_IS hSFt.2.1.1 hSFt.2.1.2.1 (hSFt.msg (358, "there are fewer holders than the threshold") (by decide)) (hSFt.ca _ (by decide)) hSFt.de q0_ q1_ q2_ dX12_rebuildable_13 dX12_rebuildable_16 dX12_rebuildable_17 dX12_rebuildable_20 dX12_rebuildable_23 ⟨by decide, by decide, by decide, by decide, by decide, by decide⟩

set_option maxHeartbeats 4000000 in
set_option maxRecDepth 100000 in
theorem c_withKnown (l : Launch) (G : Gx) (hst : l.stackTraces = false) (fs h h2 h3 hh hr hg hq hl : Nat) (iS eA fA : Int32) (ah as_ : Nat) (rr ra : Nat → Nat) (s : ASt) (B : Nat) (hI : InvA B s) (x y : Int32) : CtX l G (SFt G) yX12_withKnown wsX12_withKnown ({ frames := 7, cells := 2, slots := 12, locals := 104 }) [.ref fs, .int x, .int y] ([(fs, .inr (12, [.ref h, .ref h2, .ref h3, .ref hh, .ref hr, .ref hg, .ref hq, .ref hl, .int iS, .int eA, .int fA]))] ++ (stW G h ah as_ rr ra (sHm s) (sNb s) (sNs s) (sLa s) (sLo s) (sNu s) (sTn s) (sSh s))) mkA (fun (r : Option Nat) (_ : Unit) => ∃ k, fd (sNu s) x (sNs s) = some k ∧ r = some (rr k) ∧ ¬ y < 0 ∧ y ≤ nI (hc (sSh s k) 8)) (fun _ : Unit => ([(fs, .inr (12, [.ref h, .ref h2, .ref h3, .ref hh, .ref hr, .ref hg, .ref hq, .ref hl, .int iS, .int eA, .int fA]))] ++ (stW G h ah as_ rr ra (sHm s) (sNb s) (sNs s) (sLa s) (sLo s) (sNu s) (sTn s) (sSh s)))) (fun (E : String) (_ : Unit) => (E = "java/util/NoSuchElementException" ∧ fd (sNu s) x (sNs s) = none) ∨ (E = "java/lang/IllegalArgumentException" ∧ ∃ k, fd (sNu s) x (sNs s) = some k ∧ ¬ (¬ y < 0 ∧ y ≤ nI (hc (sSh s k) 8)))) (fun _ : Unit => ([(fs, .inr (12, [.ref h, .ref h2, .ref h3, .ref hh, .ref hr, .ref hg, .ref hq, .ref hl, .int iS, .int eA, .int fA]))] ++ (stW G h ah as_ rr ra (sHm s) (sNb s) (sNs s) (sLa s) (sLo s) (sNu s) (sTn s) (sSh s)))) 2 12 := by
  have hb8 := hI.1
  have hs6 := hI.2.1
  refine CtX.ofA (mk := fun r : Option Nat => va_rf r) (fun r => va_rf_or r) (Or.inl ⟨_, rfl⟩) (cc := cX12_withKnown) (maxL := 4) (by decide) rfl ⟨by simp [Value.category], Nat.le_of_ble_eq_true rfl⟩ ?_
  intro K hl hC hSF hnm hQ hE
  subst hl
  have hgot := SFgoS (SFt.k G) hSF
  have hgo := SFgo.x hgot
  have hSFt := hSF
  replace hSF := hSF.1
  have q0_ : Cond.classLink RX12 209 "java/lang/IllegalArgumentException" ∈ wsX12_withKnown := by decide +kernel
  have q1_ : Cond.initialized "java/lang/IllegalArgumentException" ∈ wsX12_withKnown := by decide +kernel
  have q2_ : ∀ w ∈ (vx_atS RX12 213 "java/lang/IllegalArgumentException" nm2).filter goodWord, w ∈ wsX12_withKnown := by decide +kernel
  show V G K 4 0 0 0 [some (.ref fs), some (.int x), some (.int y), none] [] ([(fs, .inr (12, [.ref h, .ref h2, .ref h3, .ref hh, .ref hr, .ref hg, .ref hq, .ref hl, .int iS, .int eA, .int fA]))] ++ (stW G h ah as_ rr ra (sHm s) (sNb s) (sNs s) (sLa s) (sLo s) (sNu s) (sTn s) (sSh s)))
  refine V.aload_n hC (x := fs) dX12_withKnown_0 rfl ?_
  refine V.iload_n hC (x := x) dX12_withKnown_1 rfl ?_
  refine V.callVXr (n := 1) (As := [.int x]) (rest := []) hC (c_existing (kl K) G hst fs h h2 h3 hh hr hg hq hl iS eA fA ah as_ rr ra s B hI x) (SFt.k G) hgot gX12_withKnown_X12_existing rfl ⟨rfl, rfl⟩ (by decide +kernel) ⟨by decide, by decide, by decide, by decide⟩ [0, 1, 2, 3, 4, 5, 6, 7, 8, 9, 10, 11, 12, 13, 14, 15] rfl (by decide) rfl rfl rfl rfl (Nat.le_of_ble_eq_true rfl) dX12_withKnown_2 (fun E_ u_ hx_ => VX.out hC hQ () (Or.inl hx_) rfl (Nat.le_of_ble_eq_true rfl) (Nat.le_of_ble_eq_true rfl)) (fun r_2 u_2 hp_2 => ?_)
  obtain ⟨k, hf, er_2⟩ := hp_2
  subst er_2
  have hk := (fd_lt hf hs6).2
  have ik := hI.2.2.1 k (fd_lt hf hs6).1
  show V G K 4 1 6 5 [some (.ref fs), some (.int x), some (.int y), none] [.ref (rr k)] ([(fs, .inr (12, [.ref h, .ref h2, .ref h3, .ref hh, .ref hr, .ref hg, .ref hq, .ref hl, .int iS, .int eA, .int fA]))] ++ (stW G h ah as_ rr ra (sHm s) (sNb s) (sNs s) (sLa s) (sLo s) (sNu s) (sTn s) (sSh s)))
  refine V.astore_n hC dX12_withKnown_5 [some (.ref fs), some (.int x), some (.int y), some (.ref (rr k))] (Nat.le_of_ble_eq_true rfl) rfl ?_
  refine V.iload_n hC (x := y) dX12_withKnown_6 rfl ?_
  refine V.if_lt hC 18 dX12_withKnown_7 rfl (fun c_7 => ?_) (fun c_7 => ?_)
  · exact V.throwSW hC hQ hst (text := "the number of known shares is out of range") () (Or.inr ⟨rfl, k, hf, fun z => z.1 c_7⟩) rfl thr2_IA hSFt.2.1.1 hSFt.2.1.2.1 (hSFt.msg (371, "the number of known shares is out of range") (by decide)) (hSFt.ca _ (by decide)) hSFt.de q0_ q1_ q2_ dX12_withKnown_18 dX12_withKnown_21 dX12_withKnown_22 dX12_withKnown_25 dX12_withKnown_28 ⟨by decide, by decide, by decide, by decide, by decide, by decide⟩
  · refine V.iload_n hC (x := y) dX12_withKnown_10 rfl ?_
    refine V.aload_n hC (x := rr k) dX12_withKnown_11 rfl ?_
    refine V.callVr (n := 0) (As := []) (rest := [.int y]) hC (c_holderTally (kl K) G (rr k) (ra k) (sSh s k) (sNu s k) (nI (sTn s k))) SFk0 SFgo0 gX12_withKnown_X10_holderTally rfl ⟨rfl, rfl⟩ (by decide +kernel) ⟨by decide, by decide, by decide, by decide⟩ [1 + (3 + 2 * k), 1 + (4 + 2 * k)] (by rcases (lt6 hk) with rfl | rfl | rfl | rfl | rfl | rfl <;> rfl) (by rcases (lt6 hk) with rfl | rfl | rfl | rfl | rfl | rfl <;> rfl) rfl rfl rfl rfl (Nat.le_of_ble_eq_true rfl) dX12_withKnown_12 (fun r_12 u_12 hp_12 => ?_)
    subst hp_12
    show V G K 4 1 6 15 [some (.ref fs), some (.int x), some (.int y), some (.ref (rr k))] [.int (nI (hc (sSh s k) 8)), .int y] ([(fs, .inr (12, [.ref h, .ref h2, .ref h3, .ref hh, .ref hr, .ref hg, .ref hq, .ref hl, .int iS, .int eA, .int fA]))] ++ (stW G h ah as_ rr ra (sHm s) (sNb s) (sNs s) (sLa s) (sLo s) (sNu s) (sTn s) (sSh s)))
    refine V.icmp_le hC 29 dX12_withKnown_15 rfl (fun c_15 => ?_) (fun c_15 => ?_)
    · refine V.aload_n hC (x := rr k) dX12_withKnown_29 rfl ?_
      refine V.widen (k := 2) (n := 12) (Nat.le_of_ble_eq_true rfl) (Nat.le_of_ble_eq_true rfl) ?_
      exact hE 30 _ (some (rr k)) () dX12_withKnown_30 ⟨k, hf, rfl, c_7, c_15⟩
    · exact V.throwSW hC hQ hst (text := "the number of known shares is out of range") () (Or.inr ⟨rfl, k, hf, fun z => c_15 z.2⟩) rfl thr2_IA hSFt.2.1.1 hSFt.2.1.2.1 (hSFt.msg (371, "the number of known shares is out of range") (by decide)) (hSFt.ca _ (by decide)) hSFt.de q0_ q1_ q2_ dX12_withKnown_18 dX12_withKnown_21 dX12_withKnown_22 dX12_withKnown_25 dX12_withKnown_28 ⟨by decide, by decide, by decide, by decide, by decide, by decide⟩
