/-! the start: classes, array classes, statics (printed by gen/s88c.py) -/
theorem pr_all {b : Nat} {s : State} (hgv : (Cond.and given_1 narrow_1).before #[Value.ref b] s = true) : ∀ w ∈ prL, w.before #[Value.ref b] s = true := flat_of_before _ hgv
section STARTS
variable {args : Array Value} {s : State}
theorem st_arr {t : FieldType} (h : (Cond.arrayClass t).before args s = true) : ∃ cA, ArrOfT s cA t ∧ s.vm.findClass ("[" ++ t.toString) = some cA := by
  obtain ⟨c, k, comp, h1, h2, h3⟩ := Cond.arrayClass_spec h
  exact ⟨c, fun n z => ⟨(fun k h => by cases h), k, h2, comp, h3⟩, h1⟩
theorem st_arrO {C : String} (h : (Cond.arrayOver (.object C)).before args s = true) : ∃ cA, ArrOfT s cA (.object C) ∧ va_RA s cA (.object C) := by
  obtain ⟨comp, c, k, h1, h2, h3, h4, h5⟩ := Cond.arrayOver_spec h
  exact ⟨c, fun n z => ⟨(fun k h => by cases h), k, h3, comp, h4⟩, k, comp, h3, h4, h1, h5⟩
theorem st_arrA {t : FieldType} (h : (Cond.arrayOver (.array t)).before args s = true) : ∃ cA, ArrOfT s cA (.array t) ∧ va_RA s cA (.array t) := by
  obtain ⟨comp, c, k, h1, h2, h3, h4, h5⟩ := AA_spec h
  exact ⟨c, fun n z => ⟨(fun k h => by cases h), k, h3, comp, h4⟩, h5⟩
/-- a text of the constants -/
theorem st_str {own : String} {k : Nat} {L : List Nat} {A : Nat → Prop} (hN : L.length < 2 ^ 31) (hex : (Cond.exactly (.string own k) "java/lang/String").before args s = true) (hco : (Cond.eq (.field (.string own k) "java/lang/String" "coder" "B") (.int 0)).before args s = true)
    (har : (Cond.arrayOf (.field (.string own k) "java/lang/String" "value" "[B") .byte).before args s = true) (hle : (Cond.eq (.length (.field (.string own k) "java/lang/String" "value" "[B")) (.int (Int32.ofNat L.length))).before args s = true)
    (hel : ∀ j : Nat, j < L.length → (Cond.eq (.elem (.field (.string own k) "java/lang/String" "value" "[B") (.int (Int32.ofNat j))) (.int ((L.map nI).getD j 0))).before args s = true) (hA : ∀ a : Nat, a < s.heap.size → ¬ A a) :
    ∃ q : Nat × Nat, (Term.string own k).eval args s none [] s = some (.ref q.1) ∧ va_O "java/lang/String" q.1 A s s.heap ∧ va_OF "java/lang/String" "coder" "B" (.int 0) q.1 A s s.heap ∧ va_OF "java/lang/String" "value" "[B" (.ref q.2) q.1 A s s.heap ∧ va_T .byte q.2 L.length (fun j => .int ((L.map nI).getD j 0)) A s s.heap := by
  have z0 : ∀ i : Nat, i < 1 → i = 0 := fun i h => by omega
  obtain ⟨aK, aV, h1, h2⟩ := vk_Sof (N := 1) (tm := fun _ => .string own k) (len := [L.length]) (byt := [L.map nI]) (A := A) (fun i h => by rw [z0 i h]; exact hN) (fun _ _ => hex) (fun _ _ => hco) (fun _ _ => har) (fun i h => by rw [z0 i h]; exact hle) (fun i h j hj => by rw [z0 i h] at hj ⊢; exact hel j hj) (fun i j hi hj hne => absurd ((z0 i hi).trans (z0 j hj).symm) hne) hA
  have a := h1.1 0 (by decide)
  exact ⟨(aK 0, aV 0), h2 0 (by decide), a.1, a.2.1, a.2.2.1, a.2.2.2⟩
theorem OF_one {o n d : String} {v w : Value} {t : Nat} {A : Nat → Prop} {H : Heap} (h : va_OF o n d v t A s H) (g : va_OF o n d w t A s H) : v = w := by
  obtain ⟨c1, k1, i1, f1, e1, a1, a2, a3, a4, a5, a6⟩ := h
  obtain ⟨c2, k2, i2, f2, e2, b1, b2, b3, b4, b5, b6⟩ := g
  cases Option.some.inj (a1.symm.trans b1)
  cases Option.some.inj (a3.symm.trans b3)
  exact Option.some.inj (a5.symm.trans b5)
theorem T_one {t N M : Nat} {f g : Nat → Value} {A : Nat → Prop} {H : Heap} (h : va_T .byte t N f A s H) (k : va_T .byte t M g A s H) {j : Nat} (h1 : j < N) (h2 : j < M) : f j = g j := by
  obtain ⟨c1, a1, a2, a3, a4, a5, a6, a7⟩ := h
  obtain ⟨c2, b1, b2, b3, b4, b5, b6, b7⟩ := k
  cases Option.some.inj (a1.symm.trans b1)
  exact Option.some.inj ((a6 j h1).symm.trans (b6 j h2))
theorem T_len {t N M : Nat} {f g : Nat → Value} {A : Nat → Prop} {H : Heap} (h : va_T .byte t N f A s H) (k : va_T .byte t M g A s H) : Int32.ofNat N = Int32.ofNat M := by
  obtain ⟨c1, a1, a2, a3, a4, a5, a6, a7⟩ := h
  obtain ⟨c2, b1, b2, b3, b4, b5, b6, b7⟩ := k
  cases Option.some.inj (a1.symm.trans b1)
  exact a5.symm.trans b5
end STARTS
theorem fm_one : ∀ i, i < 8 → ∀ j, j < 8 → ((fmS.getD i []).map nI).getD 0 0 = ((fmS.getD j []).map nI).getD 0 0 → ((fmS.getD i []).map nI).getD 2 0 = ((fmS.getD j []).map nI).getD 2 0 → i = j := by decide
theorem fm_len : ∀ i, i < 8 → 3 ≤ (fmS.getD i []).length ∧ (fmS.getD i []).length < 2 ^ 31 := by decide
theorem fm_l : ∀ i, i < 8 → fLen.getD i 0 = (fmS.getD i []).length := by decide
theorem fm_b : ∀ i, i < 8 → fByt.getD i [] = (fmS.getD i []).map nI := by decide
theorem sm_len : ∀ i, i < 6 → (sCh.getD i []).length < 2 ^ 31 := by decide
theorem sm_l : ∀ i, i < 6 → sLen.getD i 0 = (sCh.getD i []).length := by decide
theorem sm_b : ∀ i, i < 6 → sByt.getD i [] = (sCh.getD i []).map nI := by decide
theorem sm_one : ∀ i, i < 6 → ∀ j, j < 6 → Int32.ofNat (sCh.getD i []).length = Int32.ofNat (sCh.getD j []).length → (0 < (sCh.getD i []).length → 0 < (sCh.getD j []).length → ((sCh.getD i []).map nI).getD 0 0 = ((sCh.getD j []).map nI).getD 0 0) → i = j := by decide
set_option maxHeartbeats 4000000 in
set_option maxRecDepth 100000 in
/-- what SFt asks, out of the statement -/
theorem start_SF {b : Nat} {s : State} {A : Nat → Prop} (hts : ∀ w ∈ lw_tbl, w.before #[Value.ref b] s = true) (hpr : ∀ w ∈ prL, w.before #[Value.ref b] s = true) (hA : ∀ a : Nat, a < s.heap.size → ¬ A a) :
    ∃ (aD aP aK aV aS aB : Nat → Nat) (xD xP xE xT xU : Nat), ∀ G : Gx, (∀ i, i < 8 → adD G i = aD i) → (∀ i, i < 6 → adP G i = aP i) → (∀ i, i < 8 → adK G i = aK i) → (∀ i, i < 8 → adV G i = aV i) → smD G = xD → smP G = xP → dds G = xE → adT G = xT → adU G = xU → (∀ i, i < 6 → adS G i = aS i) → (∀ i, i < 6 → adB G i = aB i) → SFt G A s s.heap := by
  obtain ⟨aD, hD1, hD2⟩ := va_Enof2 (E := "FeatherShares$Deed") (d := "LFeatherShares$Deed;") (nm := dNm) (F := [("java/lang/Enum", "ordinal", "I", oD)]) (A := A) (fun i hi => hts _ (tb_laD i hi)) (hts _ tb_inD) (fun i hi => hpr _ (pr_exD i hi)) (fun q hq i hi => by obtain rfl := List.mem_singleton.mp hq; exact hpr _ (pr_orD i hi)) (fun i j hi hj hne => (pr_neD i hi j hj hne).imp (hpr _) (hpr _)) hA
  obtain ⟨aP, hP1, hP2⟩ := va_Enof2 (E := "FeatherShares$Problem") (d := "LFeatherShares$Problem;") (nm := pNm) (F := [("java/lang/Enum", "ordinal", "I", oP)]) (A := A) (fun i hi => hts _ (tb_laP i hi)) (hts _ tb_inP) (fun i hi => hpr _ (pr_exP i hi)) (fun q hq i hi => by obtain rfl := List.mem_singleton.mp hq; exact hpr _ (pr_orP i hi)) (fun i j hi hj hne => (pr_neP i hi j hj hne).imp (hpr _) (hpr _)) hA
  obtain ⟨xD, h1, h2⟩ := va_Tof (tm := .static "FeatherShares$1" "$SwitchMap$FeatherShares$Deed" "[I") (ty := .int) (N := 8) (f := fun j => .int (smDv j)) (A := A) (by decide) (hpr _ pr_ar_smD) (va_eqv (hpr _ pr_le_smD) rfl) (fun j hj => va_eqv (hpr _ (pr_el_smD j hj)) rfl) hA
  obtain ⟨xP, h3, h4⟩ := va_Tof (tm := .static "FeatherShares$1" "$SwitchMap$FeatherShares$Problem" "[I") (ty := .int) (N := 6) (f := fun j => .int (nI j)) (A := A) (by decide) (hpr _ pr_ar_smP) (va_eqv (hpr _ pr_le_smP) rfl) (fun j hj => va_eqv (hpr _ (pr_el_smP j hj)) rfl) hA
  obtain ⟨xE, h5, h6⟩ := va_Tof (tm := .static "FeatherShares" "DEEDS" "[LFeatherShares$Deed;") (ty := .object "FeatherShares$Deed") (N := 8) (f := fun j => .ref (aD j)) (A := A) (by decide) (hpr _ pr_ar_dds) (va_eqv (hpr _ pr_le_dds) rfl) (fun j hj => va_eqv (hpr _ (pr_el_dds j hj)) (hD2 j hj)) hA
  obtain ⟨xT, h7, h8⟩ := va_Tof (tm := .static "java/lang/Integer" "DigitTens" "[B") (ty := .byte) (N := 100) (f := fun j => .int (nI (48 + j / 10))) (A := A) (by decide) (hpr _ pr_ar_dgT) (va_eqv (hpr _ pr_le_dgT) rfl) (fun j hj => va_eqv (hpr _ (pr_el_dgT j hj)) rfl) hA
  obtain ⟨xU, h9, h10⟩ := va_Tof (tm := .static "java/lang/Integer" "DigitOnes" "[B") (ty := .byte) (N := 100) (f := fun j => .int (nI (48 + j % 10))) (A := A) (by decide) (hpr _ pr_ar_dgO) (va_eqv (hpr _ pr_le_dgO) rfl) (fun j hj => va_eqv (hpr _ (pr_el_dgO j hj)) rfl) hA
  have hstr : ∀ i : Nat, ∃ q : Nat × Nat, i < 8 → (Term.string "FeatherShares$Deed" (fmI.getD i 0)).eval #[Value.ref b] s none [] s = some (.ref q.1) ∧ va_O "java/lang/String" q.1 A s s.heap ∧ va_OF "java/lang/String" "coder" "B" (.int 0) q.1 A s s.heap ∧ va_OF "java/lang/String" "value" "[B" (.ref q.2) q.1 A s s.heap ∧ va_T .byte q.2 (fmS.getD i []).length (fun j => .int (((fmS.getD i []).map nI).getD j 0)) A s s.heap := by
    intro i
    by_cases hi : i < 8
    · obtain ⟨q, hq⟩ := st_str (A := A) (L := fmS.getD i []) (fm_len i hi).2 (hpr _ (pr_fex i hi)) (hpr _ (pr_fco i hi)) (hpr _ (pr_far i hi)) (hpr _ (pr_fle i hi)) (fun j hj => hpr _ (pr_fel i hi j hj)) hA
      exact ⟨q, fun _ => hq⟩
    · exact ⟨(0, 0), fun h => absurd h hi⟩
  obtain ⟨fs, hfs⟩ := Classical.axiomOfChoice hstr
  have hstr2 : ∀ i : Nat, ∃ q : Nat × Nat, i < 6 → (Term.string RL (sIx.getD i 0)).eval #[Value.ref b] s none [] s = some (.ref q.1) ∧ va_O "java/lang/String" q.1 A s s.heap ∧ va_OF "java/lang/String" "coder" "B" (.int 0) q.1 A s s.heap ∧ va_OF "java/lang/String" "value" "[B" (.ref q.2) q.1 A s s.heap ∧ va_T .byte q.2 (sCh.getD i []).length (fun j => .int (((sCh.getD i []).map nI).getD j 0)) A s s.heap := by
    intro i
    by_cases hi : i < 6
    · obtain ⟨q, hq⟩ := st_str (A := A) (L := sCh.getD i []) (sm_len i hi) (hpr _ (pr_nex i hi)) (hpr _ (pr_nco i hi)) (hpr _ (pr_nar i hi)) (hpr _ (pr_nle i hi)) (fun j hj => hpr _ (pr_nel i hi j hj)) hA
      exact ⟨q, fun _ => hq⟩
    · exact ⟨(0, 0), fun h => absurd h hi⟩
  obtain ⟨gs, hgs⟩ := Classical.axiomOfChoice hstr2
  refine ⟨aD, aP, fun i => (fs i).1, fun i => (fs i).2, fun i => (gs i).1, fun i => (gs i).2, xD, xP, xE, xT, xU, fun G eD eP eK eV e1 e2 e3 e4 e5 e6 e7 => ⟨⟨?_, ?_, ?_, ?_, ?_, ?_, ?_, ?_, ?_, ?_, ?_, ?_, ?_⟩, ⟨?_, ?_, ?_, ?_, ?_, ?_, ?_⟩, ⟨?_, ?_, ?_, ?_, ?_, ?_, ?_⟩, ?_, ?_⟩⟩
  · refine ⟨fun i hi => ?_, fun i j hi hj e => ?_⟩
    · rw [eD i hi]
      exact hD1.1 i hi
    · rw [eD i hi, eD j hj] at e
      exact hD1.2 i j hi hj e
  · refine ⟨fun i hi => ?_, fun i j hi hj e => ?_⟩
    · rw [eP i hi]
      exact hP1.1 i hi
    · rw [eP i hi, eP j hj] at e
      exact hP1.2 i j hi hj e
  · rw [e1]
    exact va_Zof (hts _ tb_la_smD) (hts _ tb_in_smD) h1 hA
  · rw [e1]
    exact h2
  · rw [e2]
    exact va_Zof (hts _ tb_la_smP) (hts _ tb_in_smP) h3 hA
  · rw [e2]
    exact h4
  · rw [e3]
    exact va_Zof (hts _ tb_la_dds) (hts _ tb_in_dds) h5 hA
  · rw [e3]
    obtain ⟨cell, q1, q2, q3, q4, q5, q6, q7⟩ := h6
    exact ⟨cell, q1, q2, q3, q4, q5, fun j hj => by show cell.slots[j]? = some (.ref (adD G j)); rw [eD j hj]; exact q6 j hj, q7⟩
  · intro i hi
    show va_OF "FeatherShares$Deed" "form" "Ljava/lang/String;" (.ref (adK G i)) (adD G i) A s s.heap
    rw [eD i hi, eK i hi]
    exact va_Efof (N := 8) (nm := dNm) (tm := fun i => .string "FeatherShares$Deed" (fmI.getD i 0)) (v := fun i => .ref (fs i).1) (A := A) (fun i hi => hD2 i hi) (fun i hi => hpr _ (pr_form i hi)) (fun i hi => (hfs i hi).1) hA i hi
  · refine ⟨fun i hi => ?_, fun i j hi hj e => ?_⟩
    · rw [eK i hi, eV i hi, fm_l i hi, fm_b i hi]
      exact (hfs i hi).2
    · rw [eK i hi, eK j hj] at e
      have a := hfs i hi
      have c := hfs j hj
      have e8 : (fs i).1 = (fs j).1 := e
      have ev : Value.ref (fs i).2 = Value.ref (fs j).2 := OF_one a.2.2.2.1 (by rw [e8]; exact c.2.2.2.1)
      have e9 : (fs i).2 = (fs j).2 := by injection ev
      have ti := a.2.2.2.2
      rw [e9] at ti
      have li := fm_len i hi
      have lj := fm_len j hj
      have v0 := T_one ti c.2.2.2.2 (j := 0) (by omega) (by omega)
      have v2 := T_one ti c.2.2.2.2 (j := 2) (by omega) (by omega)
      exact fm_one i hi j hj (by injection v0) (by injection v2)
  · exact va_Zof (hts _ tb_la_cs) (hts _ tb_in_cs) (va_eqv (hpr _ pr_cs) rfl) hA
  · exact va_Zqof (hts _ tb_la_si) (hts _ tb_in_si) (hpr _ pr_si) hA
  · exact va_Nw.of rfl (hts _ tb_fn)
  · exact vx_Zqof (hts _ tb_la_un) (hts _ tb_in_un) (hpr _ pr_un) hA
  · exact vx_Zqof (hts _ tb_la_su) (hts _ tb_in_su) (hpr _ pr_su) hA
  · rw [e4]
    exact va_Zof (hts _ tb_la_dgT) (hts _ tb_in_dgT) h7 hA
  · rw [e4]
    exact h8
  · rw [e5]
    exact va_Zof (hts _ tb_la_dgO) (hts _ tb_in_dgO) h9 hA
  · rw [e5]
    exact h10
  · refine ⟨fun i hi => ?_, fun i j hi hj e => ?_⟩
    · rw [e6 i hi, e7 i hi, sm_l i hi, sm_b i hi]
      exact (hgs i hi).2
    · rw [e6 i hi, e6 j hj] at e
      have a := hgs i hi
      have c := hgs j hj
      have e8 : (gs i).1 = (gs j).1 := e
      have ev : Value.ref (gs i).2 = Value.ref (gs j).2 := OF_one a.2.2.2.1 (by rw [e8]; exact c.2.2.2.1)
      have e9 : (gs i).2 = (gs j).2 := by injection ev
      have ti := a.2.2.2.2
      rw [e9] at ti
      exact sm_one i hi j hj (T_len ti c.2.2.2.2) (fun h1 h2 => by
        have v0 := T_one ti c.2.2.2.2 (j := 0) h1 h2
        injection v0)
  · intro q hq
    obtain ⟨a, c, cell, k, q1, -⟩ := Cond.exactly_spec (hpr _ (pr_ms q hq))
    exact ⟨a, vk_R.of (hts _ (tb_ms q hq)) q1⟩
  · exact fun E hE => ⟨va_Nw.of rfl (hts _ (tb_ca E hE)), fun F hF hne => va_Nc.of (hpr _ (pr_nc E hE F hF hne))⟩
  · exact va_AO.of (hts _ tb_ao10)
  · exact va_AO.of (hts _ tb_ao11)
  · exact hts _ tb_aoI
  · exact fun q hq => va_Nw.of rfl (hts _ (tb_ns q hq))
  · exact fun x hx => va_Nw.of rfl (hts _ (tb_dc x hx))
  · intro i hi
    rw [e6 i hi]
    exact vk_R.of (hts _ (tb_sr i hi)) (hgs i hi).1
  · exact va_Nw.of rfl (hts _ tb_cl)
set_option maxHeartbeats 4000000 in
set_option maxRecDepth 100000 in
/-- classes, array classes, statics: G -/
theorem start_G {b : Nat} {s : State} (hts : ∀ w ∈ lw_tbl, w.before #[Value.ref b] s = true) (hpr : ∀ w ∈ prL, w.before #[Value.ref b] s = true) : ∃ G : Gx, va_K G.1 vwCl (TY G) s ∧ SFt G (fun q => s.heap.size ≤ q) s s.heap := by
  have hA : ∀ a : Nat, a < s.heap.size → ¬ (fun q => s.heap.size ≤ q) a := fun a h z => Nat.not_le.mpr h z
  obtain ⟨aD, aP, aK, aV, aS, aB, xD, xP, xE, xT, xU, hSF⟩ := start_SF (A := fun q => s.heap.size ≤ q) hts hpr hA
  obtain ⟨c0, i0, k0⟩ := u_known (C := RJ0) (T := TJ0) (N := 4) (n := 4) hts wl_wsJ00 (hts _ tb_i_RJ0)
  obtain ⟨c1, i1, k1⟩ := u_known (C := RJ4) (T := TJ4) (N := 4) (n := 4) hts wl_wsJ40 (hts _ tb_i_RJ4)
  obtain ⟨c2, i2, k2⟩ := u_known (C := RJx00060) (T := TJx00060) (N := 6) (n := 6) hts wl_wsJx000600 (hts _ tb_i_RJx00060)
  obtain ⟨c3, i3, k3⟩ := u_known (C := RJx7c733) (T := TJx7c733) (N := 6) (n := 6) hts wl_wsJx7c7330 (hts _ tb_i_RJx7c733)
  obtain ⟨c4, i4, k4⟩ := u_known (C := RX1) (T := TX1) (N := 2) (n := 2) hts wl_wsX10 (hts _ tb_i_RX1)
  obtain ⟨c5, i5, k5⟩ := u_known (C := RX3) (T := TX3) (N := 5) (n := 5) hts wl_wsX30 (hts _ tb_i_RX3)
  obtain ⟨c6, i6, k6⟩ := u_known (C := RX4) (T := TX4) (N := 3) (n := 3) hts wl_wsX40 (hts _ tb_i_RX4)
  obtain ⟨c7, i7, k7⟩ := u_known (C := RX5) (T := TX5) (N := 3) (n := 3) hts wl_wsX50 (hts _ tb_i_RX5)
  obtain ⟨c8, i8, k8⟩ := u_known (C := RX7) (T := TX7) (N := 7) (n := 7) hts wl_wsX70 (hts _ tb_i_RX7)
  obtain ⟨c9, i9, k9⟩ := u_known (C := RX8) (T := TX8) (N := 2) (n := 2) hts wl_wsX80 (hts _ tb_i_RX8)
  obtain ⟨c10, i10, k10⟩ := u_known (C := RX10) (T := TX10) (N := 3) (n := 3) hts wl_wsX100 (hts _ tb_i_RX10)
  obtain ⟨c11, i11, k11⟩ := u_known (C := RX11) (T := TX11) (N := 6) (n := 6) hts wl_wsX110 (hts _ tb_i_RX11)
  obtain ⟨c12, i12, k12⟩ := u_known (C := RX12) (T := TX12) (N := 11) (n := 11) hts wl_wsX120 (hts _ tb_i_RX12)
  obtain ⟨a0, u0, v0⟩ := st_arr (hts _ tb_ac_int)
  obtain ⟨a1, u1, v1⟩ := st_arr (hts _ tb_ac_boolean)
  obtain ⟨a2, u2, v2⟩ := st_arr (hts _ tb_ac_char)
  obtain ⟨a3, u3, v3⟩ := st_arrO (hts _ tb_ao10)
  obtain ⟨a4, u4, v4⟩ := st_arrO (hts _ tb_ao11)
  obtain ⟨a5, u5, v5⟩ := st_arrA (hts _ tb_aoI)
  obtain ⟨a6, u6, v6⟩ := st_arr (hts _ tb_ac_byte)
  refine ⟨((fun k => if k = 0 then c0 else if k = 1 then c1 else if k = 2 then c2 else if k = 3 then c3 else if k = 4 then c4 else if k = 5 then c5 else if k = 6 then c6 else if k = 7 then c7 else if k = 8 then c8 else if k = 9 then c9 else if k = 10 then c10 else if k = 11 then c11 else c12, fun k => if k = 0 then i0 else if k = 1 then i1 else if k = 2 then i2 else if k = 3 then i3 else if k = 4 then i4 else if k = 5 then i5 else if k = 6 then i6 else if k = 7 then i7 else if k = 8 then i8 else if k = 9 then i9 else if k = 10 then i10 else if k = 11 then i11 else i12), fun k => if k = 0 then a0 else if k = 1 then a1 else if k = 2 then a2 else if k = 3 then a3 else if k = 4 then a4 else if k = 5 then a5 else if k = 6 then a6 else if k < 110 then aD (k - 100) else if k < 130 then aP (k - 120) else if k = 140 then xD else if k = 141 then xP else if k = 142 then xE else if k < 159 then aK (k - 150) else if k < 169 then aV (k - 160) else if k = 170 then xT else if k = 171 then xU else if k < 189 then aS (k - 180) else aB (k - 190)), ⟨?_, ?_⟩, ?_⟩
  · intro k q hq
    match k, hq with
    | 0, hq => cases hq; exact k0
    | 1, hq => cases hq; exact k1
    | 2, hq => cases hq; exact k2
    | 3, hq => cases hq; exact k3
    | 4, hq => cases hq; exact k4
    | 5, hq => cases hq; exact k5
    | 6, hq => cases hq; exact k6
    | 7, hq => cases hq; exact k7
    | 8, hq => cases hq; exact k8
    | 9, hq => cases hq; exact k9
    | 10, hq => cases hq; exact k10
    | 11, hq => cases hq; exact k11
    | 12, hq => cases hq; exact k12
    | k + 13, hq => simp at hq
  · intro k q hq
    match k, hq with
    | 0, hq => cases hq; exact ⟨u0, v0⟩
    | 1, hq => cases hq; exact ⟨u1, v1⟩
    | 2, hq => cases hq; exact ⟨u2, v2⟩
    | 3, hq => cases hq; exact ⟨u3, v3⟩
    | 4, hq => cases hq; exact ⟨u4, v4⟩
    | 5, hq => cases hq; exact ⟨u5, v5⟩
    | 6, hq => cases hq; exact ⟨u6, v6⟩
    | k + 7, hq => simp [TY] at hq
  · refine hSF _ (fun i hi => ?_) (fun i hi => ?_) (fun i hi => ?_) (fun i hi => ?_) rfl rfl rfl rfl rfl (fun i hi => ?_) (fun i hi => ?_)
    · obtain rfl | rfl | rfl | rfl | rfl | rfl | rfl | rfl := lt8 hi <;> rfl
    · obtain rfl | rfl | rfl | rfl | rfl | rfl := lt6 hi <;> rfl
    · obtain rfl | rfl | rfl | rfl | rfl | rfl | rfl | rfl := lt8 hi <;> rfl
    · obtain rfl | rfl | rfl | rfl | rfl | rfl | rfl | rfl := lt8 hi <;> rfl
    · obtain rfl | rfl | rfl | rfl | rfl | rfl := lt6 hi <;> rfl
    · obtain rfl | rfl | rfl | rfl | rfl | rfl := lt6 hi <;> rfl