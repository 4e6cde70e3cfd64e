/-! the document's model: its constructor, stored errors, append (printed by gen/s77.py) -/
set_option maxHeartbeats 4000000 in
set_option maxRecDepth 100000 in
theorem m_init (l : Launch) (G : Gx) (m : Nat) : Ct l G (SFt G) yX13_init wsX13_init ({ frames := 1, cells := 7, slots := 1052, locals := 12 }) [.ref m] [(m, .inr (13, [.null, .null, .null, .null, .int 0, .int 0, .int 0, .int 0, .null, .int 0, .null, .int 0, .int 0, .int 0, .int 0, .int 0, .int 0, .null]))] mkV (fun (_ : Unit) (_ : Nat × Nat × Nat × Nat × Nat × Nat × Nat) => True) (fun u : Nat × Nat × Nat × Nat × Nat × Nat × Nat => [(m, .inr (13, [.ref (u.1), .ref (u.2.1), .ref (u.2.2.1), .ref (u.2.2.2.1), .int 0, .int 0, .int (-1), .int (-1), .ref (u.2.2.2.2.1), .int 0, .ref (u.2.2.2.2.2.1), .int 0, .int 0, .int 0, .int 0, .int 0, .int 0, .ref (u.2.2.2.2.2.2)])), (u.1, .inl (gI G, 72, .inl (fun _ => 0))), (u.2.1, .inl (gI G, 72, .inl (fun _ => 0))), (u.2.2.1, .inl (gI G, 72, .inl (fun _ => 0))), (u.2.2.2.1, .inl (gI G, 576, .inl (fun _ => 0))), (u.2.2.2.2.1, .inl (gI G, 60, .inl (fun _ => 0))), (u.2.2.2.2.2.1, .inl (gI G, 80, .inl (fun _ => 0))), (u.2.2.2.2.2.2, .inl (gI G, 120, .inl (fun _ => 0)))]) 7 1052 := by
  refine Ct.ofV (cc := cX13_init) (maxL := 1) (by decide) rfl ⟨by simp [Value.category], Nat.le_of_ble_eq_true rfl⟩ ?_
  intro K hl hC hSF hnm hE
  subst hl
  have hgot := SFgoS (SFt.k G) hSF
  have hgo := SFgo.x hgot
  have hSFt := hSF
  replace hSF := hSF.1
  have q0_ : Cond.methodLink RX13 3 objectInit ∈ wsX13_init := by decide +kernel
  have q1_ : Cond.instanceMethod objectInit ∈ wsX13_init := by decide +kernel
  have q2_ : Cond.code objectInit ⟨#[0xb1]⟩ 1 none ∈ wsX13_init := by decide +kernel
  have q3_ : Cond.arrayClass .int ∈ wsX13_init := by decide +kernel
  have q4_ : ∀ w ∈ u_ws RX13 TX13 18, w ∈ wsX13_init := by decide +kernel
  have q5_ : Cond.fieldLink RX13 9 "FeatherSharesModel" "now" "[I" ∈ wsX13_init := by decide +kernel
  have q6_ : Cond.fieldLink RX13 13 "FeatherSharesModel" "before" "[I" ∈ wsX13_init := by decide +kernel
  have q7_ : Cond.fieldLink RX13 16 "FeatherSharesModel" "saved" "[I" ∈ wsX13_init := by decide +kernel
  have q8_ : Cond.fieldLink RX13 19 "FeatherSharesModel" "history" "[I" ∈ wsX13_init := by decide +kernel
  have q9_ : Cond.fieldLink RX13 22 "FeatherSharesModel" "errorAt" "I" ∈ wsX13_init := by decide +kernel
  have q10_ : Cond.fieldLink RX13 26 "FeatherSharesModel" "failedAt" "I" ∈ wsX13_init := by decide +kernel
  have q11_ : Cond.fieldLink RX13 29 "FeatherSharesModel" "text" "[I" ∈ wsX13_init := by decide +kernel
  have q12_ : Cond.fieldLink RX13 32 "FeatherSharesModel" "line" "[I" ∈ wsX13_init := by decide +kernel
  have q13_ : Cond.fieldLink RX13 35 "FeatherSharesModel" "numbers" "[I" ∈ wsX13_init := by decide +kernel
  show V G K 1 0 0 0 [some (.ref m)] [] [(m, .inr (13, [.null, .null, .null, .null, .int 0, .int 0, .int 0, .int 0, .null, .int 0, .null, .int 0, .int 0, .int 0, .int 0, .int 0, .int 0, .null]))]
  refine V.aload_n hC (x := m) dX13_init_0 rfl ?_
  refine V.objInit hC (a := m) q0_ q1_ q2_ ⟨by decide, by decide⟩ dX13_init_1 ?_
  refine V.aload_n hC (x := m) dX13_init_4 rfl ?_
  refine V.bipush hC 72 dX13_init_5 rfl ?_
  refine V.newA hC (atype := .int) 0 (cA := gI G) q3_ rfl 72 (72, .inl (fun _ => 0)) (fun _ => rfl) rfl (by decide) (by decide) (by decide) dX13_init_7 (fun q_7 => ?_)
  show V G K 1 1 72 9 [some (.ref m)] [.ref q_7, .ref m] [(m, .inr (13, [.null, .null, .null, .null, .int 0, .int 0, .int 0, .int 0, .null, .int 0, .null, .int 0, .int 0, .int 0, .int 0, .int 0, .int 0, .null])), (q_7, .inl (gI G, 72, .inl (fun _ => 0)))]
  refine V.putfF hC (T := TX13) q4_ tyX13 tyX13_ok nmX13 0 q5_ rfl rfl hnm rfl (0) rfl rfl (by decide) (by simp) rfl rfl dX13_init_9 [(m, .inr (13, [.ref q_7, .null, .null, .null, .int 0, .int 0, .int 0, .int 0, .null, .int 0, .null, .int 0, .int 0, .int 0, .int 0, .int 0, .int 0, .null])), (q_7, .inl (gI G, 72, .inl (fun _ => 0)))] rfl ?_
  refine V.aload_n hC (x := m) dX13_init_12 rfl ?_
  refine V.bipush hC 72 dX13_init_13 rfl ?_
  refine V.newA hC (atype := .int) 0 (cA := gI G) q3_ rfl 72 (72, .inl (fun _ => 0)) (fun _ => rfl) rfl (by decide) (by decide) (by decide) dX13_init_15 (fun q_15 => ?_)
  show V G K 1 2 144 17 [some (.ref m)] [.ref q_15, .ref m] [(m, .inr (13, [.ref q_7, .null, .null, .null, .int 0, .int 0, .int 0, .int 0, .null, .int 0, .null, .int 0, .int 0, .int 0, .int 0, .int 0, .int 0, .null])), (q_7, .inl (gI G, 72, .inl (fun _ => 0))), (q_15, .inl (gI G, 72, .inl (fun _ => 0)))]
  refine V.putfF hC (T := TX13) q4_ tyX13 tyX13_ok nmX13 1 q6_ rfl rfl hnm rfl (0) rfl rfl (by decide) (by simp) rfl rfl dX13_init_17 [(m, .inr (13, [.ref q_7, .ref q_15, .null, .null, .int 0, .int 0, .int 0, .int 0, .null, .int 0, .null, .int 0, .int 0, .int 0, .int 0, .int 0, .int 0, .null])), (q_7, .inl (gI G, 72, .inl (fun _ => 0))), (q_15, .inl (gI G, 72, .inl (fun _ => 0)))] rfl ?_
  refine V.aload_n hC (x := m) dX13_init_20 rfl ?_
  refine V.bipush hC 72 dX13_init_21 rfl ?_
  refine V.newA hC (atype := .int) 0 (cA := gI G) q3_ rfl 72 (72, .inl (fun _ => 0)) (fun _ => rfl) rfl (by decide) (by decide) (by decide) dX13_init_23 (fun q_23 => ?_)
  show V G K 1 3 216 25 [some (.ref m)] [.ref q_23, .ref m] [(m, .inr (13, [.ref q_7, .ref q_15, .null, .null, .int 0, .int 0, .int 0, .int 0, .null, .int 0, .null, .int 0, .int 0, .int 0, .int 0, .int 0, .int 0, .null])), (q_7, .inl (gI G, 72, .inl (fun _ => 0))), (q_15, .inl (gI G, 72, .inl (fun _ => 0))), (q_23, .inl (gI G, 72, .inl (fun _ => 0)))]
  refine V.putfF hC (T := TX13) q4_ tyX13 tyX13_ok nmX13 2 q7_ rfl rfl hnm rfl (0) rfl rfl (by decide) (by simp) rfl rfl dX13_init_25 [(m, .inr (13, [.ref q_7, .ref q_15, .ref q_23, .null, .int 0, .int 0, .int 0, .int 0, .null, .int 0, .null, .int 0, .int 0, .int 0, .int 0, .int 0, .int 0, .null])), (q_7, .inl (gI G, 72, .inl (fun _ => 0))), (q_15, .inl (gI G, 72, .inl (fun _ => 0))), (q_23, .inl (gI G, 72, .inl (fun _ => 0)))] rfl ?_
  refine V.aload_n hC (x := m) dX13_init_28 rfl ?_
  refine V.sipush hC 576 dX13_init_29 rfl ?_
  refine V.newA hC (atype := .int) 0 (cA := gI G) q3_ rfl 576 (576, .inl (fun _ => 0)) (fun _ => rfl) rfl (by decide) (by decide) (by decide) dX13_init_32 (fun q_32 => ?_)
  show V G K 1 4 792 34 [some (.ref m)] [.ref q_32, .ref m] [(m, .inr (13, [.ref q_7, .ref q_15, .ref q_23, .null, .int 0, .int 0, .int 0, .int 0, .null, .int 0, .null, .int 0, .int 0, .int 0, .int 0, .int 0, .int 0, .null])), (q_7, .inl (gI G, 72, .inl (fun _ => 0))), (q_15, .inl (gI G, 72, .inl (fun _ => 0))), (q_23, .inl (gI G, 72, .inl (fun _ => 0))), (q_32, .inl (gI G, 576, .inl (fun _ => 0)))]
  refine V.putfF hC (T := TX13) q4_ tyX13 tyX13_ok nmX13 3 q8_ rfl rfl hnm rfl (0) rfl rfl (by decide) (by simp) rfl rfl dX13_init_34 [(m, .inr (13, [.ref q_7, .ref q_15, .ref q_23, .ref q_32, .int 0, .int 0, .int 0, .int 0, .null, .int 0, .null, .int 0, .int 0, .int 0, .int 0, .int 0, .int 0, .null])), (q_7, .inl (gI G, 72, .inl (fun _ => 0))), (q_15, .inl (gI G, 72, .inl (fun _ => 0))), (q_23, .inl (gI G, 72, .inl (fun _ => 0))), (q_32, .inl (gI G, 576, .inl (fun _ => 0)))] rfl ?_
  refine V.aload_n hC (x := m) dX13_init_37 rfl ?_
  refine V.iconst hC (-1) dX13_init_38 rfl ?_
  refine V.putf hC (T := TX13) q4_ tyX13 tyX13_ok nmX13 6 q9_ rfl rfl (0) rfl rfl (by decide) (by simp) rfl rfl dX13_init_39 [(m, .inr (13, [.ref q_7, .ref q_15, .ref q_23, .ref q_32, .int 0, .int 0, .int (-1), .int 0, .null, .int 0, .null, .int 0, .int 0, .int 0, .int 0, .int 0, .int 0, .null])), (q_7, .inl (gI G, 72, .inl (fun _ => 0))), (q_15, .inl (gI G, 72, .inl (fun _ => 0))), (q_23, .inl (gI G, 72, .inl (fun _ => 0))), (q_32, .inl (gI G, 576, .inl (fun _ => 0)))] rfl ?_
  refine V.aload_n hC (x := m) dX13_init_42 rfl ?_
  refine V.iconst hC (-1) dX13_init_43 rfl ?_
  refine V.putf hC (T := TX13) q4_ tyX13 tyX13_ok nmX13 7 q10_ rfl rfl (0) rfl rfl (by decide) (by simp) rfl rfl dX13_init_44 [(m, .inr (13, [.ref q_7, .ref q_15, .ref q_23, .ref q_32, .int 0, .int 0, .int (-1), .int (-1), .null, .int 0, .null, .int 0, .int 0, .int 0, .int 0, .int 0, .int 0, .null])), (q_7, .inl (gI G, 72, .inl (fun _ => 0))), (q_15, .inl (gI G, 72, .inl (fun _ => 0))), (q_23, .inl (gI G, 72, .inl (fun _ => 0))), (q_32, .inl (gI G, 576, .inl (fun _ => 0)))] rfl ?_
  refine V.aload_n hC (x := m) dX13_init_47 rfl ?_
  refine V.bipush hC 60 dX13_init_48 rfl ?_
  refine V.newA hC (atype := .int) 0 (cA := gI G) q3_ rfl 60 (60, .inl (fun _ => 0)) (fun _ => rfl) rfl (by decide) (by decide) (by decide) dX13_init_50 (fun q_50 => ?_)
  show V G K 1 5 852 52 [some (.ref m)] [.ref q_50, .ref m] [(m, .inr (13, [.ref q_7, .ref q_15, .ref q_23, .ref q_32, .int 0, .int 0, .int (-1), .int (-1), .null, .int 0, .null, .int 0, .int 0, .int 0, .int 0, .int 0, .int 0, .null])), (q_7, .inl (gI G, 72, .inl (fun _ => 0))), (q_15, .inl (gI G, 72, .inl (fun _ => 0))), (q_23, .inl (gI G, 72, .inl (fun _ => 0))), (q_32, .inl (gI G, 576, .inl (fun _ => 0))), (q_50, .inl (gI G, 60, .inl (fun _ => 0)))]
  refine V.putfF hC (T := TX13) q4_ tyX13 tyX13_ok nmX13 8 q11_ rfl rfl hnm rfl (0) rfl rfl (by decide) (by simp) rfl rfl dX13_init_52 [(m, .inr (13, [.ref q_7, .ref q_15, .ref q_23, .ref q_32, .int 0, .int 0, .int (-1), .int (-1), .ref q_50, .int 0, .null, .int 0, .int 0, .int 0, .int 0, .int 0, .int 0, .null])), (q_7, .inl (gI G, 72, .inl (fun _ => 0))), (q_15, .inl (gI G, 72, .inl (fun _ => 0))), (q_23, .inl (gI G, 72, .inl (fun _ => 0))), (q_32, .inl (gI G, 576, .inl (fun _ => 0))), (q_50, .inl (gI G, 60, .inl (fun _ => 0)))] rfl ?_
  refine V.aload_n hC (x := m) dX13_init_55 rfl ?_
  refine V.bipush hC 80 dX13_init_56 rfl ?_
  refine V.newA hC (atype := .int) 0 (cA := gI G) q3_ rfl 80 (80, .inl (fun _ => 0)) (fun _ => rfl) rfl (by decide) (by decide) (by decide) dX13_init_58 (fun q_58 => ?_)
  show V G K 1 6 932 60 [some (.ref m)] [.ref q_58, .ref m] [(m, .inr (13, [.ref q_7, .ref q_15, .ref q_23, .ref q_32, .int 0, .int 0, .int (-1), .int (-1), .ref q_50, .int 0, .null, .int 0, .int 0, .int 0, .int 0, .int 0, .int 0, .null])), (q_7, .inl (gI G, 72, .inl (fun _ => 0))), (q_15, .inl (gI G, 72, .inl (fun _ => 0))), (q_23, .inl (gI G, 72, .inl (fun _ => 0))), (q_32, .inl (gI G, 576, .inl (fun _ => 0))), (q_50, .inl (gI G, 60, .inl (fun _ => 0))), (q_58, .inl (gI G, 80, .inl (fun _ => 0)))]
  refine V.putfF hC (T := TX13) q4_ tyX13 tyX13_ok nmX13 10 q12_ rfl rfl hnm rfl (0) rfl rfl (by decide) (by simp) rfl rfl dX13_init_60 [(m, .inr (13, [.ref q_7, .ref q_15, .ref q_23, .ref q_32, .int 0, .int 0, .int (-1), .int (-1), .ref q_50, .int 0, .ref q_58, .int 0, .int 0, .int 0, .int 0, .int 0, .int 0, .null])), (q_7, .inl (gI G, 72, .inl (fun _ => 0))), (q_15, .inl (gI G, 72, .inl (fun _ => 0))), (q_23, .inl (gI G, 72, .inl (fun _ => 0))), (q_32, .inl (gI G, 576, .inl (fun _ => 0))), (q_50, .inl (gI G, 60, .inl (fun _ => 0))), (q_58, .inl (gI G, 80, .inl (fun _ => 0)))] rfl ?_
  refine V.aload_n hC (x := m) dX13_init_63 rfl ?_
  refine V.bipush hC 120 dX13_init_64 rfl ?_
  refine V.newA hC (atype := .int) 0 (cA := gI G) q3_ rfl 120 (120, .inl (fun _ => 0)) (fun _ => rfl) rfl (by decide) (by decide) (by decide) dX13_init_66 (fun q_66 => ?_)
  show V G K 1 7 1052 68 [some (.ref m)] [.ref q_66, .ref m] [(m, .inr (13, [.ref q_7, .ref q_15, .ref q_23, .ref q_32, .int 0, .int 0, .int (-1), .int (-1), .ref q_50, .int 0, .ref q_58, .int 0, .int 0, .int 0, .int 0, .int 0, .int 0, .null])), (q_7, .inl (gI G, 72, .inl (fun _ => 0))), (q_15, .inl (gI G, 72, .inl (fun _ => 0))), (q_23, .inl (gI G, 72, .inl (fun _ => 0))), (q_32, .inl (gI G, 576, .inl (fun _ => 0))), (q_50, .inl (gI G, 60, .inl (fun _ => 0))), (q_58, .inl (gI G, 80, .inl (fun _ => 0))), (q_66, .inl (gI G, 120, .inl (fun _ => 0)))]
  refine V.putfF hC (T := TX13) q4_ tyX13 tyX13_ok nmX13 17 q13_ rfl rfl hnm rfl (0) rfl rfl (by decide) (by simp) rfl rfl dX13_init_68 [(m, .inr (13, [.ref q_7, .ref q_15, .ref q_23, .ref q_32, .int 0, .int 0, .int (-1), .int (-1), .ref q_50, .int 0, .ref q_58, .int 0, .int 0, .int 0, .int 0, .int 0, .int 0, .ref q_66])), (q_7, .inl (gI G, 72, .inl (fun _ => 0))), (q_15, .inl (gI G, 72, .inl (fun _ => 0))), (q_23, .inl (gI G, 72, .inl (fun _ => 0))), (q_32, .inl (gI G, 576, .inl (fun _ => 0))), (q_50, .inl (gI G, 60, .inl (fun _ => 0))), (q_58, .inl (gI G, 80, .inl (fun _ => 0))), (q_66, .inl (gI G, 120, .inl (fun _ => 0)))] rfl ?_
  exact hE 71 _ (q_7, q_15, q_23, q_32, q_50, q_58, q_66) dX13_init_71 trivial

set_option maxHeartbeats 4000000 in
set_option maxRecDepth 100000 in
theorem m_errorPosition (l : Launch) (G : Gx) (m nw bf sv hy tx li nmb : Nat) (iS rmb eA fA tyd ldd thr siz spt wrg tld : Int32) : Ct l G SF0 yX13_errorPosition wsX13_errorPosition ({ frames := 2, cells := 0, slots := 0, locals := 45 }) [.ref m] [(m, .inr (13, [.ref nw, .ref bf, .ref sv, .ref hy, .int iS, .int rmb, .int eA, .int fA, .ref tx, .int tyd, .ref li, .int ldd, .int thr, .int siz, .int spt, .int wrg, .int tld, .ref nmb]))] mkI (fun (r : Int32) (_ : Unit) => ¬ eA = -1 → r = eA) (fun _ : Unit => [(m, .inr (13, [.ref nw, .ref bf, .ref sv, .ref hy, .int iS, .int rmb, .int eA, .int fA, .ref tx, .int tyd, .ref li, .int ldd, .int (nI (if eA = -1 then 1 else 0)), .int siz, .int spt, .int wrg, .int tld, .ref nmb]))]) 0 0 := by
  refine Ct.ofI (cc := cX13_errorPosition) (maxL := 1) (by decide) rfl ⟨by simp [Value.category], Nat.le_of_ble_eq_true rfl⟩ ?_
  intro K hl hC hSF hnm hE
  subst hl
  have q0_ : ∀ w ∈ u_ws RX13 TX13 18, w ∈ wsX13_errorPosition := by decide +kernel
  have q1_ : Cond.fieldLink RX13 22 "FeatherSharesModel" "errorAt" "I" ∈ wsX13_errorPosition := by decide +kernel
  show V G K 1 0 0 0 [some (.ref m)] [] [(m, .inr (13, [.ref nw, .ref bf, .ref sv, .ref hy, .int iS, .int rmb, .int eA, .int fA, .ref tx, .int tyd, .ref li, .int ldd, .int thr, .int siz, .int spt, .int wrg, .int tld, .ref nmb]))]
  refine V.aload_n hC (x := m) dX13_errorPosition_0 rfl ?_
  refine V.aload_n hC (x := m) dX13_errorPosition_1 rfl ?_
  refine V.getf hC (T := TX13) q0_ 6 q1_ rfl (0) rfl rfl (by decide) (.int eA) rfl dX13_errorPosition_2 ?_
  refine V.iconst hC (-1) dX13_errorPosition_5 rfl ?_
  refine V.icmp_eq hC 13 dX13_errorPosition_6 rfl (fun c_6 => ?_) (fun c_6 => ?_)
  · refine V.iconst hC 0 dX13_errorPosition_13 rfl ?_
    refine V.callV (n := 1) (As := [.int 0]) (rest := []) hC (m_goes (kl K) G m nw bf sv hy tx li nmb iS rmb eA fA tyd ldd thr siz spt wrg tld 0) SFk0 SFgo0 gX13_errorPosition_X13_goes rfl ⟨rfl, rfl⟩ (by decide +kernel) ⟨by decide, by decide, by decide, by decide⟩ [0] rfl (by decide) (fun _ => rfl) rfl rfl rfl rfl (Nat.le_of_ble_eq_true rfl) dX13_errorPosition_14 (fun r_14 u_14 hp_14 => ?_)
    subst hp_14
    show V G K 1 0 0 17 [some (.ref m)] [.int (if alw 0 1 1 1 = 0 then 1 else 0)] [(m, .inr (13, [.ref nw, .ref bf, .ref sv, .ref hy, .int iS, .int rmb, .int eA, .int fA, .ref tx, .int tyd, .ref li, .int ldd, .int (nI (alw 0 1 1 1)), .int siz, .int spt, .int wrg, .int tld, .ref nmb]))]
    have ha_14 : alw 0 1 1 1 = 1 := by rfl
    refine V.topeq (nI 0) (by rw [ha_14]; rfl) ?_
    refine V.eqw (ws' := [(m, .inr (13, [.ref nw, .ref bf, .ref sv, .ref hy, .int iS, .int rmb, .int eA, .int fA, .ref tx, .int tyd, .ref li, .int ldd, .int (nI 1), .int siz, .int spt, .int wrg, .int tld, .ref nmb]))]) (by rw [ha_14]) ?_
    refine V.ifN_eq hC 0 27 dX13_errorPosition_17 rfl rfl (by omega) (fun c_17 => ?_) (fun c_17 => ?_)
    · refine V.iconst hC 0 dX13_errorPosition_27 rfl ?_
      have hcd : (if eA = -1 then 1 else 0) = 1 := if_pos c_6
      refine V.eqw (ws' := [(m, .inr (13, [.ref nw, .ref bf, .ref sv, .ref hy, .int iS, .int rmb, .int eA, .int fA, .ref tx, .int tyd, .ref li, .int ldd, .int (nI (if eA = -1 then 1 else 0)), .int siz, .int spt, .int wrg, .int tld, .ref nmb]))]) (by rw [hcd]) ?_
      exact hE 28 _ 0 () dX13_errorPosition_28 rfl (fun z => absurd c_6 z)
    · exact absurd c_17 (by decide)
  · refine V.iconst hC 1 dX13_errorPosition_9 rfl ?_
    refine V.goto hC 14 dX13_errorPosition_10 rfl ?_
    refine V.callV (n := 1) (As := [.int 1]) (rest := []) hC (m_goes (kl K) G m nw bf sv hy tx li nmb iS rmb eA fA tyd ldd thr siz spt wrg tld 1) SFk0 SFgo0 gX13_errorPosition_X13_goes rfl ⟨rfl, rfl⟩ (by decide +kernel) ⟨by decide, by decide, by decide, by decide⟩ [0] rfl (by decide) (fun _ => rfl) rfl rfl rfl rfl (Nat.le_of_ble_eq_true rfl) dX13_errorPosition_14 (fun r_14 u_14 hp_14 => ?_)
    subst hp_14
    show V G K 1 0 0 17 [some (.ref m)] [.int (if alw 1 1 1 1 = 0 then 1 else 0)] [(m, .inr (13, [.ref nw, .ref bf, .ref sv, .ref hy, .int iS, .int rmb, .int eA, .int fA, .ref tx, .int tyd, .ref li, .int ldd, .int (nI (alw 1 1 1 1)), .int siz, .int spt, .int wrg, .int tld, .ref nmb]))]
    have ha_14 : alw 1 1 1 1 = 0 := by rfl
    refine V.topeq (nI 1) (by rw [ha_14]; rfl) ?_
    refine V.eqw (ws' := [(m, .inr (13, [.ref nw, .ref bf, .ref sv, .ref hy, .int iS, .int rmb, .int eA, .int fA, .ref tx, .int tyd, .ref li, .int ldd, .int (nI 0), .int siz, .int spt, .int wrg, .int tld, .ref nmb]))]) (by rw [ha_14]) ?_
    refine V.ifN_eq hC 1 27 dX13_errorPosition_17 rfl rfl (by omega) (fun c_17 => ?_) (fun c_17 => ?_)
    · exact absurd c_17 (by decide)
    · refine V.aload_n hC (x := m) dX13_errorPosition_20 rfl ?_
      refine V.getf hC (T := TX13) q0_ 6 q1_ rfl (0) rfl rfl (by decide) (.int eA) rfl dX13_errorPosition_21 ?_
      refine V.goto hC 28 dX13_errorPosition_24 rfl ?_
      have hcd : (if eA = -1 then 1 else 0) = 0 := if_neg c_6
      refine V.eqw (ws' := [(m, .inr (13, [.ref nw, .ref bf, .ref sv, .ref hy, .int iS, .int rmb, .int eA, .int fA, .ref tx, .int tyd, .ref li, .int ldd, .int (nI (if eA = -1 then 1 else 0)), .int siz, .int spt, .int wrg, .int tld, .ref nmb]))]) (by rw [hcd]) ?_
      exact hE 28 _ eA () dX13_errorPosition_28 rfl (fun _ => rfl)

set_option maxHeartbeats 4000000 in
set_option maxRecDepth 100000 in
theorem m_failedCommand (l : Launch) (G : Gx) (m nw bf sv hy tx li nmb : Nat) (iS rmb eA fA tyd ldd thr siz spt wrg tld : Int32) : Ct l G SF0 yX13_failedCommand wsX13_failedCommand ({ frames := 2, cells := 0, slots := 0, locals := 45 }) [.ref m] [(m, .inr (13, [.ref nw, .ref bf, .ref sv, .ref hy, .int iS, .int rmb, .int eA, .int fA, .ref tx, .int tyd, .ref li, .int ldd, .int thr, .int siz, .int spt, .int wrg, .int tld, .ref nmb]))] mkI (fun (r : Int32) (_ : Unit) => ¬ fA = -1 → r = fA) (fun _ : Unit => [(m, .inr (13, [.ref nw, .ref bf, .ref sv, .ref hy, .int iS, .int rmb, .int eA, .int fA, .ref tx, .int tyd, .ref li, .int ldd, .int (nI (if fA = -1 then 1 else 0)), .int siz, .int spt, .int wrg, .int tld, .ref nmb]))]) 0 0 := by
  refine Ct.ofI (cc := cX13_failedCommand) (maxL := 1) (by decide) rfl ⟨by simp [Value.category], Nat.le_of_ble_eq_true rfl⟩ ?_
  intro K hl hC hSF hnm hE
  subst hl
  have q0_ : ∀ w ∈ u_ws RX13 TX13 18, w ∈ wsX13_failedCommand := by decide +kernel
  have q1_ : Cond.fieldLink RX13 26 "FeatherSharesModel" "failedAt" "I" ∈ wsX13_failedCommand := by decide +kernel
  show V G K 1 0 0 0 [some (.ref m)] [] [(m, .inr (13, [.ref nw, .ref bf, .ref sv, .ref hy, .int iS, .int rmb, .int eA, .int fA, .ref tx, .int tyd, .ref li, .int ldd, .int thr, .int siz, .int spt, .int wrg, .int tld, .ref nmb]))]
  refine V.aload_n hC (x := m) dX13_failedCommand_0 rfl ?_
  refine V.aload_n hC (x := m) dX13_failedCommand_1 rfl ?_
  refine V.getf hC (T := TX13) q0_ 7 q1_ rfl (0) rfl rfl (by decide) (.int fA) rfl dX13_failedCommand_2 ?_
  refine V.iconst hC (-1) dX13_failedCommand_5 rfl ?_
  refine V.icmp_eq hC 13 dX13_failedCommand_6 rfl (fun c_6 => ?_) (fun c_6 => ?_)
  · refine V.iconst hC 0 dX13_failedCommand_13 rfl ?_
    refine V.callV (n := 1) (As := [.int 0]) (rest := []) hC (m_goes (kl K) G m nw bf sv hy tx li nmb iS rmb eA fA tyd ldd thr siz spt wrg tld 0) SFk0 SFgo0 gX13_failedCommand_X13_goes rfl ⟨rfl, rfl⟩ (by decide +kernel) ⟨by decide, by decide, by decide, by decide⟩ [0] rfl (by decide) (fun _ => rfl) rfl rfl rfl rfl (Nat.le_of_ble_eq_true rfl) dX13_failedCommand_14 (fun r_14 u_14 hp_14 => ?_)
    subst hp_14
    show V G K 1 0 0 17 [some (.ref m)] [.int (if alw 0 1 1 1 = 0 then 1 else 0)] [(m, .inr (13, [.ref nw, .ref bf, .ref sv, .ref hy, .int iS, .int rmb, .int eA, .int fA, .ref tx, .int tyd, .ref li, .int ldd, .int (nI (alw 0 1 1 1)), .int siz, .int spt, .int wrg, .int tld, .ref nmb]))]
    have ha_14 : alw 0 1 1 1 = 1 := by rfl
    refine V.topeq (nI 0) (by rw [ha_14]; rfl) ?_
    refine V.eqw (ws' := [(m, .inr (13, [.ref nw, .ref bf, .ref sv, .ref hy, .int iS, .int rmb, .int eA, .int fA, .ref tx, .int tyd, .ref li, .int ldd, .int (nI 1), .int siz, .int spt, .int wrg, .int tld, .ref nmb]))]) (by rw [ha_14]) ?_
    refine V.ifN_eq hC 0 27 dX13_failedCommand_17 rfl rfl (by omega) (fun c_17 => ?_) (fun c_17 => ?_)
    · refine V.iconst hC 0 dX13_failedCommand_27 rfl ?_
      have hcd : (if fA = -1 then 1 else 0) = 1 := if_pos c_6
      refine V.eqw (ws' := [(m, .inr (13, [.ref nw, .ref bf, .ref sv, .ref hy, .int iS, .int rmb, .int eA, .int fA, .ref tx, .int tyd, .ref li, .int ldd, .int (nI (if fA = -1 then 1 else 0)), .int siz, .int spt, .int wrg, .int tld, .ref nmb]))]) (by rw [hcd]) ?_
      exact hE 28 _ 0 () dX13_failedCommand_28 rfl (fun z => absurd c_6 z)
    · exact absurd c_17 (by decide)
  · refine V.iconst hC 1 dX13_failedCommand_9 rfl ?_
    refine V.goto hC 14 dX13_failedCommand_10 rfl ?_
    refine V.callV (n := 1) (As := [.int 1]) (rest := []) hC (m_goes (kl K) G m nw bf sv hy tx li nmb iS rmb eA fA tyd ldd thr siz spt wrg tld 1) SFk0 SFgo0 gX13_failedCommand_X13_goes rfl ⟨rfl, rfl⟩ (by decide +kernel) ⟨by decide, by decide, by decide, by decide⟩ [0] rfl (by decide) (fun _ => rfl) rfl rfl rfl rfl (Nat.le_of_ble_eq_true rfl) dX13_failedCommand_14 (fun r_14 u_14 hp_14 => ?_)
    subst hp_14
    show V G K 1 0 0 17 [some (.ref m)] [.int (if alw 1 1 1 1 = 0 then 1 else 0)] [(m, .inr (13, [.ref nw, .ref bf, .ref sv, .ref hy, .int iS, .int rmb, .int eA, .int fA, .ref tx, .int tyd, .ref li, .int ldd, .int (nI (alw 1 1 1 1)), .int siz, .int spt, .int wrg, .int tld, .ref nmb]))]
    have ha_14 : alw 1 1 1 1 = 0 := by rfl
    refine V.topeq (nI 1) (by rw [ha_14]; rfl) ?_
    refine V.eqw (ws' := [(m, .inr (13, [.ref nw, .ref bf, .ref sv, .ref hy, .int iS, .int rmb, .int eA, .int fA, .ref tx, .int tyd, .ref li, .int ldd, .int (nI 0), .int siz, .int spt, .int wrg, .int tld, .ref nmb]))]) (by rw [ha_14]) ?_
    refine V.ifN_eq hC 1 27 dX13_failedCommand_17 rfl rfl (by omega) (fun c_17 => ?_) (fun c_17 => ?_)
    · exact absurd c_17 (by decide)
    · refine V.aload_n hC (x := m) dX13_failedCommand_20 rfl ?_
      refine V.getf hC (T := TX13) q0_ 7 q1_ rfl (0) rfl rfl (by decide) (.int fA) rfl dX13_failedCommand_21 ?_
      refine V.goto hC 28 dX13_failedCommand_24 rfl ?_
      have hcd : (if fA = -1 then 1 else 0) = 0 := if_neg c_6
      refine V.eqw (ws' := [(m, .inr (13, [.ref nw, .ref bf, .ref sv, .ref hy, .int iS, .int rmb, .int eA, .int fA, .ref tx, .int tyd, .ref li, .int ldd, .int (nI (if fA = -1 then 1 else 0)), .int siz, .int spt, .int wrg, .int tld, .ref nmb]))]) (by rw [hcd]) ?_
      exact hE 28 _ fA () dX13_failedCommand_28 rfl (fun _ => rfl)

set_option maxHeartbeats 4000000 in
set_option maxRecDepth 100000 in
theorem m_appendY (l : Launch) (G : Gx) (m nw bf sv hy tx li nmb : Nat) (iS rmb eA fA ldd thr siz spt wrg tld : Int32) (p : Nat) (hp6 : p < 60) (τ : Nat → Int32) (x : Int32) : Ct l G SF0 yX13_append wsX13_append ({ frames := 2, cells := 0, slots := 0, locals := 45 }) [.ref m, .int x] [(m, .inr (13, [.ref nw, .ref bf, .ref sv, .ref hy, .int iS, .int rmb, .int eA, .int fA, .ref tx, .int (nI p), .ref li, .int ldd, .int thr, .int siz, .int spt, .int wrg, .int tld, .ref nmb])), (tx, .inl (gI G, 60, .inl τ))] mkI (fun (r : Int32) (_ : Unit) => r = nI (p + 1)) (fun _ : Unit => [(m, .inr (13, [.ref nw, .ref bf, .ref sv, .ref hy, .int iS, .int rmb, .int eA, .int fA, .ref tx, .int (nI (p + 1)), .ref li, .int ldd, .int (nI 0), .int siz, .int spt, .int wrg, .int tld, .ref nmb])), (tx, .inl (gI G, 60, .inl (upd τ p x)))]) 0 0 := by
  refine Ct.ofI (cc := cX13_append) (maxL := 2) (by decide) rfl ⟨by simp [Value.category], Nat.le_of_ble_eq_true rfl⟩ ?_
  intro K hl hC hSF hnm hE
  subst hl
  have q0_ : ∀ w ∈ u_ws RX13 TX13 18, w ∈ wsX13_append := by decide +kernel
  have q1_ : Cond.fieldLink RX13 185 "FeatherSharesModel" "typed" "I" ∈ wsX13_append := by decide +kernel
  have q2_ : Cond.fieldLink RX13 29 "FeatherSharesModel" "text" "[I" ∈ wsX13_append := by decide +kernel
  show V G K 2 0 0 0 [some (.ref m), some (.int x)] [] [(m, .inr (13, [.ref nw, .ref bf, .ref sv, .ref hy, .int iS, .int rmb, .int eA, .int fA, .ref tx, .int (nI p), .ref li, .int ldd, .int thr, .int siz, .int spt, .int wrg, .int tld, .ref nmb])), (tx, .inl (gI G, 60, .inl τ))]
  refine V.aload_n hC (x := m) dX13_append_0 rfl ?_
  refine V.aload_n hC (x := m) dX13_append_1 rfl ?_
  refine V.getf hC (T := TX13) q0_ 9 q1_ rfl (0) rfl rfl (by decide) (.int (nI p)) rfl dX13_append_2 ?_
  refine V.bipush hC 60 dX13_append_5 rfl ?_
  refine V.icmpN_ge hC p 60 14 dX13_append_7 rfl rfl rfl (by omega) (by omega) (fun c_7 => ?_) (fun c_7 => ?_)
  · exact absurd c_7 (by omega)
  · refine V.iconst hC 1 dX13_append_10 rfl ?_
    refine V.goto hC 15 dX13_append_11 rfl ?_
    refine V.callV (n := 1) (As := [.int 1]) (rest := []) hC (m_goes (kl K) G m nw bf sv hy tx li nmb iS rmb eA fA (nI p) ldd thr siz spt wrg tld 1) SFk0 SFgo0 gX13_append_X13_goes rfl ⟨rfl, rfl⟩ (by decide +kernel) ⟨by decide, by decide, by decide, by decide⟩ [0] rfl (by decide) (fun _ => rfl) rfl rfl rfl rfl (Nat.le_of_ble_eq_true rfl) dX13_append_15 (fun r_15 u_15 hp_15 => ?_)
    subst hp_15
    show V G K 2 0 0 18 [some (.ref m), some (.int x)] [.int (if alw 1 1 1 1 = 0 then 1 else 0)] [(m, .inr (13, [.ref nw, .ref bf, .ref sv, .ref hy, .int iS, .int rmb, .int eA, .int fA, .ref tx, .int (nI p), .ref li, .int ldd, .int (nI (alw 1 1 1 1)), .int siz, .int spt, .int wrg, .int tld, .ref nmb])), (tx, .inl (gI G, 60, .inl τ))]
    have ha_15 : alw 1 1 1 1 = 0 := by rfl
    refine V.topeq (nI 1) (by rw [ha_15]; rfl) ?_
    refine V.eqw (ws' := [(m, .inr (13, [.ref nw, .ref bf, .ref sv, .ref hy, .int iS, .int rmb, .int eA, .int fA, .ref tx, .int (nI p), .ref li, .int ldd, .int (nI 0), .int siz, .int spt, .int wrg, .int tld, .ref nmb])), (tx, .inl (gI G, 60, .inl τ))]) (by rw [ha_15]) ?_
    refine V.ifN_ne hC 1 23 dX13_append_18 rfl rfl (by omega) (fun c_18 => ?_) (fun c_18 => ?_)
    · refine V.aload_n hC (x := m) dX13_append_23 rfl ?_
      refine V.getf hC (T := TX13) q0_ 8 q2_ rfl (0) rfl rfl (by decide) (.ref tx) rfl dX13_append_24 ?_
      refine V.aload_n hC (x := m) dX13_append_27 rfl ?_
      refine V.getf hC (T := TX13) q0_ 9 q1_ rfl (0) rfl rfl (by decide) (.int (nI p)) rfl dX13_append_28 ?_
      refine V.iload_n hC (x := x) dX13_append_31 rfl ?_
      refine V.iast hC dX13_append_32 (1) rfl p rfl (by omega) (by decide) [(m, .inr (13, [.ref nw, .ref bf, .ref sv, .ref hy, .int iS, .int rmb, .int eA, .int fA, .ref tx, .int (nI p), .ref li, .int ldd, .int (nI 0), .int siz, .int spt, .int wrg, .int tld, .ref nmb])), (tx, .inl (gI G, 60, .inl (upd τ p x)))] rfl ?_
      refine V.aload_n hC (x := m) dX13_append_33 rfl ?_
      refine V.dup hC dX13_append_34 rfl ?_
      refine V.getf hC (T := TX13) q0_ 9 q1_ rfl (0) rfl rfl (by decide) (.int (nI p)) rfl dX13_append_35 ?_
      refine V.iconst hC 1 dX13_append_38 rfl ?_
      refine V.iaddN hC p 1 dX13_append_39 rfl rfl ?_
      refine V.putf hC (T := TX13) q0_ tyX13 tyX13_ok nmX13 9 q1_ rfl rfl (0) rfl rfl (by decide) (by simp) rfl rfl dX13_append_40 [(m, .inr (13, [.ref nw, .ref bf, .ref sv, .ref hy, .int iS, .int rmb, .int eA, .int fA, .ref tx, .int (nI (p + 1)), .ref li, .int ldd, .int (nI 0), .int siz, .int spt, .int wrg, .int tld, .ref nmb])), (tx, .inl (gI G, 60, .inl (upd τ p x)))] rfl ?_
      refine V.aload_n hC (x := m) dX13_append_43 rfl ?_
      refine V.getf hC (T := TX13) q0_ 9 q1_ rfl (0) rfl rfl (by decide) (.int (nI (p + 1))) rfl dX13_append_44 ?_
      exact hE 47 _ (nI (p + 1)) () dX13_append_47 rfl rfl
    · exact absurd c_18 (by decide)

set_option maxHeartbeats 4000000 in
set_option maxRecDepth 100000 in
theorem m_appendN (l : Launch) (G : Gx) (m nw bf sv hy tx li nmb : Nat) (iS rmb eA fA ldd thr siz spt wrg tld : Int32) (p : Nat) (hp6 : ¬ p < 60) (hp7 : p ≤ 60) (τ : Nat → Int32) (x : Int32) : Ct l G SF0 yX13_append wsX13_append ({ frames := 2, cells := 0, slots := 0, locals := 45 }) [.ref m, .int x] [(m, .inr (13, [.ref nw, .ref bf, .ref sv, .ref hy, .int iS, .int rmb, .int eA, .int fA, .ref tx, .int (nI p), .ref li, .int ldd, .int thr, .int siz, .int spt, .int wrg, .int tld, .ref nmb])), (tx, .inl (gI G, 60, .inl τ))] mkI (fun (r : Int32) (_ : Unit) => r = 0) (fun _ : Unit => [(m, .inr (13, [.ref nw, .ref bf, .ref sv, .ref hy, .int iS, .int rmb, .int eA, .int fA, .ref tx, .int (nI p), .ref li, .int ldd, .int (nI 1), .int siz, .int spt, .int wrg, .int tld, .ref nmb])), (tx, .inl (gI G, 60, .inl τ))]) 0 0 := by
  refine Ct.ofI (cc := cX13_append) (maxL := 2) (by decide) rfl ⟨by simp [Value.category], Nat.le_of_ble_eq_true rfl⟩ ?_
  intro K hl hC hSF hnm hE
  subst hl
  have q0_ : ∀ w ∈ u_ws RX13 TX13 18, w ∈ wsX13_append := by decide +kernel
  have q1_ : Cond.fieldLink RX13 185 "FeatherSharesModel" "typed" "I" ∈ wsX13_append := by decide +kernel
  show V G K 2 0 0 0 [some (.ref m), some (.int x)] [] [(m, .inr (13, [.ref nw, .ref bf, .ref sv, .ref hy, .int iS, .int rmb, .int eA, .int fA, .ref tx, .int (nI p), .ref li, .int ldd, .int thr, .int siz, .int spt, .int wrg, .int tld, .ref nmb])), (tx, .inl (gI G, 60, .inl τ))]
  refine V.aload_n hC (x := m) dX13_append_0 rfl ?_
  refine V.aload_n hC (x := m) dX13_append_1 rfl ?_
  refine V.getf hC (T := TX13) q0_ 9 q1_ rfl (0) rfl rfl (by decide) (.int (nI p)) rfl dX13_append_2 ?_
  refine V.bipush hC 60 dX13_append_5 rfl ?_
  refine V.icmpN_ge hC p 60 14 dX13_append_7 rfl rfl rfl (by omega) (by omega) (fun c_7 => ?_) (fun c_7 => ?_)
  · refine V.iconst hC 0 dX13_append_14 rfl ?_
    refine V.callV (n := 1) (As := [.int 0]) (rest := []) hC (m_goes (kl K) G m nw bf sv hy tx li nmb iS rmb eA fA (nI p) ldd thr siz spt wrg tld 0) SFk0 SFgo0 gX13_append_X13_goes rfl ⟨rfl, rfl⟩ (by decide +kernel) ⟨by decide, by decide, by decide, by decide⟩ [0] rfl (by decide) (fun _ => rfl) rfl rfl rfl rfl (Nat.le_of_ble_eq_true rfl) dX13_append_15 (fun r_15 u_15 hp_15 => ?_)
    subst hp_15
    show V G K 2 0 0 18 [some (.ref m), some (.int x)] [.int (if alw 0 1 1 1 = 0 then 1 else 0)] [(m, .inr (13, [.ref nw, .ref bf, .ref sv, .ref hy, .int iS, .int rmb, .int eA, .int fA, .ref tx, .int (nI p), .ref li, .int ldd, .int (nI (alw 0 1 1 1)), .int siz, .int spt, .int wrg, .int tld, .ref nmb])), (tx, .inl (gI G, 60, .inl τ))]
    have ha_15 : alw 0 1 1 1 = 1 := by rfl
    refine V.topeq (nI 0) (by rw [ha_15]; rfl) ?_
    refine V.eqw (ws' := [(m, .inr (13, [.ref nw, .ref bf, .ref sv, .ref hy, .int iS, .int rmb, .int eA, .int fA, .ref tx, .int (nI p), .ref li, .int ldd, .int (nI 1), .int siz, .int spt, .int wrg, .int tld, .ref nmb])), (tx, .inl (gI G, 60, .inl τ))]) (by rw [ha_15]) ?_
    refine V.ifN_ne hC 0 23 dX13_append_18 rfl rfl (by omega) (fun c_18 => ?_) (fun c_18 => ?_)
    · exact absurd c_18 (by decide)
    · refine V.iconst hC 0 dX13_append_21 rfl ?_
      exact hE 22 _ 0 () dX13_append_22 rfl rfl
  · exact absurd c_7 (by omega)
