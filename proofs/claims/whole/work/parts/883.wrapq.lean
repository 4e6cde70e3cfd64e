/-! the law's own methods: questions (printed by gen/s883.py) -/
/-- the classes that the law's handlers catch: the kit's lists hold the first handler's alone -/
def hx9 : List Cond := [Cond.classLink RL 13 "java/lang/IllegalArgumentException", Cond.classLink RL 15 "java/lang/IllegalStateException", Cond.classLink RL 21 "java/lang/IndexOutOfBoundsException", Cond.classLink RL 30 "java/util/NoSuchElementException", Cond.classLink RL 38 "java/lang/UnsupportedOperationException", Cond.classLink RL 105 "java/lang/ArithmeticException"]
theorem hx9_13 : Cond.classLink RL 13 "java/lang/IllegalArgumentException" ∈ hx9 := by decide +kernel
theorem hx9_15 : Cond.classLink RL 15 "java/lang/IllegalStateException" ∈ hx9 := by decide +kernel
theorem hx9_21 : Cond.classLink RL 21 "java/lang/IndexOutOfBoundsException" ∈ hx9 := by decide +kernel
theorem hx9_30 : Cond.classLink RL 30 "java/util/NoSuchElementException" ∈ hx9 := by decide +kernel
theorem hx9_38 : Cond.classLink RL 38 "java/lang/UnsupportedOperationException" ∈ hx9 := by decide +kernel
theorem hx9_105 : Cond.classLink RL 105 "java/lang/ArithmeticException" ∈ hx9 := by decide +kernel
theorem hx9_tbl : ∀ w ∈ hx9, w ∈ lw_tbl := by decide +kernel
theorem upL0 {f : Nat → Int64} {v : Int64} : vp_updL f 0 v 0 = v := if_pos rfl
theorem upD0 {f : Nat → UInt64} {v : UInt64} : va_up f 0 v 0 = v := if_pos rfl
theorem hx_in {w : Cond} {T : List Cond} (h : w ∈ hx9) : w ∈ T ++ hx9 := List.mem_append.mpr (Or.inr h)
theorem gx1 {T L : List Cond} (h : GoodIn T L) : GoodIn (T ++ hx9) L := fun w hw => ⟨List.mem_append.mpr (Or.inl (h w hw).1), (h w hw).2⟩
theorem gx9 {T : List Cond} : GoodIn (T ++ hx9) hx9 := goodIn_sub (fun _ h => hx_in h) (by decide +kernel)
theorem gx2 {T ws : List Cond} {own : String} {i : Nat} {y : MethodName} (h : GoodIn T (va_wsS own i y ws)) : GoodIn (T ++ hx9) (va_wsS own i y (ws ++ hx9)) := by
  intro w hw
  unfold va_wsS at h hw
  rcases List.mem_append.mp hw with h1 | h1
  · exact gx1 h w (List.mem_append.mpr (Or.inl h1))
  · rcases List.mem_append.mp h1 with h2 | h2
    · exact gx1 h w (List.mem_append.mpr (Or.inr h2))
    · exact gx9 w h2

set_option maxHeartbeats 4000000 in
set_option maxRecDepth 100000 in
theorem w_nestOf (l : Launch) (G : Gx) (hst : l.stackTraces = false) (fs h h2 h3 hh hr hg hq hl : Nat) (iS eA fA : Int32) (ah as_ : Nat) (rr ra : Nat → Nat) (s : ASt) (B : Nat) (hI : InvA B s) (x : Int32) (out : Nat) (g : Nat → Int64) : CtX l G (SFt G) yL_nestOf (wsL_nestOf ++ hx9) ({ frames := 8, cells := 1, slots := 6, locals := 124 }) [.ref fs, .int x, .ref out] (flt [[(out, .inl (gJ G, 1, .inr (.inl g)))], [(fs, .inr (12, [.ref h, .ref h2, .ref h3, .ref hh, .ref hr, .ref hg, .ref hq, .ref hl, .int iS, .int eA, .int fA]))], stW G h ah as_ rr ra (sHm s) (sNb s) (sNs s) (sLa s) (sLo s) (sNu s) (sTn s) (sSh s)]) mkI (fun (k : Int32) (u : Nat → Int64) => k = nI (qNestOf s x).1 ∧ (k = 0 → u 0 = (qNestOf s x).2.toInt64)) (fun u : Nat → Int64 => flt [[(out, .inl (gJ G, 1, .inr (.inl u)))], [(fs, .inr (12, [.ref h, .ref h2, .ref h3, .ref hh, .ref hr, .ref hg, .ref hq, .ref hl, .int iS, .int eA, .int fA]))], stW G h ah as_ rr ra (sHm s) (sNb s) (sNs s) (sLa s) (sLo s) (sNu s) (sTn s) (sSh s)]) (fun (_ : String) (_ : Unit) => False) (fun _ : Unit => (flt [[(out, .inl (gJ G, 1, .inr (.inl g)))], [(fs, .inr (12, [.ref h, .ref h2, .ref h3, .ref hh, .ref hr, .ref hg, .ref hq, .ref hl, .int iS, .int eA, .int fA]))], stW G h ah as_ rr ra (sHm s) (sNb s) (sNs s) (sLa s) (sLo s) (sNu s) (sTn s) (sSh s)])) 1 6 := by
  refine CtX.ofIW (hh := [(0, 9, 12, 21)]) (cc := cL_nestOf) (maxL := 4) (by decide) rfl ⟨by simp [Value.category], Nat.le_of_ble_eq_true rfl⟩ ?_
  intro K hl hC hSF hnm htab hE
  subst hl
  have hgot := SFgoS (SFt.k G) hSF
  have hgo := SFgo.x hgot
  have hSFt := hSF
  replace hSF := hSF.1
  show V G K 4 0 0 0 [some (.ref fs), some (.int x), some (.ref out), none] [] (flt [[(out, .inl (gJ G, 1, .inr (.inl g)))], [(fs, .inr (12, [.ref h, .ref h2, .ref h3, .ref hh, .ref hr, .ref hg, .ref hq, .ref hl, .int iS, .int eA, .int fA]))], stW G h ah as_ rr ra (sHm s) (sNb s) (sNs s) (sLa s) (sLo s) (sNu s) (sTn s) (sSh s)])
  refine V.aload_n hC (x := out) dL_nestOf_0 rfl ?_
  refine V.iconst hC 0 dL_nestOf_1 rfl ?_
  refine V.aload_n hC (x := fs) dL_nestOf_2 rfl ?_
  refine V.iload_n hC (x := x) dL_nestOf_3 rfl ?_
  refine V.callVBXN (n := 1) (As := [.int x]) (rest := [.int 0, .ref out]) hC (q_nestOf (kl K) G hst fs h h2 h3 hh hr hg hq hl iS eA fA ah as_ rr ra s B hI x) (SFt.k G) hgot (gx1 gL_nestOf_X12_nestOf) rfl ⟨rfl, rfl⟩ (by decide +kernel) ⟨by decide, by decide, by decide, by decide⟩ (L := [[(out, .inl (gJ G, 1, .inr (.inl g)))], [(fs, .inr (12, [.ref h, .ref h2, .ref h3, .ref hh, .ref hr, .ref hg, .ref hq, .ref hl, .int iS, .int eA, .int fA]))], stW G h ah as_ rr ra (sHm s) (sNb s) (sNs s) (sLa s) (sLo s) (sNu s) (sTn s) (sSh s)]) (N := 3) rfl [1, 2] [0] (by decide) rfl (fun _ : Unit => [[(fs, .inr (12, [.ref h, .ref h2, .ref h3, .ref hh, .ref hr, .ref hg, .ref hq, .ref hl, .int iS, .int eA, .int fA]))], stW G h ah as_ rr ra (sHm s) (sNb s) (sNs s) (sLa s) (sLo s) (sNu s) (sTn s) (sSh s)]) (fun _ => rfl) (fun _ : Unit => [[(fs, .inr (12, [.ref h, .ref h2, .ref h3, .ref hh, .ref hr, .ref hg, .ref hq, .ref hl, .int iS, .int eA, .int fA]))], stW G h ah as_ rr ra (sHm s) (sNb s) (sNs s) (sLa s) (sLo s) (sNu s) (sTn s) (sSh s)]) (fun _ => rfl) rfl rfl rfl rfl (Nat.le_of_ble_eq_true rfl) dL_nestOf_4 (fun E_ u_ hx_ => ?_) (fun r_4 u_4 hp_4 => ?_)
  · refine VX.reN (N := 3) [2, 0, 1] [[(out, .inl (gJ G, 1, .inr (.inl g)))], [(fs, .inr (12, [.ref h, .ref h2, .ref h3, .ref hh, .ref hr, .ref hg, .ref hq, .ref hl, .int iS, .int eA, .int fA]))], stW G h ah as_ rr ra (sHm s) (sNb s) (sNs s) (sLa s) (sLo s) (sNu s) (sTn s) (sSh s)] rfl (by decide) rfl ?_
    obtain ⟨j, hj, hq_, hE_⟩ := hx_
    have hj2 : j < 1 := hj
    subst hE_
    obtain rfl : j = 0 := by omega
    refine VX.catch hC (E := "java/lang/IndexOutOfBoundsException") (name := "java/lang/IndexOutOfBoundsException") _ htab [] ⟨0, 9, 12, 21⟩ [] rfl (fun z hz => absurd hz List.not_mem_nil) rfl (by decide) (hx_in hx9_21) (hSFt.ca _ (by decide)) (fun qx => ?_)
    show V G K 4 1 6 12 [some (.ref fs), some (.int x), some (.ref out), none] [.ref qx] (flt [[(out, .inl (gJ G, 1, .inr (.inl g)))], [(fs, .inr (12, [.ref h, .ref h2, .ref h3, .ref hh, .ref hr, .ref hg, .ref hq, .ref hl, .int iS, .int eA, .int fA]))], stW G h ah as_ rr ra (sHm s) (sNb s) (sNs s) (sLa s) (sLo s) (sNu s) (sTn s) (sSh s)])
    refine V.astore_n hC dL_nestOf_12 [some (.ref fs), some (.int x), some (.ref out), some (.ref qx)] (Nat.le_of_ble_eq_true rfl) rfl ?_
    refine V.iconst hC 1 dL_nestOf_13 rfl ?_
    exact hE 14 _ 1 g dL_nestOf_14 rfl ⟨(congrArg (fun z : Nat × Int32 => nI z.1) hq_).symm, fun z => absurd z (by decide)⟩
  · refine V.reN (N := 3) [2, 0, 1] [[(out, .inl (gJ G, 1, .inr (.inl g)))], [(fs, .inr (12, [.ref h, .ref h2, .ref h3, .ref hh, .ref hr, .ref hg, .ref hq, .ref hl, .int iS, .int eA, .int fA]))], stW G h ah as_ rr ra (sHm s) (sNb s) (sNs s) (sLa s) (sLo s) (sNu s) (sTn s) (sSh s)] rfl (by decide) rfl ?_
    show V G K 4 1 6 7 [some (.ref fs), some (.int x), some (.ref out), none] [.int r_4, .int 0, .ref out] (flt [[(out, .inl (gJ G, 1, .inr (.inl g)))], [(fs, .inr (12, [.ref h, .ref h2, .ref h3, .ref hh, .ref hr, .ref hg, .ref hq, .ref hl, .int iS, .int eA, .int fA]))], stW G h ah as_ rr ra (sHm s) (sNb s) (sNs s) (sLa s) (sLo s) (sNu s) (sTn s) (sSh s)])
    refine V.i2l hC dL_nestOf_7 ?_
    refine V.last hC dL_nestOf_8 (0) rfl 0 rfl (by omega) (by decide) (flt [[(out, .inl (gJ G, 1, .inr (.inl (vp_updL g 0 ((r_4).toInt64)))))], [(fs, .inr (12, [.ref h, .ref h2, .ref h3, .ref hh, .ref hr, .ref hg, .ref hq, .ref hl, .int iS, .int eA, .int fA]))], stW G h ah as_ rr ra (sHm s) (sNb s) (sNs s) (sLa s) (sLo s) (sNu s) (sTn s) (sSh s)]) rfl ?_
    refine V.goto hC 15 dL_nestOf_9 rfl ?_
    refine V.iconst hC 0 dL_nestOf_15 rfl ?_
    exact hE 16 _ 0 (vp_updL g 0 ((r_4).toInt64)) dL_nestOf_16 rfl ⟨(congrArg (fun z : Nat × Int32 => nI z.1) hp_4).symm, (fun _ => (show (vp_updL g 0 ((r_4).toInt64)) 0 = _ from upL0).trans (congrArg (fun z : Nat × Int32 => z.2.toInt64) hp_4).symm)⟩

set_option maxHeartbeats 4000000 in
set_option maxRecDepth 100000 in
theorem w_birdsIn (l : Launch) (G : Gx) (hst : l.stackTraces = false) (fs h h2 h3 hh hr hg hq hl : Nat) (iS eA fA : Int32) (ah as_ : Nat) (rr ra : Nat → Nat) (s : ASt) (B : Nat) (hI : InvA B s) (x : Int32) (out : Nat) (g : Nat → Int64) : CtX l G (SFt G) yL_birdsIn (wsL_birdsIn ++ hx9) ({ frames := 8, cells := 1, slots := 6, locals := 123 }) [.ref fs, .int x, .ref out] (flt [[(out, .inl (gJ G, 1, .inr (.inl g)))], [(fs, .inr (12, [.ref h, .ref h2, .ref h3, .ref hh, .ref hr, .ref hg, .ref hq, .ref hl, .int iS, .int eA, .int fA]))], stW G h ah as_ rr ra (sHm s) (sNb s) (sNs s) (sLa s) (sLo s) (sNu s) (sTn s) (sSh s)]) mkI (fun (k : Int32) (u : Nat → Int64) => k = nI (qBirdsIn s x).1 ∧ (k = 0 → u 0 = (qBirdsIn s x).2.toInt64)) (fun u : Nat → Int64 => flt [[(out, .inl (gJ G, 1, .inr (.inl u)))], [(fs, .inr (12, [.ref h, .ref h2, .ref h3, .ref hh, .ref hr, .ref hg, .ref hq, .ref hl, .int iS, .int eA, .int fA]))], stW G h ah as_ rr ra (sHm s) (sNb s) (sNs s) (sLa s) (sLo s) (sNu s) (sTn s) (sSh s)]) (fun (_ : String) (_ : Unit) => False) (fun _ : Unit => (flt [[(out, .inl (gJ G, 1, .inr (.inl g)))], [(fs, .inr (12, [.ref h, .ref h2, .ref h3, .ref hh, .ref hr, .ref hg, .ref hq, .ref hl, .int iS, .int eA, .int fA]))], stW G h ah as_ rr ra (sHm s) (sNb s) (sNs s) (sLa s) (sLo s) (sNu s) (sTn s) (sSh s)])) 1 6 := by
  refine CtX.ofIW (hh := [(0, 9, 12, 13)]) (cc := cL_birdsIn) (maxL := 4) (by decide) rfl ⟨by simp [Value.category], Nat.le_of_ble_eq_true rfl⟩ ?_
  intro K hl hC hSF hnm htab hE
  subst hl
  have hgot := SFgoS (SFt.k G) hSF
  have hgo := SFgo.x hgot
  have hSFt := hSF
  replace hSF := hSF.1
  show V G K 4 0 0 0 [some (.ref fs), some (.int x), some (.ref out), none] [] (flt [[(out, .inl (gJ G, 1, .inr (.inl g)))], [(fs, .inr (12, [.ref h, .ref h2, .ref h3, .ref hh, .ref hr, .ref hg, .ref hq, .ref hl, .int iS, .int eA, .int fA]))], stW G h ah as_ rr ra (sHm s) (sNb s) (sNs s) (sLa s) (sLo s) (sNu s) (sTn s) (sSh s)])
  refine V.aload_n hC (x := out) dL_birdsIn_0 rfl ?_
  refine V.iconst hC 0 dL_birdsIn_1 rfl ?_
  refine V.aload_n hC (x := fs) dL_birdsIn_2 rfl ?_
  refine V.iload_n hC (x := x) dL_birdsIn_3 rfl ?_
  refine V.callVBXN (n := 1) (As := [.int x]) (rest := [.int 0, .ref out]) hC (q_birdsIn (kl K) G hst fs h h2 h3 hh hr hg hq hl iS eA fA ah as_ rr ra s B hI x) (SFt.k G) hgot (gx1 gL_birdsIn_X12_birdsIn) rfl ⟨rfl, rfl⟩ (by decide +kernel) ⟨by decide, by decide, by decide, by decide⟩ (L := [[(out, .inl (gJ G, 1, .inr (.inl g)))], [(fs, .inr (12, [.ref h, .ref h2, .ref h3, .ref hh, .ref hr, .ref hg, .ref hq, .ref hl, .int iS, .int eA, .int fA]))], stW G h ah as_ rr ra (sHm s) (sNb s) (sNs s) (sLa s) (sLo s) (sNu s) (sTn s) (sSh s)]) (N := 3) rfl [1, 2] [0] (by decide) rfl (fun _ : Unit => [[(fs, .inr (12, [.ref h, .ref h2, .ref h3, .ref hh, .ref hr, .ref hg, .ref hq, .ref hl, .int iS, .int eA, .int fA]))], stW G h ah as_ rr ra (sHm s) (sNb s) (sNs s) (sLa s) (sLo s) (sNu s) (sTn s) (sSh s)]) (fun _ => rfl) (fun _ : Unit => [[(fs, .inr (12, [.ref h, .ref h2, .ref h3, .ref hh, .ref hr, .ref hg, .ref hq, .ref hl, .int iS, .int eA, .int fA]))], stW G h ah as_ rr ra (sHm s) (sNb s) (sNs s) (sLa s) (sLo s) (sNu s) (sTn s) (sSh s)]) (fun _ => rfl) rfl rfl rfl rfl (Nat.le_of_ble_eq_true rfl) dL_birdsIn_4 (fun E_ u_ hx_ => ?_) (fun r_4 u_4 hp_4 => ?_)
  · refine VX.reN (N := 3) [2, 0, 1] [[(out, .inl (gJ G, 1, .inr (.inl g)))], [(fs, .inr (12, [.ref h, .ref h2, .ref h3, .ref hh, .ref hr, .ref hg, .ref hq, .ref hl, .int iS, .int eA, .int fA]))], stW G h ah as_ rr ra (sHm s) (sNb s) (sNs s) (sLa s) (sLo s) (sNu s) (sTn s) (sSh s)] rfl (by decide) rfl ?_
    obtain ⟨j, hj, hq_, hE_⟩ := hx_
    have hj2 : j < 1 := hj
    subst hE_
    obtain rfl : j = 0 := by omega
    refine VX.catch hC (E := "java/lang/IllegalArgumentException") (name := "java/lang/IllegalArgumentException") _ htab [] ⟨0, 9, 12, 13⟩ [] rfl (fun z hz => absurd hz List.not_mem_nil) rfl (by decide) (hx_in hx9_13) (hSFt.ca _ (by decide)) (fun qx => ?_)
    show V G K 4 1 6 12 [some (.ref fs), some (.int x), some (.ref out), none] [.ref qx] (flt [[(out, .inl (gJ G, 1, .inr (.inl g)))], [(fs, .inr (12, [.ref h, .ref h2, .ref h3, .ref hh, .ref hr, .ref hg, .ref hq, .ref hl, .int iS, .int eA, .int fA]))], stW G h ah as_ rr ra (sHm s) (sNb s) (sNs s) (sLa s) (sLo s) (sNu s) (sTn s) (sSh s)])
    refine V.astore_n hC dL_birdsIn_12 [some (.ref fs), some (.int x), some (.ref out), some (.ref qx)] (Nat.le_of_ble_eq_true rfl) rfl ?_
    refine V.iconst hC 1 dL_birdsIn_13 rfl ?_
    exact hE 14 _ 1 g dL_birdsIn_14 rfl ⟨(congrArg (fun z : Nat × Int32 => nI z.1) hq_).symm, fun z => absurd z (by decide)⟩
  · refine V.reN (N := 3) [2, 0, 1] [[(out, .inl (gJ G, 1, .inr (.inl g)))], [(fs, .inr (12, [.ref h, .ref h2, .ref h3, .ref hh, .ref hr, .ref hg, .ref hq, .ref hl, .int iS, .int eA, .int fA]))], stW G h ah as_ rr ra (sHm s) (sNb s) (sNs s) (sLa s) (sLo s) (sNu s) (sTn s) (sSh s)] rfl (by decide) rfl ?_
    show V G K 4 1 6 7 [some (.ref fs), some (.int x), some (.ref out), none] [.int r_4, .int 0, .ref out] (flt [[(out, .inl (gJ G, 1, .inr (.inl g)))], [(fs, .inr (12, [.ref h, .ref h2, .ref h3, .ref hh, .ref hr, .ref hg, .ref hq, .ref hl, .int iS, .int eA, .int fA]))], stW G h ah as_ rr ra (sHm s) (sNb s) (sNs s) (sLa s) (sLo s) (sNu s) (sTn s) (sSh s)])
    refine V.i2l hC dL_birdsIn_7 ?_
    refine V.last hC dL_birdsIn_8 (0) rfl 0 rfl (by omega) (by decide) (flt [[(out, .inl (gJ G, 1, .inr (.inl (vp_updL g 0 ((r_4).toInt64)))))], [(fs, .inr (12, [.ref h, .ref h2, .ref h3, .ref hh, .ref hr, .ref hg, .ref hq, .ref hl, .int iS, .int eA, .int fA]))], stW G h ah as_ rr ra (sHm s) (sNb s) (sNs s) (sLa s) (sLo s) (sNu s) (sTn s) (sSh s)]) rfl ?_
    refine V.goto hC 15 dL_birdsIn_9 rfl ?_
    refine V.iconst hC 0 dL_birdsIn_15 rfl ?_
    exact hE 16 _ 0 (vp_updL g 0 ((r_4).toInt64)) dL_birdsIn_16 rfl ⟨(congrArg (fun z : Nat × Int32 => nI z.1) hp_4).symm, (fun _ => (show (vp_updL g 0 ((r_4).toInt64)) 0 = _ from upL0).trans (congrArg (fun z : Nat × Int32 => z.2.toInt64) hp_4).symm)⟩

set_option maxHeartbeats 4000000 in
set_option maxRecDepth 100000 in
theorem w_sharesOf (l : Launch) (G : Gx) (hst : l.stackTraces = false) (fs h h2 h3 hh hr hg hq hl : Nat) (iS eA fA : Int32) (ah as_ : Nat) (rr ra : Nat → Nat) (s : ASt) (B : Nat) (hI : InvA B s) (x : Int32) (out : Nat) (g : Nat → Int64) : CtX l G (SFt G) yL_sharesOf (wsL_sharesOf ++ hx9) ({ frames := 8, cells := 1, slots := 6, locals := 124 }) [.ref fs, .int x, .ref out] (flt [[(out, .inl (gJ G, 1, .inr (.inl g)))], [(fs, .inr (12, [.ref h, .ref h2, .ref h3, .ref hh, .ref hr, .ref hg, .ref hq, .ref hl, .int iS, .int eA, .int fA]))], stW G h ah as_ rr ra (sHm s) (sNb s) (sNs s) (sLa s) (sLo s) (sNu s) (sTn s) (sSh s)]) mkI (fun (k : Int32) (u : Nat → Int64) => k = nI (qSharesOf s x).1 ∧ (k = 0 → u 0 = (qSharesOf s x).2.toInt64)) (fun u : Nat → Int64 => flt [[(out, .inl (gJ G, 1, .inr (.inl u)))], [(fs, .inr (12, [.ref h, .ref h2, .ref h3, .ref hh, .ref hr, .ref hg, .ref hq, .ref hl, .int iS, .int eA, .int fA]))], stW G h ah as_ rr ra (sHm s) (sNb s) (sNs s) (sLa s) (sLo s) (sNu s) (sTn s) (sSh s)]) (fun (_ : String) (_ : Unit) => False) (fun _ : Unit => (flt [[(out, .inl (gJ G, 1, .inr (.inl g)))], [(fs, .inr (12, [.ref h, .ref h2, .ref h3, .ref hh, .ref hr, .ref hg, .ref hq, .ref hl, .int iS, .int eA, .int fA]))], stW G h ah as_ rr ra (sHm s) (sNb s) (sNs s) (sLa s) (sLo s) (sNu s) (sTn s) (sSh s)])) 1 6 := by
  refine CtX.ofIW (hh := [(0, 9, 12, 21)]) (cc := cL_sharesOf) (maxL := 4) (by decide) rfl ⟨by simp [Value.category], Nat.le_of_ble_eq_true rfl⟩ ?_
  intro K hl hC hSF hnm htab hE
  subst hl
  have hgot := SFgoS (SFt.k G) hSF
  have hgo := SFgo.x hgot
  have hSFt := hSF
  replace hSF := hSF.1
  show V G K 4 0 0 0 [some (.ref fs), some (.int x), some (.ref out), none] [] (flt [[(out, .inl (gJ G, 1, .inr (.inl g)))], [(fs, .inr (12, [.ref h, .ref h2, .ref h3, .ref hh, .ref hr, .ref hg, .ref hq, .ref hl, .int iS, .int eA, .int fA]))], stW G h ah as_ rr ra (sHm s) (sNb s) (sNs s) (sLa s) (sLo s) (sNu s) (sTn s) (sSh s)])
  refine V.aload_n hC (x := out) dL_sharesOf_0 rfl ?_
  refine V.iconst hC 0 dL_sharesOf_1 rfl ?_
  refine V.aload_n hC (x := fs) dL_sharesOf_2 rfl ?_
  refine V.iload_n hC (x := x) dL_sharesOf_3 rfl ?_
  refine V.callVBXN (n := 1) (As := [.int x]) (rest := [.int 0, .ref out]) hC (q_sharesOf (kl K) G hst fs h h2 h3 hh hr hg hq hl iS eA fA ah as_ rr ra s B hI x) (SFt.k G) hgot (gx1 gL_sharesOf_X12_sharesOf) rfl ⟨rfl, rfl⟩ (by decide +kernel) ⟨by decide, by decide, by decide, by decide⟩ (L := [[(out, .inl (gJ G, 1, .inr (.inl g)))], [(fs, .inr (12, [.ref h, .ref h2, .ref h3, .ref hh, .ref hr, .ref hg, .ref hq, .ref hl, .int iS, .int eA, .int fA]))], stW G h ah as_ rr ra (sHm s) (sNb s) (sNs s) (sLa s) (sLo s) (sNu s) (sTn s) (sSh s)]) (N := 3) rfl [1, 2] [0] (by decide) rfl (fun _ : Unit => [[(fs, .inr (12, [.ref h, .ref h2, .ref h3, .ref hh, .ref hr, .ref hg, .ref hq, .ref hl, .int iS, .int eA, .int fA]))], stW G h ah as_ rr ra (sHm s) (sNb s) (sNs s) (sLa s) (sLo s) (sNu s) (sTn s) (sSh s)]) (fun _ => rfl) (fun _ : Unit => [[(fs, .inr (12, [.ref h, .ref h2, .ref h3, .ref hh, .ref hr, .ref hg, .ref hq, .ref hl, .int iS, .int eA, .int fA]))], stW G h ah as_ rr ra (sHm s) (sNb s) (sNs s) (sLa s) (sLo s) (sNu s) (sTn s) (sSh s)]) (fun _ => rfl) rfl rfl rfl rfl (Nat.le_of_ble_eq_true rfl) dL_sharesOf_4 (fun E_ u_ hx_ => ?_) (fun r_4 u_4 hp_4 => ?_)
  · refine VX.reN (N := 3) [2, 0, 1] [[(out, .inl (gJ G, 1, .inr (.inl g)))], [(fs, .inr (12, [.ref h, .ref h2, .ref h3, .ref hh, .ref hr, .ref hg, .ref hq, .ref hl, .int iS, .int eA, .int fA]))], stW G h ah as_ rr ra (sHm s) (sNb s) (sNs s) (sLa s) (sLo s) (sNu s) (sTn s) (sSh s)] rfl (by decide) rfl ?_
    obtain ⟨j, hj, hq_, hE_⟩ := hx_
    have hj2 : j < 1 := hj
    subst hE_
    obtain rfl : j = 0 := by omega
    refine VX.catch hC (E := "java/lang/IndexOutOfBoundsException") (name := "java/lang/IndexOutOfBoundsException") _ htab [] ⟨0, 9, 12, 21⟩ [] rfl (fun z hz => absurd hz List.not_mem_nil) rfl (by decide) (hx_in hx9_21) (hSFt.ca _ (by decide)) (fun qx => ?_)
    show V G K 4 1 6 12 [some (.ref fs), some (.int x), some (.ref out), none] [.ref qx] (flt [[(out, .inl (gJ G, 1, .inr (.inl g)))], [(fs, .inr (12, [.ref h, .ref h2, .ref h3, .ref hh, .ref hr, .ref hg, .ref hq, .ref hl, .int iS, .int eA, .int fA]))], stW G h ah as_ rr ra (sHm s) (sNb s) (sNs s) (sLa s) (sLo s) (sNu s) (sTn s) (sSh s)])
    refine V.astore_n hC dL_sharesOf_12 [some (.ref fs), some (.int x), some (.ref out), some (.ref qx)] (Nat.le_of_ble_eq_true rfl) rfl ?_
    refine V.iconst hC 1 dL_sharesOf_13 rfl ?_
    exact hE 14 _ 1 g dL_sharesOf_14 rfl ⟨(congrArg (fun z : Nat × Int32 => nI z.1) hq_).symm, fun z => absurd z (by decide)⟩
  · refine V.reN (N := 3) [2, 0, 1] [[(out, .inl (gJ G, 1, .inr (.inl g)))], [(fs, .inr (12, [.ref h, .ref h2, .ref h3, .ref hh, .ref hr, .ref hg, .ref hq, .ref hl, .int iS, .int eA, .int fA]))], stW G h ah as_ rr ra (sHm s) (sNb s) (sNs s) (sLa s) (sLo s) (sNu s) (sTn s) (sSh s)] rfl (by decide) rfl ?_
    show V G K 4 1 6 7 [some (.ref fs), some (.int x), some (.ref out), none] [.int r_4, .int 0, .ref out] (flt [[(out, .inl (gJ G, 1, .inr (.inl g)))], [(fs, .inr (12, [.ref h, .ref h2, .ref h3, .ref hh, .ref hr, .ref hg, .ref hq, .ref hl, .int iS, .int eA, .int fA]))], stW G h ah as_ rr ra (sHm s) (sNb s) (sNs s) (sLa s) (sLo s) (sNu s) (sTn s) (sSh s)])
    refine V.i2l hC dL_sharesOf_7 ?_
    refine V.last hC dL_sharesOf_8 (0) rfl 0 rfl (by omega) (by decide) (flt [[(out, .inl (gJ G, 1, .inr (.inl (vp_updL g 0 ((r_4).toInt64)))))], [(fs, .inr (12, [.ref h, .ref h2, .ref h3, .ref hh, .ref hr, .ref hg, .ref hq, .ref hl, .int iS, .int eA, .int fA]))], stW G h ah as_ rr ra (sHm s) (sNb s) (sNs s) (sLa s) (sLo s) (sNu s) (sTn s) (sSh s)]) rfl ?_
    refine V.goto hC 15 dL_sharesOf_9 rfl ?_
    refine V.iconst hC 0 dL_sharesOf_15 rfl ?_
    exact hE 16 _ 0 (vp_updL g 0 ((r_4).toInt64)) dL_sharesOf_16 rfl ⟨(congrArg (fun z : Nat × Int32 => nI z.1) hp_4).symm, (fun _ => (show (vp_updL g 0 ((r_4).toInt64)) 0 = _ from upL0).trans (congrArg (fun z : Nat × Int32 => z.2.toInt64) hp_4).symm)⟩

set_option maxHeartbeats 4000000 in
set_option maxRecDepth 100000 in
theorem w_birdAtRank (l : Launch) (G : Gx) (hst : l.stackTraces = false) (fs h h2 h3 hh hr hg hq hl : Nat) (iS eA fA : Int32) (ah as_ : Nat) (rr ra : Nat → Nat) (s : ASt) (B : Nat) (hI : InvA B s) (x : Int32) (out : Nat) (g : Nat → Int64) : CtX l G (SFt G) yL_birdAtRank (wsL_birdAtRank ++ hx9) ({ frames := 7, cells := 1, slots := 6, locals := 135 }) [.ref fs, .int x, .ref out] (flt [[(out, .inl (gJ G, 1, .inr (.inl g)))], [(fs, .inr (12, [.ref h, .ref h2, .ref h3, .ref hh, .ref hr, .ref hg, .ref hq, .ref hl, .int iS, .int eA, .int fA]))], stW G h ah as_ rr ra (sHm s) (sNb s) (sNs s) (sLa s) (sLo s) (sNu s) (sTn s) (sSh s)]) mkI (fun (k : Int32) (u : Nat → Int64) => k = nI (qRank s x).1 ∧ (k = 0 → u 0 = (qRank s x).2.toInt64)) (fun u : Nat → Int64 => flt [[(out, .inl (gJ G, 1, .inr (.inl u)))], [(fs, .inr (12, [.ref h, .ref h2, .ref h3, .ref hh, .ref hr, .ref hg, .ref hq, .ref hl, .int iS, .int eA, .int fA]))], stW G h ah as_ rr ra (sHm s) (sNb s) (sNs s) (sLa s) (sLo s) (sNu s) (sTn s) (sSh s)]) (fun (_ : String) (_ : Unit) => False) (fun _ : Unit => (flt [[(out, .inl (gJ G, 1, .inr (.inl g)))], [(fs, .inr (12, [.ref h, .ref h2, .ref h3, .ref hh, .ref hr, .ref hg, .ref hq, .ref hl, .int iS, .int eA, .int fA]))], stW G h ah as_ rr ra (sHm s) (sNb s) (sNs s) (sLa s) (sLo s) (sNu s) (sTn s) (sSh s)])) 1 6 := by
  refine CtX.ofIW (hh := [(0, 9, 12, 30)]) (cc := cL_birdAtRank) (maxL := 4) (by decide) rfl ⟨by simp [Value.category], Nat.le_of_ble_eq_true rfl⟩ ?_
  intro K hl hC hSF hnm htab hE
  subst hl
  have hgot := SFgoS (SFt.k G) hSF
  have hgo := SFgo.x hgot
  have hSFt := hSF
  replace hSF := hSF.1
  show V G K 4 0 0 0 [some (.ref fs), some (.int x), some (.ref out), none] [] (flt [[(out, .inl (gJ G, 1, .inr (.inl g)))], [(fs, .inr (12, [.ref h, .ref h2, .ref h3, .ref hh, .ref hr, .ref hg, .ref hq, .ref hl, .int iS, .int eA, .int fA]))], stW G h ah as_ rr ra (sHm s) (sNb s) (sNs s) (sLa s) (sLo s) (sNu s) (sTn s) (sSh s)])
  refine V.aload_n hC (x := out) dL_birdAtRank_0 rfl ?_
  refine V.iconst hC 0 dL_birdAtRank_1 rfl ?_
  refine V.aload_n hC (x := fs) dL_birdAtRank_2 rfl ?_
  refine V.iload_n hC (x := x) dL_birdAtRank_3 rfl ?_
  refine V.callVBXN (n := 1) (As := [.int x]) (rest := [.int 0, .ref out]) hC (q_birdAtRank (kl K) G hst fs h h2 h3 hh hr hg hq hl iS eA fA ah as_ rr ra s B hI x) (SFt.k G) hgot (gx1 gL_birdAtRank_X12_birdAtRank) rfl ⟨rfl, rfl⟩ (by decide +kernel) ⟨by decide, by decide, by decide, by decide⟩ (L := [[(out, .inl (gJ G, 1, .inr (.inl g)))], [(fs, .inr (12, [.ref h, .ref h2, .ref h3, .ref hh, .ref hr, .ref hg, .ref hq, .ref hl, .int iS, .int eA, .int fA]))], stW G h ah as_ rr ra (sHm s) (sNb s) (sNs s) (sLa s) (sLo s) (sNu s) (sTn s) (sSh s)]) (N := 3) rfl [1, 2] [0] (by decide) rfl (fun _ : Unit => [[(fs, .inr (12, [.ref h, .ref h2, .ref h3, .ref hh, .ref hr, .ref hg, .ref hq, .ref hl, .int iS, .int eA, .int fA]))], stW G h ah as_ rr ra (sHm s) (sNb s) (sNs s) (sLa s) (sLo s) (sNu s) (sTn s) (sSh s)]) (fun _ => rfl) (fun _ : Unit => [[(fs, .inr (12, [.ref h, .ref h2, .ref h3, .ref hh, .ref hr, .ref hg, .ref hq, .ref hl, .int iS, .int eA, .int fA]))], stW G h ah as_ rr ra (sHm s) (sNb s) (sNs s) (sLa s) (sLo s) (sNu s) (sTn s) (sSh s)]) (fun _ => rfl) rfl rfl rfl rfl (Nat.le_of_ble_eq_true rfl) dL_birdAtRank_4 (fun E_ u_ hx_ => ?_) (fun r_4 u_4 hp_4 => ?_)
  · refine VX.reN (N := 3) [2, 0, 1] [[(out, .inl (gJ G, 1, .inr (.inl g)))], [(fs, .inr (12, [.ref h, .ref h2, .ref h3, .ref hh, .ref hr, .ref hg, .ref hq, .ref hl, .int iS, .int eA, .int fA]))], stW G h ah as_ rr ra (sHm s) (sNb s) (sNs s) (sLa s) (sLo s) (sNu s) (sTn s) (sSh s)] rfl (by decide) rfl ?_
    obtain ⟨j, hj, hq_, hE_⟩ := hx_
    have hj2 : j < 1 := hj
    subst hE_
    obtain rfl : j = 0 := by omega
    refine VX.catch hC (E := "java/util/NoSuchElementException") (name := "java/util/NoSuchElementException") _ htab [] ⟨0, 9, 12, 30⟩ [] rfl (fun z hz => absurd hz List.not_mem_nil) rfl (by decide) (hx_in hx9_30) (hSFt.ca _ (by decide)) (fun qx => ?_)
    show V G K 4 1 6 12 [some (.ref fs), some (.int x), some (.ref out), none] [.ref qx] (flt [[(out, .inl (gJ G, 1, .inr (.inl g)))], [(fs, .inr (12, [.ref h, .ref h2, .ref h3, .ref hh, .ref hr, .ref hg, .ref hq, .ref hl, .int iS, .int eA, .int fA]))], stW G h ah as_ rr ra (sHm s) (sNb s) (sNs s) (sLa s) (sLo s) (sNu s) (sTn s) (sSh s)])
    refine V.astore_n hC dL_birdAtRank_12 [some (.ref fs), some (.int x), some (.ref out), some (.ref qx)] (Nat.le_of_ble_eq_true rfl) rfl ?_
    refine V.iconst hC 1 dL_birdAtRank_13 rfl ?_
    exact hE 14 _ 1 g dL_birdAtRank_14 rfl ⟨(congrArg (fun z : Nat × Int32 => nI z.1) hq_).symm, fun z => absurd z (by decide)⟩
  · refine V.reN (N := 3) [2, 0, 1] [[(out, .inl (gJ G, 1, .inr (.inl g)))], [(fs, .inr (12, [.ref h, .ref h2, .ref h3, .ref hh, .ref hr, .ref hg, .ref hq, .ref hl, .int iS, .int eA, .int fA]))], stW G h ah as_ rr ra (sHm s) (sNb s) (sNs s) (sLa s) (sLo s) (sNu s) (sTn s) (sSh s)] rfl (by decide) rfl ?_
    show V G K 4 1 6 7 [some (.ref fs), some (.int x), some (.ref out), none] [.int r_4, .int 0, .ref out] (flt [[(out, .inl (gJ G, 1, .inr (.inl g)))], [(fs, .inr (12, [.ref h, .ref h2, .ref h3, .ref hh, .ref hr, .ref hg, .ref hq, .ref hl, .int iS, .int eA, .int fA]))], stW G h ah as_ rr ra (sHm s) (sNb s) (sNs s) (sLa s) (sLo s) (sNu s) (sTn s) (sSh s)])
    refine V.i2l hC dL_birdAtRank_7 ?_
    refine V.last hC dL_birdAtRank_8 (0) rfl 0 rfl (by omega) (by decide) (flt [[(out, .inl (gJ G, 1, .inr (.inl (vp_updL g 0 ((r_4).toInt64)))))], [(fs, .inr (12, [.ref h, .ref h2, .ref h3, .ref hh, .ref hr, .ref hg, .ref hq, .ref hl, .int iS, .int eA, .int fA]))], stW G h ah as_ rr ra (sHm s) (sNb s) (sNs s) (sLa s) (sLo s) (sNu s) (sTn s) (sSh s)]) rfl ?_
    refine V.goto hC 15 dL_birdAtRank_9 rfl ?_
    refine V.iconst hC 0 dL_birdAtRank_15 rfl ?_
    exact hE 16 _ 0 (vp_updL g 0 ((r_4).toInt64)) dL_birdAtRank_16 rfl ⟨(congrArg (fun z : Nat × Int32 => nI z.1) hp_4).symm, (fun _ => (show (vp_updL g 0 ((r_4).toInt64)) 0 = _ from upL0).trans (congrArg (fun z : Nat × Int32 => z.2.toInt64) hp_4).symm)⟩

set_option maxHeartbeats 4000000 in
set_option maxRecDepth 100000 in
theorem w_secretAt (l : Launch) (G : Gx) (hst : l.stackTraces = false) (fs h h2 h3 hh hr hg hq hl : Nat) (iS eA fA : Int32) (ah as_ : Nat) (rr ra : Nat → Nat) (s : ASt) (B : Nat) (hI : InvA B s) (x : Int32) (out : Nat) (g : Nat → Int64) : CtX l G (SFt G) yL_secretAt (wsL_secretAt ++ hx9) ({ frames := 7, cells := 1, slots := 6, locals := 104 }) [.ref fs, .int x, .ref out] (flt [[(out, .inl (gJ G, 1, .inr (.inl g)))], [(fs, .inr (12, [.ref h, .ref h2, .ref h3, .ref hh, .ref hr, .ref hg, .ref hq, .ref hl, .int iS, .int eA, .int fA]))], stW G h ah as_ rr ra (sHm s) (sNb s) (sNs s) (sLa s) (sLo s) (sNu s) (sTn s) (sSh s)]) mkI (fun (k : Int32) (u : Nat → Int64) => k = nI (qSecAt s x).1 ∧ (k = 0 → u 0 = (qSecAt s x).2.toInt64)) (fun u : Nat → Int64 => flt [[(out, .inl (gJ G, 1, .inr (.inl u)))], [(fs, .inr (12, [.ref h, .ref h2, .ref h3, .ref hh, .ref hr, .ref hg, .ref hq, .ref hl, .int iS, .int eA, .int fA]))], stW G h ah as_ rr ra (sHm s) (sNb s) (sNs s) (sLa s) (sLo s) (sNu s) (sTn s) (sSh s)]) (fun (_ : String) (_ : Unit) => False) (fun _ : Unit => (flt [[(out, .inl (gJ G, 1, .inr (.inl g)))], [(fs, .inr (12, [.ref h, .ref h2, .ref h3, .ref hh, .ref hr, .ref hg, .ref hq, .ref hl, .int iS, .int eA, .int fA]))], stW G h ah as_ rr ra (sHm s) (sNb s) (sNs s) (sLa s) (sLo s) (sNu s) (sTn s) (sSh s)])) 1 6 := by
  refine CtX.ofIW (hh := [(0, 9, 12, 21)]) (cc := cL_secretAt) (maxL := 4) (by decide) rfl ⟨by simp [Value.category], Nat.le_of_ble_eq_true rfl⟩ ?_
  intro K hl hC hSF hnm htab hE
  subst hl
  have hgot := SFgoS (SFt.k G) hSF
  have hgo := SFgo.x hgot
  have hSFt := hSF
  replace hSF := hSF.1
  show V G K 4 0 0 0 [some (.ref fs), some (.int x), some (.ref out), none] [] (flt [[(out, .inl (gJ G, 1, .inr (.inl g)))], [(fs, .inr (12, [.ref h, .ref h2, .ref h3, .ref hh, .ref hr, .ref hg, .ref hq, .ref hl, .int iS, .int eA, .int fA]))], stW G h ah as_ rr ra (sHm s) (sNb s) (sNs s) (sLa s) (sLo s) (sNu s) (sTn s) (sSh s)])
  refine V.aload_n hC (x := out) dL_secretAt_0 rfl ?_
  refine V.iconst hC 0 dL_secretAt_1 rfl ?_
  refine V.aload_n hC (x := fs) dL_secretAt_2 rfl ?_
  refine V.iload_n hC (x := x) dL_secretAt_3 rfl ?_
  refine V.callVBXN (n := 1) (As := [.int x]) (rest := [.int 0, .ref out]) hC (q_secretAt (kl K) G hst fs h h2 h3 hh hr hg hq hl iS eA fA ah as_ rr ra s B hI x) (SFt.k G) hgot (gx1 gL_secretAt_X12_secretAt) rfl ⟨rfl, rfl⟩ (by decide +kernel) ⟨by decide, by decide, by decide, by decide⟩ (L := [[(out, .inl (gJ G, 1, .inr (.inl g)))], [(fs, .inr (12, [.ref h, .ref h2, .ref h3, .ref hh, .ref hr, .ref hg, .ref hq, .ref hl, .int iS, .int eA, .int fA]))], stW G h ah as_ rr ra (sHm s) (sNb s) (sNs s) (sLa s) (sLo s) (sNu s) (sTn s) (sSh s)]) (N := 3) rfl [1, 2] [0] (by decide) rfl (fun _ : Unit => [[(fs, .inr (12, [.ref h, .ref h2, .ref h3, .ref hh, .ref hr, .ref hg, .ref hq, .ref hl, .int iS, .int eA, .int fA]))], stW G h ah as_ rr ra (sHm s) (sNb s) (sNs s) (sLa s) (sLo s) (sNu s) (sTn s) (sSh s)]) (fun _ => rfl) (fun _ : Unit => [[(fs, .inr (12, [.ref h, .ref h2, .ref h3, .ref hh, .ref hr, .ref hg, .ref hq, .ref hl, .int iS, .int eA, .int fA]))], stW G h ah as_ rr ra (sHm s) (sNb s) (sNs s) (sLa s) (sLo s) (sNu s) (sTn s) (sSh s)]) (fun _ => rfl) rfl rfl rfl rfl (Nat.le_of_ble_eq_true rfl) dL_secretAt_4 (fun E_ u_ hx_ => ?_) (fun r_4 u_4 hp_4 => ?_)
  · refine VX.reN (N := 3) [2, 0, 1] [[(out, .inl (gJ G, 1, .inr (.inl g)))], [(fs, .inr (12, [.ref h, .ref h2, .ref h3, .ref hh, .ref hr, .ref hg, .ref hq, .ref hl, .int iS, .int eA, .int fA]))], stW G h ah as_ rr ra (sHm s) (sNb s) (sNs s) (sLa s) (sLo s) (sNu s) (sTn s) (sSh s)] rfl (by decide) rfl ?_
    obtain ⟨j, hj, hq_, hE_⟩ := hx_
    have hj2 : j < 1 := hj
    subst hE_
    obtain rfl : j = 0 := by omega
    refine VX.catch hC (E := "java/lang/IndexOutOfBoundsException") (name := "java/lang/IndexOutOfBoundsException") _ htab [] ⟨0, 9, 12, 21⟩ [] rfl (fun z hz => absurd hz List.not_mem_nil) rfl (by decide) (hx_in hx9_21) (hSFt.ca _ (by decide)) (fun qx => ?_)
    show V G K 4 1 6 12 [some (.ref fs), some (.int x), some (.ref out), none] [.ref qx] (flt [[(out, .inl (gJ G, 1, .inr (.inl g)))], [(fs, .inr (12, [.ref h, .ref h2, .ref h3, .ref hh, .ref hr, .ref hg, .ref hq, .ref hl, .int iS, .int eA, .int fA]))], stW G h ah as_ rr ra (sHm s) (sNb s) (sNs s) (sLa s) (sLo s) (sNu s) (sTn s) (sSh s)])
    refine V.astore_n hC dL_secretAt_12 [some (.ref fs), some (.int x), some (.ref out), some (.ref qx)] (Nat.le_of_ble_eq_true rfl) rfl ?_
    refine V.iconst hC 1 dL_secretAt_13 rfl ?_
    exact hE 14 _ 1 g dL_secretAt_14 rfl ⟨(congrArg (fun z : Nat × Int32 => nI z.1) hq_).symm, fun z => absurd z (by decide)⟩
  · refine V.reN (N := 3) [2, 0, 1] [[(out, .inl (gJ G, 1, .inr (.inl g)))], [(fs, .inr (12, [.ref h, .ref h2, .ref h3, .ref hh, .ref hr, .ref hg, .ref hq, .ref hl, .int iS, .int eA, .int fA]))], stW G h ah as_ rr ra (sHm s) (sNb s) (sNs s) (sLa s) (sLo s) (sNu s) (sTn s) (sSh s)] rfl (by decide) rfl ?_
    show V G K 4 1 6 7 [some (.ref fs), some (.int x), some (.ref out), none] [.int r_4, .int 0, .ref out] (flt [[(out, .inl (gJ G, 1, .inr (.inl g)))], [(fs, .inr (12, [.ref h, .ref h2, .ref h3, .ref hh, .ref hr, .ref hg, .ref hq, .ref hl, .int iS, .int eA, .int fA]))], stW G h ah as_ rr ra (sHm s) (sNb s) (sNs s) (sLa s) (sLo s) (sNu s) (sTn s) (sSh s)])
    refine V.i2l hC dL_secretAt_7 ?_
    refine V.last hC dL_secretAt_8 (0) rfl 0 rfl (by omega) (by decide) (flt [[(out, .inl (gJ G, 1, .inr (.inl (vp_updL g 0 ((r_4).toInt64)))))], [(fs, .inr (12, [.ref h, .ref h2, .ref h3, .ref hh, .ref hr, .ref hg, .ref hq, .ref hl, .int iS, .int eA, .int fA]))], stW G h ah as_ rr ra (sHm s) (sNb s) (sNs s) (sLa s) (sLo s) (sNu s) (sTn s) (sSh s)]) rfl ?_
    refine V.goto hC 15 dL_secretAt_9 rfl ?_
    refine V.iconst hC 0 dL_secretAt_15 rfl ?_
    exact hE 16 _ 0 (vp_updL g 0 ((r_4).toInt64)) dL_secretAt_16 rfl ⟨(congrArg (fun z : Nat × Int32 => nI z.1) hp_4).symm, (fun _ => (show (vp_updL g 0 ((r_4).toInt64)) 0 = _ from upL0).trans (congrArg (fun z : Nat × Int32 => z.2.toInt64) hp_4).symm)⟩

set_option maxHeartbeats 4000000 in
set_option maxRecDepth 100000 in
theorem w_threshold (l : Launch) (G : Gx) (hst : l.stackTraces = false) (fs h h2 h3 hh hr hg hq hl : Nat) (iS eA fA : Int32) (ah as_ : Nat) (rr ra : Nat → Nat) (s : ASt) (B : Nat) (hI : InvA B s) (x : Int32) (out : Nat) (g : Nat → Int64) : CtX l G (SFt G) yL_threshold (wsL_threshold ++ hx9) ({ frames := 8, cells := 1, slots := 6, locals := 125 }) [.ref fs, .int x, .ref out] (flt [[(out, .inl (gJ G, 1, .inr (.inl g)))], [(fs, .inr (12, [.ref h, .ref h2, .ref h3, .ref hh, .ref hr, .ref hg, .ref hq, .ref hl, .int iS, .int eA, .int fA]))], stW G h ah as_ rr ra (sHm s) (sNb s) (sNs s) (sLa s) (sLo s) (sNu s) (sTn s) (sSh s)]) mkI (fun (k : Int32) (u : Nat → Int64) => k = nI (qThr s x).1 ∧ (k = 0 → u 0 = (qThr s x).2.toInt64)) (fun u : Nat → Int64 => flt [[(out, .inl (gJ G, 1, .inr (.inl u)))], [(fs, .inr (12, [.ref h, .ref h2, .ref h3, .ref hh, .ref hr, .ref hg, .ref hq, .ref hl, .int iS, .int eA, .int fA]))], stW G h ah as_ rr ra (sHm s) (sNb s) (sNs s) (sLa s) (sLo s) (sNu s) (sTn s) (sSh s)]) (fun (_ : String) (_ : Unit) => False) (fun _ : Unit => (flt [[(out, .inl (gJ G, 1, .inr (.inl g)))], [(fs, .inr (12, [.ref h, .ref h2, .ref h3, .ref hh, .ref hr, .ref hg, .ref hq, .ref hl, .int iS, .int eA, .int fA]))], stW G h ah as_ rr ra (sHm s) (sNb s) (sNs s) (sLa s) (sLo s) (sNu s) (sTn s) (sSh s)])) 1 6 := by
  refine CtX.ofIW (hh := [(0, 9, 12, 30)]) (cc := cL_threshold) (maxL := 4) (by decide) rfl ⟨by simp [Value.category], Nat.le_of_ble_eq_true rfl⟩ ?_
  intro K hl hC hSF hnm htab hE
  subst hl
  have hgot := SFgoS (SFt.k G) hSF
  have hgo := SFgo.x hgot
  have hSFt := hSF
  replace hSF := hSF.1
  show V G K 4 0 0 0 [some (.ref fs), some (.int x), some (.ref out), none] [] (flt [[(out, .inl (gJ G, 1, .inr (.inl g)))], [(fs, .inr (12, [.ref h, .ref h2, .ref h3, .ref hh, .ref hr, .ref hg, .ref hq, .ref hl, .int iS, .int eA, .int fA]))], stW G h ah as_ rr ra (sHm s) (sNb s) (sNs s) (sLa s) (sLo s) (sNu s) (sTn s) (sSh s)])
  refine V.aload_n hC (x := out) dL_threshold_0 rfl ?_
  refine V.iconst hC 0 dL_threshold_1 rfl ?_
  refine V.aload_n hC (x := fs) dL_threshold_2 rfl ?_
  refine V.iload_n hC (x := x) dL_threshold_3 rfl ?_
  refine V.callVBXN (n := 1) (As := [.int x]) (rest := [.int 0, .ref out]) hC (q_threshold (kl K) G hst fs h h2 h3 hh hr hg hq hl iS eA fA ah as_ rr ra s B hI x) (SFt.k G) hgot (gx1 gL_threshold_X12_threshold) rfl ⟨rfl, rfl⟩ (by decide +kernel) ⟨by decide, by decide, by decide, by decide⟩ (L := [[(out, .inl (gJ G, 1, .inr (.inl g)))], [(fs, .inr (12, [.ref h, .ref h2, .ref h3, .ref hh, .ref hr, .ref hg, .ref hq, .ref hl, .int iS, .int eA, .int fA]))], stW G h ah as_ rr ra (sHm s) (sNb s) (sNs s) (sLa s) (sLo s) (sNu s) (sTn s) (sSh s)]) (N := 3) rfl [1, 2] [0] (by decide) rfl (fun _ : Unit => [[(fs, .inr (12, [.ref h, .ref h2, .ref h3, .ref hh, .ref hr, .ref hg, .ref hq, .ref hl, .int iS, .int eA, .int fA]))], stW G h ah as_ rr ra (sHm s) (sNb s) (sNs s) (sLa s) (sLo s) (sNu s) (sTn s) (sSh s)]) (fun _ => rfl) (fun _ : Unit => [[(fs, .inr (12, [.ref h, .ref h2, .ref h3, .ref hh, .ref hr, .ref hg, .ref hq, .ref hl, .int iS, .int eA, .int fA]))], stW G h ah as_ rr ra (sHm s) (sNb s) (sNs s) (sLa s) (sLo s) (sNu s) (sTn s) (sSh s)]) (fun _ => rfl) rfl rfl rfl rfl (Nat.le_of_ble_eq_true rfl) dL_threshold_4 (fun E_ u_ hx_ => ?_) (fun r_4 u_4 hp_4 => ?_)
  · refine VX.reN (N := 3) [2, 0, 1] [[(out, .inl (gJ G, 1, .inr (.inl g)))], [(fs, .inr (12, [.ref h, .ref h2, .ref h3, .ref hh, .ref hr, .ref hg, .ref hq, .ref hl, .int iS, .int eA, .int fA]))], stW G h ah as_ rr ra (sHm s) (sNb s) (sNs s) (sLa s) (sLo s) (sNu s) (sTn s) (sSh s)] rfl (by decide) rfl ?_
    obtain ⟨j, hj, hq_, hE_⟩ := hx_
    have hj2 : j < 1 := hj
    subst hE_
    obtain rfl : j = 0 := by omega
    refine VX.catch hC (E := "java/util/NoSuchElementException") (name := "java/util/NoSuchElementException") _ htab [] ⟨0, 9, 12, 30⟩ [] rfl (fun z hz => absurd hz List.not_mem_nil) rfl (by decide) (hx_in hx9_30) (hSFt.ca _ (by decide)) (fun qx => ?_)
    show V G K 4 1 6 12 [some (.ref fs), some (.int x), some (.ref out), none] [.ref qx] (flt [[(out, .inl (gJ G, 1, .inr (.inl g)))], [(fs, .inr (12, [.ref h, .ref h2, .ref h3, .ref hh, .ref hr, .ref hg, .ref hq, .ref hl, .int iS, .int eA, .int fA]))], stW G h ah as_ rr ra (sHm s) (sNb s) (sNs s) (sLa s) (sLo s) (sNu s) (sTn s) (sSh s)])
    refine V.astore_n hC dL_threshold_12 [some (.ref fs), some (.int x), some (.ref out), some (.ref qx)] (Nat.le_of_ble_eq_true rfl) rfl ?_
    refine V.iconst hC 1 dL_threshold_13 rfl ?_
    exact hE 14 _ 1 g dL_threshold_14 rfl ⟨(congrArg (fun z : Nat × Int32 => nI z.1) hq_).symm, fun z => absurd z (by decide)⟩
  · refine V.reN (N := 3) [2, 0, 1] [[(out, .inl (gJ G, 1, .inr (.inl g)))], [(fs, .inr (12, [.ref h, .ref h2, .ref h3, .ref hh, .ref hr, .ref hg, .ref hq, .ref hl, .int iS, .int eA, .int fA]))], stW G h ah as_ rr ra (sHm s) (sNb s) (sNs s) (sLa s) (sLo s) (sNu s) (sTn s) (sSh s)] rfl (by decide) rfl ?_
    show V G K 4 1 6 7 [some (.ref fs), some (.int x), some (.ref out), none] [.int r_4, .int 0, .ref out] (flt [[(out, .inl (gJ G, 1, .inr (.inl g)))], [(fs, .inr (12, [.ref h, .ref h2, .ref h3, .ref hh, .ref hr, .ref hg, .ref hq, .ref hl, .int iS, .int eA, .int fA]))], stW G h ah as_ rr ra (sHm s) (sNb s) (sNs s) (sLa s) (sLo s) (sNu s) (sTn s) (sSh s)])
    refine V.i2l hC dL_threshold_7 ?_
    refine V.last hC dL_threshold_8 (0) rfl 0 rfl (by omega) (by decide) (flt [[(out, .inl (gJ G, 1, .inr (.inl (vp_updL g 0 ((r_4).toInt64)))))], [(fs, .inr (12, [.ref h, .ref h2, .ref h3, .ref hh, .ref hr, .ref hg, .ref hq, .ref hl, .int iS, .int eA, .int fA]))], stW G h ah as_ rr ra (sHm s) (sNb s) (sNs s) (sLa s) (sLo s) (sNu s) (sTn s) (sSh s)]) rfl ?_
    refine V.goto hC 15 dL_threshold_9 rfl ?_
    refine V.iconst hC 0 dL_threshold_15 rfl ?_
    exact hE 16 _ 0 (vp_updL g 0 ((r_4).toInt64)) dL_threshold_16 rfl ⟨(congrArg (fun z : Nat × Int32 => nI z.1) hp_4).symm, (fun _ => (show (vp_updL g 0 ((r_4).toInt64)) 0 = _ from upL0).trans (congrArg (fun z : Nat × Int32 => z.2.toInt64) hp_4).symm)⟩

set_option maxHeartbeats 4000000 in
set_option maxRecDepth 100000 in
theorem w_holds (l : Launch) (G : Gx) (hst : l.stackTraces = false) (fs h h2 h3 hh hr hg hq hl : Nat) (iS eA fA : Int32) (ah as_ : Nat) (rr ra : Nat → Nat) (s : ASt) (B : Nat) (hI : InvA B s) (x y : Int32) (out : Nat) (g : Nat → Int64) : CtX l G (SFt G) yL_holds (wsL_holds ++ hx9) ({ frames := 8, cells := 2, slots := 12, locals := 126 }) [.ref fs, .int x, .int y, .ref out] (flt [[(out, .inl (gJ G, 1, .inr (.inl g)))], [(fs, .inr (12, [.ref h, .ref h2, .ref h3, .ref hh, .ref hr, .ref hg, .ref hq, .ref hl, .int iS, .int eA, .int fA]))], stW G h ah as_ rr ra (sHm s) (sNb s) (sNs s) (sLa s) (sLo s) (sNu s) (sTn s) (sSh s)]) mkI (fun (k : Int32) (u : Nat → Int64) => k = nI (qHolds s x y).1 ∧ (k = 0 → u 0 = (if (qHolds s x y).2 = 0 then 0 else 1))) (fun u : Nat → Int64 => flt [[(out, .inl (gJ G, 1, .inr (.inl u)))], [(fs, .inr (12, [.ref h, .ref h2, .ref h3, .ref hh, .ref hr, .ref hg, .ref hq, .ref hl, .int iS, .int eA, .int fA]))], stW G h ah as_ rr ra (sHm s) (sNb s) (sNs s) (sLa s) (sLo s) (sNu s) (sTn s) (sSh s)]) (fun (_ : String) (_ : Unit) => False) (fun _ : Unit => (flt [[(out, .inl (gJ G, 1, .inr (.inl g)))], [(fs, .inr (12, [.ref h, .ref h2, .ref h3, .ref hh, .ref hr, .ref hg, .ref hq, .ref hl, .int iS, .int eA, .int fA]))], stW G h ah as_ rr ra (sHm s) (sNb s) (sNs s) (sLa s) (sLo s) (sNu s) (sTn s) (sSh s)])) 2 12 := by
  refine CtX.ofIW (hh := [(0, 17, 20, 21), (0, 17, 24, 30)]) (cc := cL_holds) (maxL := 5) (by decide) rfl ⟨by simp [Value.category], Nat.le_of_ble_eq_true rfl⟩ ?_
  intro K hl hC hSF hnm htab hE
  subst hl
  have hgot := SFgoS (SFt.k G) hSF
  have hgo := SFgo.x hgot
  have hSFt := hSF
  replace hSF := hSF.1
  show V G K 5 0 0 0 [some (.ref fs), some (.int x), some (.int y), some (.ref out), none] [] (flt [[(out, .inl (gJ G, 1, .inr (.inl g)))], [(fs, .inr (12, [.ref h, .ref h2, .ref h3, .ref hh, .ref hr, .ref hg, .ref hq, .ref hl, .int iS, .int eA, .int fA]))], stW G h ah as_ rr ra (sHm s) (sNb s) (sNs s) (sLa s) (sLo s) (sNu s) (sTn s) (sSh s)])
  refine V.aload_n hC (x := out) dL_holds_0 rfl ?_
  refine V.iconst hC 0 dL_holds_1 rfl ?_
  refine V.aload_n hC (x := fs) dL_holds_2 rfl ?_
  refine V.iload_n hC (x := x) dL_holds_3 rfl ?_
  refine V.iload_n hC (x := y) dL_holds_4 rfl ?_
  refine V.callVBXN (n := 2) (As := [.int x, .int y]) (rest := [.int 0, .ref out]) hC (q_holds (kl K) G hst fs h h2 h3 hh hr hg hq hl iS eA fA ah as_ rr ra s B hI x y) (SFt.k G) hgot (gx1 gL_holds_X12_holds) rfl ⟨rfl, rfl⟩ (by decide +kernel) ⟨by decide, by decide, by decide, by decide⟩ (L := [[(out, .inl (gJ G, 1, .inr (.inl g)))], [(fs, .inr (12, [.ref h, .ref h2, .ref h3, .ref hh, .ref hr, .ref hg, .ref hq, .ref hl, .int iS, .int eA, .int fA]))], stW G h ah as_ rr ra (sHm s) (sNb s) (sNs s) (sLa s) (sLo s) (sNu s) (sTn s) (sSh s)]) (N := 3) rfl [1, 2] [0] (by decide) rfl (fun _ : Unit => [[(fs, .inr (12, [.ref h, .ref h2, .ref h3, .ref hh, .ref hr, .ref hg, .ref hq, .ref hl, .int iS, .int eA, .int fA]))], stW G h ah as_ rr ra (sHm s) (sNb s) (sNs s) (sLa s) (sLo s) (sNu s) (sTn s) (sSh s)]) (fun _ => rfl) (fun _ : Unit => [[(fs, .inr (12, [.ref h, .ref h2, .ref h3, .ref hh, .ref hr, .ref hg, .ref hq, .ref hl, .int iS, .int eA, .int fA]))], stW G h ah as_ rr ra (sHm s) (sNb s) (sNs s) (sLa s) (sLo s) (sNu s) (sTn s) (sSh s)]) (fun _ => rfl) rfl rfl rfl rfl (Nat.le_of_ble_eq_true rfl) dL_holds_5 (fun E_ u_ hx_ => ?_) (fun r_5 u_5 hp_5 => ?_)
  · refine VX.reN (N := 3) [2, 0, 1] [[(out, .inl (gJ G, 1, .inr (.inl g)))], [(fs, .inr (12, [.ref h, .ref h2, .ref h3, .ref hh, .ref hr, .ref hg, .ref hq, .ref hl, .int iS, .int eA, .int fA]))], stW G h ah as_ rr ra (sHm s) (sNb s) (sNs s) (sLa s) (sLo s) (sNu s) (sTn s) (sSh s)] rfl (by decide) rfl ?_
    obtain ⟨j, hj, hq_, hE_⟩ := hx_
    have hj2 : j < 2 := hj
    subst hE_
    obtain rfl | rfl : j = 0 ∨ j = 1 := by omega
    · refine VX.catch hC (E := "java/lang/IndexOutOfBoundsException") (name := "java/lang/IndexOutOfBoundsException") _ htab [] ⟨0, 17, 20, 21⟩ [⟨0, 17, 24, 30⟩] rfl (fun z hz => absurd hz List.not_mem_nil) rfl (by decide) (hx_in hx9_21) (hSFt.ca _ (by decide)) (fun qx => ?_)
      show V G K 5 2 12 20 [some (.ref fs), some (.int x), some (.int y), some (.ref out), none] [.ref qx] (flt [[(out, .inl (gJ G, 1, .inr (.inl g)))], [(fs, .inr (12, [.ref h, .ref h2, .ref h3, .ref hh, .ref hr, .ref hg, .ref hq, .ref hl, .int iS, .int eA, .int fA]))], stW G h ah as_ rr ra (sHm s) (sNb s) (sNs s) (sLa s) (sLo s) (sNu s) (sTn s) (sSh s)])
      refine V.astore hC dL_holds_20 [some (.ref fs), some (.int x), some (.int y), some (.ref out), some (.ref qx)] (Nat.le_of_ble_eq_true rfl) rfl ?_
      refine V.iconst hC 1 dL_holds_22 rfl ?_
      exact hE 23 _ 1 g dL_holds_23 rfl ⟨(congrArg (fun z : Nat × Int32 => nI z.1) hq_).symm, fun z => absurd z (by decide)⟩
    · refine VX.catch hC (E := "java/util/NoSuchElementException") (name := "java/util/NoSuchElementException") _ htab [⟨0, 17, 20, 21⟩] ⟨0, 17, 24, 30⟩ [] rfl (List.forall_mem_cons.mpr ⟨Or.inr ⟨by decide, _, (hx_in hx9_21), hSFt.nc _ _ (by decide) (by decide) (by decide)⟩, (fun z hz => absurd hz List.not_mem_nil)⟩) rfl (by decide) (hx_in hx9_30) (hSFt.ca _ (by decide)) (fun qx => ?_)
      show V G K 5 2 12 24 [some (.ref fs), some (.int x), some (.int y), some (.ref out), none] [.ref qx] (flt [[(out, .inl (gJ G, 1, .inr (.inl g)))], [(fs, .inr (12, [.ref h, .ref h2, .ref h3, .ref hh, .ref hr, .ref hg, .ref hq, .ref hl, .int iS, .int eA, .int fA]))], stW G h ah as_ rr ra (sHm s) (sNb s) (sNs s) (sLa s) (sLo s) (sNu s) (sTn s) (sSh s)])
      refine V.astore hC dL_holds_24 [some (.ref fs), some (.int x), some (.int y), some (.ref out), some (.ref qx)] (Nat.le_of_ble_eq_true rfl) rfl ?_
      refine V.iconst hC 2 dL_holds_26 rfl ?_
      exact hE 27 _ 2 g dL_holds_27 rfl ⟨(congrArg (fun z : Nat × Int32 => nI z.1) hq_).symm, fun z => absurd z (by decide)⟩
  · refine V.reN (N := 3) [2, 0, 1] [[(out, .inl (gJ G, 1, .inr (.inl g)))], [(fs, .inr (12, [.ref h, .ref h2, .ref h3, .ref hh, .ref hr, .ref hg, .ref hq, .ref hl, .int iS, .int eA, .int fA]))], stW G h ah as_ rr ra (sHm s) (sNb s) (sNs s) (sLa s) (sLo s) (sNu s) (sTn s) (sSh s)] rfl (by decide) rfl ?_
    show V G K 5 2 12 8 [some (.ref fs), some (.int x), some (.int y), some (.ref out), none] [.int r_5, .int 0, .ref out] (flt [[(out, .inl (gJ G, 1, .inr (.inl g)))], [(fs, .inr (12, [.ref h, .ref h2, .ref h3, .ref hh, .ref hr, .ref hg, .ref hq, .ref hl, .int iS, .int eA, .int fA]))], stW G h ah as_ rr ra (sHm s) (sNb s) (sNs s) (sLa s) (sLo s) (sNu s) (sTn s) (sSh s)])
    refine V.if_eq hC 15 dL_holds_8 rfl (fun c_8 => ?_) (fun c_8 => ?_)
    · refine V.lconst hC 0 dL_holds_15 rfl ?_
      refine V.last hC dL_holds_16 (0) rfl 0 rfl (by omega) (by decide) (flt [[(out, .inl (gJ G, 1, .inr (.inl (vp_updL g 0 0))))], [(fs, .inr (12, [.ref h, .ref h2, .ref h3, .ref hh, .ref hr, .ref hg, .ref hq, .ref hl, .int iS, .int eA, .int fA]))], stW G h ah as_ rr ra (sHm s) (sNb s) (sNs s) (sLa s) (sLo s) (sNu s) (sTn s) (sSh s)]) rfl ?_
      refine V.goto hC 28 dL_holds_17 rfl ?_
      refine V.iconst hC 0 dL_holds_28 rfl ?_
      exact hE 29 _ 0 (vp_updL g 0 0) dL_holds_29 rfl ⟨(congrArg (fun z : Nat × Int32 => nI z.1) hp_5).symm, (fun _ => (show (vp_updL g 0 0) 0 = _ from upL0).trans ((if_pos c_8).symm.trans (congrArg (fun z : Nat × Int32 => (if z.2 = 0 then (0 : Int64) else 1)) hp_5).symm))⟩
    · refine V.lconst hC 1 dL_holds_11 rfl ?_
      refine V.goto hC 16 dL_holds_12 rfl ?_
      refine V.last hC dL_holds_16 (0) rfl 0 rfl (by omega) (by decide) (flt [[(out, .inl (gJ G, 1, .inr (.inl (vp_updL g 0 1))))], [(fs, .inr (12, [.ref h, .ref h2, .ref h3, .ref hh, .ref hr, .ref hg, .ref hq, .ref hl, .int iS, .int eA, .int fA]))], stW G h ah as_ rr ra (sHm s) (sNb s) (sNs s) (sLa s) (sLo s) (sNu s) (sTn s) (sSh s)]) rfl ?_
      refine V.goto hC 28 dL_holds_17 rfl ?_
      refine V.iconst hC 0 dL_holds_28 rfl ?_
      exact hE 29 _ 0 (vp_updL g 0 1) dL_holds_29 rfl ⟨(congrArg (fun z : Nat × Int32 => nI z.1) hp_5).symm, (fun _ => (show (vp_updL g 0 1) 0 = _ from upL0).trans ((if_neg c_8).symm.trans (congrArg (fun z : Nat × Int32 => (if z.2 = 0 then (0 : Int64) else 1)) hp_5).symm))⟩

set_option maxHeartbeats 4000000 in
set_option maxRecDepth 100000 in
theorem w_share (l : Launch) (G : Gx) (hst : l.stackTraces = false) (fs h h2 h3 hh hr hg hq hl : Nat) (iS eA fA : Int32) (ah as_ : Nat) (rr ra : Nat → Nat) (s : ASt) (B : Nat) (hI : InvA B s) (x y : Int32) (out : Nat) (g : Nat → Int64) : CtX l G (SFt G) yL_share (wsL_share ++ hx9) ({ frames := 8, cells := 3, slots := 18, locals := 127 }) [.ref fs, .int x, .int y, .ref out] (flt [[(out, .inl (gJ G, 1, .inr (.inl g)))], [(fs, .inr (12, [.ref h, .ref h2, .ref h3, .ref hh, .ref hr, .ref hg, .ref hq, .ref hl, .int iS, .int eA, .int fA]))], stW G h ah as_ rr ra (sHm s) (sNb s) (sNs s) (sLa s) (sLo s) (sNu s) (sTn s) (sSh s)]) mkI (fun (k : Int32) (u : Nat → Int64) => k = nI (qShare s x y).1 ∧ (k = 0 → u 0 = (qShare s x y).2.toInt64)) (fun u : Nat → Int64 => flt [[(out, .inl (gJ G, 1, .inr (.inl u)))], [(fs, .inr (12, [.ref h, .ref h2, .ref h3, .ref hh, .ref hr, .ref hg, .ref hq, .ref hl, .int iS, .int eA, .int fA]))], stW G h ah as_ rr ra (sHm s) (sNb s) (sNs s) (sLa s) (sLo s) (sNu s) (sTn s) (sSh s)]) (fun (_ : String) (_ : Unit) => False) (fun _ : Unit => (flt [[(out, .inl (gJ G, 1, .inr (.inl g)))], [(fs, .inr (12, [.ref h, .ref h2, .ref h3, .ref hh, .ref hr, .ref hg, .ref hq, .ref hl, .int iS, .int eA, .int fA]))], stW G h ah as_ rr ra (sHm s) (sNb s) (sNs s) (sLa s) (sLo s) (sNu s) (sTn s) (sSh s)])) 3 18 := by
  refine CtX.ofIW (hh := [(0, 10, 13, 21), (0, 10, 17, 30), (0, 10, 21, 15)]) (cc := cL_share) (maxL := 5) (by decide) rfl ⟨by simp [Value.category], Nat.le_of_ble_eq_true rfl⟩ ?_
  intro K hl hC hSF hnm htab hE
  subst hl
  have hgot := SFgoS (SFt.k G) hSF
  have hgo := SFgo.x hgot
  have hSFt := hSF
  replace hSF := hSF.1
  show V G K 5 0 0 0 [some (.ref fs), some (.int x), some (.int y), some (.ref out), none] [] (flt [[(out, .inl (gJ G, 1, .inr (.inl g)))], [(fs, .inr (12, [.ref h, .ref h2, .ref h3, .ref hh, .ref hr, .ref hg, .ref hq, .ref hl, .int iS, .int eA, .int fA]))], stW G h ah as_ rr ra (sHm s) (sNb s) (sNs s) (sLa s) (sLo s) (sNu s) (sTn s) (sSh s)])
  refine V.aload_n hC (x := out) dL_share_0 rfl ?_
  refine V.iconst hC 0 dL_share_1 rfl ?_
  refine V.aload_n hC (x := fs) dL_share_2 rfl ?_
  refine V.iload_n hC (x := x) dL_share_3 rfl ?_
  refine V.iload_n hC (x := y) dL_share_4 rfl ?_
  refine V.callVBXN (n := 2) (As := [.int x, .int y]) (rest := [.int 0, .ref out]) hC (q_share (kl K) G hst fs h h2 h3 hh hr hg hq hl iS eA fA ah as_ rr ra s B hI x y) (SFt.k G) hgot (gx1 gL_share_X12_share) rfl ⟨rfl, rfl⟩ (by decide +kernel) ⟨by decide, by decide, by decide, by decide⟩ (L := [[(out, .inl (gJ G, 1, .inr (.inl g)))], [(fs, .inr (12, [.ref h, .ref h2, .ref h3, .ref hh, .ref hr, .ref hg, .ref hq, .ref hl, .int iS, .int eA, .int fA]))], stW G h ah as_ rr ra (sHm s) (sNb s) (sNs s) (sLa s) (sLo s) (sNu s) (sTn s) (sSh s)]) (N := 3) rfl [1, 2] [0] (by decide) rfl (fun _ : Unit => [[(fs, .inr (12, [.ref h, .ref h2, .ref h3, .ref hh, .ref hr, .ref hg, .ref hq, .ref hl, .int iS, .int eA, .int fA]))], stW G h ah as_ rr ra (sHm s) (sNb s) (sNs s) (sLa s) (sLo s) (sNu s) (sTn s) (sSh s)]) (fun _ => rfl) (fun _ : Unit => [[(fs, .inr (12, [.ref h, .ref h2, .ref h3, .ref hh, .ref hr, .ref hg, .ref hq, .ref hl, .int iS, .int eA, .int fA]))], stW G h ah as_ rr ra (sHm s) (sNb s) (sNs s) (sLa s) (sLo s) (sNu s) (sTn s) (sSh s)]) (fun _ => rfl) rfl rfl rfl rfl (Nat.le_of_ble_eq_true rfl) dL_share_5 (fun E_ u_ hx_ => ?_) (fun r_5 u_5 hp_5 => ?_)
  · refine VX.reN (N := 3) [2, 0, 1] [[(out, .inl (gJ G, 1, .inr (.inl g)))], [(fs, .inr (12, [.ref h, .ref h2, .ref h3, .ref hh, .ref hr, .ref hg, .ref hq, .ref hl, .int iS, .int eA, .int fA]))], stW G h ah as_ rr ra (sHm s) (sNb s) (sNs s) (sLa s) (sLo s) (sNu s) (sTn s) (sSh s)] rfl (by decide) rfl ?_
    obtain ⟨j, hj, hq_, hE_⟩ := hx_
    have hj2 : j < 3 := hj
    subst hE_
    obtain rfl | rfl | rfl : j = 0 ∨ j = 1 ∨ j = 2 := by omega
    · refine VX.catch hC (E := "java/lang/IndexOutOfBoundsException") (name := "java/lang/IndexOutOfBoundsException") _ htab [] ⟨0, 10, 13, 21⟩ [⟨0, 10, 17, 30⟩, ⟨0, 10, 21, 15⟩] rfl (fun z hz => absurd hz List.not_mem_nil) rfl (by decide) (hx_in hx9_21) (hSFt.ca _ (by decide)) (fun qx => ?_)
      show V G K 5 3 18 13 [some (.ref fs), some (.int x), some (.int y), some (.ref out), none] [.ref qx] (flt [[(out, .inl (gJ G, 1, .inr (.inl g)))], [(fs, .inr (12, [.ref h, .ref h2, .ref h3, .ref hh, .ref hr, .ref hg, .ref hq, .ref hl, .int iS, .int eA, .int fA]))], stW G h ah as_ rr ra (sHm s) (sNb s) (sNs s) (sLa s) (sLo s) (sNu s) (sTn s) (sSh s)])
      refine V.astore hC dL_share_13 [some (.ref fs), some (.int x), some (.int y), some (.ref out), some (.ref qx)] (Nat.le_of_ble_eq_true rfl) rfl ?_
      refine V.iconst hC 1 dL_share_15 rfl ?_
      exact hE 16 _ 1 g dL_share_16 rfl ⟨(congrArg (fun z : Nat × Int32 => nI z.1) hq_).symm, fun z => absurd z (by decide)⟩
    · refine VX.catch hC (E := "java/util/NoSuchElementException") (name := "java/util/NoSuchElementException") _ htab [⟨0, 10, 13, 21⟩] ⟨0, 10, 17, 30⟩ [⟨0, 10, 21, 15⟩] rfl (List.forall_mem_cons.mpr ⟨Or.inr ⟨by decide, _, (hx_in hx9_21), hSFt.nc _ _ (by decide) (by decide) (by decide)⟩, (fun z hz => absurd hz List.not_mem_nil)⟩) rfl (by decide) (hx_in hx9_30) (hSFt.ca _ (by decide)) (fun qx => ?_)
      show V G K 5 3 18 17 [some (.ref fs), some (.int x), some (.int y), some (.ref out), none] [.ref qx] (flt [[(out, .inl (gJ G, 1, .inr (.inl g)))], [(fs, .inr (12, [.ref h, .ref h2, .ref h3, .ref hh, .ref hr, .ref hg, .ref hq, .ref hl, .int iS, .int eA, .int fA]))], stW G h ah as_ rr ra (sHm s) (sNb s) (sNs s) (sLa s) (sLo s) (sNu s) (sTn s) (sSh s)])
      refine V.astore hC dL_share_17 [some (.ref fs), some (.int x), some (.int y), some (.ref out), some (.ref qx)] (Nat.le_of_ble_eq_true rfl) rfl ?_
      refine V.iconst hC 2 dL_share_19 rfl ?_
      exact hE 20 _ 2 g dL_share_20 rfl ⟨(congrArg (fun z : Nat × Int32 => nI z.1) hq_).symm, fun z => absurd z (by decide)⟩
    · refine VX.catch hC (E := "java/lang/IllegalStateException") (name := "java/lang/IllegalStateException") _ htab [⟨0, 10, 13, 21⟩, ⟨0, 10, 17, 30⟩] ⟨0, 10, 21, 15⟩ [] rfl (List.forall_mem_cons.mpr ⟨Or.inr ⟨by decide, _, (hx_in hx9_21), hSFt.nc _ _ (by decide) (by decide) (by decide)⟩, (List.forall_mem_cons.mpr ⟨Or.inr ⟨by decide, _, (hx_in hx9_30), hSFt.nc _ _ (by decide) (by decide) (by decide)⟩, (fun z hz => absurd hz List.not_mem_nil)⟩)⟩) rfl (by decide) (hx_in hx9_15) (hSFt.ca _ (by decide)) (fun qx => ?_)
      show V G K 5 3 18 21 [some (.ref fs), some (.int x), some (.int y), some (.ref out), none] [.ref qx] (flt [[(out, .inl (gJ G, 1, .inr (.inl g)))], [(fs, .inr (12, [.ref h, .ref h2, .ref h3, .ref hh, .ref hr, .ref hg, .ref hq, .ref hl, .int iS, .int eA, .int fA]))], stW G h ah as_ rr ra (sHm s) (sNb s) (sNs s) (sLa s) (sLo s) (sNu s) (sTn s) (sSh s)])
      refine V.astore hC dL_share_21 [some (.ref fs), some (.int x), some (.int y), some (.ref out), some (.ref qx)] (Nat.le_of_ble_eq_true rfl) rfl ?_
      refine V.iconst hC 3 dL_share_23 rfl ?_
      exact hE 24 _ 3 g dL_share_24 rfl ⟨(congrArg (fun z : Nat × Int32 => nI z.1) hq_).symm, fun z => absurd z (by decide)⟩
  · refine V.reN (N := 3) [2, 0, 1] [[(out, .inl (gJ G, 1, .inr (.inl g)))], [(fs, .inr (12, [.ref h, .ref h2, .ref h3, .ref hh, .ref hr, .ref hg, .ref hq, .ref hl, .int iS, .int eA, .int fA]))], stW G h ah as_ rr ra (sHm s) (sNb s) (sNs s) (sLa s) (sLo s) (sNu s) (sTn s) (sSh s)] rfl (by decide) rfl ?_
    show V G K 5 3 18 8 [some (.ref fs), some (.int x), some (.int y), some (.ref out), none] [.int r_5, .int 0, .ref out] (flt [[(out, .inl (gJ G, 1, .inr (.inl g)))], [(fs, .inr (12, [.ref h, .ref h2, .ref h3, .ref hh, .ref hr, .ref hg, .ref hq, .ref hl, .int iS, .int eA, .int fA]))], stW G h ah as_ rr ra (sHm s) (sNb s) (sNs s) (sLa s) (sLo s) (sNu s) (sTn s) (sSh s)])
    refine V.i2l hC dL_share_8 ?_
    refine V.last hC dL_share_9 (0) rfl 0 rfl (by omega) (by decide) (flt [[(out, .inl (gJ G, 1, .inr (.inl (vp_updL g 0 ((r_5).toInt64)))))], [(fs, .inr (12, [.ref h, .ref h2, .ref h3, .ref hh, .ref hr, .ref hg, .ref hq, .ref hl, .int iS, .int eA, .int fA]))], stW G h ah as_ rr ra (sHm s) (sNb s) (sNs s) (sLa s) (sLo s) (sNu s) (sTn s) (sSh s)]) rfl ?_
    refine V.goto hC 25 dL_share_10 rfl ?_
    refine V.iconst hC 0 dL_share_25 rfl ?_
    exact hE 26 _ 0 (vp_updL g 0 ((r_5).toInt64)) dL_share_26 rfl ⟨(congrArg (fun z : Nat × Int32 => nI z.1) hp_5).symm, (fun _ => (show (vp_updL g 0 ((r_5).toInt64)) 0 = _ from upL0).trans (congrArg (fun z : Nat × Int32 => z.2.toInt64) hp_5).symm)⟩

set_option maxHeartbeats 4000000 in
set_option maxRecDepth 100000 in
theorem w_holders (l : Launch) (G : Gx) (hst : l.stackTraces = false) (fs h h2 h3 hh hr hg hq hl : Nat) (iS eA fA : Int32) (ah as_ : Nat) (rr ra : Nat → Nat) (s : ASt) (B : Nat) (hI : InvA B s) (x : Int32) (out : Nat) (g : Nat → Int64) : CtX l G (SFt G) yL_holders (wsL_holders ++ hx9) ({ frames := 8, cells := 1, slots := 6, locals := 125 }) [.ref fs, .int x, .ref out] (flt [[(out, .inl (gJ G, 1, .inr (.inl g)))], [(fs, .inr (12, [.ref h, .ref h2, .ref h3, .ref hh, .ref hr, .ref hg, .ref hq, .ref hl, .int iS, .int eA, .int fA]))], stW G h ah as_ rr ra (sHm s) (sNb s) (sNs s) (sLa s) (sLo s) (sNu s) (sTn s) (sSh s)]) mkI (fun (k : Int32) (u : Nat → Int64) => k = nI (qHolders s x).1 ∧ (k = 0 → u 0 = (qHolders s x).2.toInt64)) (fun u : Nat → Int64 => flt [[(out, .inl (gJ G, 1, .inr (.inl u)))], [(fs, .inr (12, [.ref h, .ref h2, .ref h3, .ref hh, .ref hr, .ref hg, .ref hq, .ref hl, .int iS, .int eA, .int fA]))], stW G h ah as_ rr ra (sHm s) (sNb s) (sNs s) (sLa s) (sLo s) (sNu s) (sTn s) (sSh s)]) (fun (_ : String) (_ : Unit) => False) (fun _ : Unit => (flt [[(out, .inl (gJ G, 1, .inr (.inl g)))], [(fs, .inr (12, [.ref h, .ref h2, .ref h3, .ref hh, .ref hr, .ref hg, .ref hq, .ref hl, .int iS, .int eA, .int fA]))], stW G h ah as_ rr ra (sHm s) (sNb s) (sNs s) (sLa s) (sLo s) (sNu s) (sTn s) (sSh s)])) 1 6 := by
  refine CtX.ofIW (hh := [(0, 9, 12, 30)]) (cc := cL_holders) (maxL := 4) (by decide) rfl ⟨by simp [Value.category], Nat.le_of_ble_eq_true rfl⟩ ?_
  intro K hl hC hSF hnm htab hE
  subst hl
  have hgot := SFgoS (SFt.k G) hSF
  have hgo := SFgo.x hgot
  have hSFt := hSF
  replace hSF := hSF.1
  show V G K 4 0 0 0 [some (.ref fs), some (.int x), some (.ref out), none] [] (flt [[(out, .inl (gJ G, 1, .inr (.inl g)))], [(fs, .inr (12, [.ref h, .ref h2, .ref h3, .ref hh, .ref hr, .ref hg, .ref hq, .ref hl, .int iS, .int eA, .int fA]))], stW G h ah as_ rr ra (sHm s) (sNb s) (sNs s) (sLa s) (sLo s) (sNu s) (sTn s) (sSh s)])
  refine V.aload_n hC (x := out) dL_holders_0 rfl ?_
  refine V.iconst hC 0 dL_holders_1 rfl ?_
  refine V.aload_n hC (x := fs) dL_holders_2 rfl ?_
  refine V.iload_n hC (x := x) dL_holders_3 rfl ?_
  refine V.callVBXN (n := 1) (As := [.int x]) (rest := [.int 0, .ref out]) hC (q_holders (kl K) G hst fs h h2 h3 hh hr hg hq hl iS eA fA ah as_ rr ra s B hI x) (SFt.k G) hgot (gx1 gL_holders_X12_holders) rfl ⟨rfl, rfl⟩ (by decide +kernel) ⟨by decide, by decide, by decide, by decide⟩ (L := [[(out, .inl (gJ G, 1, .inr (.inl g)))], [(fs, .inr (12, [.ref h, .ref h2, .ref h3, .ref hh, .ref hr, .ref hg, .ref hq, .ref hl, .int iS, .int eA, .int fA]))], stW G h ah as_ rr ra (sHm s) (sNb s) (sNs s) (sLa s) (sLo s) (sNu s) (sTn s) (sSh s)]) (N := 3) rfl [1, 2] [0] (by decide) rfl (fun _ : Unit => [[(fs, .inr (12, [.ref h, .ref h2, .ref h3, .ref hh, .ref hr, .ref hg, .ref hq, .ref hl, .int iS, .int eA, .int fA]))], stW G h ah as_ rr ra (sHm s) (sNb s) (sNs s) (sLa s) (sLo s) (sNu s) (sTn s) (sSh s)]) (fun _ => rfl) (fun _ : Unit => [[(fs, .inr (12, [.ref h, .ref h2, .ref h3, .ref hh, .ref hr, .ref hg, .ref hq, .ref hl, .int iS, .int eA, .int fA]))], stW G h ah as_ rr ra (sHm s) (sNb s) (sNs s) (sLa s) (sLo s) (sNu s) (sTn s) (sSh s)]) (fun _ => rfl) rfl rfl rfl rfl (Nat.le_of_ble_eq_true rfl) dL_holders_4 (fun E_ u_ hx_ => ?_) (fun r_4 u_4 hp_4 => ?_)
  · refine VX.reN (N := 3) [2, 0, 1] [[(out, .inl (gJ G, 1, .inr (.inl g)))], [(fs, .inr (12, [.ref h, .ref h2, .ref h3, .ref hh, .ref hr, .ref hg, .ref hq, .ref hl, .int iS, .int eA, .int fA]))], stW G h ah as_ rr ra (sHm s) (sNb s) (sNs s) (sLa s) (sLo s) (sNu s) (sTn s) (sSh s)] rfl (by decide) rfl ?_
    obtain ⟨j, hj, hq_, hE_⟩ := hx_
    have hj2 : j < 1 := hj
    subst hE_
    obtain rfl : j = 0 := by omega
    refine VX.catch hC (E := "java/util/NoSuchElementException") (name := "java/util/NoSuchElementException") _ htab [] ⟨0, 9, 12, 30⟩ [] rfl (fun z hz => absurd hz List.not_mem_nil) rfl (by decide) (hx_in hx9_30) (hSFt.ca _ (by decide)) (fun qx => ?_)
    show V G K 4 1 6 12 [some (.ref fs), some (.int x), some (.ref out), none] [.ref qx] (flt [[(out, .inl (gJ G, 1, .inr (.inl g)))], [(fs, .inr (12, [.ref h, .ref h2, .ref h3, .ref hh, .ref hr, .ref hg, .ref hq, .ref hl, .int iS, .int eA, .int fA]))], stW G h ah as_ rr ra (sHm s) (sNb s) (sNs s) (sLa s) (sLo s) (sNu s) (sTn s) (sSh s)])
    refine V.astore_n hC dL_holders_12 [some (.ref fs), some (.int x), some (.ref out), some (.ref qx)] (Nat.le_of_ble_eq_true rfl) rfl ?_
    refine V.iconst hC 1 dL_holders_13 rfl ?_
    exact hE 14 _ 1 g dL_holders_14 rfl ⟨(congrArg (fun z : Nat × Int32 => nI z.1) hq_).symm, fun z => absurd z (by decide)⟩
  · refine V.reN (N := 3) [2, 0, 1] [[(out, .inl (gJ G, 1, .inr (.inl g)))], [(fs, .inr (12, [.ref h, .ref h2, .ref h3, .ref hh, .ref hr, .ref hg, .ref hq, .ref hl, .int iS, .int eA, .int fA]))], stW G h ah as_ rr ra (sHm s) (sNb s) (sNs s) (sLa s) (sLo s) (sNu s) (sTn s) (sSh s)] rfl (by decide) rfl ?_
    show V G K 4 1 6 7 [some (.ref fs), some (.int x), some (.ref out), none] [.int r_4, .int 0, .ref out] (flt [[(out, .inl (gJ G, 1, .inr (.inl g)))], [(fs, .inr (12, [.ref h, .ref h2, .ref h3, .ref hh, .ref hr, .ref hg, .ref hq, .ref hl, .int iS, .int eA, .int fA]))], stW G h ah as_ rr ra (sHm s) (sNb s) (sNs s) (sLa s) (sLo s) (sNu s) (sTn s) (sSh s)])
    refine V.i2l hC dL_holders_7 ?_
    refine V.last hC dL_holders_8 (0) rfl 0 rfl (by omega) (by decide) (flt [[(out, .inl (gJ G, 1, .inr (.inl (vp_updL g 0 ((r_4).toInt64)))))], [(fs, .inr (12, [.ref h, .ref h2, .ref h3, .ref hh, .ref hr, .ref hg, .ref hq, .ref hl, .int iS, .int eA, .int fA]))], stW G h ah as_ rr ra (sHm s) (sNb s) (sNs s) (sLa s) (sLo s) (sNu s) (sTn s) (sSh s)]) rfl ?_
    refine V.goto hC 15 dL_holders_9 rfl ?_
    refine V.iconst hC 0 dL_holders_15 rfl ?_
    exact hE 16 _ 0 (vp_updL g 0 ((r_4).toInt64)) dL_holders_16 rfl ⟨(congrArg (fun z : Nat × Int32 => nI z.1) hp_4).symm, (fun _ => (show (vp_updL g 0 ((r_4).toInt64)) 0 = _ from upL0).trans (congrArg (fun z : Nat × Int32 => z.2.toInt64) hp_4).symm)⟩

set_option maxHeartbeats 4000000 in
set_option maxRecDepth 100000 in
theorem w_spareShares (l : Launch) (G : Gx) (hst : l.stackTraces = false) (fs h h2 h3 hh hr hg hq hl : Nat) (iS eA fA : Int32) (ah as_ : Nat) (rr ra : Nat → Nat) (s : ASt) (B : Nat) (hI : InvA B s) (x : Int32) (out : Nat) (g : Nat → Int64) : CtX l G (SFt G) yL_spareShares (wsL_spareShares ++ hx9) ({ frames := 8, cells := 1, slots := 6, locals := 126 }) [.ref fs, .int x, .ref out] (flt [[(out, .inl (gJ G, 1, .inr (.inl g)))], [(fs, .inr (12, [.ref h, .ref h2, .ref h3, .ref hh, .ref hr, .ref hg, .ref hq, .ref hl, .int iS, .int eA, .int fA]))], stW G h ah as_ rr ra (sHm s) (sNb s) (sNs s) (sLa s) (sLo s) (sNu s) (sTn s) (sSh s)]) mkI (fun (k : Int32) (u : Nat → Int64) => k = nI (qSpare s x).1 ∧ (k = 0 → u 0 = (qSpare s x).2.toInt64)) (fun u : Nat → Int64 => flt [[(out, .inl (gJ G, 1, .inr (.inl u)))], [(fs, .inr (12, [.ref h, .ref h2, .ref h3, .ref hh, .ref hr, .ref hg, .ref hq, .ref hl, .int iS, .int eA, .int fA]))], stW G h ah as_ rr ra (sHm s) (sNb s) (sNs s) (sLa s) (sLo s) (sNu s) (sTn s) (sSh s)]) (fun (_ : String) (_ : Unit) => False) (fun _ : Unit => (flt [[(out, .inl (gJ G, 1, .inr (.inl g)))], [(fs, .inr (12, [.ref h, .ref h2, .ref h3, .ref hh, .ref hr, .ref hg, .ref hq, .ref hl, .int iS, .int eA, .int fA]))], stW G h ah as_ rr ra (sHm s) (sNb s) (sNs s) (sLa s) (sLo s) (sNu s) (sTn s) (sSh s)])) 1 6 := by
  refine CtX.ofIW (hh := [(0, 9, 12, 30)]) (cc := cL_spareShares) (maxL := 4) (by decide) rfl ⟨by simp [Value.category], Nat.le_of_ble_eq_true rfl⟩ ?_
  intro K hl hC hSF hnm htab hE
  subst hl
  have hgot := SFgoS (SFt.k G) hSF
  have hgo := SFgo.x hgot
  have hSFt := hSF
  replace hSF := hSF.1
  show V G K 4 0 0 0 [some (.ref fs), some (.int x), some (.ref out), none] [] (flt [[(out, .inl (gJ G, 1, .inr (.inl g)))], [(fs, .inr (12, [.ref h, .ref h2, .ref h3, .ref hh, .ref hr, .ref hg, .ref hq, .ref hl, .int iS, .int eA, .int fA]))], stW G h ah as_ rr ra (sHm s) (sNb s) (sNs s) (sLa s) (sLo s) (sNu s) (sTn s) (sSh s)])
  refine V.aload_n hC (x := out) dL_spareShares_0 rfl ?_
  refine V.iconst hC 0 dL_spareShares_1 rfl ?_
  refine V.aload_n hC (x := fs) dL_spareShares_2 rfl ?_
  refine V.iload_n hC (x := x) dL_spareShares_3 rfl ?_
  refine V.callVBXN (n := 1) (As := [.int x]) (rest := [.int 0, .ref out]) hC (q_spareShares (kl K) G hst fs h h2 h3 hh hr hg hq hl iS eA fA ah as_ rr ra s B hI x) (SFt.k G) hgot (gx1 gL_spareShares_X12_spareShares) rfl ⟨rfl, rfl⟩ (by decide +kernel) ⟨by decide, by decide, by decide, by decide⟩ (L := [[(out, .inl (gJ G, 1, .inr (.inl g)))], [(fs, .inr (12, [.ref h, .ref h2, .ref h3, .ref hh, .ref hr, .ref hg, .ref hq, .ref hl, .int iS, .int eA, .int fA]))], stW G h ah as_ rr ra (sHm s) (sNb s) (sNs s) (sLa s) (sLo s) (sNu s) (sTn s) (sSh s)]) (N := 3) rfl [1, 2] [0] (by decide) rfl (fun _ : Unit => [[(fs, .inr (12, [.ref h, .ref h2, .ref h3, .ref hh, .ref hr, .ref hg, .ref hq, .ref hl, .int iS, .int eA, .int fA]))], stW G h ah as_ rr ra (sHm s) (sNb s) (sNs s) (sLa s) (sLo s) (sNu s) (sTn s) (sSh s)]) (fun _ => rfl) (fun _ : Unit => [[(fs, .inr (12, [.ref h, .ref h2, .ref h3, .ref hh, .ref hr, .ref hg, .ref hq, .ref hl, .int iS, .int eA, .int fA]))], stW G h ah as_ rr ra (sHm s) (sNb s) (sNs s) (sLa s) (sLo s) (sNu s) (sTn s) (sSh s)]) (fun _ => rfl) rfl rfl rfl rfl (Nat.le_of_ble_eq_true rfl) dL_spareShares_4 (fun E_ u_ hx_ => ?_) (fun r_4 u_4 hp_4 => ?_)
  · refine VX.reN (N := 3) [2, 0, 1] [[(out, .inl (gJ G, 1, .inr (.inl g)))], [(fs, .inr (12, [.ref h, .ref h2, .ref h3, .ref hh, .ref hr, .ref hg, .ref hq, .ref hl, .int iS, .int eA, .int fA]))], stW G h ah as_ rr ra (sHm s) (sNb s) (sNs s) (sLa s) (sLo s) (sNu s) (sTn s) (sSh s)] rfl (by decide) rfl ?_
    obtain ⟨j, hj, hq_, hE_⟩ := hx_
    have hj2 : j < 1 := hj
    subst hE_
    obtain rfl : j = 0 := by omega
    refine VX.catch hC (E := "java/util/NoSuchElementException") (name := "java/util/NoSuchElementException") _ htab [] ⟨0, 9, 12, 30⟩ [] rfl (fun z hz => absurd hz List.not_mem_nil) rfl (by decide) (hx_in hx9_30) (hSFt.ca _ (by decide)) (fun qx => ?_)
    show V G K 4 1 6 12 [some (.ref fs), some (.int x), some (.ref out), none] [.ref qx] (flt [[(out, .inl (gJ G, 1, .inr (.inl g)))], [(fs, .inr (12, [.ref h, .ref h2, .ref h3, .ref hh, .ref hr, .ref hg, .ref hq, .ref hl, .int iS, .int eA, .int fA]))], stW G h ah as_ rr ra (sHm s) (sNb s) (sNs s) (sLa s) (sLo s) (sNu s) (sTn s) (sSh s)])
    refine V.astore_n hC dL_spareShares_12 [some (.ref fs), some (.int x), some (.ref out), some (.ref qx)] (Nat.le_of_ble_eq_true rfl) rfl ?_
    refine V.iconst hC 1 dL_spareShares_13 rfl ?_
    exact hE 14 _ 1 g dL_spareShares_14 rfl ⟨(congrArg (fun z : Nat × Int32 => nI z.1) hq_).symm, fun z => absurd z (by decide)⟩
  · refine V.reN (N := 3) [2, 0, 1] [[(out, .inl (gJ G, 1, .inr (.inl g)))], [(fs, .inr (12, [.ref h, .ref h2, .ref h3, .ref hh, .ref hr, .ref hg, .ref hq, .ref hl, .int iS, .int eA, .int fA]))], stW G h ah as_ rr ra (sHm s) (sNb s) (sNs s) (sLa s) (sLo s) (sNu s) (sTn s) (sSh s)] rfl (by decide) rfl ?_
    show V G K 4 1 6 7 [some (.ref fs), some (.int x), some (.ref out), none] [.int r_4, .int 0, .ref out] (flt [[(out, .inl (gJ G, 1, .inr (.inl g)))], [(fs, .inr (12, [.ref h, .ref h2, .ref h3, .ref hh, .ref hr, .ref hg, .ref hq, .ref hl, .int iS, .int eA, .int fA]))], stW G h ah as_ rr ra (sHm s) (sNb s) (sNs s) (sLa s) (sLo s) (sNu s) (sTn s) (sSh s)])
    refine V.i2l hC dL_spareShares_7 ?_
    refine V.last hC dL_spareShares_8 (0) rfl 0 rfl (by omega) (by decide) (flt [[(out, .inl (gJ G, 1, .inr (.inl (vp_updL g 0 ((r_4).toInt64)))))], [(fs, .inr (12, [.ref h, .ref h2, .ref h3, .ref hh, .ref hr, .ref hg, .ref hq, .ref hl, .int iS, .int eA, .int fA]))], stW G h ah as_ rr ra (sHm s) (sNb s) (sNs s) (sLa s) (sLo s) (sNu s) (sTn s) (sSh s)]) rfl ?_
    refine V.goto hC 15 dL_spareShares_9 rfl ?_
    refine V.iconst hC 0 dL_spareShares_15 rfl ?_
    exact hE 16 _ 0 (vp_updL g 0 ((r_4).toInt64)) dL_spareShares_16 rfl ⟨(congrArg (fun z : Nat × Int32 => nI z.1) hp_4).symm, (fun _ => (show (vp_updL g 0 ((r_4).toInt64)) 0 = _ from upL0).trans (congrArg (fun z : Nat × Int32 => z.2.toInt64) hp_4).symm)⟩

set_option maxHeartbeats 4000000 in
set_option maxRecDepth 100000 in
theorem w_canNestRebuild (l : Launch) (G : Gx) (hst : l.stackTraces = false) (fs h h2 h3 hh hr hg hq hl : Nat) (iS eA fA : Int32) (ah as_ : Nat) (rr ra : Nat → Nat) (s : ASt) (B : Nat) (hI : InvA B s) (x y : Int32) (out : Nat) (g : Nat → Int64) : CtX l G (SFt G) yL_canNestRebuild (wsL_canNestRebuild ++ hx9) ({ frames := 8, cells := 2, slots := 12, locals := 127 }) [.ref fs, .int x, .int y, .ref out] (flt [[(out, .inl (gJ G, 1, .inr (.inl g)))], [(fs, .inr (12, [.ref h, .ref h2, .ref h3, .ref hh, .ref hr, .ref hg, .ref hq, .ref hl, .int iS, .int eA, .int fA]))], stW G h ah as_ rr ra (sHm s) (sNb s) (sNs s) (sLa s) (sLo s) (sNu s) (sTn s) (sSh s)]) mkI (fun (k : Int32) (u : Nat → Int64) => k = nI (qCan s x y).1 ∧ (k = 0 → u 0 = (if (qCan s x y).2 = 0 then 0 else 1))) (fun u : Nat → Int64 => flt [[(out, .inl (gJ G, 1, .inr (.inl u)))], [(fs, .inr (12, [.ref h, .ref h2, .ref h3, .ref hh, .ref hr, .ref hg, .ref hq, .ref hl, .int iS, .int eA, .int fA]))], stW G h ah as_ rr ra (sHm s) (sNb s) (sNs s) (sLa s) (sLo s) (sNu s) (sTn s) (sSh s)]) (fun (_ : String) (_ : Unit) => False) (fun _ : Unit => (flt [[(out, .inl (gJ G, 1, .inr (.inl g)))], [(fs, .inr (12, [.ref h, .ref h2, .ref h3, .ref hh, .ref hr, .ref hg, .ref hq, .ref hl, .int iS, .int eA, .int fA]))], stW G h ah as_ rr ra (sHm s) (sNb s) (sNs s) (sLa s) (sLo s) (sNu s) (sTn s) (sSh s)])) 2 12 := by
  refine CtX.ofIW (hh := [(0, 17, 20, 13), (0, 17, 24, 30)]) (cc := cL_canNestRebuild) (maxL := 5) (by decide) rfl ⟨by simp [Value.category], Nat.le_of_ble_eq_true rfl⟩ ?_
  intro K hl hC hSF hnm htab hE
  subst hl
  have hgot := SFgoS (SFt.k G) hSF
  have hgo := SFgo.x hgot
  have hSFt := hSF
  replace hSF := hSF.1
  show V G K 5 0 0 0 [some (.ref fs), some (.int x), some (.int y), some (.ref out), none] [] (flt [[(out, .inl (gJ G, 1, .inr (.inl g)))], [(fs, .inr (12, [.ref h, .ref h2, .ref h3, .ref hh, .ref hr, .ref hg, .ref hq, .ref hl, .int iS, .int eA, .int fA]))], stW G h ah as_ rr ra (sHm s) (sNb s) (sNs s) (sLa s) (sLo s) (sNu s) (sTn s) (sSh s)])
  refine V.aload_n hC (x := out) dL_canNestRebuild_0 rfl ?_
  refine V.iconst hC 0 dL_canNestRebuild_1 rfl ?_
  refine V.aload_n hC (x := fs) dL_canNestRebuild_2 rfl ?_
  refine V.iload_n hC (x := x) dL_canNestRebuild_3 rfl ?_
  refine V.iload_n hC (x := y) dL_canNestRebuild_4 rfl ?_
  refine V.callVBXN (n := 2) (As := [.int x, .int y]) (rest := [.int 0, .ref out]) hC (q_canNestRebuild (kl K) G hst fs h h2 h3 hh hr hg hq hl iS eA fA ah as_ rr ra s B hI x y) (SFt.k G) hgot (gx1 gL_canNestRebuild_X12_canNestRebuild) rfl ⟨rfl, rfl⟩ (by decide +kernel) ⟨by decide, by decide, by decide, by decide⟩ (L := [[(out, .inl (gJ G, 1, .inr (.inl g)))], [(fs, .inr (12, [.ref h, .ref h2, .ref h3, .ref hh, .ref hr, .ref hg, .ref hq, .ref hl, .int iS, .int eA, .int fA]))], stW G h ah as_ rr ra (sHm s) (sNb s) (sNs s) (sLa s) (sLo s) (sNu s) (sTn s) (sSh s)]) (N := 3) rfl [1, 2] [0] (by decide) rfl (fun _ : Unit => [[(fs, .inr (12, [.ref h, .ref h2, .ref h3, .ref hh, .ref hr, .ref hg, .ref hq, .ref hl, .int iS, .int eA, .int fA]))], stW G h ah as_ rr ra (sHm s) (sNb s) (sNs s) (sLa s) (sLo s) (sNu s) (sTn s) (sSh s)]) (fun _ => rfl) (fun _ : Unit => [[(fs, .inr (12, [.ref h, .ref h2, .ref h3, .ref hh, .ref hr, .ref hg, .ref hq, .ref hl, .int iS, .int eA, .int fA]))], stW G h ah as_ rr ra (sHm s) (sNb s) (sNs s) (sLa s) (sLo s) (sNu s) (sTn s) (sSh s)]) (fun _ => rfl) rfl rfl rfl rfl (Nat.le_of_ble_eq_true rfl) dL_canNestRebuild_5 (fun E_ u_ hx_ => ?_) (fun r_5 u_5 hp_5 => ?_)
  · refine VX.reN (N := 3) [2, 0, 1] [[(out, .inl (gJ G, 1, .inr (.inl g)))], [(fs, .inr (12, [.ref h, .ref h2, .ref h3, .ref hh, .ref hr, .ref hg, .ref hq, .ref hl, .int iS, .int eA, .int fA]))], stW G h ah as_ rr ra (sHm s) (sNb s) (sNs s) (sLa s) (sLo s) (sNu s) (sTn s) (sSh s)] rfl (by decide) rfl ?_
    obtain ⟨j, hj, hq_, hE_⟩ := hx_
    have hj2 : j < 2 := hj
    subst hE_
    obtain rfl | rfl : j = 0 ∨ j = 1 := by omega
    · refine VX.catch hC (E := "java/lang/IllegalArgumentException") (name := "java/lang/IllegalArgumentException") _ htab [] ⟨0, 17, 20, 13⟩ [⟨0, 17, 24, 30⟩] rfl (fun z hz => absurd hz List.not_mem_nil) rfl (by decide) (hx_in hx9_13) (hSFt.ca _ (by decide)) (fun qx => ?_)
      show V G K 5 2 12 20 [some (.ref fs), some (.int x), some (.int y), some (.ref out), none] [.ref qx] (flt [[(out, .inl (gJ G, 1, .inr (.inl g)))], [(fs, .inr (12, [.ref h, .ref h2, .ref h3, .ref hh, .ref hr, .ref hg, .ref hq, .ref hl, .int iS, .int eA, .int fA]))], stW G h ah as_ rr ra (sHm s) (sNb s) (sNs s) (sLa s) (sLo s) (sNu s) (sTn s) (sSh s)])
      refine V.astore hC dL_canNestRebuild_20 [some (.ref fs), some (.int x), some (.int y), some (.ref out), some (.ref qx)] (Nat.le_of_ble_eq_true rfl) rfl ?_
      refine V.iconst hC 1 dL_canNestRebuild_22 rfl ?_
      exact hE 23 _ 1 g dL_canNestRebuild_23 rfl ⟨(congrArg (fun z : Nat × Int32 => nI z.1) hq_).symm, fun z => absurd z (by decide)⟩
    · refine VX.catch hC (E := "java/util/NoSuchElementException") (name := "java/util/NoSuchElementException") _ htab [⟨0, 17, 20, 13⟩] ⟨0, 17, 24, 30⟩ [] rfl (List.forall_mem_cons.mpr ⟨Or.inr ⟨by decide, _, (hx_in hx9_13), hSFt.nc _ _ (by decide) (by decide) (by decide)⟩, (fun z hz => absurd hz List.not_mem_nil)⟩) rfl (by decide) (hx_in hx9_30) (hSFt.ca _ (by decide)) (fun qx => ?_)
      show V G K 5 2 12 24 [some (.ref fs), some (.int x), some (.int y), some (.ref out), none] [.ref qx] (flt [[(out, .inl (gJ G, 1, .inr (.inl g)))], [(fs, .inr (12, [.ref h, .ref h2, .ref h3, .ref hh, .ref hr, .ref hg, .ref hq, .ref hl, .int iS, .int eA, .int fA]))], stW G h ah as_ rr ra (sHm s) (sNb s) (sNs s) (sLa s) (sLo s) (sNu s) (sTn s) (sSh s)])
      refine V.astore hC dL_canNestRebuild_24 [some (.ref fs), some (.int x), some (.int y), some (.ref out), some (.ref qx)] (Nat.le_of_ble_eq_true rfl) rfl ?_
      refine V.iconst hC 2 dL_canNestRebuild_26 rfl ?_
      exact hE 27 _ 2 g dL_canNestRebuild_27 rfl ⟨(congrArg (fun z : Nat × Int32 => nI z.1) hq_).symm, fun z => absurd z (by decide)⟩
  · refine V.reN (N := 3) [2, 0, 1] [[(out, .inl (gJ G, 1, .inr (.inl g)))], [(fs, .inr (12, [.ref h, .ref h2, .ref h3, .ref hh, .ref hr, .ref hg, .ref hq, .ref hl, .int iS, .int eA, .int fA]))], stW G h ah as_ rr ra (sHm s) (sNb s) (sNs s) (sLa s) (sLo s) (sNu s) (sTn s) (sSh s)] rfl (by decide) rfl ?_
    show V G K 5 2 12 8 [some (.ref fs), some (.int x), some (.int y), some (.ref out), none] [.int r_5, .int 0, .ref out] (flt [[(out, .inl (gJ G, 1, .inr (.inl g)))], [(fs, .inr (12, [.ref h, .ref h2, .ref h3, .ref hh, .ref hr, .ref hg, .ref hq, .ref hl, .int iS, .int eA, .int fA]))], stW G h ah as_ rr ra (sHm s) (sNb s) (sNs s) (sLa s) (sLo s) (sNu s) (sTn s) (sSh s)])
    refine V.if_eq hC 15 dL_canNestRebuild_8 rfl (fun c_8 => ?_) (fun c_8 => ?_)
    · refine V.lconst hC 0 dL_canNestRebuild_15 rfl ?_
      refine V.last hC dL_canNestRebuild_16 (0) rfl 0 rfl (by omega) (by decide) (flt [[(out, .inl (gJ G, 1, .inr (.inl (vp_updL g 0 0))))], [(fs, .inr (12, [.ref h, .ref h2, .ref h3, .ref hh, .ref hr, .ref hg, .ref hq, .ref hl, .int iS, .int eA, .int fA]))], stW G h ah as_ rr ra (sHm s) (sNb s) (sNs s) (sLa s) (sLo s) (sNu s) (sTn s) (sSh s)]) rfl ?_
      refine V.goto hC 28 dL_canNestRebuild_17 rfl ?_
      refine V.iconst hC 0 dL_canNestRebuild_28 rfl ?_
      exact hE 29 _ 0 (vp_updL g 0 0) dL_canNestRebuild_29 rfl ⟨(congrArg (fun z : Nat × Int32 => nI z.1) hp_5).symm, (fun _ => (show (vp_updL g 0 0) 0 = _ from upL0).trans ((if_pos c_8).symm.trans (congrArg (fun z : Nat × Int32 => (if z.2 = 0 then (0 : Int64) else 1)) hp_5).symm))⟩
    · refine V.lconst hC 1 dL_canNestRebuild_11 rfl ?_
      refine V.goto hC 16 dL_canNestRebuild_12 rfl ?_
      refine V.last hC dL_canNestRebuild_16 (0) rfl 0 rfl (by omega) (by decide) (flt [[(out, .inl (gJ G, 1, .inr (.inl (vp_updL g 0 1))))], [(fs, .inr (12, [.ref h, .ref h2, .ref h3, .ref hh, .ref hr, .ref hg, .ref hq, .ref hl, .int iS, .int eA, .int fA]))], stW G h ah as_ rr ra (sHm s) (sNb s) (sNs s) (sLa s) (sLo s) (sNu s) (sTn s) (sSh s)]) rfl ?_
      refine V.goto hC 28 dL_canNestRebuild_17 rfl ?_
      refine V.iconst hC 0 dL_canNestRebuild_28 rfl ?_
      exact hE 29 _ 0 (vp_updL g 0 1) dL_canNestRebuild_29 rfl ⟨(congrArg (fun z : Nat × Int32 => nI z.1) hp_5).symm, (fun _ => (show (vp_updL g 0 1) 0 = _ from upL0).trans ((if_neg c_8).symm.trans (congrArg (fun z : Nat × Int32 => (if z.2 = 0 then (0 : Int64) else 1)) hp_5).symm))⟩

set_option maxHeartbeats 4000000 in
set_option maxRecDepth 100000 in
theorem w_inverse (l : Launch) (G : Gx) (hst : l.stackTraces = false) (fs h h2 h3 hh hr hg hq hl : Nat) (iS eA fA : Int32) (ah as_ : Nat) (rr ra : Nat → Nat) (s : ASt) (B : Nat) (hI : InvA B s) (x : Int32) (out : Nat) (g : Nat → Int64) : CtX l G (SFt G) yL_inverse (wsL_inverse ++ hx9) ({ frames := 7, cells := 1, slots := 6, locals := 103 }) [.ref fs, .int x, .ref out] (flt [[(out, .inl (gJ G, 1, .inr (.inl g)))], [(fs, .inr (12, [.ref h, .ref h2, .ref h3, .ref hh, .ref hr, .ref hg, .ref hq, .ref hl, .int iS, .int eA, .int fA]))], stW G h ah as_ rr ra (sHm s) (sNb s) (sNs s) (sLa s) (sLo s) (sNu s) (sTn s) (sSh s)]) mkI (fun (k : Int32) (u : Nat → Int64) => k = nI (qInv x).1 ∧ (k = 0 → u 0 = (qInv x).2.toInt64)) (fun u : Nat → Int64 => flt [[(out, .inl (gJ G, 1, .inr (.inl u)))], [(fs, .inr (12, [.ref h, .ref h2, .ref h3, .ref hh, .ref hr, .ref hg, .ref hq, .ref hl, .int iS, .int eA, .int fA]))], stW G h ah as_ rr ra (sHm s) (sNb s) (sNs s) (sLa s) (sLo s) (sNu s) (sTn s) (sSh s)]) (fun (_ : String) (_ : Unit) => False) (fun _ : Unit => (flt [[(out, .inl (gJ G, 1, .inr (.inl g)))], [(fs, .inr (12, [.ref h, .ref h2, .ref h3, .ref hh, .ref hr, .ref hg, .ref hq, .ref hl, .int iS, .int eA, .int fA]))], stW G h ah as_ rr ra (sHm s) (sNb s) (sNs s) (sLa s) (sLo s) (sNu s) (sTn s) (sSh s)])) 1 6 := by
  refine CtX.ofIW (hh := [(0, 9, 12, 13)]) (cc := cL_inverse) (maxL := 4) (by decide) rfl ⟨by simp [Value.category], Nat.le_of_ble_eq_true rfl⟩ ?_
  intro K hl hC hSF hnm htab hE
  subst hl
  have hgot := SFgoS (SFt.k G) hSF
  have hgo := SFgo.x hgot
  have hSFt := hSF
  replace hSF := hSF.1
  show V G K 4 0 0 0 [some (.ref fs), some (.int x), some (.ref out), none] [] (flt [[(out, .inl (gJ G, 1, .inr (.inl g)))], [(fs, .inr (12, [.ref h, .ref h2, .ref h3, .ref hh, .ref hr, .ref hg, .ref hq, .ref hl, .int iS, .int eA, .int fA]))], stW G h ah as_ rr ra (sHm s) (sNb s) (sNs s) (sLa s) (sLo s) (sNu s) (sTn s) (sSh s)])
  refine V.aload_n hC (x := out) dL_inverse_0 rfl ?_
  refine V.iconst hC 0 dL_inverse_1 rfl ?_
  refine V.aload_n hC (x := fs) dL_inverse_2 rfl ?_
  refine V.iload_n hC (x := x) dL_inverse_3 rfl ?_
  refine V.callVBXN (n := 1) (As := [.int x]) (rest := [.int 0, .ref out]) hC (q_inverse (kl K) G hst fs h h2 h3 hh hr hg hq hl iS eA fA ah as_ rr ra s B hI x) (SFt.k G) hgot (gx1 gL_inverse_X12_inverse) rfl ⟨rfl, rfl⟩ (by decide +kernel) ⟨by decide, by decide, by decide, by decide⟩ (L := [[(out, .inl (gJ G, 1, .inr (.inl g)))], [(fs, .inr (12, [.ref h, .ref h2, .ref h3, .ref hh, .ref hr, .ref hg, .ref hq, .ref hl, .int iS, .int eA, .int fA]))], stW G h ah as_ rr ra (sHm s) (sNb s) (sNs s) (sLa s) (sLo s) (sNu s) (sTn s) (sSh s)]) (N := 3) rfl [1, 2] [0] (by decide) rfl (fun _ : Unit => [[(fs, .inr (12, [.ref h, .ref h2, .ref h3, .ref hh, .ref hr, .ref hg, .ref hq, .ref hl, .int iS, .int eA, .int fA]))], stW G h ah as_ rr ra (sHm s) (sNb s) (sNs s) (sLa s) (sLo s) (sNu s) (sTn s) (sSh s)]) (fun _ => rfl) (fun _ : Unit => [[(fs, .inr (12, [.ref h, .ref h2, .ref h3, .ref hh, .ref hr, .ref hg, .ref hq, .ref hl, .int iS, .int eA, .int fA]))], stW G h ah as_ rr ra (sHm s) (sNb s) (sNs s) (sLa s) (sLo s) (sNu s) (sTn s) (sSh s)]) (fun _ => rfl) rfl rfl rfl rfl (Nat.le_of_ble_eq_true rfl) dL_inverse_4 (fun E_ u_ hx_ => ?_) (fun r_4 u_4 hp_4 => ?_)
  · refine VX.reN (N := 3) [2, 0, 1] [[(out, .inl (gJ G, 1, .inr (.inl g)))], [(fs, .inr (12, [.ref h, .ref h2, .ref h3, .ref hh, .ref hr, .ref hg, .ref hq, .ref hl, .int iS, .int eA, .int fA]))], stW G h ah as_ rr ra (sHm s) (sNb s) (sNs s) (sLa s) (sLo s) (sNu s) (sTn s) (sSh s)] rfl (by decide) rfl ?_
    obtain ⟨j, hj, hq_, hE_⟩ := hx_
    have hj2 : j < 1 := hj
    subst hE_
    obtain rfl : j = 0 := by omega
    refine VX.catch hC (E := "java/lang/IllegalArgumentException") (name := "java/lang/IllegalArgumentException") _ htab [] ⟨0, 9, 12, 13⟩ [] rfl (fun z hz => absurd hz List.not_mem_nil) rfl (by decide) (hx_in hx9_13) (hSFt.ca _ (by decide)) (fun qx => ?_)
    show V G K 4 1 6 12 [some (.ref fs), some (.int x), some (.ref out), none] [.ref qx] (flt [[(out, .inl (gJ G, 1, .inr (.inl g)))], [(fs, .inr (12, [.ref h, .ref h2, .ref h3, .ref hh, .ref hr, .ref hg, .ref hq, .ref hl, .int iS, .int eA, .int fA]))], stW G h ah as_ rr ra (sHm s) (sNb s) (sNs s) (sLa s) (sLo s) (sNu s) (sTn s) (sSh s)])
    refine V.astore_n hC dL_inverse_12 [some (.ref fs), some (.int x), some (.ref out), some (.ref qx)] (Nat.le_of_ble_eq_true rfl) rfl ?_
    refine V.iconst hC 1 dL_inverse_13 rfl ?_
    exact hE 14 _ 1 g dL_inverse_14 rfl ⟨(congrArg (fun z : Nat × Int32 => nI z.1) hq_).symm, fun z => absurd z (by decide)⟩
  · refine V.reN (N := 3) [2, 0, 1] [[(out, .inl (gJ G, 1, .inr (.inl g)))], [(fs, .inr (12, [.ref h, .ref h2, .ref h3, .ref hh, .ref hr, .ref hg, .ref hq, .ref hl, .int iS, .int eA, .int fA]))], stW G h ah as_ rr ra (sHm s) (sNb s) (sNs s) (sLa s) (sLo s) (sNu s) (sTn s) (sSh s)] rfl (by decide) rfl ?_
    show V G K 4 1 6 7 [some (.ref fs), some (.int x), some (.ref out), none] [.int r_4, .int 0, .ref out] (flt [[(out, .inl (gJ G, 1, .inr (.inl g)))], [(fs, .inr (12, [.ref h, .ref h2, .ref h3, .ref hh, .ref hr, .ref hg, .ref hq, .ref hl, .int iS, .int eA, .int fA]))], stW G h ah as_ rr ra (sHm s) (sNb s) (sNs s) (sLa s) (sLo s) (sNu s) (sTn s) (sSh s)])
    refine V.i2l hC dL_inverse_7 ?_
    refine V.last hC dL_inverse_8 (0) rfl 0 rfl (by omega) (by decide) (flt [[(out, .inl (gJ G, 1, .inr (.inl (vp_updL g 0 ((r_4).toInt64)))))], [(fs, .inr (12, [.ref h, .ref h2, .ref h3, .ref hh, .ref hr, .ref hg, .ref hq, .ref hl, .int iS, .int eA, .int fA]))], stW G h ah as_ rr ra (sHm s) (sNb s) (sNs s) (sLa s) (sLo s) (sNu s) (sTn s) (sSh s)]) rfl ?_
    refine V.goto hC 15 dL_inverse_9 rfl ?_
    refine V.iconst hC 0 dL_inverse_15 rfl ?_
    exact hE 16 _ 0 (vp_updL g 0 ((r_4).toInt64)) dL_inverse_16 rfl ⟨(congrArg (fun z : Nat × Int32 => nI z.1) hp_4).symm, (fun _ => (show (vp_updL g 0 ((r_4).toInt64)) 0 = _ from upL0).trans (congrArg (fun z : Nat × Int32 => z.2.toInt64) hp_4).symm)⟩

set_option maxHeartbeats 4000000 in
set_option maxRecDepth 100000 in
theorem w_rebuild (l : Launch) (G : Gx) (hst : l.stackTraces = false) (fs h h2 h3 hh hr hg hq hl : Nat) (iS eA fA : Int32) (ah as_ : Nat) (rr ra : Nat → Nat) (s : ASt) (B : Nat) (hI : InvA B s) (hp ap av he aw al af as3 : Nat) (ar : Nat → Nat) (E : Scr) (hok : Sok E) (x : Int32) (out : Nat) (g : Nat → Int64) : CtX l G (SFt G) yL_rebuild (wsL_rebuild ++ hx9) ({ frames := 9, cells := 2, slots := 12, locals := 147 }) [.ref fs, .int x, .ref out] (flt [[(out, .inl (gJ G, 1, .inr (.inl g)))], [(fs, .inr (12, [.ref h, .ref h2, .ref h3, .ref hh, .ref hr, .ref hg, .ref hq, .ref hl, .int iS, .int eA, .int fA]))], stW G h ah as_ rr ra (sHm s) (sNb s) (sNs s) (sLa s) (sLo s) (sNu s) (sTn s) (sSh s), rbW G hr hp ap av he aw al af as3 ar E]) mkI (fun (k : Int32) (u : (Nat → Int64) × Scr) => k = nI (qReb s x).1 ∧ (k = 0 → u.1 0 = (qReb s x).2.toInt64) ∧ Sok u.2) (fun u : (Nat → Int64) × Scr => flt [[(out, .inl (gJ G, 1, .inr (.inl (u.1))))], [(fs, .inr (12, [.ref h, .ref h2, .ref h3, .ref hh, .ref hr, .ref hg, .ref hq, .ref hl, .int iS, .int eA, .int fA]))], stW G h ah as_ rr ra (sHm s) (sNb s) (sNs s) (sLa s) (sLo s) (sNu s) (sTn s) (sSh s), rbW G hr hp ap av he aw al af as3 ar u.2]) (fun (_ : String) (_ : Unit) => False) (fun _ : Unit => (flt [[(out, .inl (gJ G, 1, .inr (.inl g)))], [(fs, .inr (12, [.ref h, .ref h2, .ref h3, .ref hh, .ref hr, .ref hg, .ref hq, .ref hl, .int iS, .int eA, .int fA]))], stW G h ah as_ rr ra (sHm s) (sNb s) (sNs s) (sLa s) (sLo s) (sNu s) (sTn s) (sSh s), rbW G hr hp ap av he aw al af as3 ar E])) 2 12 := by
  refine CtX.ofIW (hh := [(0, 9, 12, 30), (0, 9, 15, 15)]) (cc := cL_rebuild) (maxL := 4) (by decide) rfl ⟨by simp [Value.category], Nat.le_of_ble_eq_true rfl⟩ ?_
  intro K hl hC hSF hnm htab hE
  subst hl
  have hgot := SFgoS (SFt.k G) hSF
  have hgo := SFgo.x hgot
  have hSFt := hSF
  replace hSF := hSF.1
  show V G K 4 0 0 0 [some (.ref fs), some (.int x), some (.ref out), none] [] (flt [[(out, .inl (gJ G, 1, .inr (.inl g)))], [(fs, .inr (12, [.ref h, .ref h2, .ref h3, .ref hh, .ref hr, .ref hg, .ref hq, .ref hl, .int iS, .int eA, .int fA]))], stW G h ah as_ rr ra (sHm s) (sNb s) (sNs s) (sLa s) (sLo s) (sNu s) (sTn s) (sSh s), rbW G hr hp ap av he aw al af as3 ar E])
  refine V.aload_n hC (x := out) dL_rebuild_0 rfl ?_
  refine V.iconst hC 0 dL_rebuild_1 rfl ?_
  refine V.aload_n hC (x := fs) dL_rebuild_2 rfl ?_
  refine V.iload_n hC (x := x) dL_rebuild_3 rfl ?_
  refine V.callVBXN (n := 1) (As := [.int x]) (rest := [.int 0, .ref out]) hC (q_rebuild (kl K) G hst fs h h2 h3 hh hr hg hq hl iS eA fA ah as_ rr ra s B hI hp ap av he aw al af as3 ar E hok x) (SFt.k G) hgot (gx1 gL_rebuild_X12_rebuild) rfl ⟨rfl, rfl⟩ (by decide +kernel) ⟨by decide, by decide, by decide, by decide⟩ (L := [[(out, .inl (gJ G, 1, .inr (.inl g)))], [(fs, .inr (12, [.ref h, .ref h2, .ref h3, .ref hh, .ref hr, .ref hg, .ref hq, .ref hl, .int iS, .int eA, .int fA]))], stW G h ah as_ rr ra (sHm s) (sNb s) (sNs s) (sLa s) (sLo s) (sNu s) (sTn s) (sSh s), rbW G hr hp ap av he aw al af as3 ar E]) (N := 4) rfl [1, 2, 3] [0] (by decide) rfl (fun u : Scr => [[(fs, .inr (12, [.ref h, .ref h2, .ref h3, .ref hh, .ref hr, .ref hg, .ref hq, .ref hl, .int iS, .int eA, .int fA]))], stW G h ah as_ rr ra (sHm s) (sNb s) (sNs s) (sLa s) (sLo s) (sNu s) (sTn s) (sSh s), rbW G hr hp ap av he aw al af as3 ar u]) (fun _ => rfl) (fun _ : Unit => [[(fs, .inr (12, [.ref h, .ref h2, .ref h3, .ref hh, .ref hr, .ref hg, .ref hq, .ref hl, .int iS, .int eA, .int fA]))], stW G h ah as_ rr ra (sHm s) (sNb s) (sNs s) (sLa s) (sLo s) (sNu s) (sTn s) (sSh s), rbW G hr hp ap av he aw al af as3 ar E]) (fun _ => rfl) rfl rfl rfl rfl (Nat.le_of_ble_eq_true rfl) dL_rebuild_4 (fun E_ u_ hx_ => ?_) (fun r_4 u_4 hp_4 => ?_)
  · refine VX.reN (N := 4) [3, 0, 1, 2] [[(out, .inl (gJ G, 1, .inr (.inl g)))], [(fs, .inr (12, [.ref h, .ref h2, .ref h3, .ref hh, .ref hr, .ref hg, .ref hq, .ref hl, .int iS, .int eA, .int fA]))], stW G h ah as_ rr ra (sHm s) (sNb s) (sNs s) (sLa s) (sLo s) (sNu s) (sTn s) (sSh s), rbW G hr hp ap av he aw al af as3 ar E] rfl (by decide) rfl ?_
    obtain ⟨j, hj, hq_, hE_⟩ := hx_
    have hj2 : j < 2 := hj
    subst hE_
    obtain rfl | rfl : j = 0 ∨ j = 1 := by omega
    · refine VX.catch hC (E := "java/util/NoSuchElementException") (name := "java/util/NoSuchElementException") _ htab [] ⟨0, 9, 12, 30⟩ [⟨0, 9, 15, 15⟩] rfl (fun z hz => absurd hz List.not_mem_nil) rfl (by decide) (hx_in hx9_30) (hSFt.ca _ (by decide)) (fun qx => ?_)
      show V G K 4 2 12 12 [some (.ref fs), some (.int x), some (.ref out), none] [.ref qx] (flt [[(out, .inl (gJ G, 1, .inr (.inl g)))], [(fs, .inr (12, [.ref h, .ref h2, .ref h3, .ref hh, .ref hr, .ref hg, .ref hq, .ref hl, .int iS, .int eA, .int fA]))], stW G h ah as_ rr ra (sHm s) (sNb s) (sNs s) (sLa s) (sLo s) (sNu s) (sTn s) (sSh s), rbW G hr hp ap av he aw al af as3 ar E])
      refine V.astore_n hC dL_rebuild_12 [some (.ref fs), some (.int x), some (.ref out), some (.ref qx)] (Nat.le_of_ble_eq_true rfl) rfl ?_
      refine V.iconst hC 1 dL_rebuild_13 rfl ?_
      exact hE 14 _ 1 (g, E) dL_rebuild_14 rfl ⟨(congrArg (fun z : Nat × Int32 => nI z.1) hq_).symm, fun z => absurd z (by decide), hok⟩
    · refine VX.catch hC (E := "java/lang/IllegalStateException") (name := "java/lang/IllegalStateException") _ htab [⟨0, 9, 12, 30⟩] ⟨0, 9, 15, 15⟩ [] rfl (List.forall_mem_cons.mpr ⟨Or.inr ⟨by decide, _, (hx_in hx9_30), hSFt.nc _ _ (by decide) (by decide) (by decide)⟩, (fun z hz => absurd hz List.not_mem_nil)⟩) rfl (by decide) (hx_in hx9_15) (hSFt.ca _ (by decide)) (fun qx => ?_)
      show V G K 4 2 12 15 [some (.ref fs), some (.int x), some (.ref out), none] [.ref qx] (flt [[(out, .inl (gJ G, 1, .inr (.inl g)))], [(fs, .inr (12, [.ref h, .ref h2, .ref h3, .ref hh, .ref hr, .ref hg, .ref hq, .ref hl, .int iS, .int eA, .int fA]))], stW G h ah as_ rr ra (sHm s) (sNb s) (sNs s) (sLa s) (sLo s) (sNu s) (sTn s) (sSh s), rbW G hr hp ap av he aw al af as3 ar E])
      refine V.astore_n hC dL_rebuild_15 [some (.ref fs), some (.int x), some (.ref out), some (.ref qx)] (Nat.le_of_ble_eq_true rfl) rfl ?_
      refine V.iconst hC 2 dL_rebuild_16 rfl ?_
      exact hE 17 _ 2 (g, E) dL_rebuild_17 rfl ⟨(congrArg (fun z : Nat × Int32 => nI z.1) hq_).symm, fun z => absurd z (by decide), hok⟩
  · refine V.reN (N := 4) [3, 0, 1, 2] [[(out, .inl (gJ G, 1, .inr (.inl g)))], [(fs, .inr (12, [.ref h, .ref h2, .ref h3, .ref hh, .ref hr, .ref hg, .ref hq, .ref hl, .int iS, .int eA, .int fA]))], stW G h ah as_ rr ra (sHm s) (sNb s) (sNs s) (sLa s) (sLo s) (sNu s) (sTn s) (sSh s), rbW G hr hp ap av he aw al af as3 ar u_4] rfl (by decide) rfl ?_
    show V G K 4 2 12 7 [some (.ref fs), some (.int x), some (.ref out), none] [.int r_4, .int 0, .ref out] (flt [[(out, .inl (gJ G, 1, .inr (.inl g)))], [(fs, .inr (12, [.ref h, .ref h2, .ref h3, .ref hh, .ref hr, .ref hg, .ref hq, .ref hl, .int iS, .int eA, .int fA]))], stW G h ah as_ rr ra (sHm s) (sNb s) (sNs s) (sLa s) (sLo s) (sNu s) (sTn s) (sSh s), rbW G hr hp ap av he aw al af as3 ar u_4])
    refine V.i2l hC dL_rebuild_7 ?_
    refine V.last hC dL_rebuild_8 (0) rfl 0 rfl (by omega) (by decide) (flt [[(out, .inl (gJ G, 1, .inr (.inl (vp_updL g 0 ((r_4).toInt64)))))], [(fs, .inr (12, [.ref h, .ref h2, .ref h3, .ref hh, .ref hr, .ref hg, .ref hq, .ref hl, .int iS, .int eA, .int fA]))], stW G h ah as_ rr ra (sHm s) (sNb s) (sNs s) (sLa s) (sLo s) (sNu s) (sTn s) (sSh s), rbW G hr hp ap av he aw al af as3 ar u_4]) rfl ?_
    refine V.goto hC 18 dL_rebuild_9 rfl ?_
    refine V.iconst hC 0 dL_rebuild_18 rfl ?_
    exact hE 19 _ 0 (vp_updL g 0 ((r_4).toInt64), u_4) dL_rebuild_19 rfl ⟨(congrArg (fun z : Nat × Int32 => nI z.1) hp_4.1).symm, (fun _ => (show (vp_updL g 0 ((r_4).toInt64)) 0 = _ from upL0).trans (congrArg (fun z : Nat × Int32 => z.2.toInt64) hp_4.1).symm), hp_4.2⟩

set_option maxHeartbeats 4000000 in
set_option maxRecDepth 100000 in
theorem w_rebuildByElimination (l : Launch) (G : Gx) (hst : l.stackTraces = false) (fs h h2 h3 hh hr hg hq hl : Nat) (iS eA fA : Int32) (ah as_ : Nat) (rr ra : Nat → Nat) (s : ASt) (B : Nat) (hI : InvA B s) (hp ap av he aw al af as3 : Nat) (ar : Nat → Nat) (E : Scr) (hok : Sok E) (x : Int32) (out : Nat) (g : Nat → Int64) : CtX l G (SFt G) yL_rebuildByElimination (wsL_rebuildByElimination ++ hx9) ({ frames := 9, cells := 2, slots := 12, locals := 147 }) [.ref fs, .int x, .ref out] (flt [[(out, .inl (gJ G, 1, .inr (.inl g)))], [(fs, .inr (12, [.ref h, .ref h2, .ref h3, .ref hh, .ref hr, .ref hg, .ref hq, .ref hl, .int iS, .int eA, .int fA]))], stW G h ah as_ rr ra (sHm s) (sNb s) (sNs s) (sLa s) (sLo s) (sNu s) (sTn s) (sSh s), rbW G hr hp ap av he aw al af as3 ar E]) mkI (fun (k : Int32) (u : (Nat → Int64) × Scr) => k = nI (qReb s x).1 ∧ (k = 0 → u.1 0 = (qReb s x).2.toInt64) ∧ Sok u.2) (fun u : (Nat → Int64) × Scr => flt [[(out, .inl (gJ G, 1, .inr (.inl (u.1))))], [(fs, .inr (12, [.ref h, .ref h2, .ref h3, .ref hh, .ref hr, .ref hg, .ref hq, .ref hl, .int iS, .int eA, .int fA]))], stW G h ah as_ rr ra (sHm s) (sNb s) (sNs s) (sLa s) (sLo s) (sNu s) (sTn s) (sSh s), rbW G hr hp ap av he aw al af as3 ar u.2]) (fun (_ : String) (_ : Unit) => False) (fun _ : Unit => (flt [[(out, .inl (gJ G, 1, .inr (.inl g)))], [(fs, .inr (12, [.ref h, .ref h2, .ref h3, .ref hh, .ref hr, .ref hg, .ref hq, .ref hl, .int iS, .int eA, .int fA]))], stW G h ah as_ rr ra (sHm s) (sNb s) (sNs s) (sLa s) (sLo s) (sNu s) (sTn s) (sSh s), rbW G hr hp ap av he aw al af as3 ar E])) 2 12 := by
  refine CtX.ofIW (hh := [(0, 9, 12, 30), (0, 9, 15, 15)]) (cc := cL_rebuildByElimination) (maxL := 4) (by decide) rfl ⟨by simp [Value.category], Nat.le_of_ble_eq_true rfl⟩ ?_
  intro K hl hC hSF hnm htab hE
  subst hl
  have hgot := SFgoS (SFt.k G) hSF
  have hgo := SFgo.x hgot
  have hSFt := hSF
  replace hSF := hSF.1
  show V G K 4 0 0 0 [some (.ref fs), some (.int x), some (.ref out), none] [] (flt [[(out, .inl (gJ G, 1, .inr (.inl g)))], [(fs, .inr (12, [.ref h, .ref h2, .ref h3, .ref hh, .ref hr, .ref hg, .ref hq, .ref hl, .int iS, .int eA, .int fA]))], stW G h ah as_ rr ra (sHm s) (sNb s) (sNs s) (sLa s) (sLo s) (sNu s) (sTn s) (sSh s), rbW G hr hp ap av he aw al af as3 ar E])
  refine V.aload_n hC (x := out) dL_rebuildByElimination_0 rfl ?_
  refine V.iconst hC 0 dL_rebuildByElimination_1 rfl ?_
  refine V.aload_n hC (x := fs) dL_rebuildByElimination_2 rfl ?_
  refine V.iload_n hC (x := x) dL_rebuildByElimination_3 rfl ?_
  refine V.callVBXN (n := 1) (As := [.int x]) (rest := [.int 0, .ref out]) hC (q_rebuildElim (kl K) G hst fs h h2 h3 hh hr hg hq hl iS eA fA ah as_ rr ra s B hI hp ap av he aw al af as3 ar E hok x) (SFt.k G) hgot (gx1 gL_rebuildByElimination_X12_rebuildByElimination) rfl ⟨rfl, rfl⟩ (by decide +kernel) ⟨by decide, by decide, by decide, by decide⟩ (L := [[(out, .inl (gJ G, 1, .inr (.inl g)))], [(fs, .inr (12, [.ref h, .ref h2, .ref h3, .ref hh, .ref hr, .ref hg, .ref hq, .ref hl, .int iS, .int eA, .int fA]))], stW G h ah as_ rr ra (sHm s) (sNb s) (sNs s) (sLa s) (sLo s) (sNu s) (sTn s) (sSh s), rbW G hr hp ap av he aw al af as3 ar E]) (N := 4) rfl [1, 2, 3] [0] (by decide) rfl (fun u : Scr => [[(fs, .inr (12, [.ref h, .ref h2, .ref h3, .ref hh, .ref hr, .ref hg, .ref hq, .ref hl, .int iS, .int eA, .int fA]))], stW G h ah as_ rr ra (sHm s) (sNb s) (sNs s) (sLa s) (sLo s) (sNu s) (sTn s) (sSh s), rbW G hr hp ap av he aw al af as3 ar u]) (fun _ => rfl) (fun _ : Unit => [[(fs, .inr (12, [.ref h, .ref h2, .ref h3, .ref hh, .ref hr, .ref hg, .ref hq, .ref hl, .int iS, .int eA, .int fA]))], stW G h ah as_ rr ra (sHm s) (sNb s) (sNs s) (sLa s) (sLo s) (sNu s) (sTn s) (sSh s), rbW G hr hp ap av he aw al af as3 ar E]) (fun _ => rfl) rfl rfl rfl rfl (Nat.le_of_ble_eq_true rfl) dL_rebuildByElimination_4 (fun E_ u_ hx_ => ?_) (fun r_4 u_4 hp_4 => ?_)
  · refine VX.reN (N := 4) [3, 0, 1, 2] [[(out, .inl (gJ G, 1, .inr (.inl g)))], [(fs, .inr (12, [.ref h, .ref h2, .ref h3, .ref hh, .ref hr, .ref hg, .ref hq, .ref hl, .int iS, .int eA, .int fA]))], stW G h ah as_ rr ra (sHm s) (sNb s) (sNs s) (sLa s) (sLo s) (sNu s) (sTn s) (sSh s), rbW G hr hp ap av he aw al af as3 ar E] rfl (by decide) rfl ?_
    obtain ⟨j, hj, hq_, hE_⟩ := hx_
    have hj2 : j < 2 := hj
    subst hE_
    obtain rfl | rfl : j = 0 ∨ j = 1 := by omega
    · refine VX.catch hC (E := "java/util/NoSuchElementException") (name := "java/util/NoSuchElementException") _ htab [] ⟨0, 9, 12, 30⟩ [⟨0, 9, 15, 15⟩] rfl (fun z hz => absurd hz List.not_mem_nil) rfl (by decide) (hx_in hx9_30) (hSFt.ca _ (by decide)) (fun qx => ?_)
      show V G K 4 2 12 12 [some (.ref fs), some (.int x), some (.ref out), none] [.ref qx] (flt [[(out, .inl (gJ G, 1, .inr (.inl g)))], [(fs, .inr (12, [.ref h, .ref h2, .ref h3, .ref hh, .ref hr, .ref hg, .ref hq, .ref hl, .int iS, .int eA, .int fA]))], stW G h ah as_ rr ra (sHm s) (sNb s) (sNs s) (sLa s) (sLo s) (sNu s) (sTn s) (sSh s), rbW G hr hp ap av he aw al af as3 ar E])
      refine V.astore_n hC dL_rebuildByElimination_12 [some (.ref fs), some (.int x), some (.ref out), some (.ref qx)] (Nat.le_of_ble_eq_true rfl) rfl ?_
      refine V.iconst hC 1 dL_rebuildByElimination_13 rfl ?_
      exact hE 14 _ 1 (g, E) dL_rebuildByElimination_14 rfl ⟨(congrArg (fun z : Nat × Int32 => nI z.1) hq_).symm, fun z => absurd z (by decide), hok⟩
    · refine VX.catch hC (E := "java/lang/IllegalStateException") (name := "java/lang/IllegalStateException") _ htab [⟨0, 9, 12, 30⟩] ⟨0, 9, 15, 15⟩ [] rfl (List.forall_mem_cons.mpr ⟨Or.inr ⟨by decide, _, (hx_in hx9_30), hSFt.nc _ _ (by decide) (by decide) (by decide)⟩, (fun z hz => absurd hz List.not_mem_nil)⟩) rfl (by decide) (hx_in hx9_15) (hSFt.ca _ (by decide)) (fun qx => ?_)
      show V G K 4 2 12 15 [some (.ref fs), some (.int x), some (.ref out), none] [.ref qx] (flt [[(out, .inl (gJ G, 1, .inr (.inl g)))], [(fs, .inr (12, [.ref h, .ref h2, .ref h3, .ref hh, .ref hr, .ref hg, .ref hq, .ref hl, .int iS, .int eA, .int fA]))], stW G h ah as_ rr ra (sHm s) (sNb s) (sNs s) (sLa s) (sLo s) (sNu s) (sTn s) (sSh s), rbW G hr hp ap av he aw al af as3 ar E])
      refine V.astore_n hC dL_rebuildByElimination_15 [some (.ref fs), some (.int x), some (.ref out), some (.ref qx)] (Nat.le_of_ble_eq_true rfl) rfl ?_
      refine V.iconst hC 2 dL_rebuildByElimination_16 rfl ?_
      exact hE 17 _ 2 (g, E) dL_rebuildByElimination_17 rfl ⟨(congrArg (fun z : Nat × Int32 => nI z.1) hq_).symm, fun z => absurd z (by decide), hok⟩
  · refine V.reN (N := 4) [3, 0, 1, 2] [[(out, .inl (gJ G, 1, .inr (.inl g)))], [(fs, .inr (12, [.ref h, .ref h2, .ref h3, .ref hh, .ref hr, .ref hg, .ref hq, .ref hl, .int iS, .int eA, .int fA]))], stW G h ah as_ rr ra (sHm s) (sNb s) (sNs s) (sLa s) (sLo s) (sNu s) (sTn s) (sSh s), rbW G hr hp ap av he aw al af as3 ar u_4] rfl (by decide) rfl ?_
    show V G K 4 2 12 7 [some (.ref fs), some (.int x), some (.ref out), none] [.int r_4, .int 0, .ref out] (flt [[(out, .inl (gJ G, 1, .inr (.inl g)))], [(fs, .inr (12, [.ref h, .ref h2, .ref h3, .ref hh, .ref hr, .ref hg, .ref hq, .ref hl, .int iS, .int eA, .int fA]))], stW G h ah as_ rr ra (sHm s) (sNb s) (sNs s) (sLa s) (sLo s) (sNu s) (sTn s) (sSh s), rbW G hr hp ap av he aw al af as3 ar u_4])
    refine V.i2l hC dL_rebuildByElimination_7 ?_
    refine V.last hC dL_rebuildByElimination_8 (0) rfl 0 rfl (by omega) (by decide) (flt [[(out, .inl (gJ G, 1, .inr (.inl (vp_updL g 0 ((r_4).toInt64)))))], [(fs, .inr (12, [.ref h, .ref h2, .ref h3, .ref hh, .ref hr, .ref hg, .ref hq, .ref hl, .int iS, .int eA, .int fA]))], stW G h ah as_ rr ra (sHm s) (sNb s) (sNs s) (sLa s) (sLo s) (sNu s) (sTn s) (sSh s), rbW G hr hp ap av he aw al af as3 ar u_4]) rfl ?_
    refine V.goto hC 18 dL_rebuildByElimination_9 rfl ?_
    refine V.iconst hC 0 dL_rebuildByElimination_18 rfl ?_
    exact hE 19 _ 0 (vp_updL g 0 ((r_4).toInt64), u_4) dL_rebuildByElimination_19 rfl ⟨(congrArg (fun z : Nat × Int32 => nI z.1) hp_4.1).symm, (fun _ => (show (vp_updL g 0 ((r_4).toInt64)) 0 = _ from upL0).trans (congrArg (fun z : Nat × Int32 => z.2.toInt64) hp_4.1).symm), hp_4.2⟩

set_option maxHeartbeats 4000000 in
set_option maxRecDepth 100000 in
theorem w_unfitShares (l : Launch) (G : Gx) (hst : l.stackTraces = false) (fs h h2 h3 hh hr hg hq hl : Nat) (iS eA fA : Int32) (ah as_ : Nat) (rr ra : Nat → Nat) (s : ASt) (B : Nat) (hI : InvA B s) (hp ap av he aw al af as3 : Nat) (ar : Nat → Nat) (E : Scr) (hok : Sok E) (x : Int32) (out : Nat) (g : Nat → Int64) : CtX l G (SFt G) yL_unfitShares (wsL_unfitShares ++ hx9) ({ frames := 9, cells := 2, slots := 12, locals := 147 }) [.ref fs, .int x, .ref out] (flt [[(out, .inl (gJ G, 1, .inr (.inl g)))], [(fs, .inr (12, [.ref h, .ref h2, .ref h3, .ref hh, .ref hr, .ref hg, .ref hq, .ref hl, .int iS, .int eA, .int fA]))], stW G h ah as_ rr ra (sHm s) (sNb s) (sNs s) (sLa s) (sLo s) (sNu s) (sTn s) (sSh s), rbW G hr hp ap av he aw al af as3 ar E]) mkI (fun (k : Int32) (u : (Nat → Int64) × Scr) => k = nI (qUnf s x).1 ∧ (k = 0 → u.1 0 = (qUnf s x).2.toInt64) ∧ Sok u.2) (fun u : (Nat → Int64) × Scr => flt [[(out, .inl (gJ G, 1, .inr (.inl (u.1))))], [(fs, .inr (12, [.ref h, .ref h2, .ref h3, .ref hh, .ref hr, .ref hg, .ref hq, .ref hl, .int iS, .int eA, .int fA]))], stW G h ah as_ rr ra (sHm s) (sNb s) (sNs s) (sLa s) (sLo s) (sNu s) (sTn s) (sSh s), rbW G hr hp ap av he aw al af as3 ar u.2]) (fun (_ : String) (_ : Unit) => False) (fun _ : Unit => (flt [[(out, .inl (gJ G, 1, .inr (.inl g)))], [(fs, .inr (12, [.ref h, .ref h2, .ref h3, .ref hh, .ref hr, .ref hg, .ref hq, .ref hl, .int iS, .int eA, .int fA]))], stW G h ah as_ rr ra (sHm s) (sNb s) (sNs s) (sLa s) (sLo s) (sNu s) (sTn s) (sSh s), rbW G hr hp ap av he aw al af as3 ar E])) 2 12 := by
  refine CtX.ofIW (hh := [(0, 9, 12, 30), (0, 9, 15, 15)]) (cc := cL_unfitShares) (maxL := 4) (by decide) rfl ⟨by simp [Value.category], Nat.le_of_ble_eq_true rfl⟩ ?_
  intro K hl hC hSF hnm htab hE
  subst hl
  have hgot := SFgoS (SFt.k G) hSF
  have hgo := SFgo.x hgot
  have hSFt := hSF
  replace hSF := hSF.1
  show V G K 4 0 0 0 [some (.ref fs), some (.int x), some (.ref out), none] [] (flt [[(out, .inl (gJ G, 1, .inr (.inl g)))], [(fs, .inr (12, [.ref h, .ref h2, .ref h3, .ref hh, .ref hr, .ref hg, .ref hq, .ref hl, .int iS, .int eA, .int fA]))], stW G h ah as_ rr ra (sHm s) (sNb s) (sNs s) (sLa s) (sLo s) (sNu s) (sTn s) (sSh s), rbW G hr hp ap av he aw al af as3 ar E])
  refine V.aload_n hC (x := out) dL_unfitShares_0 rfl ?_
  refine V.iconst hC 0 dL_unfitShares_1 rfl ?_
  refine V.aload_n hC (x := fs) dL_unfitShares_2 rfl ?_
  refine V.iload_n hC (x := x) dL_unfitShares_3 rfl ?_
  refine V.callVBXN (n := 1) (As := [.int x]) (rest := [.int 0, .ref out]) hC (q_unfit (kl K) G hst fs h h2 h3 hh hr hg hq hl iS eA fA ah as_ rr ra s B hI hp ap av he aw al af as3 ar E hok x) (SFt.k G) hgot (gx1 gL_unfitShares_X12_unfitShares) rfl ⟨rfl, rfl⟩ (by decide +kernel) ⟨by decide, by decide, by decide, by decide⟩ (L := [[(out, .inl (gJ G, 1, .inr (.inl g)))], [(fs, .inr (12, [.ref h, .ref h2, .ref h3, .ref hh, .ref hr, .ref hg, .ref hq, .ref hl, .int iS, .int eA, .int fA]))], stW G h ah as_ rr ra (sHm s) (sNb s) (sNs s) (sLa s) (sLo s) (sNu s) (sTn s) (sSh s), rbW G hr hp ap av he aw al af as3 ar E]) (N := 4) rfl [1, 2, 3] [0] (by decide) rfl (fun u : Scr => [[(fs, .inr (12, [.ref h, .ref h2, .ref h3, .ref hh, .ref hr, .ref hg, .ref hq, .ref hl, .int iS, .int eA, .int fA]))], stW G h ah as_ rr ra (sHm s) (sNb s) (sNs s) (sLa s) (sLo s) (sNu s) (sTn s) (sSh s), rbW G hr hp ap av he aw al af as3 ar u]) (fun _ => rfl) (fun _ : Unit => [[(fs, .inr (12, [.ref h, .ref h2, .ref h3, .ref hh, .ref hr, .ref hg, .ref hq, .ref hl, .int iS, .int eA, .int fA]))], stW G h ah as_ rr ra (sHm s) (sNb s) (sNs s) (sLa s) (sLo s) (sNu s) (sTn s) (sSh s), rbW G hr hp ap av he aw al af as3 ar E]) (fun _ => rfl) rfl rfl rfl rfl (Nat.le_of_ble_eq_true rfl) dL_unfitShares_4 (fun E_ u_ hx_ => ?_) (fun r_4 u_4 hp_4 => ?_)
  · refine VX.reN (N := 4) [3, 0, 1, 2] [[(out, .inl (gJ G, 1, .inr (.inl g)))], [(fs, .inr (12, [.ref h, .ref h2, .ref h3, .ref hh, .ref hr, .ref hg, .ref hq, .ref hl, .int iS, .int eA, .int fA]))], stW G h ah as_ rr ra (sHm s) (sNb s) (sNs s) (sLa s) (sLo s) (sNu s) (sTn s) (sSh s), rbW G hr hp ap av he aw al af as3 ar E] rfl (by decide) rfl ?_
    obtain ⟨j, hj, hq_, hE_⟩ := hx_
    have hj2 : j < 2 := hj
    subst hE_
    obtain rfl | rfl : j = 0 ∨ j = 1 := by omega
    · refine VX.catch hC (E := "java/util/NoSuchElementException") (name := "java/util/NoSuchElementException") _ htab [] ⟨0, 9, 12, 30⟩ [⟨0, 9, 15, 15⟩] rfl (fun z hz => absurd hz List.not_mem_nil) rfl (by decide) (hx_in hx9_30) (hSFt.ca _ (by decide)) (fun qx => ?_)
      show V G K 4 2 12 12 [some (.ref fs), some (.int x), some (.ref out), none] [.ref qx] (flt [[(out, .inl (gJ G, 1, .inr (.inl g)))], [(fs, .inr (12, [.ref h, .ref h2, .ref h3, .ref hh, .ref hr, .ref hg, .ref hq, .ref hl, .int iS, .int eA, .int fA]))], stW G h ah as_ rr ra (sHm s) (sNb s) (sNs s) (sLa s) (sLo s) (sNu s) (sTn s) (sSh s), rbW G hr hp ap av he aw al af as3 ar E])
      refine V.astore_n hC dL_unfitShares_12 [some (.ref fs), some (.int x), some (.ref out), some (.ref qx)] (Nat.le_of_ble_eq_true rfl) rfl ?_
      refine V.iconst hC 1 dL_unfitShares_13 rfl ?_
      exact hE 14 _ 1 (g, E) dL_unfitShares_14 rfl ⟨(congrArg (fun z : Nat × Int32 => nI z.1) hq_).symm, fun z => absurd z (by decide), hok⟩
    · refine VX.catch hC (E := "java/lang/IllegalStateException") (name := "java/lang/IllegalStateException") _ htab [⟨0, 9, 12, 30⟩] ⟨0, 9, 15, 15⟩ [] rfl (List.forall_mem_cons.mpr ⟨Or.inr ⟨by decide, _, (hx_in hx9_30), hSFt.nc _ _ (by decide) (by decide) (by decide)⟩, (fun z hz => absurd hz List.not_mem_nil)⟩) rfl (by decide) (hx_in hx9_15) (hSFt.ca _ (by decide)) (fun qx => ?_)
      show V G K 4 2 12 15 [some (.ref fs), some (.int x), some (.ref out), none] [.ref qx] (flt [[(out, .inl (gJ G, 1, .inr (.inl g)))], [(fs, .inr (12, [.ref h, .ref h2, .ref h3, .ref hh, .ref hr, .ref hg, .ref hq, .ref hl, .int iS, .int eA, .int fA]))], stW G h ah as_ rr ra (sHm s) (sNb s) (sNs s) (sLa s) (sLo s) (sNu s) (sTn s) (sSh s), rbW G hr hp ap av he aw al af as3 ar E])
      refine V.astore_n hC dL_unfitShares_15 [some (.ref fs), some (.int x), some (.ref out), some (.ref qx)] (Nat.le_of_ble_eq_true rfl) rfl ?_
      refine V.iconst hC 2 dL_unfitShares_16 rfl ?_
      exact hE 17 _ 2 (g, E) dL_unfitShares_17 rfl ⟨(congrArg (fun z : Nat × Int32 => nI z.1) hq_).symm, fun z => absurd z (by decide), hok⟩
  · refine V.reN (N := 4) [3, 0, 1, 2] [[(out, .inl (gJ G, 1, .inr (.inl g)))], [(fs, .inr (12, [.ref h, .ref h2, .ref h3, .ref hh, .ref hr, .ref hg, .ref hq, .ref hl, .int iS, .int eA, .int fA]))], stW G h ah as_ rr ra (sHm s) (sNb s) (sNs s) (sLa s) (sLo s) (sNu s) (sTn s) (sSh s), rbW G hr hp ap av he aw al af as3 ar u_4] rfl (by decide) rfl ?_
    show V G K 4 2 12 7 [some (.ref fs), some (.int x), some (.ref out), none] [.int r_4, .int 0, .ref out] (flt [[(out, .inl (gJ G, 1, .inr (.inl g)))], [(fs, .inr (12, [.ref h, .ref h2, .ref h3, .ref hh, .ref hr, .ref hg, .ref hq, .ref hl, .int iS, .int eA, .int fA]))], stW G h ah as_ rr ra (sHm s) (sNb s) (sNs s) (sLa s) (sLo s) (sNu s) (sTn s) (sSh s), rbW G hr hp ap av he aw al af as3 ar u_4])
    refine V.i2l hC dL_unfitShares_7 ?_
    refine V.last hC dL_unfitShares_8 (0) rfl 0 rfl (by omega) (by decide) (flt [[(out, .inl (gJ G, 1, .inr (.inl (vp_updL g 0 ((r_4).toInt64)))))], [(fs, .inr (12, [.ref h, .ref h2, .ref h3, .ref hh, .ref hr, .ref hg, .ref hq, .ref hl, .int iS, .int eA, .int fA]))], stW G h ah as_ rr ra (sHm s) (sNb s) (sNs s) (sLa s) (sLo s) (sNu s) (sTn s) (sSh s), rbW G hr hp ap av he aw al af as3 ar u_4]) rfl ?_
    refine V.goto hC 18 dL_unfitShares_9 rfl ?_
    refine V.iconst hC 0 dL_unfitShares_18 rfl ?_
    exact hE 19 _ 0 (vp_updL g 0 ((r_4).toInt64), u_4) dL_unfitShares_19 rfl ⟨(congrArg (fun z : Nat × Int32 => nI z.1) hp_4.1).symm, (fun _ => (show (vp_updL g 0 ((r_4).toInt64)) 0 = _ from upL0).trans (congrArg (fun z : Nat × Int32 => z.2.toInt64) hp_4.1).symm), hp_4.2⟩

set_option maxHeartbeats 4000000 in
set_option maxRecDepth 100000 in
theorem w_leastUnfitShares (l : Launch) (G : Gx) (hst : l.stackTraces = false) (fs h h2 h3 hh hr hg hq hl : Nat) (iS eA fA : Int32) (ah as_ : Nat) (rr ra : Nat → Nat) (s : ASt) (B : Nat) (hI : InvA B s) (hp ap av he aw al af as3 : Nat) (ar : Nat → Nat) (E : Scr) (hok : Sok E) (x : Int32) (out : Nat) (g : Nat → Int64) : CtX l G (SFt G) yL_leastUnfitShares (wsL_leastUnfitShares ++ hx9) ({ frames := 9, cells := 2, slots := 12, locals := 147 }) [.ref fs, .int x, .ref out] (flt [[(out, .inl (gJ G, 1, .inr (.inl g)))], [(fs, .inr (12, [.ref h, .ref h2, .ref h3, .ref hh, .ref hr, .ref hg, .ref hq, .ref hl, .int iS, .int eA, .int fA]))], stW G h ah as_ rr ra (sHm s) (sNb s) (sNs s) (sLa s) (sLo s) (sNu s) (sTn s) (sSh s), rbW G hr hp ap av he aw al af as3 ar E]) mkI (fun (k : Int32) (u : (Nat → Int64) × Scr) => k = nI (qLeast s x).1 ∧ (k = 0 → u.1 0 = (qLeast s x).2.toInt64) ∧ Sok u.2) (fun u : (Nat → Int64) × Scr => flt [[(out, .inl (gJ G, 1, .inr (.inl (u.1))))], [(fs, .inr (12, [.ref h, .ref h2, .ref h3, .ref hh, .ref hr, .ref hg, .ref hq, .ref hl, .int iS, .int eA, .int fA]))], stW G h ah as_ rr ra (sHm s) (sNb s) (sNs s) (sLa s) (sLo s) (sNu s) (sTn s) (sSh s), rbW G hr hp ap av he aw al af as3 ar u.2]) (fun (_ : String) (_ : Unit) => False) (fun _ : Unit => (flt [[(out, .inl (gJ G, 1, .inr (.inl g)))], [(fs, .inr (12, [.ref h, .ref h2, .ref h3, .ref hh, .ref hr, .ref hg, .ref hq, .ref hl, .int iS, .int eA, .int fA]))], stW G h ah as_ rr ra (sHm s) (sNb s) (sNs s) (sLa s) (sLo s) (sNu s) (sTn s) (sSh s), rbW G hr hp ap av he aw al af as3 ar E])) 2 12 := by
  refine CtX.ofIW (hh := [(0, 9, 12, 30), (0, 9, 15, 15)]) (cc := cL_leastUnfitShares) (maxL := 4) (by decide) rfl ⟨by simp [Value.category], Nat.le_of_ble_eq_true rfl⟩ ?_
  intro K hl hC hSF hnm htab hE
  subst hl
  have hgot := SFgoS (SFt.k G) hSF
  have hgo := SFgo.x hgot
  have hSFt := hSF
  replace hSF := hSF.1
  show V G K 4 0 0 0 [some (.ref fs), some (.int x), some (.ref out), none] [] (flt [[(out, .inl (gJ G, 1, .inr (.inl g)))], [(fs, .inr (12, [.ref h, .ref h2, .ref h3, .ref hh, .ref hr, .ref hg, .ref hq, .ref hl, .int iS, .int eA, .int fA]))], stW G h ah as_ rr ra (sHm s) (sNb s) (sNs s) (sLa s) (sLo s) (sNu s) (sTn s) (sSh s), rbW G hr hp ap av he aw al af as3 ar E])
  refine V.aload_n hC (x := out) dL_leastUnfitShares_0 rfl ?_
  refine V.iconst hC 0 dL_leastUnfitShares_1 rfl ?_
  refine V.aload_n hC (x := fs) dL_leastUnfitShares_2 rfl ?_
  refine V.iload_n hC (x := x) dL_leastUnfitShares_3 rfl ?_
  refine V.callVBXN (n := 1) (As := [.int x]) (rest := [.int 0, .ref out]) hC (q_least (kl K) G hst fs h h2 h3 hh hr hg hq hl iS eA fA ah as_ rr ra s B hI hp ap av he aw al af as3 ar E hok x) (SFt.k G) hgot (gx1 gL_leastUnfitShares_X12_leastUnfitShares) rfl ⟨rfl, rfl⟩ (by decide +kernel) ⟨by decide, by decide, by decide, by decide⟩ (L := [[(out, .inl (gJ G, 1, .inr (.inl g)))], [(fs, .inr (12, [.ref h, .ref h2, .ref h3, .ref hh, .ref hr, .ref hg, .ref hq, .ref hl, .int iS, .int eA, .int fA]))], stW G h ah as_ rr ra (sHm s) (sNb s) (sNs s) (sLa s) (sLo s) (sNu s) (sTn s) (sSh s), rbW G hr hp ap av he aw al af as3 ar E]) (N := 4) rfl [1, 2, 3] [0] (by decide) rfl (fun u : Scr => [[(fs, .inr (12, [.ref h, .ref h2, .ref h3, .ref hh, .ref hr, .ref hg, .ref hq, .ref hl, .int iS, .int eA, .int fA]))], stW G h ah as_ rr ra (sHm s) (sNb s) (sNs s) (sLa s) (sLo s) (sNu s) (sTn s) (sSh s), rbW G hr hp ap av he aw al af as3 ar u]) (fun _ => rfl) (fun _ : Unit => [[(fs, .inr (12, [.ref h, .ref h2, .ref h3, .ref hh, .ref hr, .ref hg, .ref hq, .ref hl, .int iS, .int eA, .int fA]))], stW G h ah as_ rr ra (sHm s) (sNb s) (sNs s) (sLa s) (sLo s) (sNu s) (sTn s) (sSh s), rbW G hr hp ap av he aw al af as3 ar E]) (fun _ => rfl) rfl rfl rfl rfl (Nat.le_of_ble_eq_true rfl) dL_leastUnfitShares_4 (fun E_ u_ hx_ => ?_) (fun r_4 u_4 hp_4 => ?_)
  · refine VX.reN (N := 4) [3, 0, 1, 2] [[(out, .inl (gJ G, 1, .inr (.inl g)))], [(fs, .inr (12, [.ref h, .ref h2, .ref h3, .ref hh, .ref hr, .ref hg, .ref hq, .ref hl, .int iS, .int eA, .int fA]))], stW G h ah as_ rr ra (sHm s) (sNb s) (sNs s) (sLa s) (sLo s) (sNu s) (sTn s) (sSh s), rbW G hr hp ap av he aw al af as3 ar E] rfl (by decide) rfl ?_
    obtain ⟨j, hj, hq_, hE_⟩ := hx_
    have hj2 : j < 2 := hj
    subst hE_
    obtain rfl | rfl : j = 0 ∨ j = 1 := by omega
    · refine VX.catch hC (E := "java/util/NoSuchElementException") (name := "java/util/NoSuchElementException") _ htab [] ⟨0, 9, 12, 30⟩ [⟨0, 9, 15, 15⟩] rfl (fun z hz => absurd hz List.not_mem_nil) rfl (by decide) (hx_in hx9_30) (hSFt.ca _ (by decide)) (fun qx => ?_)
      show V G K 4 2 12 12 [some (.ref fs), some (.int x), some (.ref out), none] [.ref qx] (flt [[(out, .inl (gJ G, 1, .inr (.inl g)))], [(fs, .inr (12, [.ref h, .ref h2, .ref h3, .ref hh, .ref hr, .ref hg, .ref hq, .ref hl, .int iS, .int eA, .int fA]))], stW G h ah as_ rr ra (sHm s) (sNb s) (sNs s) (sLa s) (sLo s) (sNu s) (sTn s) (sSh s), rbW G hr hp ap av he aw al af as3 ar E])
      refine V.astore_n hC dL_leastUnfitShares_12 [some (.ref fs), some (.int x), some (.ref out), some (.ref qx)] (Nat.le_of_ble_eq_true rfl) rfl ?_
      refine V.iconst hC 1 dL_leastUnfitShares_13 rfl ?_
      exact hE 14 _ 1 (g, E) dL_leastUnfitShares_14 rfl ⟨(congrArg (fun z : Nat × Int32 => nI z.1) hq_).symm, fun z => absurd z (by decide), hok⟩
    · refine VX.catch hC (E := "java/lang/IllegalStateException") (name := "java/lang/IllegalStateException") _ htab [⟨0, 9, 12, 30⟩] ⟨0, 9, 15, 15⟩ [] rfl (List.forall_mem_cons.mpr ⟨Or.inr ⟨by decide, _, (hx_in hx9_30), hSFt.nc _ _ (by decide) (by decide) (by decide)⟩, (fun z hz => absurd hz List.not_mem_nil)⟩) rfl (by decide) (hx_in hx9_15) (hSFt.ca _ (by decide)) (fun qx => ?_)
      show V G K 4 2 12 15 [some (.ref fs), some (.int x), some (.ref out), none] [.ref qx] (flt [[(out, .inl (gJ G, 1, .inr (.inl g)))], [(fs, .inr (12, [.ref h, .ref h2, .ref h3, .ref hh, .ref hr, .ref hg, .ref hq, .ref hl, .int iS, .int eA, .int fA]))], stW G h ah as_ rr ra (sHm s) (sNb s) (sNs s) (sLa s) (sLo s) (sNu s) (sTn s) (sSh s), rbW G hr hp ap av he aw al af as3 ar E])
      refine V.astore_n hC dL_leastUnfitShares_15 [some (.ref fs), some (.int x), some (.ref out), some (.ref qx)] (Nat.le_of_ble_eq_true rfl) rfl ?_
      refine V.iconst hC 2 dL_leastUnfitShares_16 rfl ?_
      exact hE 17 _ 2 (g, E) dL_leastUnfitShares_17 rfl ⟨(congrArg (fun z : Nat × Int32 => nI z.1) hq_).symm, fun z => absurd z (by decide), hok⟩
  · refine V.reN (N := 4) [3, 0, 1, 2] [[(out, .inl (gJ G, 1, .inr (.inl g)))], [(fs, .inr (12, [.ref h, .ref h2, .ref h3, .ref hh, .ref hr, .ref hg, .ref hq, .ref hl, .int iS, .int eA, .int fA]))], stW G h ah as_ rr ra (sHm s) (sNb s) (sNs s) (sLa s) (sLo s) (sNu s) (sTn s) (sSh s), rbW G hr hp ap av he aw al af as3 ar u_4] rfl (by decide) rfl ?_
    show V G K 4 2 12 7 [some (.ref fs), some (.int x), some (.ref out), none] [.int r_4, .int 0, .ref out] (flt [[(out, .inl (gJ G, 1, .inr (.inl g)))], [(fs, .inr (12, [.ref h, .ref h2, .ref h3, .ref hh, .ref hr, .ref hg, .ref hq, .ref hl, .int iS, .int eA, .int fA]))], stW G h ah as_ rr ra (sHm s) (sNb s) (sNs s) (sLa s) (sLo s) (sNu s) (sTn s) (sSh s), rbW G hr hp ap av he aw al af as3 ar u_4])
    refine V.i2l hC dL_leastUnfitShares_7 ?_
    refine V.last hC dL_leastUnfitShares_8 (0) rfl 0 rfl (by omega) (by decide) (flt [[(out, .inl (gJ G, 1, .inr (.inl (vp_updL g 0 ((r_4).toInt64)))))], [(fs, .inr (12, [.ref h, .ref h2, .ref h3, .ref hh, .ref hr, .ref hg, .ref hq, .ref hl, .int iS, .int eA, .int fA]))], stW G h ah as_ rr ra (sHm s) (sNb s) (sNs s) (sLa s) (sLo s) (sNu s) (sTn s) (sSh s), rbW G hr hp ap av he aw al af as3 ar u_4]) rfl ?_
    refine V.goto hC 18 dL_leastUnfitShares_9 rfl ?_
    refine V.iconst hC 0 dL_leastUnfitShares_18 rfl ?_
    exact hE 19 _ 0 (vp_updL g 0 ((r_4).toInt64), u_4) dL_leastUnfitShares_19 rfl ⟨(congrArg (fun z : Nat × Int32 => nI z.1) hp_4.1).symm, (fun _ => (show (vp_updL g 0 ((r_4).toInt64)) 0 = _ from upL0).trans (congrArg (fun z : Nat × Int32 => z.2.toInt64) hp_4.1).symm), hp_4.2⟩

set_option maxHeartbeats 4000000 in
set_option maxRecDepth 100000 in
theorem w_possibleValues (l : Launch) (G : Gx) (hst : l.stackTraces = false) (fs h h2 h3 hh hr hg hq hl : Nat) (iS eA fA : Int32) (ah as_ : Nat) (rr ra : Nat → Nat) (s : ASt) (B : Nat) (hI : InvA B s) (hp ap av he aw al af as3 : Nat) (ar : Nat → Nat) (E : Scr) (hok : Sok E) (x y : Int32) (out : Nat) (g : Nat → Int64) : CtX l G (SFt G) yL_possibleValues (wsL_possibleValues ++ hx9) ({ frames := 9, cells := 2, slots := 12, locals := 149 }) [.ref fs, .int x, .int y, .ref out] (flt [[(out, .inl (gJ G, 1, .inr (.inl g)))], [(fs, .inr (12, [.ref h, .ref h2, .ref h3, .ref hh, .ref hr, .ref hg, .ref hq, .ref hl, .int iS, .int eA, .int fA]))], stW G h ah as_ rr ra (sHm s) (sNb s) (sNs s) (sLa s) (sLo s) (sNu s) (sTn s) (sSh s), rbW G hr hp ap av he aw al af as3 ar E]) mkI (fun (k : Int32) (u : (Nat → Int64) × Scr) => k = nI (qPoss s x y).1 ∧ (k = 0 → u.1 0 = (qPoss s x y).2.toInt64) ∧ Sok u.2) (fun u : (Nat → Int64) × Scr => flt [[(out, .inl (gJ G, 1, .inr (.inl (u.1))))], [(fs, .inr (12, [.ref h, .ref h2, .ref h3, .ref hh, .ref hr, .ref hg, .ref hq, .ref hl, .int iS, .int eA, .int fA]))], stW G h ah as_ rr ra (sHm s) (sNb s) (sNs s) (sLa s) (sLo s) (sNu s) (sTn s) (sSh s), rbW G hr hp ap av he aw al af as3 ar u.2]) (fun (_ : String) (_ : Unit) => False) (fun _ : Unit => (flt [[(out, .inl (gJ G, 1, .inr (.inl g)))], [(fs, .inr (12, [.ref h, .ref h2, .ref h3, .ref hh, .ref hr, .ref hg, .ref hq, .ref hl, .int iS, .int eA, .int fA]))], stW G h ah as_ rr ra (sHm s) (sNb s) (sNs s) (sLa s) (sLo s) (sNu s) (sTn s) (sSh s), rbW G hr hp ap av he aw al af as3 ar E])) 2 12 := by
  refine CtX.ofIW (hh := [(0, 10, 13, 30), (0, 10, 17, 13)]) (cc := cL_possibleValues) (maxL := 5) (by decide) rfl ⟨by simp [Value.category], Nat.le_of_ble_eq_true rfl⟩ ?_
  intro K hl hC hSF hnm htab hE
  subst hl
  have hgot := SFgoS (SFt.k G) hSF
  have hgo := SFgo.x hgot
  have hSFt := hSF
  replace hSF := hSF.1
  show V G K 5 0 0 0 [some (.ref fs), some (.int x), some (.int y), some (.ref out), none] [] (flt [[(out, .inl (gJ G, 1, .inr (.inl g)))], [(fs, .inr (12, [.ref h, .ref h2, .ref h3, .ref hh, .ref hr, .ref hg, .ref hq, .ref hl, .int iS, .int eA, .int fA]))], stW G h ah as_ rr ra (sHm s) (sNb s) (sNs s) (sLa s) (sLo s) (sNu s) (sTn s) (sSh s), rbW G hr hp ap av he aw al af as3 ar E])
  refine V.aload_n hC (x := out) dL_possibleValues_0 rfl ?_
  refine V.iconst hC 0 dL_possibleValues_1 rfl ?_
  refine V.aload_n hC (x := fs) dL_possibleValues_2 rfl ?_
  refine V.iload_n hC (x := x) dL_possibleValues_3 rfl ?_
  refine V.iload_n hC (x := y) dL_possibleValues_4 rfl ?_
  refine V.callVBXN (n := 2) (As := [.int x, .int y]) (rest := [.int 0, .ref out]) hC (q_possible (kl K) G hst fs h h2 h3 hh hr hg hq hl iS eA fA ah as_ rr ra s B hI hp ap av he aw al af as3 ar E hok x y) (SFt.k G) hgot (gx1 gL_possibleValues_X12_possibleValues) rfl ⟨rfl, rfl⟩ (by decide +kernel) ⟨by decide, by decide, by decide, by decide⟩ (L := [[(out, .inl (gJ G, 1, .inr (.inl g)))], [(fs, .inr (12, [.ref h, .ref h2, .ref h3, .ref hh, .ref hr, .ref hg, .ref hq, .ref hl, .int iS, .int eA, .int fA]))], stW G h ah as_ rr ra (sHm s) (sNb s) (sNs s) (sLa s) (sLo s) (sNu s) (sTn s) (sSh s), rbW G hr hp ap av he aw al af as3 ar E]) (N := 4) rfl [1, 2, 3] [0] (by decide) rfl (fun u : Scr => [[(fs, .inr (12, [.ref h, .ref h2, .ref h3, .ref hh, .ref hr, .ref hg, .ref hq, .ref hl, .int iS, .int eA, .int fA]))], stW G h ah as_ rr ra (sHm s) (sNb s) (sNs s) (sLa s) (sLo s) (sNu s) (sTn s) (sSh s), rbW G hr hp ap av he aw al af as3 ar u]) (fun _ => rfl) (fun _ : Unit => [[(fs, .inr (12, [.ref h, .ref h2, .ref h3, .ref hh, .ref hr, .ref hg, .ref hq, .ref hl, .int iS, .int eA, .int fA]))], stW G h ah as_ rr ra (sHm s) (sNb s) (sNs s) (sLa s) (sLo s) (sNu s) (sTn s) (sSh s), rbW G hr hp ap av he aw al af as3 ar E]) (fun _ => rfl) rfl rfl rfl rfl (Nat.le_of_ble_eq_true rfl) dL_possibleValues_5 (fun E_ u_ hx_ => ?_) (fun r_5 u_5 hp_5 => ?_)
  · refine VX.reN (N := 4) [3, 0, 1, 2] [[(out, .inl (gJ G, 1, .inr (.inl g)))], [(fs, .inr (12, [.ref h, .ref h2, .ref h3, .ref hh, .ref hr, .ref hg, .ref hq, .ref hl, .int iS, .int eA, .int fA]))], stW G h ah as_ rr ra (sHm s) (sNb s) (sNs s) (sLa s) (sLo s) (sNu s) (sTn s) (sSh s), rbW G hr hp ap av he aw al af as3 ar E] rfl (by decide) rfl ?_
    obtain ⟨j, hj, hq_, hE_⟩ := hx_
    have hj2 : j < 2 := hj
    subst hE_
    obtain rfl | rfl : j = 0 ∨ j = 1 := by omega
    · refine VX.catch hC (E := "java/util/NoSuchElementException") (name := "java/util/NoSuchElementException") _ htab [] ⟨0, 10, 13, 30⟩ [⟨0, 10, 17, 13⟩] rfl (fun z hz => absurd hz List.not_mem_nil) rfl (by decide) (hx_in hx9_30) (hSFt.ca _ (by decide)) (fun qx => ?_)
      show V G K 5 2 12 13 [some (.ref fs), some (.int x), some (.int y), some (.ref out), none] [.ref qx] (flt [[(out, .inl (gJ G, 1, .inr (.inl g)))], [(fs, .inr (12, [.ref h, .ref h2, .ref h3, .ref hh, .ref hr, .ref hg, .ref hq, .ref hl, .int iS, .int eA, .int fA]))], stW G h ah as_ rr ra (sHm s) (sNb s) (sNs s) (sLa s) (sLo s) (sNu s) (sTn s) (sSh s), rbW G hr hp ap av he aw al af as3 ar E])
      refine V.astore hC dL_possibleValues_13 [some (.ref fs), some (.int x), some (.int y), some (.ref out), some (.ref qx)] (Nat.le_of_ble_eq_true rfl) rfl ?_
      refine V.iconst hC 1 dL_possibleValues_15 rfl ?_
      exact hE 16 _ 1 (g, E) dL_possibleValues_16 rfl ⟨(congrArg (fun z : Nat × Int32 => nI z.1) hq_).symm, fun z => absurd z (by decide), hok⟩
    · refine VX.catch hC (E := "java/lang/IllegalArgumentException") (name := "java/lang/IllegalArgumentException") _ htab [⟨0, 10, 13, 30⟩] ⟨0, 10, 17, 13⟩ [] rfl (List.forall_mem_cons.mpr ⟨Or.inr ⟨by decide, _, (hx_in hx9_30), hSFt.nc _ _ (by decide) (by decide) (by decide)⟩, (fun z hz => absurd hz List.not_mem_nil)⟩) rfl (by decide) (hx_in hx9_13) (hSFt.ca _ (by decide)) (fun qx => ?_)
      show V G K 5 2 12 17 [some (.ref fs), some (.int x), some (.int y), some (.ref out), none] [.ref qx] (flt [[(out, .inl (gJ G, 1, .inr (.inl g)))], [(fs, .inr (12, [.ref h, .ref h2, .ref h3, .ref hh, .ref hr, .ref hg, .ref hq, .ref hl, .int iS, .int eA, .int fA]))], stW G h ah as_ rr ra (sHm s) (sNb s) (sNs s) (sLa s) (sLo s) (sNu s) (sTn s) (sSh s), rbW G hr hp ap av he aw al af as3 ar E])
      refine V.astore hC dL_possibleValues_17 [some (.ref fs), some (.int x), some (.int y), some (.ref out), some (.ref qx)] (Nat.le_of_ble_eq_true rfl) rfl ?_
      refine V.iconst hC 2 dL_possibleValues_19 rfl ?_
      exact hE 20 _ 2 (g, E) dL_possibleValues_20 rfl ⟨(congrArg (fun z : Nat × Int32 => nI z.1) hq_).symm, fun z => absurd z (by decide), hok⟩
  · refine V.reN (N := 4) [3, 0, 1, 2] [[(out, .inl (gJ G, 1, .inr (.inl g)))], [(fs, .inr (12, [.ref h, .ref h2, .ref h3, .ref hh, .ref hr, .ref hg, .ref hq, .ref hl, .int iS, .int eA, .int fA]))], stW G h ah as_ rr ra (sHm s) (sNb s) (sNs s) (sLa s) (sLo s) (sNu s) (sTn s) (sSh s), rbW G hr hp ap av he aw al af as3 ar u_5] rfl (by decide) rfl ?_
    show V G K 5 2 12 8 [some (.ref fs), some (.int x), some (.int y), some (.ref out), none] [.int r_5, .int 0, .ref out] (flt [[(out, .inl (gJ G, 1, .inr (.inl g)))], [(fs, .inr (12, [.ref h, .ref h2, .ref h3, .ref hh, .ref hr, .ref hg, .ref hq, .ref hl, .int iS, .int eA, .int fA]))], stW G h ah as_ rr ra (sHm s) (sNb s) (sNs s) (sLa s) (sLo s) (sNu s) (sTn s) (sSh s), rbW G hr hp ap av he aw al af as3 ar u_5])
    refine V.i2l hC dL_possibleValues_8 ?_
    refine V.last hC dL_possibleValues_9 (0) rfl 0 rfl (by omega) (by decide) (flt [[(out, .inl (gJ G, 1, .inr (.inl (vp_updL g 0 ((r_5).toInt64)))))], [(fs, .inr (12, [.ref h, .ref h2, .ref h3, .ref hh, .ref hr, .ref hg, .ref hq, .ref hl, .int iS, .int eA, .int fA]))], stW G h ah as_ rr ra (sHm s) (sNb s) (sNs s) (sLa s) (sLo s) (sNu s) (sTn s) (sSh s), rbW G hr hp ap av he aw al af as3 ar u_5]) rfl ?_
    refine V.goto hC 21 dL_possibleValues_10 rfl ?_
    refine V.iconst hC 0 dL_possibleValues_21 rfl ?_
    exact hE 22 _ 0 (vp_updL g 0 ((r_5).toInt64), u_5) dL_possibleValues_22 rfl ⟨(congrArg (fun z : Nat × Int32 => nI z.1) hp_5.1).symm, (fun _ => (show (vp_updL g 0 ((r_5).toInt64)) 0 = _ from upL0).trans (congrArg (fun z : Nat × Int32 => z.2.toInt64) hp_5.1).symm), hp_5.2⟩

set_option maxHeartbeats 4000000 in
set_option maxRecDepth 100000 in
theorem w_possibleValuesByTrying (l : Launch) (G : Gx) (hst : l.stackTraces = false) (fs h h2 h3 hh hr hg hq hl : Nat) (iS eA fA : Int32) (ah as_ : Nat) (rr ra : Nat → Nat) (s : ASt) (B : Nat) (hI : InvA B s) (hp ap av he aw al af as3 : Nat) (ar : Nat → Nat) (E : Scr) (hok : Sok E) (x y : Int32) (out : Nat) (g : Nat → Int64) : CtX l G (SFt G) yL_possibleValuesByTrying (wsL_possibleValuesByTrying ++ hx9) ({ frames := 9, cells := 2, slots := 12, locals := 149 }) [.ref fs, .int x, .int y, .ref out] (flt [[(out, .inl (gJ G, 1, .inr (.inl g)))], [(fs, .inr (12, [.ref h, .ref h2, .ref h3, .ref hh, .ref hr, .ref hg, .ref hq, .ref hl, .int iS, .int eA, .int fA]))], stW G h ah as_ rr ra (sHm s) (sNb s) (sNs s) (sLa s) (sLo s) (sNu s) (sTn s) (sSh s), rbW G hr hp ap av he aw al af as3 ar E]) mkI (fun (k : Int32) (u : (Nat → Int64) × Scr) => k = nI (qPoss s x y).1 ∧ (k = 0 → u.1 0 = (qPoss s x y).2.toInt64) ∧ Sok u.2) (fun u : (Nat → Int64) × Scr => flt [[(out, .inl (gJ G, 1, .inr (.inl (u.1))))], [(fs, .inr (12, [.ref h, .ref h2, .ref h3, .ref hh, .ref hr, .ref hg, .ref hq, .ref hl, .int iS, .int eA, .int fA]))], stW G h ah as_ rr ra (sHm s) (sNb s) (sNs s) (sLa s) (sLo s) (sNu s) (sTn s) (sSh s), rbW G hr hp ap av he aw al af as3 ar u.2]) (fun (_ : String) (_ : Unit) => False) (fun _ : Unit => (flt [[(out, .inl (gJ G, 1, .inr (.inl g)))], [(fs, .inr (12, [.ref h, .ref h2, .ref h3, .ref hh, .ref hr, .ref hg, .ref hq, .ref hl, .int iS, .int eA, .int fA]))], stW G h ah as_ rr ra (sHm s) (sNb s) (sNs s) (sLa s) (sLo s) (sNu s) (sTn s) (sSh s), rbW G hr hp ap av he aw al af as3 ar E])) 2 12 := by
  refine CtX.ofIW (hh := [(0, 10, 13, 30), (0, 10, 17, 13)]) (cc := cL_possibleValuesByTrying) (maxL := 5) (by decide) rfl ⟨by simp [Value.category], Nat.le_of_ble_eq_true rfl⟩ ?_
  intro K hl hC hSF hnm htab hE
  subst hl
  have hgot := SFgoS (SFt.k G) hSF
  have hgo := SFgo.x hgot
  have hSFt := hSF
  replace hSF := hSF.1
  show V G K 5 0 0 0 [some (.ref fs), some (.int x), some (.int y), some (.ref out), none] [] (flt [[(out, .inl (gJ G, 1, .inr (.inl g)))], [(fs, .inr (12, [.ref h, .ref h2, .ref h3, .ref hh, .ref hr, .ref hg, .ref hq, .ref hl, .int iS, .int eA, .int fA]))], stW G h ah as_ rr ra (sHm s) (sNb s) (sNs s) (sLa s) (sLo s) (sNu s) (sTn s) (sSh s), rbW G hr hp ap av he aw al af as3 ar E])
  refine V.aload_n hC (x := out) dL_possibleValuesByTrying_0 rfl ?_
  refine V.iconst hC 0 dL_possibleValuesByTrying_1 rfl ?_
  refine V.aload_n hC (x := fs) dL_possibleValuesByTrying_2 rfl ?_
  refine V.iload_n hC (x := x) dL_possibleValuesByTrying_3 rfl ?_
  refine V.iload_n hC (x := y) dL_possibleValuesByTrying_4 rfl ?_
  refine V.callVBXN (n := 2) (As := [.int x, .int y]) (rest := [.int 0, .ref out]) hC (q_possibleT (kl K) G hst fs h h2 h3 hh hr hg hq hl iS eA fA ah as_ rr ra s B hI hp ap av he aw al af as3 ar E hok x y) (SFt.k G) hgot (gx1 gL_possibleValuesByTrying_X12_possibleValuesByTrying) rfl ⟨rfl, rfl⟩ (by decide +kernel) ⟨by decide, by decide, by decide, by decide⟩ (L := [[(out, .inl (gJ G, 1, .inr (.inl g)))], [(fs, .inr (12, [.ref h, .ref h2, .ref h3, .ref hh, .ref hr, .ref hg, .ref hq, .ref hl, .int iS, .int eA, .int fA]))], stW G h ah as_ rr ra (sHm s) (sNb s) (sNs s) (sLa s) (sLo s) (sNu s) (sTn s) (sSh s), rbW G hr hp ap av he aw al af as3 ar E]) (N := 4) rfl [1, 2, 3] [0] (by decide) rfl (fun u : Scr => [[(fs, .inr (12, [.ref h, .ref h2, .ref h3, .ref hh, .ref hr, .ref hg, .ref hq, .ref hl, .int iS, .int eA, .int fA]))], stW G h ah as_ rr ra (sHm s) (sNb s) (sNs s) (sLa s) (sLo s) (sNu s) (sTn s) (sSh s), rbW G hr hp ap av he aw al af as3 ar u]) (fun _ => rfl) (fun _ : Unit => [[(fs, .inr (12, [.ref h, .ref h2, .ref h3, .ref hh, .ref hr, .ref hg, .ref hq, .ref hl, .int iS, .int eA, .int fA]))], stW G h ah as_ rr ra (sHm s) (sNb s) (sNs s) (sLa s) (sLo s) (sNu s) (sTn s) (sSh s), rbW G hr hp ap av he aw al af as3 ar E]) (fun _ => rfl) rfl rfl rfl rfl (Nat.le_of_ble_eq_true rfl) dL_possibleValuesByTrying_5 (fun E_ u_ hx_ => ?_) (fun r_5 u_5 hp_5 => ?_)
  · refine VX.reN (N := 4) [3, 0, 1, 2] [[(out, .inl (gJ G, 1, .inr (.inl g)))], [(fs, .inr (12, [.ref h, .ref h2, .ref h3, .ref hh, .ref hr, .ref hg, .ref hq, .ref hl, .int iS, .int eA, .int fA]))], stW G h ah as_ rr ra (sHm s) (sNb s) (sNs s) (sLa s) (sLo s) (sNu s) (sTn s) (sSh s), rbW G hr hp ap av he aw al af as3 ar E] rfl (by decide) rfl ?_
    obtain ⟨j, hj, hq_, hE_⟩ := hx_
    have hj2 : j < 2 := hj
    subst hE_
    obtain rfl | rfl : j = 0 ∨ j = 1 := by omega
    · refine VX.catch hC (E := "java/util/NoSuchElementException") (name := "java/util/NoSuchElementException") _ htab [] ⟨0, 10, 13, 30⟩ [⟨0, 10, 17, 13⟩] rfl (fun z hz => absurd hz List.not_mem_nil) rfl (by decide) (hx_in hx9_30) (hSFt.ca _ (by decide)) (fun qx => ?_)
      show V G K 5 2 12 13 [some (.ref fs), some (.int x), some (.int y), some (.ref out), none] [.ref qx] (flt [[(out, .inl (gJ G, 1, .inr (.inl g)))], [(fs, .inr (12, [.ref h, .ref h2, .ref h3, .ref hh, .ref hr, .ref hg, .ref hq, .ref hl, .int iS, .int eA, .int fA]))], stW G h ah as_ rr ra (sHm s) (sNb s) (sNs s) (sLa s) (sLo s) (sNu s) (sTn s) (sSh s), rbW G hr hp ap av he aw al af as3 ar E])
      refine V.astore hC dL_possibleValuesByTrying_13 [some (.ref fs), some (.int x), some (.int y), some (.ref out), some (.ref qx)] (Nat.le_of_ble_eq_true rfl) rfl ?_
      refine V.iconst hC 1 dL_possibleValuesByTrying_15 rfl ?_
      exact hE 16 _ 1 (g, E) dL_possibleValuesByTrying_16 rfl ⟨(congrArg (fun z : Nat × Int32 => nI z.1) hq_).symm, fun z => absurd z (by decide), hok⟩
    · refine VX.catch hC (E := "java/lang/IllegalArgumentException") (name := "java/lang/IllegalArgumentException") _ htab [⟨0, 10, 13, 30⟩] ⟨0, 10, 17, 13⟩ [] rfl (List.forall_mem_cons.mpr ⟨Or.inr ⟨by decide, _, (hx_in hx9_30), hSFt.nc _ _ (by decide) (by decide) (by decide)⟩, (fun z hz => absurd hz List.not_mem_nil)⟩) rfl (by decide) (hx_in hx9_13) (hSFt.ca _ (by decide)) (fun qx => ?_)
      show V G K 5 2 12 17 [some (.ref fs), some (.int x), some (.int y), some (.ref out), none] [.ref qx] (flt [[(out, .inl (gJ G, 1, .inr (.inl g)))], [(fs, .inr (12, [.ref h, .ref h2, .ref h3, .ref hh, .ref hr, .ref hg, .ref hq, .ref hl, .int iS, .int eA, .int fA]))], stW G h ah as_ rr ra (sHm s) (sNb s) (sNs s) (sLa s) (sLo s) (sNu s) (sTn s) (sSh s), rbW G hr hp ap av he aw al af as3 ar E])
      refine V.astore hC dL_possibleValuesByTrying_17 [some (.ref fs), some (.int x), some (.int y), some (.ref out), some (.ref qx)] (Nat.le_of_ble_eq_true rfl) rfl ?_
      refine V.iconst hC 2 dL_possibleValuesByTrying_19 rfl ?_
      exact hE 20 _ 2 (g, E) dL_possibleValuesByTrying_20 rfl ⟨(congrArg (fun z : Nat × Int32 => nI z.1) hq_).symm, fun z => absurd z (by decide), hok⟩
  · refine V.reN (N := 4) [3, 0, 1, 2] [[(out, .inl (gJ G, 1, .inr (.inl g)))], [(fs, .inr (12, [.ref h, .ref h2, .ref h3, .ref hh, .ref hr, .ref hg, .ref hq, .ref hl, .int iS, .int eA, .int fA]))], stW G h ah as_ rr ra (sHm s) (sNb s) (sNs s) (sLa s) (sLo s) (sNu s) (sTn s) (sSh s), rbW G hr hp ap av he aw al af as3 ar u_5] rfl (by decide) rfl ?_
    show V G K 5 2 12 8 [some (.ref fs), some (.int x), some (.int y), some (.ref out), none] [.int r_5, .int 0, .ref out] (flt [[(out, .inl (gJ G, 1, .inr (.inl g)))], [(fs, .inr (12, [.ref h, .ref h2, .ref h3, .ref hh, .ref hr, .ref hg, .ref hq, .ref hl, .int iS, .int eA, .int fA]))], stW G h ah as_ rr ra (sHm s) (sNb s) (sNs s) (sLa s) (sLo s) (sNu s) (sTn s) (sSh s), rbW G hr hp ap av he aw al af as3 ar u_5])
    refine V.i2l hC dL_possibleValuesByTrying_8 ?_
    refine V.last hC dL_possibleValuesByTrying_9 (0) rfl 0 rfl (by omega) (by decide) (flt [[(out, .inl (gJ G, 1, .inr (.inl (vp_updL g 0 ((r_5).toInt64)))))], [(fs, .inr (12, [.ref h, .ref h2, .ref h3, .ref hh, .ref hr, .ref hg, .ref hq, .ref hl, .int iS, .int eA, .int fA]))], stW G h ah as_ rr ra (sHm s) (sNb s) (sNs s) (sLa s) (sLo s) (sNu s) (sTn s) (sSh s), rbW G hr hp ap av he aw al af as3 ar u_5]) rfl ?_
    refine V.goto hC 21 dL_possibleValuesByTrying_10 rfl ?_
    refine V.iconst hC 0 dL_possibleValuesByTrying_21 rfl ?_
    exact hE 22 _ 0 (vp_updL g 0 ((r_5).toInt64), u_5) dL_possibleValuesByTrying_22 rfl ⟨(congrArg (fun z : Nat × Int32 => nI z.1) hp_5.1).symm, (fun _ => (show (vp_updL g 0 ((r_5).toInt64)) 0 = _ from upL0).trans (congrArg (fun z : Nat × Int32 => z.2.toInt64) hp_5.1).symm), hp_5.2⟩
