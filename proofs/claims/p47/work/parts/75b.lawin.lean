/-- a private method of a class above is what a call of it goes to -/
theorem sel_priv {C : String} {x2 y2 y : MethodName} {s : State} {args : Array Value} (hy : y.cls ≠ "java/lang/invoke/MethodHandle" ∧ y.cls ≠ "java/lang/invoke/VarHandle") (hs : (Cond.selects C x2 y2).before args s = true) (hc : y2.cls = y.cls)
    (hpriv : (Cond.privateMethod y).before args s = true) (hinst : (Cond.instanceMethod y).before args s = true) : (Cond.selects C y y).before args s = true := by
  obtain ⟨c, r, m, h1, h2, h3, h4, k, h5, h6⟩ := Cond.selects_spec hs
  obtain ⟨mk, methM, hnamed, hmethM, -, -⟩ := Cond.instanceMethod_spec hinst
  have hfound : s.methodFound? y.cls y.name y.desc = some mk := State.methodFound?_of_named hnamed hy
  have hcls : mk.cls = m.cls := by
    have a := findClass_of_methodNamed hnamed
    have b := findClass_of_methodNamed h3
    rw [hc, a] at b
    exact Option.some.inj b
  have hsel : selectMethod {} s.vm c mk = .method mk := selectMethod_private hmethM (Cond.privateMethod_at hpriv mk methM hnamed hmethM)
  simp only [Cond.before, Cond.holds, Cond.value, h1, hfound, hnamed, hsel, hcls, h5]
  simp
  exact h6
def lw_x3 : List Cond := [Cond.selects RJ4 yJ5_ensureCapacityInternal_d00df yJ5_ensureCapacityInternal_d00df, Cond.selects RJ4 yJ5_newCapacity_0f7a4 yJ5_newCapacity_0f7a4, Cond.selects RJ4 yJ5_appendNull_278bc yJ5_appendNull_278bc, Cond.selects RJ4 yJ5_putStringAt_47b60 yJ5_putStringAt_47b60, Cond.selects RJ4 yJ5_inflateIfNeededFor_a7421 yJ5_inflateIfNeededFor_a7421, Cond.selects RJ4 yJ5_inflate_da8c8 yJ5_inflate_da8c8]
def lw_tbl2 : List Cond := lw_x3 ++ lw_tbl
theorem tbl2 {w : Cond} (h : w ∈ lw_tbl) : w ∈ lw_tbl2 := List.mem_append.mpr (Or.inr h)
theorem lw_hts2 {args : Array Value} {s : State} (hts : ∀ w ∈ lw_tbl, w.before args s = true) : ∀ w ∈ lw_tbl2, w.before args s = true := by
  have key : ∀ y : MethodName, (y.cls ≠ "java/lang/invoke/MethodHandle" ∧ y.cls ≠ "java/lang/invoke/VarHandle") → RJ5 = y.cls → Cond.privateMethod y ∈ lw_tbl → Cond.instanceMethod y ∈ lw_tbl → (Cond.selects RJ4 y y).before args s = true := fun y h1 h2 h3 h4 =>
    sel_priv h1 (hts (Cond.selects RJ4 ⟨RJ5, "isLatin1", "()Z"⟩ ⟨RJ5, "isLatin1", "()Z"⟩) (by decide +kernel)) h2 (hts _ h3) (hts _ h4)
  refine List.forall_mem_append.mpr ⟨(List.forall_mem_cons.mpr ⟨key _ (by decide) rfl (by decide +kernel) (by decide +kernel), (List.forall_mem_cons.mpr ⟨key _ (by decide) rfl (by decide +kernel) (by decide +kernel), (List.forall_mem_cons.mpr ⟨key _ (by decide) rfl (by decide +kernel) (by decide +kernel), (List.forall_mem_cons.mpr ⟨key _ (by decide) rfl (by decide +kernel) (by decide +kernel), (List.forall_mem_cons.mpr ⟨key _ (by decide) rfl (by decide +kernel) (by decide +kernel), (List.forall_mem_cons.mpr ⟨key _ (by decide) rfl (by decide +kernel) (by decide +kernel), (fun w h => absurd h List.not_mem_nil)⟩)⟩)⟩)⟩)⟩)⟩), hts⟩
theorem wl_r22 : ∀ w ∈ wsL_law0_r22, w ∈ lw_tbl := fun w h => (goodIn_p wsL_law0_r22 [614, 621, 629, 633] (by decide +kernel) (by decide +kernel) w h).1
theorem wl_r23 : ∀ w ∈ wsL_law0_r23, w ∈ lw_tbl := fun w h => (goodIn_p wsL_law0_r23 [637, 645, 649, 653, 656, 660] (by decide +kernel) (by decide +kernel) w h).1
theorem wl_r24 : ∀ w ∈ wsL_law0_r24, w ∈ lw_tbl := fun w h => (goodIn_p wsL_law0_r24 [664, 668, 672, 676, 681, 686] (by decide +kernel) (by decide +kernel) w h).1
theorem wl_r25 : ∀ w ∈ wsL_law0_r25, w ∈ lw_tbl := fun w h => (goodIn_p wsL_law0_r25 [718, 724, 730, 736] (by decide +kernel) (by decide +kernel) w h).1
theorem wl_r26 : ∀ w ∈ wsL_law0_r26, w ∈ lw_tbl := fun w h => (goodIn_p wsL_law0_r26 [741, 746, 752, 758, 762] (by decide +kernel) (by decide +kernel) w h).1
theorem wl_r27 : ∀ w ∈ wsL_law0_r27, w ∈ lw_tbl := fun w h => (goodIn_p wsL_law0_r27 [766, 770, 776, 780] (by decide +kernel) (by decide +kernel) w h).1
theorem wl_r28 : ∀ w ∈ wsL_law0_r28, w ∈ lw_tbl := fun w h => (goodIn_p wsL_law0_r28 [784, 788, 793, 797, 800, 803] (by decide +kernel) (by decide +kernel) w h).1
theorem wl_r29 : ∀ w ∈ wsL_law0_r29, w ∈ lw_tbl := fun w h => (goodIn_p wsL_law0_r29 [808, 811, 814, 817, 821, 831] (by decide +kernel) (by decide +kernel) w h).1
theorem wl_r30 : ∀ w ∈ wsL_law0_r30, w ∈ lw_tbl := fun w h => (goodIn_p wsL_law0_r30 [835, 838, 845, 849, 855] (by decide +kernel) (by decide +kernel) w h).1
theorem wl_r31 : ∀ w ∈ wsL_law0_r31, w ∈ lw_tbl := fun w h => (goodIn_p wsL_law0_r31 [860, 865, 869, 310, 876, 880] (by decide +kernel) (by decide +kernel) w h).1
theorem wl_r32 : ∀ w ∈ wsL_law0_r32, w ∈ lw_tbl := fun w h => (goodIn_p wsL_law0_r32 [891, 894, 1084, 1088, 1092, 1097] (by decide +kernel) (by decide +kernel) w h).1
