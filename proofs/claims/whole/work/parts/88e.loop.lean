/-! the law's loop and its start (printed by gen/s88e.py) -/
theorem and63 (x : Int32) : ∃ q, q < 64 ∧ x &&& 63 = nI q := by
  refine ⟨(x.toBitVec &&& 63#32).toNat, ?_, ?_⟩
  · rw [BitVec.toNat_and]
    exact Nat.lt_of_le_of_lt Nat.and_le_right (by decide)
  · apply Int32.toBitVec_inj.mp
    show x.toBitVec &&& 63#32 = BitVec.ofNat 32 _
    rw [BitVec.ofNat_toNat, BitVec.setWidth_eq]
set_option maxHeartbeats 8000000 in
set_option maxRecDepth 100000 in
/-- the law's loop -/
theorem law_loop (G : Gx) (K : Cx) (out outD fs h h2 h3 hh hr hg hq hl ah as_ sa sb_ ba bs_ hp ap av he aw al af as3 ht tx ag m nw bf sv hy tm li nmb : Nat) (ar sr_ sq br bq hs ha hb : Nat → Nat) (hc hd : Nat → Nat → Nat) (sc len : Nat) (xs : Nat → Int32) (hK : LK G K sc len xs) (hlen : len ≤ 2048) (hret : ∀ (cells slots : Nat) (lv : List (Option Value)) (ws : va_W), cells ≤ 603072 → slots ≤ 7194730 → V G K 9 cells slots 2485 lv [.int 1] ws) : ∀ (n9 i : Nat) (g : Nat → Int64) (gd : Nat → UInt64) (iS : Int32) (eA : Int32) (fA : Int32) (rr : Nat → Nat) (ra : Nat → Nat) (s : ASt) (Z : ASt) (Y : ASt) (T : Nat → ASt) (cn : Nat) (nx : Nat) (E : Scr) (dd : Nat) (ln : Nat) (sr : Nat) (rc : Nat) (an : Nat) (tf : Nat → Int32) (pf : Nat → Int32) (lb : Nat) (cap : Nat) (f : Nat → Nat) (n : Nat) (ml : Int32) (thr : Int32) (siz : Int32) (spt : Int32) (wrg : Int32) (tld : Int32) (σ : Nat → Int32) (β : Nat → Int32) (ζ : Nat → Int32) (η : Nat → Int32) (lf : Nat → Int32) (μ : Nat → Int32) (B cells slots : Nat), len - i < n9 → i ≤ len → LInv B iS s Z T cn nx E ln rc an cap f n σ ζ η lf → B + 2 * (len - i) ≤ 8000 → cells + 16 * (len - i) ≤ 500000 → slots + 750 * (len - i) ≤ 6000000 → V G K 9 cells slots 28 [some (.ref sc), some (.ref fs), some (.ref m), some (.ref out), some (.ref outD), some (.int (nI i)), none, none, none] [] (flt (LW G out outD fs h h2 h3 hh hr hg hq hl ah as_ sa sb_ ba bs_ hp ap av he aw al af as3 ht tx ag m nw bf sv hy tm li nmb ar sr_ sq br bq hs ha hb hc hd g gd iS eA fA rr ra s Z Y T cn nx E dd ln sr rc an tf pf lb cap f n ml thr siz spt wrg tld σ β ζ η lf μ)) := by
  intro n9
  induction n9 with
  | zero => intro i g gd iS eA fA rr ra s Z Y T cn nx E dd ln sr rc an tf pf lb cap f n ml thr siz spt wrg tld σ β ζ η lf μ B cells slots h9; exact absurd h9 (Nat.not_lt_zero _)
  | succ n9 ih =>
    intro i g gd iS eA fA rr ra s Z Y T cn nx E dd ln sr rc an tf pf lb cap f n ml thr siz spt wrg tld σ β ζ η lf μ B cells slots hn9 hil hI hB hcl hsl
    have hK0 := hK
    obtain ⟨hC, hSF, hst, hX, hbl, hbA, hL31⟩ := hK0
    refine V.iload hC (x := nI i) dL_law_28 rfl ?_
    refine V.aload_n hC (x := sc) dL_law_30 rfl ?_
    refine V.slen hC hX hbl hbA dL_law_31 ?_
    refine V.iconst hC 4 dL_law_32 rfl ?_
    refine V.isub hC dL_law_33 ?_
    refine V.icmp_gt hC 2484 dL_law_34 (by decide) (fun _ => ?_) (fun c9 => ?_)
    · refine V.iconst hC 1 dL_law_2484 rfl ?_
      exact hret _ _ _ _ (by omega) (by omega)
    · have hi4 : i + 4 ≤ len := by
        have e1 := nI_toInt (n := i) (by omega)
        have e2 : (nI len - 4).toInt = (len : Int) - 4 := pk_sub_toInt (a := len) (b := 4) (by omega) (by decide)
        rw [Int32.lt_iff_toInt_lt, e1, e2] at c9
        omega
      have hnext : LN G K out outD fs h h2 h3 hh hr hg hq hl ah as_ sa sb_ ba bs_ hp ap av he aw al af as3 ht tx ag m nw bf sv hy tm li nmb ar sr_ sq br bq hs ha hb hc hd sc i (cells + 64) (slots + 3000) (B + 8) := by
        intro g' gd' iS' eA' fA' rr' ra' s' Z' Y' T' cn' nx' E' dd' ln' sr' rc' an' tf' pf' lb' cap' f' n' ml' thr' siz' spt' wrg' tld' σ' β' ζ' η' lf' μ' cells' slots' hI' hc' hs'
        refine V.iincN hC i 4 dL_law_2478 rfl [some (.ref sc), some (.ref fs), some (.ref m), some (.ref out), some (.ref outD), some (.int (nI (i + 4))), none, none, none] (Nat.le_of_ble_eq_true rfl) rfl rfl rfl ?_
        refine V.goto hC 28 dL_law_2481 (by decide) ?_
        exact ih (i + 4) g' gd' iS' eA' fA' rr' ra' s' Z' Y' T' cn' nx' E' dd' ln' sr' rc' an' tf' pf' lb' cap' f' n' ml' thr' siz' spt' wrg' tld' σ' β' ζ' η' lf' μ' (B + 8) cells' slots' (by omega) (by omega) hI' (by omega) (by omega) (by omega)
      refine V.aload_n hC (x := sc) dL_law_37 rfl ?_
      refine V.iload hC (x := nI i) dL_law_38 rfl ?_
      refine V.sldE hC hX hbl hbA dL_law_40 i rfl (by omega) hL31 rfl ?_
      refine V.bipush hC 63 dL_law_41 rfl ?_
      refine V.iand hC dL_law_43 ?_
      obtain ⟨q9, hq9, eq9⟩ := and63 (xs i)
      rw [eq9]
      match q9, hq9 with
      | 0, _ =>
        refine V.tableIn hC (x := nI 0) (off := 192) 236 dL_law_44 (by decide) (by decide) (by decide) rfl ?_
        exact lc_0 G K out outD fs h h2 h3 hh hr hg hq hl ah as_ sa sb_ ba bs_ hp ap av he aw al af as3 ht tx ag m nw bf sv hy tm li nmb ar sr_ sq br bq hs ha hb hc hd sc len i xs g gd iS eA fA rr ra s Z Y T cn nx E dd ln sr rc an tf pf lb cap f n ml thr siz spt wrg tld σ β ζ η lf μ B cells slots hK hi4 (by omega) (by omega) (by omega) hI hnext
      | 1, _ =>
        refine V.tableIn hC (x := nI 1) (off := 248) 292 dL_law_44 (by decide) (by decide) (by decide) rfl ?_
        exact lc_1 G K out outD fs h h2 h3 hh hr hg hq hl ah as_ sa sb_ ba bs_ hp ap av he aw al af as3 ht tx ag m nw bf sv hy tm li nmb ar sr_ sq br bq hs ha hb hc hd sc len i xs g gd iS eA fA rr ra s Z Y T cn nx E dd ln sr rc an tf pf lb cap f n ml thr siz spt wrg tld σ β ζ η lf μ B cells slots hK hi4 (by omega) (by omega) (by omega) hI hnext
      | 2, _ =>
        refine V.tableIn hC (x := nI 2) (off := 316) 360 dL_law_44 (by decide) (by decide) (by decide) rfl ?_
        exact lc_2 G K out outD fs h h2 h3 hh hr hg hq hl ah as_ sa sb_ ba bs_ hp ap av he aw al af as3 ht tx ag m nw bf sv hy tm li nmb ar sr_ sq br bq hs ha hb hc hd sc len i xs g gd iS eA fA rr ra s Z Y T cn nx E dd ln sr rc an tf pf lb cap f n ml thr siz spt wrg tld σ β ζ η lf μ B cells slots hK hi4 (by omega) (by omega) (by omega) hI hnext
      | 3, _ =>
        refine V.tableIn hC (x := nI 3) (off := 396) 440 dL_law_44 (by decide) (by decide) (by decide) rfl ?_
        exact lc_3 G K out outD fs h h2 h3 hh hr hg hq hl ah as_ sa sb_ ba bs_ hp ap av he aw al af as3 ht tx ag m nw bf sv hy tm li nmb ar sr_ sq br bq hs ha hb hc hd sc len i xs g gd iS eA fA rr ra s Z Y T cn nx E dd ln sr rc an tf pf lb cap f n ml thr siz spt wrg tld σ β ζ η lf μ B cells slots hK hi4 (by omega) (by omega) (by omega) hI hnext
      | 4, _ =>
        refine V.tableIn hC (x := nI 4) (off := 464) 508 dL_law_44 (by decide) (by decide) (by decide) rfl ?_
        exact lc_4 G K out outD fs h h2 h3 hh hr hg hq hl ah as_ sa sb_ ba bs_ hp ap av he aw al af as3 ht tx ag m nw bf sv hy tm li nmb ar sr_ sq br bq hs ha hb hc hd sc len i xs g gd iS eA fA rr ra s Z Y T cn nx E dd ln sr rc an tf pf lb cap f n ml thr siz spt wrg tld σ β ζ η lf μ B cells slots hK hi4 (by omega) (by omega) (by omega) hI hnext
      | 5, _ =>
        refine V.tableIn hC (x := nI 5) (off := 544) 588 dL_law_44 (by decide) (by decide) (by decide) rfl ?_
        exact lc_5 G K out outD fs h h2 h3 hh hr hg hq hl ah as_ sa sb_ ba bs_ hp ap av he aw al af as3 ht tx ag m nw bf sv hy tm li nmb ar sr_ sq br bq hs ha hb hc hd sc len i xs g gd iS eA fA rr ra s Z Y T cn nx E dd ln sr rc an tf pf lb cap f n ml thr siz spt wrg tld σ β ζ η lf μ B cells slots hK hi4 (by omega) (by omega) (by omega) hI hnext
      | 6, _ =>
        refine V.tableIn hC (x := nI 6) (off := 612) 656 dL_law_44 (by decide) (by decide) (by decide) rfl ?_
        exact lc_6 G K out outD fs h h2 h3 hh hr hg hq hl ah as_ sa sb_ ba bs_ hp ap av he aw al af as3 ht tx ag m nw bf sv hy tm li nmb ar sr_ sq br bq hs ha hb hc hd sc len i xs g gd iS eA fA rr ra s Z Y T cn nx E dd ln sr rc an tf pf lb cap f n ml thr siz spt wrg tld σ β ζ η lf μ B cells slots hK hi4 (by omega) (by omega) (by omega) hI hnext
      | 7, _ =>
        refine V.tableIn hC (x := nI 7) (off := 680) 724 dL_law_44 (by decide) (by decide) (by decide) rfl ?_
        exact lc_7 G K out outD fs h h2 h3 hh hr hg hq hl ah as_ sa sb_ ba bs_ hp ap av he aw al af as3 ht tx ag m nw bf sv hy tm li nmb ar sr_ sq br bq hs ha hb hc hd sc len i xs g gd iS eA fA rr ra s Z Y T cn nx E dd ln sr rc an tf pf lb cap f n ml thr siz spt wrg tld σ β ζ η lf μ B cells slots hK hi4 (by omega) (by omega) (by omega) hI hnext
      | 8, _ =>
        refine V.tableIn hC (x := nI 8) (off := 736) 780 dL_law_44 (by decide) (by decide) (by decide) rfl ?_
        exact lc_8 G K out outD fs h h2 h3 hh hr hg hq hl ah as_ sa sb_ ba bs_ hp ap av he aw al af as3 ht tx ag m nw bf sv hy tm li nmb ar sr_ sq br bq hs ha hb hc hd sc len i xs g gd iS eA fA rr ra s Z Y T cn nx E dd ln sr rc an tf pf lb cap f n ml thr siz spt wrg tld σ β ζ η lf μ B cells slots hK hi4 (by omega) (by omega) (by omega) hI hnext
      | 9, _ =>
        refine V.tableIn hC (x := nI 9) (off := 749) 793 dL_law_44 (by decide) (by decide) (by decide) rfl ?_
        exact lc_9 G K out outD fs h h2 h3 hh hr hg hq hl ah as_ sa sb_ ba bs_ hp ap av he aw al af as3 ht tx ag m nw bf sv hy tm li nmb ar sr_ sq br bq hs ha hb hc hd sc len i xs g gd iS eA fA rr ra s Z Y T cn nx E dd ln sr rc an tf pf lb cap f n ml thr siz spt wrg tld σ β ζ η lf μ B cells slots hK hi4 (by omega) (by omega) (by omega) hI hnext
      | 10, _ =>
        refine V.tableIn hC (x := nI 10) (off := 805) 849 dL_law_44 (by decide) (by decide) (by decide) rfl ?_
        exact lc_10 G K out outD fs h h2 h3 hh hr hg hq hl ah as_ sa sb_ ba bs_ hp ap av he aw al af as3 ht tx ag m nw bf sv hy tm li nmb ar sr_ sq br bq hs ha hb hc hd sc len i xs g gd iS eA fA rr ra s Z Y T cn nx E dd ln sr rc an tf pf lb cap f n ml thr siz spt wrg tld σ β ζ η lf μ B cells slots hK hi4 (by omega) (by omega) (by omega) hI hnext
      | 11, _ =>
        refine V.tableIn hC (x := nI 11) (off := 861) 905 dL_law_44 (by decide) (by decide) (by decide) rfl ?_
        exact lc_11 G K out outD fs h h2 h3 hh hr hg hq hl ah as_ sa sb_ ba bs_ hp ap av he aw al af as3 ht tx ag m nw bf sv hy tm li nmb ar sr_ sq br bq hs ha hb hc hd sc len i xs g gd iS eA fA rr ra s Z Y T cn nx E dd ln sr rc an tf pf lb cap f n ml thr siz spt wrg tld σ β ζ η lf μ B cells slots hK hi4 (by omega) (by omega) (by omega) hI hnext
      | 12, _ =>
        refine V.tableIn hC (x := nI 12) (off := 917) 961 dL_law_44 (by decide) (by decide) (by decide) rfl ?_
        exact lc_12 G K out outD fs h h2 h3 hh hr hg hq hl ah as_ sa sb_ ba bs_ hp ap av he aw al af as3 ht tx ag m nw bf sv hy tm li nmb ar sr_ sq br bq hs ha hb hc hd sc len i xs g gd iS eA fA rr ra s Z Y T cn nx E dd ln sr rc an tf pf lb cap f n ml thr siz spt wrg tld σ β ζ η lf μ B cells slots hK hi4 (by omega) (by omega) (by omega) hI hnext
      | 13, _ =>
        refine V.tableIn hC (x := nI 13) (off := 973) 1017 dL_law_44 (by decide) (by decide) (by decide) rfl ?_
        exact lc_13 G K out outD fs h h2 h3 hh hr hg hq hl ah as_ sa sb_ ba bs_ hp ap av he aw al af as3 ht tx ag m nw bf sv hy tm li nmb ar sr_ sq br bq hs ha hb hc hd sc len i xs g gd iS eA fA rr ra s Z Y T cn nx E dd ln sr rc an tf pf lb cap f n ml thr siz spt wrg tld σ β ζ η lf μ B cells slots hK hi4 (by omega) (by omega) (by omega) hI hnext
      | 14, _ =>
        refine V.tableIn hC (x := nI 14) (off := 986) 1030 dL_law_44 (by decide) (by decide) (by decide) rfl ?_
        exact lc_14 G K out outD fs h h2 h3 hh hr hg hq hl ah as_ sa sb_ ba bs_ hp ap av he aw al af as3 ht tx ag m nw bf sv hy tm li nmb ar sr_ sq br bq hs ha hb hc hd sc len i xs g gd iS eA fA rr ra s Z Y T cn nx E dd ln sr rc an tf pf lb cap f n ml thr siz spt wrg tld σ β ζ η lf μ B cells slots hK hi4 (by omega) (by omega) (by omega) hI hnext
      | 15, _ =>
        refine V.tableIn hC (x := nI 15) (off := 1011) 1055 dL_law_44 (by decide) (by decide) (by decide) rfl ?_
        exact lc_15 G K out outD fs h h2 h3 hh hr hg hq hl ah as_ sa sb_ ba bs_ hp ap av he aw al af as3 ht tx ag m nw bf sv hy tm li nmb ar sr_ sq br bq hs ha hb hc hd sc len i xs g gd iS eA fA rr ra s Z Y T cn nx E dd ln sr rc an tf pf lb cap f n ml thr siz spt wrg tld σ β ζ η lf μ B cells slots hK hi4 (by omega) (by omega) (by omega) hI hnext
      | 16, _ =>
        refine V.tableIn hC (x := nI 16) (off := 1067) 1111 dL_law_44 (by decide) (by decide) (by decide) rfl ?_
        exact lc_16 G K out outD fs h h2 h3 hh hr hg hq hl ah as_ sa sb_ ba bs_ hp ap av he aw al af as3 ht tx ag m nw bf sv hy tm li nmb ar sr_ sq br bq hs ha hb hc hd sc len i xs g gd iS eA fA rr ra s Z Y T cn nx E dd ln sr rc an tf pf lb cap f n ml thr siz spt wrg tld σ β ζ η lf μ B cells slots hK hi4 (by omega) (by omega) (by omega) hI hnext
      | 17, _ =>
        refine V.tableIn hC (x := nI 17) (off := 1123) 1167 dL_law_44 (by decide) (by decide) (by decide) rfl ?_
        exact lc_17 G K out outD fs h h2 h3 hh hr hg hq hl ah as_ sa sb_ ba bs_ hp ap av he aw al af as3 ht tx ag m nw bf sv hy tm li nmb ar sr_ sq br bq hs ha hb hc hd sc len i xs g gd iS eA fA rr ra s Z Y T cn nx E dd ln sr rc an tf pf lb cap f n ml thr siz spt wrg tld σ β ζ η lf μ B cells slots hK hi4 (by omega) (by omega) (by omega) hI hnext
      | 18, _ =>
        refine V.tableIn hC (x := nI 18) (off := 1198) 1242 dL_law_44 (by decide) (by decide) (by decide) rfl ?_
        exact lc_18 G K out outD fs h h2 h3 hh hr hg hq hl ah as_ sa sb_ ba bs_ hp ap av he aw al af as3 ht tx ag m nw bf sv hy tm li nmb ar sr_ sq br bq hs ha hb hc hd sc len i xs g gd iS eA fA rr ra s Z Y T cn nx E dd ln sr rc an tf pf lb cap f n ml thr siz spt wrg tld σ β ζ η lf μ B cells slots hK hi4 (by omega) (by omega) (by omega) hI hnext
      | 19, _ =>
        refine V.tableIn hC (x := nI 19) (off := 1266) 1310 dL_law_44 (by decide) (by decide) (by decide) rfl ?_
        exact lc_19 G K out outD fs h h2 h3 hh hr hg hq hl ah as_ sa sb_ ba bs_ hp ap av he aw al af as3 ht tx ag m nw bf sv hy tm li nmb ar sr_ sq br bq hs ha hb hc hd sc len i xs g gd iS eA fA rr ra s Z Y T cn nx E dd ln sr rc an tf pf lb cap f n ml thr siz spt wrg tld σ β ζ η lf μ B cells slots hK hi4 (by omega) (by omega) (by omega) hI hnext
      | 20, _ =>
        refine V.tableIn hC (x := nI 20) (off := 1322) 1366 dL_law_44 (by decide) (by decide) (by decide) rfl ?_
        exact lc_20 G K out outD fs h h2 h3 hh hr hg hq hl ah as_ sa sb_ ba bs_ hp ap av he aw al af as3 ht tx ag m nw bf sv hy tm li nmb ar sr_ sq br bq hs ha hb hc hd sc len i xs g gd iS eA fA rr ra s Z Y T cn nx E dd ln sr rc an tf pf lb cap f n ml thr siz spt wrg tld σ β ζ η lf μ B cells slots hK hi4 (by omega) (by omega) (by omega) hI hnext
      | 21, _ =>
        refine V.tableIn hC (x := nI 21) (off := 1378) 1422 dL_law_44 (by decide) (by decide) (by decide) rfl ?_
        exact lc_21 G K out outD fs h h2 h3 hh hr hg hq hl ah as_ sa sb_ ba bs_ hp ap av he aw al af as3 ht tx ag m nw bf sv hy tm li nmb ar sr_ sq br bq hs ha hb hc hd sc len i xs g gd iS eA fA rr ra s Z Y T cn nx E dd ln sr rc an tf pf lb cap f n ml thr siz spt wrg tld σ β ζ η lf μ B cells slots hK hi4 (by omega) (by omega) (by omega) hI hnext
      | 22, _ =>
        refine V.tableIn hC (x := nI 22) (off := 1453) 1497 dL_law_44 (by decide) (by decide) (by decide) rfl ?_
        exact lc_22 G K out outD fs h h2 h3 hh hr hg hq hl ah as_ sa sb_ ba bs_ hp ap av he aw al af as3 ht tx ag m nw bf sv hy tm li nmb ar sr_ sq br bq hs ha hb hc hd sc len i xs g gd iS eA fA rr ra s Z Y T cn nx E dd ln sr rc an tf pf lb cap f n ml thr siz spt wrg tld σ β ζ η lf μ B cells slots hK hi4 (by omega) (by omega) (by omega) hI hnext
      | 23, _ =>
        refine V.tableIn hC (x := nI 23) (off := 1509) 1553 dL_law_44 (by decide) (by decide) (by decide) rfl ?_
        exact lc_23 G K out outD fs h h2 h3 hh hr hg hq hl ah as_ sa sb_ ba bs_ hp ap av he aw al af as3 ht tx ag m nw bf sv hy tm li nmb ar sr_ sq br bq hs ha hb hc hd sc len i xs g gd iS eA fA rr ra s Z Y T cn nx E dd ln sr rc an tf pf lb cap f n ml thr siz spt wrg tld σ β ζ η lf μ B cells slots hK hi4 (by omega) (by omega) (by omega) hI hnext
      | 24, _ =>
        refine V.tableIn hC (x := nI 24) (off := 1565) 1609 dL_law_44 (by decide) (by decide) (by decide) rfl ?_
        exact lc_24 G K out outD fs h h2 h3 hh hr hg hq hl ah as_ sa sb_ ba bs_ hp ap av he aw al af as3 ht tx ag m nw bf sv hy tm li nmb ar sr_ sq br bq hs ha hb hc hd sc len i xs g gd iS eA fA rr ra s Z Y T cn nx E dd ln sr rc an tf pf lb cap f n ml thr siz spt wrg tld σ β ζ η lf μ B cells slots hK hi4 (by omega) (by omega) (by omega) hI hnext
      | 25, _ =>
        refine V.tableIn hC (x := nI 25) (off := 1621) 1665 dL_law_44 (by decide) (by decide) (by decide) rfl ?_
        exact lc_25 G K out outD fs h h2 h3 hh hr hg hq hl ah as_ sa sb_ ba bs_ hp ap av he aw al af as3 ht tx ag m nw bf sv hy tm li nmb ar sr_ sq br bq hs ha hb hc hd sc len i xs g gd iS eA fA rr ra s Z Y T cn nx E dd ln sr rc an tf pf lb cap f n ml thr siz spt wrg tld σ β ζ η lf μ B cells slots hK hi4 (by omega) (by omega) (by omega) hI hnext
      | 26, _ =>
        refine V.tableIn hC (x := nI 26) (off := 1677) 1721 dL_law_44 (by decide) (by decide) (by decide) rfl ?_
        exact lc_26 G K out outD fs h h2 h3 hh hr hg hq hl ah as_ sa sb_ ba bs_ hp ap av he aw al af as3 ht tx ag m nw bf sv hy tm li nmb ar sr_ sq br bq hs ha hb hc hd sc len i xs g gd iS eA fA rr ra s Z Y T cn nx E dd ln sr rc an tf pf lb cap f n ml thr siz spt wrg tld σ β ζ η lf μ B cells slots hK hi4 (by omega) (by omega) (by omega) hI hnext
      | 27, _ =>
        refine V.tableIn hC (x := nI 27) (off := 1745) 1789 dL_law_44 (by decide) (by decide) (by decide) rfl ?_
        exact lc_27 G K out outD fs h h2 h3 hh hr hg hq hl ah as_ sa sb_ ba bs_ hp ap av he aw al af as3 ht tx ag m nw bf sv hy tm li nmb ar sr_ sq br bq hs ha hb hc hd sc len i xs g gd iS eA fA rr ra s Z Y T cn nx E dd ln sr rc an tf pf lb cap f n ml thr siz spt wrg tld σ β ζ η lf μ B cells slots hK hi4 (by omega) (by omega) (by omega) hI hnext
      | 28, _ =>
        refine V.tableIn hC (x := nI 28) (off := 1813) 1857 dL_law_44 (by decide) (by decide) (by decide) rfl ?_
        exact lc_28 G K out outD fs h h2 h3 hh hr hg hq hl ah as_ sa sb_ ba bs_ hp ap av he aw al af as3 ht tx ag m nw bf sv hy tm li nmb ar sr_ sq br bq hs ha hb hc hd sc len i xs g gd iS eA fA rr ra s Z Y T cn nx E dd ln sr rc an tf pf lb cap f n ml thr siz spt wrg tld σ β ζ η lf μ B cells slots hK hi4 (by omega) (by omega) (by omega) hI hnext
      | 29, _ =>
        refine V.tableIn hC (x := nI 29) (off := 1869) 1913 dL_law_44 (by decide) (by decide) (by decide) rfl ?_
        exact lc_29 G K out outD fs h h2 h3 hh hr hg hq hl ah as_ sa sb_ ba bs_ hp ap av he aw al af as3 ht tx ag m nw bf sv hy tm li nmb ar sr_ sq br bq hs ha hb hc hd sc len i xs g gd iS eA fA rr ra s Z Y T cn nx E dd ln sr rc an tf pf lb cap f n ml thr siz spt wrg tld σ β ζ η lf μ B cells slots hK hi4 (by omega) (by omega) (by omega) hI hnext
      | 30, _ =>
        refine V.tableIn hC (x := nI 30) (off := 1882) 1926 dL_law_44 (by decide) (by decide) (by decide) rfl ?_
        exact lc_30 G K out outD fs h h2 h3 hh hr hg hq hl ah as_ sa sb_ ba bs_ hp ap av he aw al af as3 ht tx ag m nw bf sv hy tm li nmb ar sr_ sq br bq hs ha hb hc hd sc len i xs g gd iS eA fA rr ra s Z Y T cn nx E dd ln sr rc an tf pf lb cap f n ml thr siz spt wrg tld σ β ζ η lf μ B cells slots hK hi4 (by omega) (by omega) (by omega) hI hnext
      | 31, _ =>
        refine V.tableIn hC (x := nI 31) (off := 1896) 1940 dL_law_44 (by decide) (by decide) (by decide) rfl ?_
        exact lc_31 G K out outD fs h h2 h3 hh hr hg hq hl ah as_ sa sb_ ba bs_ hp ap av he aw al af as3 ht tx ag m nw bf sv hy tm li nmb ar sr_ sq br bq hs ha hb hc hd sc len i xs g gd iS eA fA rr ra s Z Y T cn nx E dd ln sr rc an tf pf lb cap f n ml thr siz spt wrg tld σ β ζ η lf μ B cells slots hK hi4 (by omega) (by omega) (by omega) hI hnext
      | 32, _ =>
        refine V.tableIn hC (x := nI 32) (off := 1961) 2005 dL_law_44 (by decide) (by decide) (by decide) rfl ?_
        exact lc_32 G K out outD fs h h2 h3 hh hr hg hq hl ah as_ sa sb_ ba bs_ hp ap av he aw al af as3 ht tx ag m nw bf sv hy tm li nmb ar sr_ sq br bq hs ha hb hc hd sc len i xs g gd iS eA fA rr ra s Z Y T cn nx E dd ln sr rc an tf pf lb cap f n ml thr siz spt wrg tld σ β ζ η lf μ B cells slots hK hi4 (by omega) (by omega) (by omega) hI hnext
      | 33, _ =>
        refine V.tableIn hC (x := nI 33) (off := 2027) 2071 dL_law_44 (by decide) (by decide) (by decide) rfl ?_
        exact lc_33 G K out outD fs h h2 h3 hh hr hg hq hl ah as_ sa sb_ ba bs_ hp ap av he aw al af as3 ht tx ag m nw bf sv hy tm li nmb ar sr_ sq br bq hs ha hb hc hd sc len i xs g gd iS eA fA rr ra s Z Y T cn nx E dd ln sr rc an tf pf lb cap f n ml thr siz spt wrg tld σ β ζ η lf μ B cells slots hK hi4 (by omega) (by omega) (by omega) hI hnext
      | 34, _ =>
        refine V.tableIn hC (x := nI 34) (off := 2040) 2084 dL_law_44 (by decide) (by decide) (by decide) rfl ?_
        exact lc_34 G K out outD fs h h2 h3 hh hr hg hq hl ah as_ sa sb_ ba bs_ hp ap av he aw al af as3 ht tx ag m nw bf sv hy tm li nmb ar sr_ sq br bq hs ha hb hc hd sc len i xs g gd iS eA fA rr ra s Z Y T cn nx E dd ln sr rc an tf pf lb cap f n ml thr siz spt wrg tld σ β ζ η lf μ B cells slots hK hi4 (by omega) (by omega) (by omega) hI hnext
      | 35, _ =>
        refine V.tableIn hC (x := nI 35) (off := 2098) 2142 dL_law_44 (by decide) (by decide) (by decide) rfl ?_
        exact lc_35 G K out outD fs h h2 h3 hh hr hg hq hl ah as_ sa sb_ ba bs_ hp ap av he aw al af as3 ht tx ag m nw bf sv hy tm li nmb ar sr_ sq br bq hs ha hb hc hd sc len i xs g gd iS eA fA rr ra s Z Y T cn nx E dd ln sr rc an tf pf lb cap f n ml thr siz spt wrg tld σ β ζ η lf μ B cells slots hK hi4 (by omega) (by omega) (by omega) hI hnext
      | 36, _ =>
        refine V.tableIn hC (x := nI 36) (off := 2142) 2186 dL_law_44 (by decide) (by decide) (by decide) rfl ?_
        exact lc_36 G K out outD fs h h2 h3 hh hr hg hq hl ah as_ sa sb_ ba bs_ hp ap av he aw al af as3 ht tx ag m nw bf sv hy tm li nmb ar sr_ sq br bq hs ha hb hc hd sc len i xs g gd iS eA fA rr ra s Z Y T cn nx E dd ln sr rc an tf pf lb cap f n ml thr siz spt wrg tld σ β ζ η lf μ B cells slots hK hi4 (by omega) (by omega) (by omega) hI hnext
      | 37, _ =>
        refine V.tableIn hC (x := nI 37) (off := 2186) 2230 dL_law_44 (by decide) (by decide) (by decide) rfl ?_
        exact lc_37 G K out outD fs h h2 h3 hh hr hg hq hl ah as_ sa sb_ ba bs_ hp ap av he aw al af as3 ht tx ag m nw bf sv hy tm li nmb ar sr_ sq br bq hs ha hb hc hd sc len i xs g gd iS eA fA rr ra s Z Y T cn nx E dd ln sr rc an tf pf lb cap f n ml thr siz spt wrg tld σ β ζ η lf μ B cells slots hK hi4 (by omega) (by omega) (by omega) hI hnext
      | 38, _ =>
        refine V.tableIn hC (x := nI 38) (off := 2230) 2274 dL_law_44 (by decide) (by decide) (by decide) rfl ?_
        exact lc_38 G K out outD fs h h2 h3 hh hr hg hq hl ah as_ sa sb_ ba bs_ hp ap av he aw al af as3 ht tx ag m nw bf sv hy tm li nmb ar sr_ sq br bq hs ha hb hc hd sc len i xs g gd iS eA fA rr ra s Z Y T cn nx E dd ln sr rc an tf pf lb cap f n ml thr siz spt wrg tld σ β ζ η lf μ B cells slots hK hi4 (by omega) (by omega) (by omega) hI hnext
      | 39, _ =>
        refine V.tableIn hC (x := nI 39) (off := 2286) 2330 dL_law_44 (by decide) (by decide) (by decide) rfl ?_
        exact lc_39 G K out outD fs h h2 h3 hh hr hg hq hl ah as_ sa sb_ ba bs_ hp ap av he aw al af as3 ht tx ag m nw bf sv hy tm li nmb ar sr_ sq br bq hs ha hb hc hd sc len i xs g gd iS eA fA rr ra s Z Y T cn nx E dd ln sr rc an tf pf lb cap f n ml thr siz spt wrg tld σ β ζ η lf μ B cells slots hK hi4 (by omega) (by omega) (by omega) hI hnext
      | 40, _ =>
        refine V.tableIn hC (x := nI 40) (off := 2299) 2343 dL_law_44 (by decide) (by decide) (by decide) rfl ?_
        exact lc_40 G K out outD fs h h2 h3 hh hr hg hq hl ah as_ sa sb_ ba bs_ hp ap av he aw al af as3 ht tx ag m nw bf sv hy tm li nmb ar sr_ sq br bq hs ha hb hc hd sc len i xs g gd iS eA fA rr ra s Z Y T cn nx E dd ln sr rc an tf pf lb cap f n ml thr siz spt wrg tld σ β ζ η lf μ B cells slots hK hi4 (by omega) (by omega) (by omega) hI hnext
      | 41, _ =>
        refine V.tableIn hC (x := nI 41) (off := 2355) 2399 dL_law_44 (by decide) (by decide) (by decide) rfl ?_
        exact lc_41 G K out outD fs h h2 h3 hh hr hg hq hl ah as_ sa sb_ ba bs_ hp ap av he aw al af as3 ht tx ag m nw bf sv hy tm li nmb ar sr_ sq br bq hs ha hb hc hd sc len i xs g gd iS eA fA rr ra s Z Y T cn nx E dd ln sr rc an tf pf lb cap f n ml thr siz spt wrg tld σ β ζ η lf μ B cells slots hK hi4 (by omega) (by omega) (by omega) hI hnext
      | 42, _ =>
        refine V.tableIn hC (x := nI 42) (off := 2399) 2443 dL_law_44 (by decide) (by decide) (by decide) rfl ?_
        exact lc_42 G K out outD fs h h2 h3 hh hr hg hq hl ah as_ sa sb_ ba bs_ hp ap av he aw al af as3 ht tx ag m nw bf sv hy tm li nmb ar sr_ sq br bq hs ha hb hc hd sc len i xs g gd iS eA fA rr ra s Z Y T cn nx E dd ln sr rc an tf pf lb cap f n ml thr siz spt wrg tld σ β ζ η lf μ B cells slots hK hi4 (by omega) (by omega) (by omega) hI hnext
      | 43, _ =>
        refine V.tableIn hC (x := nI 43) (off := 2410) 2454 dL_law_44 (by decide) (by decide) (by decide) rfl ?_
        exact lc_43 G K out outD fs h h2 h3 hh hr hg hq hl ah as_ sa sb_ ba bs_ hp ap av he aw al af as3 ht tx ag m nw bf sv hy tm li nmb ar sr_ sq br bq hs ha hb hc hd sc len i xs g gd iS eA fA rr ra s Z Y T cn nx E dd ln sr rc an tf pf lb cap f n ml thr siz spt wrg tld σ β ζ η lf μ B cells slots hK hi4 (by omega) (by omega) (by omega) hI hnext
      | q9 + 44, h9 =>
        refine V.tableOut hC (x := nI (q9 + 44)) 2478 dL_law_44 (Or.inr (by rw [nI_toInt (n := q9 + 44) (by omega)]; omega)) (by decide) ?_
        exact hnext g gd iS eA fA rr ra s Z Y T cn nx E dd ln sr rc an tf pf lb cap f n ml thr siz spt wrg tld σ β ζ η lf μ cells slots (hI.up (by omega)) (by omega) (by omega)