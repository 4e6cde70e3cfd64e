/-! Rebuilder: least (printed by gen/s17.py) -/
set_option maxHeartbeats 4000000 in
set_option maxRecDepth 100000 in
theorem c_leastUnfit (l : Launch) (G : Gx) (hr hp ap av he aw al af as_ : Nat) (ar : Nat → Nat) (E : Scr) (h a : Nat) (sh : Nat → Int32) (nu : Int32) (t : Nat) (hok : Sok E) (hS : SHok sh) (h1 : 1 ≤ t) (h4 : t ≤ 4) : Ct l G SF0 yX8_leastUnfit wsX8_leastUnfit ({ frames := 3, cells := 0, slots := 0, locals := 74 }) [.ref hr, .ref h] ((rbW G hr hp ap av he aw al af as_ ar E) ++ [(h, .inr (10, [.ref a, .int nu, .int (nI t)])), (a, .inl (gI G, 8, .inl sh))]) mkI (fun (r : Int32) (u : Scr) => r = nI (lstu (fh sh 8 8) t (svn sh) 256) ∧ Sok u) (fun u : Scr => ((rbW G hr hp ap av he aw al af as_ ar u) ++ [(h, .inr (10, [.ref a, .int nu, .int (nI t)])), (a, .inl (gI G, 8, .inl sh))])) 0 0 := by
  refine Ct.ofI (cc := cX8_leastUnfit) (maxL := 5) (by decide) rfl ⟨by simp [Value.category], Nat.le_of_ble_eq_true rfl⟩ ?_
  intro K hl hC hSF hnm hE
  subst hl
  have q0_ : Cond.methodLink RX8 69 Lib.Math.min.name ∈ wsX8_leastUnfit := by decide +kernel
  have q1_ : Cond.static Lib.Math.min.name ∈ wsX8_leastUnfit := by decide +kernel
  have q2_ : Cond.initialized "java/lang/Math" ∈ wsX8_leastUnfit := by decide +kernel
  have q3_ : Cond.code Lib.Math.min.name Lib.Math.min.code 2 (some .int) ∈ wsX8_leastUnfit := by decide +kernel
  show V G K 5 0 0 0 [some (.ref hr), some (.ref h), none, none, none] [] ((rbW G hr hp ap av he aw al af as_ ar E) ++ [(h, .inr (10, [.ref a, .int nu, .int (nI t)])), (a, .inl (gI G, 8, .inl sh))])
  refine V.aload_n hC (x := h) dX8_leastUnfit_0 rfl ?_
  refine V.bipush hC 8 dX8_leastUnfit_1 rfl ?_
  refine V.callVr (n := 1) (As := [.int 8]) (rest := []) hC (c_firstHolders (kl K) G h a sh nu (nI t) 8 (by decide)) SFk0 SFgo0 gX8_leastUnfit_X10_firstHolders rfl ⟨rfl, rfl⟩ (by decide +kernel) ⟨by decide, by decide, by decide, by decide⟩ [13, 14] rfl (by decide) rfl rfl rfl rfl (Nat.le_of_ble_eq_true rfl) dX8_leastUnfit_3 (fun r_3 u_3 hp_3 => ?_)
  subst hp_3
  show V G K 5 0 0 6 [some (.ref hr), some (.ref h), none, none, none] [.int (nI (fh sh 8 8))] ((rbW G hr hp ap av he aw al af as_ ar E) ++ [(h, .inr (10, [.ref a, .int nu, .int (nI t)])), (a, .inl (gI G, 8, .inl sh))])
  refine V.istore_n hC dX8_leastUnfit_6 [some (.ref hr), some (.ref h), some (.int (nI (fh sh 8 8))), none, none] (Nat.le_of_ble_eq_true rfl) rfl ?_
  refine V.bipush hC 8 dX8_leastUnfit_7 rfl ?_
  refine V.istore_n hC dX8_leastUnfit_9 [some (.ref hr), some (.ref h), some (.int (nI (fh sh 8 8))), some (.int 8), none] (Nat.le_of_ble_eq_true rfl) rfl ?_
  refine V.iconst hC 0 dX8_leastUnfit_10 rfl ?_
  refine V.istore hC dX8_leastUnfit_11 [some (.ref hr), some (.ref h), some (.int (nI (fh sh 8 8))), some (.int 8), some (.int 0)] (Nat.le_of_ble_eq_true rfl) rfl ?_
  have loop13 : ∀ (n : Nat) (c : Nat) (F : Scr), 257 - c < n → (c ≤ 256) → (Sok F) → V G K 5 0 0 13 [some (.ref hr), some (.ref h), some (.int (nI (fh sh 8 8))), some (.int (nI (lstu (fh sh 8 8) t (svn sh) c))), some (.int (nI c))] [] ((rbW G hr hp ap av he aw al af as_ ar F) ++ [(h, .inr (10, [.ref a, .int nu, .int (nI t)])), (a, .inl (gI G, 8, .inl sh))]) := by
    intro n
    induction n with
    | zero => intro c F hlt; exact absurd hlt (Nat.not_lt_zero _)
    | succ n ih13 =>
      intro c F hlt13 hcc hF
      refine V.iload hC (x := nI c) dX8_leastUnfit_13 rfl ?_
      refine V.sipush hC 256 dX8_leastUnfit_15 rfl ?_
      refine V.icmpN_ge hC c 256 66 dX8_leastUnfit_18 rfl rfl rfl (by omega) (by omega) (fun c_18 => ?_) (fun c_18 => ?_)
      · refine V.lset 3 (x := .int (nI (lstu (fh sh 8 8) t (svn sh) c))) (y := .int (nI (lstu (fh sh 8 8) t (svn sh) 256))) (congrArg Value.int (by rw [show c = 256 by omega])) rfl (lv' := [some (.ref hr), some (.ref h), some (.int (nI (fh sh 8 8))), some (.int (nI (lstu (fh sh 8 8) t (svn sh) 256))), some (.int (nI c))]) rfl ?_
        refine V.iload_n hC (x := nI (lstu (fh sh 8 8) t (svn sh) 256)) dX8_leastUnfit_66 rfl ?_
        exact hE 67 _ (nI (lstu (fh sh 8 8) t (svn sh) 256)) F dX8_leastUnfit_67 rfl ⟨rfl, hF⟩
      · refine V.iload hC (x := nI c) dX8_leastUnfit_21 rfl ?_
        refine V.iload_n hC (x := nI (fh sh 8 8)) dX8_leastUnfit_23 rfl ?_
        refine V.iconst hC (-1) dX8_leastUnfit_24 rfl ?_
        refine V.ixor hC dX8_leastUnfit_25 ?_
        refine V.iand hC dX8_leastUnfit_26 ?_
        refine V.topeq (nI (c &&& (255 ^^^ fh sh 8 8))) (andn8 (fh sh 8 8) c (by omega)) ?_
        refine V.ifN_ne hC (c &&& (255 ^^^ fh sh 8 8)) 60 dX8_leastUnfit_27 rfl rfl (Nat.lt_trans (andn_lt (by omega)) (by decide)) (fun c_27 => ?_) (fun c_27 => ?_)
        · refine V.lset 3 (x := .int (nI (lstu (fh sh 8 8) t (svn sh) c))) (y := .int (nI (lstu (fh sh 8 8) t (svn sh) (c + 1)))) (congrArg Value.int (congrArg nI (by rw [lstu, if_neg (fun z => c_27 z.1)]))) rfl (lv' := [some (.ref hr), some (.ref h), some (.int (nI (fh sh 8 8))), some (.int (nI (lstu (fh sh 8 8) t (svn sh) (c + 1)))), some (.int (nI c))]) rfl ?_
          refine V.iincN hC c 1 dX8_leastUnfit_60 rfl [some (.ref hr), some (.ref h), some (.int (nI (fh sh 8 8))), some (.int (nI (lstu (fh sh 8 8) t (svn sh) (c + 1)))), some (.int (nI (c + 1)))] (Nat.le_of_ble_eq_true rfl) rfl rfl rfl ?_
          refine V.goto hC 13 dX8_leastUnfit_63 rfl ?_
          exact ih13 (c + 1) F (by omega) (by omega) hF
        · refine V.iload hC (x := nI c) dX8_leastUnfit_30 rfl ?_
          refine V.callSr (n := 1) (As := [.int (nI c)]) (rest := []) hC (c_bitCount (kl K) G c (by omega)) SFk0 SFgo0 gX8_leastUnfit_J6_bitCount_0f7a4 rfl ⟨rfl, rfl⟩ (by decide +kernel) ⟨by decide, by decide, by decide, by decide⟩ [] rfl (by decide) rfl rfl (Nat.le_of_ble_eq_true rfl) dX8_leastUnfit_32 (fun r_32 u_32 hp_32 => ?_)
          subst hp_32
          show V G K 5 0 0 35 [some (.ref hr), some (.ref h), some (.int (nI (fh sh 8 8))), some (.int (nI (lstu (fh sh 8 8) t (svn sh) c))), some (.int (nI c))] [.int (nI (pop8 c))] ((rbW G hr hp ap av he aw al af as_ ar F) ++ [(h, .inr (10, [.ref a, .int nu, .int (nI t)])), (a, .inl (gI G, 8, .inl sh))])
          refine V.aload_n hC (x := h) dX8_leastUnfit_35 rfl ?_
          refine V.callVr (n := 0) (As := []) (rest := [.int (nI (pop8 c))]) hC (c_need (kl K) G h a sh nu (nI t)) SFk0 SFgo0 gX8_leastUnfit_X10_need rfl ⟨rfl, rfl⟩ (by decide +kernel) ⟨by decide, by decide, by decide, by decide⟩ [13, 14] rfl (by decide) rfl rfl rfl rfl (Nat.le_of_ble_eq_true rfl) dX8_leastUnfit_36 (fun r_36 u_36 hp_36 => ?_)
          subst hp_36
          show V G K 5 0 0 39 [some (.ref hr), some (.ref h), some (.int (nI (fh sh 8 8))), some (.int (nI (lstu (fh sh 8 8) t (svn sh) c))), some (.int (nI c))] [.int (nI t), .int (nI (pop8 c))] ((rbW G hr hp ap av he aw al af as_ ar F) ++ [(h, .inr (10, [.ref a, .int nu, .int (nI t)])), (a, .inl (gI G, 8, .inl sh))])
          refine V.icmpN_ne hC (pop8 c) t 60 dX8_leastUnfit_39 rfl rfl rfl (by unfold pop8; omega) (by omega) (fun c_39 => ?_) (fun c_39 => ?_)
          · refine V.lset 3 (x := .int (nI (lstu (fh sh 8 8) t (svn sh) c))) (y := .int (nI (lstu (fh sh 8 8) t (svn sh) (c + 1)))) (congrArg Value.int (congrArg nI (by rw [lstu, if_neg (fun z => c_39 z.2)]))) rfl (lv' := [some (.ref hr), some (.ref h), some (.int (nI (fh sh 8 8))), some (.int (nI (lstu (fh sh 8 8) t (svn sh) (c + 1)))), some (.int (nI c))]) rfl ?_
            refine V.iincN hC c 1 dX8_leastUnfit_60 rfl [some (.ref hr), some (.ref h), some (.int (nI (fh sh 8 8))), some (.int (nI (lstu (fh sh 8 8) t (svn sh) (c + 1)))), some (.int (nI (c + 1)))] (Nat.le_of_ble_eq_true rfl) rfl rfl rfl ?_
            refine V.goto hC 13 dX8_leastUnfit_63 rfl ?_
            exact ih13 (c + 1) F (by omega) (by omega) hF
          · refine V.iload_n hC (x := nI (lstu (fh sh 8 8) t (svn sh) c)) dX8_leastUnfit_42 rfl ?_
            refine V.aload_n hC (x := hr) dX8_leastUnfit_43 rfl ?_
            refine V.aload_n hC (x := h) dX8_leastUnfit_44 rfl ?_
            refine V.iload hC (x := nI c) dX8_leastUnfit_45 rfl ?_
            refine V.iload_n hC (x := nI (fh sh 8 8)) dX8_leastUnfit_47 rfl ?_
            refine V.iload hC (x := nI c) dX8_leastUnfit_48 rfl ?_
            refine V.iconst hC (-1) dX8_leastUnfit_50 rfl ?_
            refine V.ixor hC dX8_leastUnfit_51 ?_
            refine V.iand hC dX8_leastUnfit_52 ?_
            refine V.topeq (nI (fh sh 8 8 &&& (255 ^^^ c))) (andn8 c (fh sh 8 8) (fh_256 _ _ _ (Nat.le_refl 8))) ?_
            refine V.callV (n := 3) (As := [.ref h, .int (nI c), .int (nI (fh sh 8 8 &&& (255 ^^^ c)))]) (rest := [.int (nI (lstu (fh sh 8 8) t (svn sh) c))]) hC (c_unfit (kl K) G hr hp ap av he aw al af as_ ar F h a sh nu t hF c (fh sh 8 8 &&& (255 ^^^ c)) (by omega) (andn_lt (fh_256 _ _ _ (Nat.le_refl 8))) ((HB.fh hS 8).sub (an_z c_27)) ((HB.fh hS 8).an c)) SFk0 SFgo0 gX8_leastUnfit_X8_unfit rfl ⟨rfl, rfl⟩ (by decide +kernel) ⟨by decide, by decide, by decide, by decide⟩ [0, 1, 2, 3, 4, 5, 6, 7, 8, 9, 10, 11, 12, 13, 14] rfl (by decide) (fun _ => Eq.refl [hr, hp, ap, av, he, aw, al, af, as_, ar 0, ar 1, ar 2, ar 3, h, a]) rfl rfl rfl rfl (Nat.le_of_ble_eq_true rfl) dX8_leastUnfit_53 (fun r_53 u_53 hp_53 => ?_)
            obtain ⟨e_53, hE_53⟩ := hp_53
            subst e_53
            show V G K 5 0 0 56 [some (.ref hr), some (.ref h), some (.int (nI (fh sh 8 8))), some (.int (nI (lstu (fh sh 8 8) t (svn sh) c))), some (.int (nI c))] [.int (nI (unf c (svn sh) (fh sh 8 8 &&& (255 ^^^ c)) 8)), .int (nI (lstu (fh sh 8 8) t (svn sh) c))] ((rbW G hr hp ap av he aw al af as_ ar u_53) ++ [(h, .inr (10, [.ref a, .int nu, .int (nI t)])), (a, .inl (gI G, 8, .inl sh))])
            refine V.mmin hC q0_ q1_ q2_ q3_ ⟨Nat.le_of_ble_eq_true rfl, Nat.le_of_ble_eq_true rfl, Nat.le_of_ble_eq_true rfl, Nat.le_of_ble_eq_true rfl⟩ dX8_leastUnfit_56 ?_
            refine V.topeq (nI (lstu (fh sh 8 8) t (svn sh) (c + 1))) ((nI_min (by have := lstu_le (fh sh 8 8) t (svn sh) c; omega) (by have := unf_le c (svn sh) (fh sh 8 8 &&& (255 ^^^ c)) 8; omega)).trans (congrArg nI (by rw [lstu, if_pos ⟨c_27, c_39⟩]))) ?_
            refine V.istore_n hC dX8_leastUnfit_59 [some (.ref hr), some (.ref h), some (.int (nI (fh sh 8 8))), some (.int (nI (lstu (fh sh 8 8) t (svn sh) (c + 1)))), some (.int (nI c))] (Nat.le_of_ble_eq_true rfl) rfl ?_
            refine V.iincN hC c 1 dX8_leastUnfit_60 rfl [some (.ref hr), some (.ref h), some (.int (nI (fh sh 8 8))), some (.int (nI (lstu (fh sh 8 8) t (svn sh) (c + 1)))), some (.int (nI (c + 1)))] (Nat.le_of_ble_eq_true rfl) rfl rfl rfl ?_
            refine V.goto hC 13 dX8_leastUnfit_63 rfl ?_
            exact ih13 (c + 1) u_53 (by omega) (by omega) hE_53
  exact loop13 _ 0 E (Nat.lt_succ_self _) (by omega) hok
