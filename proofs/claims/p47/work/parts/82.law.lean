/-! the law itself (printed by gen/s82p.py) -/
def lw_room : Room := { frames := 2048, cells := 600390, slots := 7288600, locals := 94400 }
def LK (G : Gx) (K : Cx) (sc len : Nat) (xs : Nat → Int32) : Prop := Cok G K cL_law 4 RL (wsL_law ++ hx9) lw_room ∧ SFs G sc len xs (kA K) (ks K) (ks K).heap ∧ (kl K).stackTraces = false ∧ len < 2 ^ 31
def aS0 : ASt := ((fun _ => 0), 0, 0, 0, 0, (fun _ => 0), (fun _ => 0), (fun _ _ => 0))
def aE0 : Scr := (0, (fun _ => 0), (fun _ => 0), 0, (fun _ _ => 0), (fun _ => 0), (fun _ => 0), (fun _ => 0))
theorem inv0 : InvA 0 aS0 := ⟨Nat.zero_le _, Nat.zero_le _, fun k h => absurd h (Nat.not_lt_zero _), fun k h => absurd h (Nat.not_lt_zero _), ⟨0, fun _ => 0, Nat.le_refl _, rfl, fun k h => absurd h (Nat.not_lt_zero _), fun i j _ h => absurd h (Nat.not_lt_zero _)⟩, 0, Nat.le_refl _, rfl⟩

set_option maxHeartbeats 16000000 in
set_option maxRecDepth 100000 in
theorem FW_start (G : Gx) (fs h h2 h3 hh hr hg hq hl ah as_ sa sb_ hp ap av he aw al af as3 ht lb : Nat) (rr ra ar sr_ sq hs ha hb : Nat → Nat) (hc hd : Nat → Nat → Nat) : flt [[(fs, .inr (12, [.ref h, .ref h2, .ref h3, .ref hh, .ref hr, .ref hg, .ref hq, .ref hl, .int 0, .int (-1), .int (-1)]))], [(hg, .inr (4, [.ref h, .ref hr]))], stW G h ah as_ rr ra (sHm aS0) (sNb aS0) (sNs aS0) (sLa aS0) (sLo aS0) (sNu aS0) (sTn aS0) (sSh aS0), stW G h2 sa sb_ sr_ sq (sHm aS0) (sNb aS0) (sNs aS0) (sLa aS0) (sLo aS0) (sNu aS0) (sTn aS0) (sSh aS0), [(hh, .inr (6, [.ref ht, .int (nI 0), .int (nI 0)])), (ht, .inl (gSt G, 8, .inr (.inr (.inr (.inr (fun k => some (hs k)))))))], stW G (hs 0) (ha 0) (hb 0) (hc 0) (hd 0) (sHm aS0) (sNb aS0) (sNs aS0) (sLa aS0) (sLo aS0) (sNu aS0) (sTn aS0) (sSh aS0), stW G (hs 1) (ha 1) (hb 1) (hc 1) (hd 1) (sHm aS0) (sNb aS0) (sNs aS0) (sLa aS0) (sLo aS0) (sNu aS0) (sTn aS0) (sSh aS0), stW G (hs 2) (ha 2) (hb 2) (hc 2) (hd 2) (sHm aS0) (sNb aS0) (sNs aS0) (sLa aS0) (sLo aS0) (sNu aS0) (sTn aS0) (sSh aS0), stW G (hs 3) (ha 3) (hb 3) (hc 3) (hd 3) (sHm aS0) (sNb aS0) (sNs aS0) (sLa aS0) (sLo aS0) (sNu aS0) (sTn aS0) (sSh aS0), stW G (hs 4) (ha 4) (hb 4) (hc 4) (hd 4) (sHm aS0) (sNb aS0) (sNs aS0) (sLa aS0) (sLo aS0) (sNu aS0) (sTn aS0) (sSh aS0), stW G (hs 5) (ha 5) (hb 5) (hc 5) (hd 5) (sHm aS0) (sNb aS0) (sNs aS0) (sLa aS0) (sLo aS0) (sNu aS0) (sTn aS0) (sSh aS0), stW G (hs 6) (ha 6) (hb 6) (hc 6) (hd 6) (sHm aS0) (sNb aS0) (sNs aS0) (sLa aS0) (sLo aS0) (sNu aS0) (sTn aS0) (sSh aS0), stW G (hs 7) (ha 7) (hb 7) (hc 7) (hd 7) (sHm aS0) (sNb aS0) (sNs aS0) (sLa aS0) (sLo aS0) (sNu aS0) (sTn aS0) (sSh aS0), rbW G hr hp ap av he aw al af as3 ar aE0, [(hl, .inr (1, [.ref lb, .int 0, .int 0, .int (nI 0)])), (lb, .inl (gB G, 16, .inl (fun j => nI ((fun _ => 0) j))))]] = FW G ((fun k => [fs, h, h2, h3, hh, hr, hg, hq, hl, ah, as_, sa, sb_, hp, ap, av, he, aw, al, af, as3, ht].getD k 0), (fun k => [ar, sr_, sq, hs, ha, hb].getD k (fun _ => 0)), (fun k => [hc, hd].getD k (fun _ _ => 0))) aS0 (0, 0, 0, rr, ra, aS0, (fun _ => aS0), aE0, lb, 16, (fun _ => 0), 0, 0) := rfl
theorem fok0 (rr ra : Nat → Nat) (lb : Nat) : FOk 0 aS0 (0, 0, 0, rr, ra, aS0, (fun _ => aS0), aE0, lb, 16, (fun _ => 0), 0, 0) := ⟨inv0, Nat.zero_le _, (show (0 : Nat) < 8 by decide), ⟨fun _ _ => show (0 : Nat) < 97 by decide, fun _ => show (0 : Nat) ≤ 1 by decide, fun _ => show (0 : Nat) < 97 by decide, fun _ => show (0 : Nat) < 97 by decide⟩, Or.inl rfl, (show (0 : Nat) ≤ 16 by decide), fun _ => show (0 : Nat) < 128 by decide, (show (0 : Nat) ≤ 60 by decide)⟩
set_option maxHeartbeats 8000000 in
set_option maxRecDepth 100000 in
theorem law_main (G : Gx) (K : Cx) (sc len : Nat) (xs : Nat → Int32) (hK : LK G K sc len xs) (F : FX) (s : ASt) (D : DX) (hok : FOk 0 s D) (hret : ∀ (cells slots : Nat) (lv : List (Option Value)) (ws : va_W), cells ≤ 600390 → slots ≤ 7288600 → V G K 4 cells slots 99 lv [.int 1] ws) : V G K 4 187 1123 8 [some (.ref sc), some (.ref (F.1 0)), none, none] [] (flt [FW G F s D]) := by
  obtain ⟨hC, hSF, hst, hlen⟩ := id hK
  have hgos := SFgoS (SFs.k G sc len xs) hSF
  have hgot := SFgo.s hgos
  have hgo := SFgo.x hgot
  have hSFs := hSF
  replace hSF := hSF.1
  have hSFt := hSF
  replace hSF := hSF.1
  have q0_ : Cond.methodLink RL 129 Lib.Math.max.name ∈ (wsL_law ++ hx9) := by decide +kernel
  have q1_ : Cond.static Lib.Math.max.name ∈ (wsL_law ++ hx9) := by decide +kernel
  have q2_ : Cond.initialized "java/lang/Math" ∈ (wsL_law ++ hx9) := by decide +kernel
  have q3_ : Cond.code Lib.Math.max.name Lib.Math.max.code 2 (some .int) ∈ (wsL_law ++ hx9) := by decide +kernel
  refine V.aload_n hC (x := (F.1 0)) dL_law_8 rfl ?_
  refine V.callSBN (n := 1) (As := [.ref (F.1 0)]) (rest := []) hC (l_inverses (kl K) G hst F s D 0 hok) (SFt.k G) hgot (gx2 gL_law_L_areInversesRight) rfl ⟨rfl, rfl⟩ (by decide +kernel) ⟨by decide, by decide, by decide, by decide⟩ (L := [FW G F s D]) (N := 1) rfl [0] [] (by decide) rfl (fun u_9 : DX => [FW G F s u_9]) (fun _ => rfl) rfl rfl (Nat.le_of_ble_eq_true rfl) dL_law_9 (fun r_9 u_9 hp_9 => ?_)
  obtain ⟨e_9, hd_9⟩ := hp_9
  subst e_9
  have hok_9 : FOk 0 s u_9 := hok.k hd_9
  show V G K 4 487 2923 12 [some (.ref sc), some (.ref (F.1 0)), none, none] [.int (nI 1)] (flt [FW G F s u_9])
  refine V.ifN_ne hC 1 17 dL_law_12 rfl rfl (by omega) (fun c_12 => ?_) (fun c_12 => ?_)
  · refine V.aload_n hC (x := (F.1 0)) dL_law_17 rfl ?_
    refine V.aload_n hC (x := sc) dL_law_18 rfl ?_
    refine V.callSBN (n := 2) (As := [.ref (F.1 0), .ref sc]) (rest := []) hC (l_lay (kl K) G hst F s u_9 0 hok_9 sc len xs hlen) (SFs.k G sc len xs) hgos (gx2 gL_law_L_lay) rfl ⟨rfl, rfl⟩ (by decide +kernel) ⟨by decide, by decide, by decide, by decide⟩ (L := [FW G F s u_9]) (N := 1) rfl [0] [] (by decide) rfl (fun u_19 : ASt × DX => [FW G F u_19.1 u_19.2]) (fun _ => rfl) rfl rfl (Nat.le_of_ble_eq_true rfl) dL_law_19 (fun r_19 u_19 hp_19 => ?_)
    show V G K 4 519 3115 22 [some (.ref sc), some (.ref (F.1 0)), none, none] [] (flt [FW G F u_19.1 u_19.2])
    refine V.iconst hC 0 dL_law_22 rfl ?_
    refine V.istore_n hC dL_law_23 [some (.ref sc), some (.ref (F.1 0)), some (.int 0), none] (Nat.le_of_ble_eq_true rfl) rfl ?_
    have loop24 : ∀ (n : Nat) (k : Nat) (s1 : ASt) (D1 : DX), 8 - k < n → (k ≤ 8) → (FOk (24 + k) s1 D1) → V G K 4 (519 + 16410 * k) (3115 + 193500 * k) 24 [some (.ref sc), some (.ref (F.1 0)), some (.int (nI k)), none] [] (flt [FW G F s1 D1]) := by
      intro n
      induction n with
      | zero => intro k s1 D1 hlt; exact absurd hlt (Nat.not_lt_zero _)
      | succ n ih24 =>
        intro k s1 D1 hlt24 hk hok1
        refine V.iload_n hC (x := nI k) dL_law_24 rfl ?_
        refine V.bipush hC 8 dL_law_25 rfl ?_
        refine V.icmpN_ge hC k 8 98 dL_law_27 rfl rfl rfl (by omega) (by omega) (fun c_27 => ?_) (fun c_27 => ?_)
        · refine V.iconst hC 1 dL_law_98 rfl ?_
          exact hret _ _ _ _ (by omega) (by omega)
        · refine V.aload_n hC (x := (F.1 0)) dL_law_30 rfl ?_
          refine V.aload_n hC (x := sc) dL_law_31 rfl ?_
          refine V.sipush hC 200 dL_law_32 rfl ?_
          refine V.bipush hC 6 dL_law_35 rfl ?_
          refine V.iload_n hC (x := nI k) dL_law_37 rfl ?_
          refine V.imulN hC 6 k dL_law_38 rfl rfl ?_
          refine V.iaddN hC 200 (6 * k) dL_law_39 rfl rfl ?_
          refine V.callSBN (n := 3) (As := [.ref (F.1 0), .ref sc, .int (nI (200 + (6 * k)))]) (rest := []) hC (l_any (kl K) G hst F s1 D1 (24 + k) hok1 sc len xs hlen (200 + (6 * k)) (by omega)) (SFs.k G sc len xs) hgos (gx2 gL_law_L_any) rfl ⟨rfl, rfl⟩ (by decide +kernel) ⟨by decide, by decide, by show _ ≤ 600390; omega, by show _ ≤ 7288600; omega⟩ (L := [FW G F s1 D1]) (N := 1) rfl [0] [] (by decide) rfl (fun u_40 : ASt × DX => [FW G F u_40.1 u_40.2]) (fun _ => rfl) rfl rfl (Nat.le_of_ble_eq_true rfl) dL_law_40 (fun r_40 u_40 hp_40 => ?_)
          have hnb : max 1 (sNb u_40.1) ≤ 8 := by have := hp_40.1.1; omega
          show V G K 4 (519 + 16410 * k + 2) (3115 + 193500 * k + 12) 43 [some (.ref sc), some (.ref (F.1 0)), some (.int (nI k)), none] [.int r_40] (flt [FW G F u_40.1 u_40.2])
          refine V.istore_n hC dL_law_43 [some (.ref sc), some (.ref (F.1 0)), some (.int (nI k)), some (.int r_40)] (Nat.le_of_ble_eq_true rfl) rfl ?_
          refine V.aload_n hC (x := (F.1 0)) dL_law_44 rfl ?_
          refine V.callSBN (n := 1) (As := [.ref (F.1 0)]) (rest := []) hC (l_areBirds (kl K) G hst F u_40.1 u_40.2 (24 + k + 1) hp_40 (by omega)) (SFt.k G) hgot (gx2 gL_law_L_areBirdsRight) rfl ⟨rfl, rfl⟩ (by decide +kernel) ⟨by decide, by decide, by show _ ≤ 600390; omega, by show _ ≤ 7288600; omega⟩ (L := [FW G F u_40.1 u_40.2]) (N := 1) rfl [0] [] (by decide) rfl (fun u_45 : DX => [FW G F u_40.1 u_45]) (fun _ => rfl) rfl rfl (Nat.le_of_ble_eq_true rfl) dL_law_45 (fun r_45 u_45 hp_45 => ?_)
          obtain ⟨e_45, hok_45⟩ := hp_45
          subst e_45
          show V G K 4 (519 + 16410 * k + 2 + 16000) (3115 + 193500 * k + 12 + 191000) 48 [some (.ref sc), some (.ref (F.1 0)), some (.int (nI k)), some (.int r_40)] [.int (nI 1)] (flt [FW G F u_40.1 u_45])
          refine V.ifN_eq hC 1 90 dL_law_48 rfl rfl (by omega) (fun c_48 => ?_) (fun c_48 => ?_)
          · exact absurd c_48 (by decide)
          · refine V.aload_n hC (x := (F.1 0)) dL_law_51 rfl ?_
            refine V.aload_n hC (x := sc) dL_law_52 rfl ?_
            refine V.sipush hC 300 dL_law_53 rfl ?_
            refine V.iload_n hC (x := nI k) dL_law_56 rfl ?_
            refine V.iaddN hC 300 k dL_law_57 rfl rfl ?_
            refine V.iconst hC 1 dL_law_58 rfl ?_
            refine V.aload_n hC (x := (F.1 0)) dL_law_59 rfl ?_
            refine V.callVBN (n := 0) (As := []) (rest := [.int 1, .int (nI (300 + k)), .ref sc, .ref (F.1 0)]) hC (f_birdCount (kl K) G hst F u_40.1 u_45 (24 + k + 1) hok_45) (SFt.k G) hgot (gx1 gL_law_X12_birdCount) rfl ⟨rfl, rfl⟩ (by decide +kernel) ⟨by decide, by decide, by show _ ≤ 600390; omega, by show _ ≤ 7288600; omega⟩ (L := [FW G F u_40.1 u_45]) (N := 1) rfl [0] [] (by decide) (List.append_nil (FW G F u_40.1 u_45)) (fun _ : Unit => [FW G F u_40.1 u_45]) (fun _ => List.append_nil (FW G F u_40.1 u_45)) rfl rfl rfl rfl (Nat.le_of_ble_eq_true rfl) dL_law_60 (fun r_60 u_60 hp_60 => ?_)
            subst hp_60
            show V G K 4 (519 + 16410 * k + 2 + 16000) (3115 + 193500 * k + 12 + 191000) 63 [some (.ref sc), some (.ref (F.1 0)), some (.int (nI k)), some (.int r_40)] [.int (nI (sNb u_40.1)), .int 1, .int (nI (300 + k)), .ref sc, .ref (F.1 0)] (flt [FW G F u_40.1 u_45])
            refine V.mmax hC q0_ q1_ q2_ q3_ ⟨Nat.le_of_ble_eq_true rfl, Nat.le_of_ble_eq_true rfl, (by show _ ≤ 600390; omega), (by show _ ≤ 7288600; omega)⟩ dL_law_63 ?_
            refine V.topeq (nI (max 1 (sNb u_40.1))) (max1 hp_40.1.1) ?_
            refine V.callSBN (n := 3) (As := [.ref sc, .int (nI (300 + k)), .int (nI (max 1 (sNb u_40.1)))]) (rest := [.ref (F.1 0)]) hC (l_pick (kl K) G sc len xs hlen (300 + k) (by omega) (max 1 (sNb u_40.1)) (by omega) (by omega)) (SFs.k G sc len xs) hgos (gx2 gL_law_L_pick) rfl ⟨rfl, rfl⟩ (by decide +kernel) ⟨by decide, by decide, by show _ ≤ 600390; omega, by show _ ≤ 7288600; omega⟩ (L := [FW G F u_40.1 u_45]) (N := 1) rfl [] [0] (by decide) rfl (fun _ : Unit => []) (fun _ => rfl) rfl rfl (Nat.le_of_ble_eq_true rfl) dL_law_66 (fun r_66 u_66 hp_66 => ?_)
            obtain ⟨p_66, hp_66, e_p_66⟩ := hp_66
            subst e_p_66
            show V G K 4 (519 + 16410 * k + 2 + 16000) (3115 + 193500 * k + 12 + 191000) 69 [some (.ref sc), some (.ref (F.1 0)), some (.int (nI k)), some (.int r_40)] [.int (nI p_66), .ref (F.1 0)] (flt [FW G F u_40.1 u_45])
            refine V.aload_n hC (x := (F.1 0)) dL_law_69 rfl ?_
            refine V.aload_n hC (x := sc) dL_law_70 rfl ?_
            refine V.sipush hC 320 dL_law_71 rfl ?_
            refine V.iload_n hC (x := nI k) dL_law_74 rfl ?_
            refine V.iaddN hC 320 k dL_law_75 rfl rfl ?_
            refine V.bipush hC 6 dL_law_76 rfl ?_
            refine V.callSBN (n := 3) (As := [.ref sc, .int (nI (320 + k)), .int 6]) (rest := [.ref (F.1 0), .int (nI p_66), .ref (F.1 0)]) hC (l_pick (kl K) G sc len xs hlen (320 + k) (by omega) 6 (by decide) (by decide)) (SFs.k G sc len xs) hgos (gx2 gL_law_L_pick) rfl ⟨rfl, rfl⟩ (by decide +kernel) ⟨by decide, by decide, by show _ ≤ 600390; omega, by show _ ≤ 7288600; omega⟩ (L := [FW G F u_40.1 u_45]) (N := 1) rfl [] [0] (by decide) rfl (fun _ : Unit => []) (fun _ => rfl) rfl rfl (Nat.le_of_ble_eq_true rfl) dL_law_78 (fun r_78 u_78 hp_78 => ?_)
            obtain ⟨p_78, hp_78, e_p_78⟩ := hp_78
            subst e_p_78
            show V G K 4 (519 + 16410 * k + 2 + 16000) (3115 + 193500 * k + 12 + 191000) 81 [some (.ref sc), some (.ref (F.1 0)), some (.int (nI k)), some (.int r_40)] [.int (nI p_78), .ref (F.1 0), .int (nI p_66), .ref (F.1 0)] (flt [FW G F u_40.1 u_45])
            refine V.callSBN (n := 2) (As := [.ref (F.1 0), .int (nI p_78)]) (rest := [.int (nI p_66), .ref (F.1 0)]) hC (l_secret (kl K) G hst F u_40.1 u_45 (24 + k + 1) hok_45 p_78 (by omega)) (SFt.k G) hgot (gx2 gL_law_L_secret) rfl ⟨rfl, rfl⟩ (by decide +kernel) ⟨by decide, by decide, by show _ ≤ 600390; omega, by show _ ≤ 7288600; omega⟩ (L := [FW G F u_40.1 u_45]) (N := 1) rfl [0] [] (by decide) rfl (fun _ : Unit => [FW G F u_40.1 u_45]) (fun _ => rfl) rfl rfl (Nat.le_of_ble_eq_true rfl) dL_law_81 (fun r_81 u_81 hp_81 => ?_)
            show V G K 4 (519 + 16410 * k + 2 + 16000 + 1) (3115 + 193500 * k + 12 + 191000 + 6) 84 [some (.ref sc), some (.ref (F.1 0)), some (.int (nI k)), some (.int r_40)] [.int r_81, .int (nI p_66), .ref (F.1 0)] (flt [FW G F u_40.1 u_45])
            refine V.callSBN (n := 3) (As := [.ref (F.1 0), .int (nI p_66), .int r_81]) (rest := []) hC (l_isIssue (kl K) G hst F u_40.1 u_45 (24 + k + 1) hok_45 (by omega) (nI p_66) r_81) (SFt.k G) hgot (gx2 gL_law_L_isIssueRight) rfl ⟨rfl, rfl⟩ (by decide +kernel) ⟨by decide, by decide, by show _ ≤ 600390; omega, by show _ ≤ 7288600; omega⟩ (L := [FW G F u_40.1 u_45]) (N := 1) rfl [0] [] (by decide) rfl (fun u_84 : DX => [FW G F u_40.1 u_84]) (fun _ => rfl) rfl rfl (Nat.le_of_ble_eq_true rfl) dL_law_84 (fun r_84 u_84 hp_84 => ?_)
            obtain ⟨e_84, hok_84⟩ := hp_84
            subst e_84
            show V G K 4 (519 + 16410 * k + 2 + 16000 + 1 + 400) (3115 + 193500 * k + 12 + 191000 + 6 + 2400) 87 [some (.ref sc), some (.ref (F.1 0)), some (.int (nI k)), some (.int r_40)] [.int (nI 1)] (flt [FW G F u_40.1 u_84])
            refine V.ifN_ne hC 1 92 dL_law_87 rfl rfl (by omega) (fun c_87 => ?_) (fun c_87 => ?_)
            · refine V.iincN hC k 1 dL_law_92 rfl [some (.ref sc), some (.ref (F.1 0)), some (.int (nI (k + 1))), some (.int r_40)] (Nat.le_of_ble_eq_true rfl) rfl rfl rfl ?_
              refine V.goto hC 24 dL_law_95 rfl ?_
              refine V.drop 3 (lv' := [some (.ref sc), some (.ref (F.1 0)), some (.int (nI (k + 1))), none]) rfl ?_
              refine V.widen (k := 519 + 16410 * (k + 1)) (n := 3115 + 193500 * (k + 1)) (by omega) (by omega) ?_
              exact ih24 (k + 1) (u_40.1) u_84 (by omega) (by omega) (hok_84.up (by omega))
            · exact absurd c_87 (by decide)
    refine V.widen (k := 519 + 16410 * 0) (n := 3115 + 193500 * 0) (by omega) (by omega) ?_
    exact loop24 _ 0 (u_19.1) (u_19.2) (Nat.lt_succ_self _) (Nat.zero_le _) (hp_19.up (by omega))
  · exact absurd c_12 (by decide)

theorem q12c : Cond.classLink RL 16 RX12 ∈ wsL_law ++ hx9 := List.mem_append_left _ (by decide +kernel)
theorem q12n : Cond.instantiable RX12 11 ∈ wsL_law ++ hx9 := List.mem_append_left _ (by decide +kernel)
theorem q12i : Cond.initialized RX12 ∈ wsL_law ++ hx9 := List.mem_append_left _ (by decide +kernel)
theorem q12l : Cond.methodLink RL 260 yX12_init ∈ wsL_law ++ hx9 := List.mem_append_left _ (by decide +kernel)
theorem q12m : Cond.instanceMethod yX12_init ∈ wsL_law ++ hx9 := List.mem_append_left _ (by decide +kernel)
set_option maxHeartbeats 8000000 in
set_option maxRecDepth 100000 in
theorem law_first (G : Gx) (K : Cx) (sc len : Nat) (xs : Nat → Int32) (hK : LK G K sc len xs) (hret : ∀ (cells slots : Nat) (lv : List (Option Value)) (ws : va_W), cells ≤ 600390 → slots ≤ 7288600 → V G K 4 cells slots 99 lv [.int 1] ws) : V G K 4 0 0 0 [some (.ref sc), none, none, none] [] [] := by
  obtain ⟨hC, hSF, hst, hlen⟩ := id hK
  have hgos := SFgoS (SFs.k G sc len xs) hSF
  have hgot := SFgo.s hgos
  refine V.newO hC (T := TX12) (N := 11) (ci := 12) (fun w h => List.mem_append_left _ (inlX12 w h)) tyX12 tyX12_ok q12c q12n q12i rfl (fs := [.null, .null, .null, .null, .null, .null, .null, .null, .int 0, .int 0, .int 0]) (by decide) (by decide) (by decide) dL_law_0 (fun fs => ?_)
  show V G K 4 1 11 3 [some (.ref sc), none, none, none] [.ref fs] ([(fs, .inr (12, [.null, .null, .null, .null, .null, .null, .null, .null, .int 0, .int 0, .int 0]))] ++ [])
  refine V.dup hC dL_law_3 rfl ?_
  refine V.callIG (n := 0) (As := []) (rest := [.ref fs]) hC (c_fsInit (kl K) G fs) (SFt.k G) hgot (gx1 gL_law_X12_init) rfl ⟨rfl, rfl⟩ q12i q12l q12m rfl (by decide +kernel) ⟨by decide, by decide, by decide, by decide⟩ [] rfl rfl (Nat.le_of_ble_eq_true rfl) dL_law_4 (fun r_4 u hp_4 => ?_)
  obtain ⟨⟨h, ah, as_, rr, ra⟩, ⟨h2, sa, sb_, sr_, sq⟩, ⟨h3, ba, bs_, br, bq⟩, ⟨hh, ht, hs, ha, hb, hc, hd⟩, ⟨hr, hp, ap, av, he, aw, al, af, as3, ar⟩, hg, ⟨hq, tx, ag⟩, ⟨hl, lb⟩⟩ := u
  show V G K 4 187 1123 7 [some (.ref sc), none, none, none] [.ref fs] (flt [[(fs, .inr (12, [.ref h, .ref h2, .ref h3, .ref hh, .ref hr, .ref hg, .ref hq, .ref hl, .int 0, .int (-1), .int (-1)]))], stW G h ah as_ rr ra (sHm aS0) (sNb aS0) (sNs aS0) (sLa aS0) (sLo aS0) (sNu aS0) (sTn aS0) (sSh aS0), stW G h2 sa sb_ sr_ sq (sHm aS0) (sNb aS0) (sNs aS0) (sLa aS0) (sLo aS0) (sNu aS0) (sTn aS0) (sSh aS0), stW G h3 ba bs_ br bq (sHm aS0) (sNb aS0) (sNs aS0) (sLa aS0) (sLo aS0) (sNu aS0) (sTn aS0) (sSh aS0), [(hh, .inr (6, [.ref ht, .int (nI 0), .int (nI 0)])), (ht, .inl (gSt G, 8, .inr (.inr (.inr (.inr (fun k => some (hs k)))))))], stW G (hs 0) (ha 0) (hb 0) (hc 0) (hd 0) (sHm aS0) (sNb aS0) (sNs aS0) (sLa aS0) (sLo aS0) (sNu aS0) (sTn aS0) (sSh aS0), stW G (hs 1) (ha 1) (hb 1) (hc 1) (hd 1) (sHm aS0) (sNb aS0) (sNs aS0) (sLa aS0) (sLo aS0) (sNu aS0) (sTn aS0) (sSh aS0), stW G (hs 2) (ha 2) (hb 2) (hc 2) (hd 2) (sHm aS0) (sNb aS0) (sNs aS0) (sLa aS0) (sLo aS0) (sNu aS0) (sTn aS0) (sSh aS0), stW G (hs 3) (ha 3) (hb 3) (hc 3) (hd 3) (sHm aS0) (sNb aS0) (sNs aS0) (sLa aS0) (sLo aS0) (sNu aS0) (sTn aS0) (sSh aS0), stW G (hs 4) (ha 4) (hb 4) (hc 4) (hd 4) (sHm aS0) (sNb aS0) (sNs aS0) (sLa aS0) (sLo aS0) (sNu aS0) (sTn aS0) (sSh aS0), stW G (hs 5) (ha 5) (hb 5) (hc 5) (hd 5) (sHm aS0) (sNb aS0) (sNs aS0) (sLa aS0) (sLo aS0) (sNu aS0) (sTn aS0) (sSh aS0), stW G (hs 6) (ha 6) (hb 6) (hc 6) (hd 6) (sHm aS0) (sNb aS0) (sNs aS0) (sLa aS0) (sLo aS0) (sNu aS0) (sTn aS0) (sSh aS0), stW G (hs 7) (ha 7) (hb 7) (hc 7) (hd 7) (sHm aS0) (sNb aS0) (sNs aS0) (sLa aS0) (sLo aS0) (sNu aS0) (sTn aS0) (sSh aS0), rbW G hr hp ap av he aw al af as3 ar aE0, [(hg, .inr (4, [.ref h, .ref hr]))], [(hq, .inr (8, [.ref tx, .ref ag, .ref (adD G 0), .int (nI 0), .int (nI 0), .int (nI 0), .int (nI 0)])), (tx, .inl (gC G, 60, .inl (fun _ => 0))), (ag, .inl (gI G, 3, .inl (fun _ => 0)))], [(hl, .inr (1, [.ref lb, .int 0, .int 0, .int (nI 0)])), (lb, .inl (gB G, 16, .inl (fun j => nI ((fun _ => 0) j))))]])
  refine V.astore_n hC dL_law_7 [some (.ref sc), some (.ref fs), none, none] (Nat.le_of_ble_eq_true rfl) rfl ?_
  refine V.reN (N := 17) [0, 14, 1, 2, 4, 5, 6, 7, 8, 9, 10, 11, 12, 13, 16] [[(fs, .inr (12, [.ref h, .ref h2, .ref h3, .ref hh, .ref hr, .ref hg, .ref hq, .ref hl, .int 0, .int (-1), .int (-1)]))], [(hg, .inr (4, [.ref h, .ref hr]))], stW G h ah as_ rr ra (sHm aS0) (sNb aS0) (sNs aS0) (sLa aS0) (sLo aS0) (sNu aS0) (sTn aS0) (sSh aS0), stW G h2 sa sb_ sr_ sq (sHm aS0) (sNb aS0) (sNs aS0) (sLa aS0) (sLo aS0) (sNu aS0) (sTn aS0) (sSh aS0), [(hh, .inr (6, [.ref ht, .int (nI 0), .int (nI 0)])), (ht, .inl (gSt G, 8, .inr (.inr (.inr (.inr (fun k => some (hs k)))))))], stW G (hs 0) (ha 0) (hb 0) (hc 0) (hd 0) (sHm aS0) (sNb aS0) (sNs aS0) (sLa aS0) (sLo aS0) (sNu aS0) (sTn aS0) (sSh aS0), stW G (hs 1) (ha 1) (hb 1) (hc 1) (hd 1) (sHm aS0) (sNb aS0) (sNs aS0) (sLa aS0) (sLo aS0) (sNu aS0) (sTn aS0) (sSh aS0), stW G (hs 2) (ha 2) (hb 2) (hc 2) (hd 2) (sHm aS0) (sNb aS0) (sNs aS0) (sLa aS0) (sLo aS0) (sNu aS0) (sTn aS0) (sSh aS0), stW G (hs 3) (ha 3) (hb 3) (hc 3) (hd 3) (sHm aS0) (sNb aS0) (sNs aS0) (sLa aS0) (sLo aS0) (sNu aS0) (sTn aS0) (sSh aS0), stW G (hs 4) (ha 4) (hb 4) (hc 4) (hd 4) (sHm aS0) (sNb aS0) (sNs aS0) (sLa aS0) (sLo aS0) (sNu aS0) (sTn aS0) (sSh aS0), stW G (hs 5) (ha 5) (hb 5) (hc 5) (hd 5) (sHm aS0) (sNb aS0) (sNs aS0) (sLa aS0) (sLo aS0) (sNu aS0) (sTn aS0) (sSh aS0), stW G (hs 6) (ha 6) (hb 6) (hc 6) (hd 6) (sHm aS0) (sNb aS0) (sNs aS0) (sLa aS0) (sLo aS0) (sNu aS0) (sTn aS0) (sSh aS0), stW G (hs 7) (ha 7) (hb 7) (hc 7) (hd 7) (sHm aS0) (sNb aS0) (sNs aS0) (sLa aS0) (sLo aS0) (sNu aS0) (sTn aS0) (sSh aS0), rbW G hr hp ap av he aw al af as3 ar aE0, [(hl, .inr (1, [.ref lb, .int 0, .int 0, .int (nI 0)])), (lb, .inl (gB G, 16, .inl (fun j => nI ((fun _ => 0) j))))]] rfl (by decide) rfl ?_
  rw [FW_start G fs h h2 h3 hh hr hg hq hl ah as_ sa sb_ hp ap av he aw al af as3 ht lb rr ra ar sr_ sq hs ha hb hc hd]
  rw [← List.append_nil (FW G ((fun k => [fs, h, h2, h3, hh, hr, hg, hq, hl, ah, as_, sa, sb_, hp, ap, av, he, aw, al, af, as3, ht].getD k 0), (fun k => [ar, sr_, sq, hs, ha, hb].getD k (fun _ => 0)), (fun k => [hc, hd].getD k (fun _ _ => 0))) aS0 (0, 0, 0, rr, ra, aS0, (fun _ => aS0), aE0, lb, 16, (fun _ => 0), 0, 0))]
  exact law_main G K sc len xs hK ((fun k => [fs, h, h2, h3, hh, hr, hg, hq, hl, ah, as_, sa, sb_, hp, ap, av, he, aw, al, af, as3, ht].getD k 0), (fun k => [ar, sr_, sq, hs, ha, hb].getD k (fun _ => 0)), (fun k => [hc, hd].getD k (fun _ _ => 0))) aS0 (0, 0, 0, rr, ra, aS0, (fun _ => aS0), aE0, lb, 16, (fun _ => 0), 0, 0) (fok0 rr ra lb) hret