/-! the law's own methods: birds, the method (printed by gen/s72p.py) -/
set_option maxHeartbeats 60000000 in
set_option maxRecDepth 100000 in
theorem l_areBirds (l : Launch) (G : Gx) (hst : l.stackTraces = false) (F : FX) (s : ASt) (D : DX) (B : Nat) (hok : FOk B s D) (hB : B < 10000) : Ct l G (SFt G) yL_areBirdsRight (wsL_areBirdsRight ++ hx9) ({ frames := 12, cells := 16000, slots := 191000, locals := 229 }) [.ref (F.1 0)] (flt [FW G F s D]) mkI (fun (r : Int32) (u : DX) => r = 1 ∧ FOk B s u) (fun u : DX => flt [FW G F s u]) 16000 191000 := by
  have h8 : sNb s ≤ 8 := hok.1.1
  have hs6 : sNs s ≤ 6 := hok.1.2.1
  have hal := als_le48 s hs6 (sNb s)
  have hrb := rbt_le (sSh s) (sTn s) (sNs s)
  refine Ct.ofI (cc := cL_areBirdsRight) (maxL := 10) (by decide) rfl ⟨by simp [Value.category], Nat.le_of_ble_eq_true rfl⟩ ?_
  intro K hl hC hSF hnm hE
  subst hl
  have hgot := SFgoS (SFt.k G) hSF
  have hgo := SFgo.x hgot
  have hSFt := hSF
  replace hSF := hSF.1
  show V G K 10 0 0 0 [some (.ref (F.1 0)), none, none, none, none, none, none, none, none, none] [] (flt [FW G F s D])
  refine V.aload_n hC (x := (F.1 0)) dL_areBirdsRight_0 rfl ?_
  refine V.callVBN (n := 0) (As := []) (rest := []) hC (f_birdCount (kl K) G hst F s D B hok) (SFt.k G) hgot (gx1 gL_areBirdsRight_X12_birdCount) rfl ⟨rfl, rfl⟩ (by decide +kernel) ⟨by decide, by decide, by decide, by decide⟩ (L := [FW G F s D]) (N := 1) rfl [0] [] (by decide) (List.append_nil (FW G F s D)) (fun _ : Unit => [FW G F s D]) (fun _ => List.append_nil (FW G F s D)) rfl rfl rfl rfl (Nat.le_of_ble_eq_true rfl) dL_areBirdsRight_1 (fun r_1 u_1 hp_1 => ?_)
  subst hp_1
  show V G K 10 0 0 4 [some (.ref (F.1 0)), none, none, none, none, none, none, none, none, none] [.int (nI (sNb s))] (flt [FW G F s D])
  refine V.istore_n hC dL_areBirdsRight_4 [some (.ref (F.1 0)), some (.int (nI (sNb s))), none, none, none, none, none, none, none, none] (Nat.le_of_ble_eq_true rfl) rfl ?_
  refine V.iconst hC 0 dL_areBirdsRight_5 rfl ?_
  refine V.istore_n hC dL_areBirdsRight_6 [some (.ref (F.1 0)), some (.int (nI (sNb s))), some (.int 0), none, none, none, none, none, none, none] (Nat.le_of_ble_eq_true rfl) rfl ?_
  refine V.iconst hC 0 dL_areBirdsRight_7 rfl ?_
  refine V.istore_n hC dL_areBirdsRight_8 [some (.ref (F.1 0)), some (.int (nI (sNb s))), some (.int 0), some (.int 0), none, none, none, none, none, none] (Nat.le_of_ble_eq_true rfl) rfl ?_
  refine V.aload_n hC (x := (F.1 0)) dL_areBirdsRight_9 rfl ?_
  refine V.iconst hC 0 dL_areBirdsRight_10 rfl ?_
  refine V.iload_n hC (x := nI (sNb s)) dL_areBirdsRight_11 rfl ?_
  refine V.iconst hC 0 dL_areBirdsRight_12 rfl ?_
  refine V.callSBWN (n := 4) (As := [.ref (F.1 0), .int 0, .int (nI (sNb s)), .int 0]) (rest := []) hC (l_ask (kl K) G hst F s D B hok 0 (by decide) (nI (sNb s)) 0) (SFt.k G) hgot (gx2 gL_areBirdsRight_L_ask) rfl ⟨rfl, rfl⟩ (by decide +kernel) ⟨by decide, by decide, by decide, by decide⟩ (L := [FW G F s D]) (N := 1) rfl [0] [] (by decide) rfl (fun u_13 : DX => [FW G F s u_13]) (fun _ => rfl) rfl rfl (Nat.le_of_ble_eq_true rfl) dL_areBirdsRight_13 (fun r_13 u_13 hp_13 => ?_)
  obtain ⟨e_13, hd_13⟩ := hp_13
  subst e_13
  have hok_13 : FOk B s u_13 := hok.k hd_13
  refine V.topeq (-2002) (ask0_end _) ?_
  show V G K 10 3 18 16 [some (.ref (F.1 0)), some (.int (nI (sNb s))), some (.int 0), some (.int 0), none, none, none, none, none, none] [.int (-2002)] (flt [FW G F s u_13])
  refine V.sipush hC (-2002) dL_areBirdsRight_16 rfl ?_
  refine V.icmp_ne hC 144 dL_areBirdsRight_19 rfl (fun c_19 => ?_) (fun c_19 => ?_)
  · exact absurd rfl c_19
  · refine V.aload_n hC (x := (F.1 0)) dL_areBirdsRight_22 rfl ?_
    refine V.iconst hC 1 dL_areBirdsRight_23 rfl ?_
    refine V.iconst hC 4 dL_areBirdsRight_24 rfl ?_
    refine V.iconst hC 0 dL_areBirdsRight_25 rfl ?_
    refine V.callSBWN (n := 4) (As := [.ref (F.1 0), .int 1, .int 4, .int 0]) (rest := []) hC (l_ask (kl K) G hst F s u_13 B hok_13 1 (by decide) 4 0) (SFt.k G) hgot (gx2 gL_areBirdsRight_L_ask) rfl ⟨rfl, rfl⟩ (by decide +kernel) ⟨by decide, by decide, by decide, by decide⟩ (L := [FW G F s u_13]) (N := 1) rfl [0] [] (by decide) rfl (fun u_26 : DX => [FW G F s u_26]) (fun _ => rfl) rfl rfl (Nat.le_of_ble_eq_true rfl) dL_areBirdsRight_26 (fun r_26 u_26 hp_26 => ?_)
    obtain ⟨e_26, hd_26⟩ := hp_26
    subst e_26
    have hok_26 : FOk B s u_26 := hok_13.k hd_26
    refine V.topeq (-2003) (ask1_4 _) ?_
    show V G K 10 6 36 29 [some (.ref (F.1 0)), some (.int (nI (sNb s))), some (.int 0), some (.int 0), none, none, none, none, none, none] [.int (-2003)] (flt [FW G F s u_26])
    refine V.sipush hC (-2003) dL_areBirdsRight_29 rfl ?_
    refine V.icmp_ne hC 144 dL_areBirdsRight_32 rfl (fun c_32 => ?_) (fun c_32 => ?_)
    · exact absurd rfl c_32
    · refine V.aload_n hC (x := (F.1 0)) dL_areBirdsRight_35 rfl ?_
      refine V.iconst hC 2 dL_areBirdsRight_36 rfl ?_
      refine V.iload_n hC (x := nI (sNb s)) dL_areBirdsRight_37 rfl ?_
      refine V.iconst hC 0 dL_areBirdsRight_38 rfl ?_
      refine V.callSBWN (n := 4) (As := [.ref (F.1 0), .int 2, .int (nI (sNb s)), .int 0]) (rest := []) hC (l_ask (kl K) G hst F s u_26 B hok_26 2 (by decide) (nI (sNb s)) 0) (SFt.k G) hgot (gx2 gL_areBirdsRight_L_ask) rfl ⟨rfl, rfl⟩ (by decide +kernel) ⟨by decide, by decide, by decide, by decide⟩ (L := [FW G F s u_26]) (N := 1) rfl [0] [] (by decide) rfl (fun u_39 : DX => [FW G F s u_39]) (fun _ => rfl) rfl rfl (Nat.le_of_ble_eq_true rfl) dL_areBirdsRight_39 (fun r_39 u_39 hp_39 => ?_)
      obtain ⟨e_39, hd_39⟩ := hp_39
      subst e_39
      have hok_39 : FOk B s u_39 := hok_26.k hd_39
      refine V.topeq (-2004) (ask2_x _ (fun z => absurd z.2 Int32.lt_irrefl)) ?_
      show V G K 10 9 54 42 [some (.ref (F.1 0)), some (.int (nI (sNb s))), some (.int 0), some (.int 0), none, none, none, none, none, none] [.int (-2004)] (flt [FW G F s u_39])
      refine V.sipush hC (-2004) dL_areBirdsRight_42 rfl ?_
      refine V.icmp_ne hC 144 dL_areBirdsRight_45 rfl (fun c_45 => ?_) (fun c_45 => ?_)
      · exact absurd rfl c_45
      · refine V.aload_n hC (x := (F.1 0)) dL_areBirdsRight_48 rfl ?_
        refine V.iconst hC 2 dL_areBirdsRight_49 rfl ?_
        refine V.iconst hC (-1) dL_areBirdsRight_50 rfl ?_
        refine V.iconst hC 0 dL_areBirdsRight_51 rfl ?_
        refine V.callSBWN (n := 4) (As := [.ref (F.1 0), .int 2, .int (-1), .int 0]) (rest := []) hC (l_ask (kl K) G hst F s u_39 B hok_39 2 (by decide) (-1) 0) (SFt.k G) hgot (gx2 gL_areBirdsRight_L_ask) rfl ⟨rfl, rfl⟩ (by decide +kernel) ⟨by decide, by decide, by decide, by decide⟩ (L := [FW G F s u_39]) (N := 1) rfl [0] [] (by decide) rfl (fun u_52 : DX => [FW G F s u_52]) (fun _ => rfl) rfl rfl (Nat.le_of_ble_eq_true rfl) dL_areBirdsRight_52 (fun r_52 u_52 hp_52 => ?_)
        obtain ⟨e_52, hd_52⟩ := hp_52
        subst e_52
        have hok_52 : FOk B s u_52 := hok_39.k hd_52
        refine V.topeq (-2004) (ask2_x _ (fun z => z.1 (by decide))) ?_
        show V G K 10 12 72 55 [some (.ref (F.1 0)), some (.int (nI (sNb s))), some (.int 0), some (.int 0), none, none, none, none, none, none] [.int (-2004)] (flt [FW G F s u_52])
        refine V.sipush hC (-2004) dL_areBirdsRight_55 rfl ?_
        refine V.icmp_ne hC 144 dL_areBirdsRight_58 rfl (fun c_58 => ?_) (fun c_58 => ?_)
        · exact absurd rfl c_58
        · refine V.aload_n hC (x := (F.1 0)) dL_areBirdsRight_61 rfl ?_
          refine V.iconst hC 3 dL_areBirdsRight_62 rfl ?_
          refine V.aload_n hC (x := (F.1 0)) dL_areBirdsRight_63 rfl ?_
          refine V.callVBN (n := 0) (As := []) (rest := [.int 3, .ref (F.1 0)]) hC (f_secretCount (kl K) G hst F s u_52 B hok_52) (SFt.k G) hgot (gx1 gL_areBirdsRight_X12_secretCount) rfl ⟨rfl, rfl⟩ (by decide +kernel) ⟨by decide, by decide, by decide, by decide⟩ (L := [FW G F s u_52]) (N := 1) rfl [0] [] (by decide) (List.append_nil (FW G F s u_52)) (fun _ : Unit => [FW G F s u_52]) (fun _ => List.append_nil (FW G F s u_52)) rfl rfl rfl rfl (Nat.le_of_ble_eq_true rfl) dL_areBirdsRight_64 (fun r_64 u_64 hp_64 => ?_)
          subst hp_64
          show V G K 10 12 72 67 [some (.ref (F.1 0)), some (.int (nI (sNb s))), some (.int 0), some (.int 0), none, none, none, none, none, none] [.int (nI (sNs s)), .int 3, .ref (F.1 0)] (flt [FW G F s u_52])
          refine V.iconst hC 0 dL_areBirdsRight_67 rfl ?_
          refine V.callSBWN (n := 4) (As := [.ref (F.1 0), .int 3, .int (nI (sNs s)), .int 0]) (rest := []) hC (l_ask (kl K) G hst F s u_52 B hok_52 3 (by decide) (nI (sNs s)) 0) (SFt.k G) hgot (gx2 gL_areBirdsRight_L_ask) rfl ⟨rfl, rfl⟩ (by decide +kernel) ⟨by decide, by decide, by decide, by decide⟩ (L := [FW G F s u_52]) (N := 1) rfl [0] [] (by decide) rfl (fun u_68 : DX => [FW G F s u_68]) (fun _ => rfl) rfl rfl (Nat.le_of_ble_eq_true rfl) dL_areBirdsRight_68 (fun r_68 u_68 hp_68 => ?_)
          obtain ⟨e_68, hd_68⟩ := hp_68
          subst e_68
          have hok_68 : FOk B s u_68 := hok_52.k hd_68
          refine V.topeq (-2002) (ask3_end _) ?_
          show V G K 10 15 90 71 [some (.ref (F.1 0)), some (.int (nI (sNb s))), some (.int 0), some (.int 0), none, none, none, none, none, none] [.int (-2002)] (flt [FW G F s u_68])
          refine V.sipush hC (-2002) dL_areBirdsRight_71 rfl ?_
          refine V.icmp_ne hC 144 dL_areBirdsRight_74 rfl (fun c_74 => ?_) (fun c_74 => ?_)
          · exact absurd rfl c_74
          · refine V.aload_n hC (x := (F.1 0)) dL_areBirdsRight_77 rfl ?_
            refine V.iconst hC 5 dL_areBirdsRight_78 rfl ?_
            refine V.iconst hC 0 dL_areBirdsRight_79 rfl ?_
            refine V.iconst hC 0 dL_areBirdsRight_80 rfl ?_
            refine V.callSBWN (n := 4) (As := [.ref (F.1 0), .int 5, .int 0, .int 0]) (rest := []) hC (l_ask (kl K) G hst F s u_68 B hok_68 5 (by decide) 0 0) (SFt.k G) hgot (gx2 gL_areBirdsRight_L_ask) rfl ⟨rfl, rfl⟩ (by decide +kernel) ⟨by decide, by decide, by decide, by decide⟩ (L := [FW G F s u_68]) (N := 1) rfl [0] [] (by decide) rfl (fun u_81 : DX => [FW G F s u_81]) (fun _ => rfl) rfl rfl (Nat.le_of_ble_eq_true rfl) dL_areBirdsRight_81 (fun r_81 u_81 hp_81 => ?_)
            obtain ⟨e_81, hd_81⟩ := hp_81
            subst e_81
            have hok_81 : FOk B s u_81 := hok_68.k hd_81
            refine V.topeq (-2004) (ask5_0 hok.1 hB _) ?_
            show V G K 10 18 108 84 [some (.ref (F.1 0)), some (.int (nI (sNb s))), some (.int 0), some (.int 0), none, none, none, none, none, none] [.int (-2004)] (flt [FW G F s u_81])
            refine V.sipush hC (-2004) dL_areBirdsRight_84 rfl ?_
            refine V.icmp_ne hC 144 dL_areBirdsRight_87 rfl (fun c_87 => ?_) (fun c_87 => ?_)
            · exact absurd rfl c_87
            · refine V.aload_n hC (x := (F.1 0)) dL_areBirdsRight_90 rfl ?_
              refine V.bipush hC 7 dL_areBirdsRight_91 rfl ?_
              refine V.iconst hC 0 dL_areBirdsRight_93 rfl ?_
              refine V.iconst hC 0 dL_areBirdsRight_94 rfl ?_
              refine V.callSBWN (n := 4) (As := [.ref (F.1 0), .int 7, .int 0, .int 0]) (rest := []) hC (l_ask (kl K) G hst F s u_81 B hok_81 7 (by decide) 0 0) (SFt.k G) hgot (gx2 gL_areBirdsRight_L_ask) rfl ⟨rfl, rfl⟩ (by decide +kernel) ⟨by decide, by decide, by decide, by decide⟩ (L := [FW G F s u_81]) (N := 1) rfl [0] [] (by decide) rfl (fun u_95 : DX => [FW G F s u_95]) (fun _ => rfl) rfl rfl (Nat.le_of_ble_eq_true rfl) dL_areBirdsRight_95 (fun r_95 u_95 hp_95 => ?_)
              obtain ⟨e_95, hd_95⟩ := hp_95
              subst e_95
              have hok_95 : FOk B s u_95 := hok_81.k hd_95
              refine V.topeq (-2004) (ask7_0 hok.1 hB _) ?_
              show V G K 10 21 126 98 [some (.ref (F.1 0)), some (.int (nI (sNb s))), some (.int 0), some (.int 0), none, none, none, none, none, none] [.int (-2004)] (flt [FW G F s u_95])
              refine V.sipush hC (-2004) dL_areBirdsRight_98 rfl ?_
              refine V.icmp_ne hC 144 dL_areBirdsRight_101 rfl (fun c_101 => ?_) (fun c_101 => ?_)
              · exact absurd rfl c_101
              · refine V.aload_n hC (x := (F.1 0)) dL_areBirdsRight_104 rfl ?_
                refine V.bipush hC 6 dL_areBirdsRight_105 rfl ?_
                refine V.iconst hC 4 dL_areBirdsRight_107 rfl ?_
                refine V.iconst hC 0 dL_areBirdsRight_108 rfl ?_
                refine V.callSBWN (n := 4) (As := [.ref (F.1 0), .int 6, .int 4, .int 0]) (rest := []) hC (l_ask (kl K) G hst F s u_95 B hok_95 6 (by decide) 4 0) (SFt.k G) hgot (gx2 gL_areBirdsRight_L_ask) rfl ⟨rfl, rfl⟩ (by decide +kernel) ⟨by decide, by decide, by decide, by decide⟩ (L := [FW G F s u_95]) (N := 1) rfl [0] [] (by decide) rfl (fun u_109 : DX => [FW G F s u_109]) (fun _ => rfl) rfl rfl (Nat.le_of_ble_eq_true rfl) dL_areBirdsRight_109 (fun r_109 u_109 hp_109 => ?_)
                obtain ⟨e_109, hd_109⟩ := hp_109
                subst e_109
                have hok_109 : FOk B s u_109 := hok_95.k hd_109
                refine V.topeq (-2003) (ask6_4 _) ?_
                show V G K 10 24 144 112 [some (.ref (F.1 0)), some (.int (nI (sNb s))), some (.int 0), some (.int 0), none, none, none, none, none, none] [.int (-2003)] (flt [FW G F s u_109])
                refine V.sipush hC (-2003) dL_areBirdsRight_112 rfl ?_
                refine V.icmp_ne hC 144 dL_areBirdsRight_115 rfl (fun c_115 => ?_) (fun c_115 => ?_)
                · exact absurd rfl c_115
                · refine V.aload_n hC (x := (F.1 0)) dL_areBirdsRight_118 rfl ?_
                  refine V.bipush hC 6 dL_areBirdsRight_119 rfl ?_
                  refine V.iconst hC 0 dL_areBirdsRight_121 rfl ?_
                  refine V.iconst hC 0 dL_areBirdsRight_122 rfl ?_
                  refine V.callSBWN (n := 4) (As := [.ref (F.1 0), .int 6, .int 0, .int 0]) (rest := []) hC (l_ask (kl K) G hst F s u_109 B hok_109 6 (by decide) 0 0) (SFt.k G) hgot (gx2 gL_areBirdsRight_L_ask) rfl ⟨rfl, rfl⟩ (by decide +kernel) ⟨by decide, by decide, by decide, by decide⟩ (L := [FW G F s u_109]) (N := 1) rfl [0] [] (by decide) rfl (fun u_123 : DX => [FW G F s u_123]) (fun _ => rfl) rfl rfl (Nat.le_of_ble_eq_true rfl) dL_areBirdsRight_123 (fun r_123 u_123 hp_123 => ?_)
                  obtain ⟨e_123, hd_123⟩ := hp_123
                  subst e_123
                  have hok_123 : FOk B s u_123 := hok_109.k hd_123
                  refine V.topeq (-2004) (ask6_0 hok.1 hB) ?_
                  show V G K 10 27 162 126 [some (.ref (F.1 0)), some (.int (nI (sNb s))), some (.int 0), some (.int 0), none, none, none, none, none, none] [.int (-2004)] (flt [FW G F s u_123])
                  refine V.sipush hC (-2004) dL_areBirdsRight_126 rfl ?_
                  refine V.icmp_ne hC 144 dL_areBirdsRight_129 rfl (fun c_129 => ?_) (fun c_129 => ?_)
                  · exact absurd rfl c_129
                  · refine V.aload_n hC (x := (F.1 0)) dL_areBirdsRight_132 rfl ?_
                    refine V.iconst hC 0 dL_areBirdsRight_133 rfl ?_
                    refine V.callVBN (n := 1) (As := [.int 0]) (rest := []) hC (f_exists (kl K) G hst F s u_123 B hok_123 0) (SFt.k G) hgot (gx1 gL_areBirdsRight_X12_exists) rfl ⟨rfl, rfl⟩ (by decide +kernel) ⟨by decide, by decide, by decide, by decide⟩ (L := [FW G F s u_123]) (N := 1) rfl [0] [] (by decide) (List.append_nil (FW G F s u_123)) (fun _ : Unit => [FW G F s u_123]) (fun _ => List.append_nil (FW G F s u_123)) rfl rfl rfl rfl (Nat.le_of_ble_eq_true rfl) dL_areBirdsRight_134 (fun r_134 u_134 hp_134 => ?_)
                    obtain rfl : (0 : Int32) = r_134 := by rw [hp_134, qExists, fd_no0 hok.1 hB]; all_goals rfl
                    show V G K 10 27 162 137 [some (.ref (F.1 0)), some (.int (nI (sNb s))), some (.int 0), some (.int 0), none, none, none, none, none, none] [.int (nI 0)] (flt [FW G F s u_123])
                    refine V.ifN_ne hC 0 144 dL_areBirdsRight_137 rfl rfl (by omega) (fun c_137 => ?_) (fun c_137 => ?_)
                    · exact absurd c_137 (by decide)
                    · refine V.iconst hC 1 dL_areBirdsRight_140 rfl ?_
                      refine V.goto hC 145 dL_areBirdsRight_141 rfl ?_
                      refine V.istore hC dL_areBirdsRight_145 [some (.ref (F.1 0)), some (.int (nI (sNb s))), some (.int 0), some (.int 0), some (.int 1), none, none, none, none, none] (Nat.le_of_ble_eq_true rfl) rfl ?_
                      refine V.iconst hC 0 dL_areBirdsRight_147 rfl ?_
                      refine V.istore hC dL_areBirdsRight_148 [some (.ref (F.1 0)), some (.int (nI (sNb s))), some (.int 0), some (.int 0), some (.int 1), some (.int 0), none, none, none, none] (Nat.le_of_ble_eq_true rfl) rfl ?_
                      have loop150 : ∀ (n : Nat) (b : Nat), 8 - b < n → (b ≤ sNb s) → V G K 10 (29 + 19 * b) (174 + 114 * b) 150 [some (.ref (F.1 0)), some (.int (nI (sNb s))), some (.int (nI (als (ldS s) b))), some (.int (nI 0)), some (.int (nI 1)), some (.int (nI b)), none, none, none, none] [] (flt [FW G F s u_123]) := by
                        intro n
                        induction n with
                        | zero => intro b hlt; exact absurd hlt (Nat.not_lt_zero _)
                        | succ n ih150 =>
                          intro b hlt150 hb
                          refine V.iload hC (x := nI b) dL_areBirdsRight_150 rfl ?_
                          refine V.iload_n hC (x := nI (sNb s)) dL_areBirdsRight_152 rfl ?_
                          refine V.icmpN_ge hC b (sNb s) 231 dL_areBirdsRight_153 rfl rfl rfl (by omega) (by omega) (fun c_153 => ?_) (fun c_153 => ?_)
                          · obtain rfl : b = sNb s := by omega
                            refine V.iconst hC 0 dL_areBirdsRight_231 rfl ?_
                            refine V.istore hC dL_areBirdsRight_232 [some (.ref (F.1 0)), some (.int (nI (sNb s))), some (.int (nI (als (ldS s) (sNb s)))), some (.int (nI 0)), some (.int (nI 1)), some (.int 0), none, none, none, none] (Nat.le_of_ble_eq_true rfl) rfl ?_
                            have loop234 : ∀ (n : Nat) (k : Nat) (D2 : DX), 6 - k < n → (k ≤ sNs s) → (FOk B s D2) → V G K 10 (181 + 2505 * k) (1086 + 27030 * k) 234 [some (.ref (F.1 0)), some (.int (nI (sNb s))), some (.int (nI (als (ldS s) (sNb s)))), some (.int (nI (rbt (sSh s) (sTn s) k))), some (.int (nI 1)), some (.int (nI k)), none, none, none, none] [] (flt [FW G F s D2]) := by
                              intro n
                              induction n with
                              | zero => intro k D2 hlt; exact absurd hlt (Nat.not_lt_zero _)
                              | succ n ih234 =>
                                intro k D2 hlt234 hk hok2
                                refine V.iload hC (x := nI k) dL_areBirdsRight_234 rfl ?_
                                refine V.aload_n hC (x := (F.1 0)) dL_areBirdsRight_236 rfl ?_
                                refine V.callVBN (n := 0) (As := []) (rest := [.int (nI k)]) hC (f_secretCount (kl K) G hst F s D2 B hok2) (SFt.k G) hgot (gx1 gL_areBirdsRight_X12_secretCount) rfl ⟨rfl, rfl⟩ (by decide +kernel) ⟨by decide, by decide, by show _ ≤ 16000; omega, by show _ ≤ 191000; omega⟩ (L := [FW G F s D2]) (N := 1) rfl [0] [] (by decide) (List.append_nil (FW G F s D2)) (fun _ : Unit => [FW G F s D2]) (fun _ => List.append_nil (FW G F s D2)) rfl rfl rfl rfl (Nat.le_of_ble_eq_true rfl) dL_areBirdsRight_237 (fun r_237 u_237 hp_237 => ?_)
                                subst hp_237
                                show V G K 10 (181 + 2505 * k) (1086 + 27030 * k) 240 [some (.ref (F.1 0)), some (.int (nI (sNb s))), some (.int (nI (als (ldS s) (sNb s)))), some (.int (nI (rbt (sSh s) (sTn s) k))), some (.int (nI 1)), some (.int (nI k)), none, none, none, none] [.int (nI (sNs s)), .int (nI k)] (flt [FW G F s D2])
                                refine V.icmpN_ge hC k (sNs s) 320 dL_areBirdsRight_240 rfl rfl rfl (by omega) (by omega) (fun c_240 => ?_) (fun c_240 => ?_)
                                · obtain rfl : k = sNs s := by omega
                                  refine V.iconst hC 0 dL_areBirdsRight_320 rfl ?_
                                  refine V.istore hC dL_areBirdsRight_321 [some (.ref (F.1 0)), some (.int (nI (sNb s))), some (.int (nI (als (ldS s) (sNb s)))), some (.int (nI (rbt (sSh s) (sTn s) (sNs s)))), some (.int (nI 1)), some (.int 0), none, none, none, none] (Nat.le_of_ble_eq_true rfl) rfl ?_
                                  have loop323 : ∀ (n : Nat) (k3 : Nat), 8 - k3 < n → (k3 ≤ 8) → V G K 10 (15211 + 6 * k3) (163266 + 36 * k3) 323 [some (.ref (F.1 0)), some (.int (nI (sNb s))), some (.int (nI (als (ldS s) (sNb s)))), some (.int (nI (rbt (sSh s) (sTn s) (sNs s)))), some (.int (nI 1)), some (.int (nI k3)), none, none, none, none] [] (flt [FW G F s D2]) := by
                                    intro n
                                    induction n with
                                    | zero => intro k3 hlt; exact absurd hlt (Nat.not_lt_zero _)
                                    | succ n ih323 =>
                                      intro k3 hlt323 hk3
                                      refine V.iload hC (x := nI k3) dL_areBirdsRight_323 rfl ?_
                                      refine V.iconst hC 1 dL_areBirdsRight_325 rfl ?_
                                      refine V.iaddN hC k3 1 dL_areBirdsRight_326 rfl rfl ?_
                                      refine V.iload_n hC (x := nI (sNb s)) dL_areBirdsRight_327 rfl ?_
                                      refine V.icmpN_ge hC (k3 + 1) (sNb s) 424 dL_areBirdsRight_328 rfl rfl rfl (by omega) (by omega) (fun c_328 => ?_) (fun c_328 => ?_)
                                      · refine V.iload hC (x := nI 1) dL_areBirdsRight_424 rfl ?_
                                        refine V.ifN_eq hC 1 465 dL_areBirdsRight_426 rfl rfl (by omega) (fun c_426 => ?_) (fun c_426 => ?_)
                                        · exact absurd c_426 (by decide)
                                        · refine V.aload_n hC (x := (F.1 0)) dL_areBirdsRight_429 rfl ?_
                                          refine V.callVBN (n := 0) (As := []) (rest := []) hC (f_shareTotal (kl K) G hst F s D2 B hok2) (SFt.k G) hgot (gx1 gL_areBirdsRight_X12_shareTotal) rfl ⟨rfl, rfl⟩ (by decide +kernel) ⟨by decide, by decide, by show _ ≤ 16000; omega, by show _ ≤ 191000; omega⟩ (L := [FW G F s D2]) (N := 1) rfl [0] [] (by decide) (List.append_nil (FW G F s D2)) (fun _ : Unit => [FW G F s D2]) (fun _ => List.append_nil (FW G F s D2)) rfl rfl rfl rfl (Nat.le_of_ble_eq_true rfl) dL_areBirdsRight_430 (fun r_430 u_430 hp_430 => ?_)
                                          obtain rfl : nI (als (ldS s) (sNb s)) = r_430 := hp_430.symm
                                          show V G K 10 (15211 + 6 * k3) (163266 + 36 * k3) 433 [some (.ref (F.1 0)), some (.int (nI (sNb s))), some (.int (nI (als (ldS s) (sNb s)))), some (.int (nI (rbt (sSh s) (sTn s) (sNs s)))), some (.int (nI 1)), some (.int (nI k3)), none, none, none, none] [.int (nI (als (ldS s) (sNb s)))] (flt [FW G F s D2])
                                          refine V.iload_n hC (x := nI (als (ldS s) (sNb s))) dL_areBirdsRight_433 rfl ?_
                                          refine V.icmpN_ne hC (als (ldS s) (sNb s)) (als (ldS s) (sNb s)) 465 dL_areBirdsRight_434 rfl rfl rfl (Nat.lt_of_le_of_lt hal (by omega)) (Nat.lt_of_le_of_lt hal (by omega)) (fun c_434 => ?_) (fun c_434 => ?_)
                                          · exact absurd rfl c_434
                                          · refine V.aload_n hC (x := (F.1 0)) dL_areBirdsRight_437 rfl ?_
                                            refine V.callVBN (n := 0) (As := []) (rest := []) hC (f_consistent (kl K) G hst F s D2 B hok2) (SFt.k G) hgot (gx1 gL_areBirdsRight_X12_isConsistent) rfl ⟨rfl, rfl⟩ (by decide +kernel) ⟨by decide, by decide, by show _ ≤ 16000; omega, by show _ ≤ 191000; omega⟩ (L := [FW G F s D2]) (N := 1) rfl [0] [] (by decide) (List.append_nil (FW G F s D2)) (fun u_438 : Scr => [FW G F s (dE D2 u_438)]) (fun u_438 => List.append_nil (FW G F s (dE D2 u_438))) rfl rfl rfl rfl (Nat.le_of_ble_eq_true rfl) dL_areBirdsRight_438 (fun r_438 u_438 hp_438 => ?_)
                                            obtain ⟨e_438, hs_438⟩ := hp_438
                                            subst e_438
                                            have hok_438 : FOk B s (dE D2 u_438) := hok2.k ⟨u_438, hs_438, rfl⟩
                                            show V G K 10 (15211 + 6 * k3) (163266 + 36 * k3) 441 [some (.ref (F.1 0)), some (.int (nI (sNb s))), some (.int (nI (als (ldS s) (sNb s)))), some (.int (nI (rbt (sSh s) (sTn s) (sNs s)))), some (.int (nI 1)), some (.int (nI k3)), none, none, none, none] [.int (nI 1)] (flt [FW G F s (dE D2 u_438)])
                                            refine V.ifN_eq hC 1 465 dL_areBirdsRight_441 rfl rfl (by omega) (fun c_441 => ?_) (fun c_441 => ?_)
                                            · exact absurd c_441 (by decide)
                                            · refine V.iload_n hC (x := nI (sNb s)) dL_areBirdsRight_444 rfl ?_
                                              refine V.ifN_eq hC (sNb s) 461 dL_areBirdsRight_445 rfl rfl (by omega) (fun c_445 => ?_) (fun c_445 => ?_)
                                              · refine V.iconst hC 1 dL_areBirdsRight_461 rfl ?_
                                                refine V.goto hC 466 dL_areBirdsRight_462 rfl ?_
                                                refine V.istore hC dL_areBirdsRight_466 [some (.ref (F.1 0)), some (.int (nI (sNb s))), some (.int (nI (als (ldS s) (sNb s)))), some (.int (nI (rbt (sSh s) (sTn s) (sNs s)))), some (.int 1), some (.int (nI k3)), none, none, none, none] (Nat.le_of_ble_eq_true rfl) rfl ?_
                                                refine V.iload hC (x := 1) dL_areBirdsRight_468 rfl ?_
                                                refine V.ifN_eq hC 1 507 dL_areBirdsRight_470 rfl rfl (by omega) (fun c_470 => ?_) (fun c_470 => ?_)
                                                · exact absurd c_470 (by decide)
                                                · refine V.aload_n hC (x := (F.1 0)) dL_areBirdsRight_473 rfl ?_
                                                  refine V.callVBN (n := 0) (As := []) (rest := []) hC (f_secretCount (kl K) G hst F s (dE D2 u_438) B hok_438) (SFt.k G) hgot (gx1 gL_areBirdsRight_X12_secretCount) rfl ⟨rfl, rfl⟩ (by decide +kernel) ⟨by decide, by decide, by show _ ≤ 16000; omega, by show _ ≤ 191000; omega⟩ (L := [FW G F s (dE D2 u_438)]) (N := 1) rfl [0] [] (by decide) (List.append_nil (FW G F s (dE D2 u_438))) (fun _ : Unit => [FW G F s (dE D2 u_438)]) (fun _ => List.append_nil (FW G F s (dE D2 u_438))) rfl rfl rfl rfl (Nat.le_of_ble_eq_true rfl) dL_areBirdsRight_474 (fun r_474 u_474 hp_474 => ?_)
                                                  subst hp_474
                                                  show V G K 10 (15211 + 6 * k3) (163266 + 36 * k3) 477 [some (.ref (F.1 0)), some (.int (nI (sNb s))), some (.int (nI (als (ldS s) (sNb s)))), some (.int (nI (rbt (sSh s) (sTn s) (sNs s)))), some (.int 1), some (.int (nI k3)), none, none, none, none] [.int (nI (sNs s))] (flt [FW G F s (dE D2 u_438)])
                                                  refine V.ifN_eq hC (sNs s) 496 dL_areBirdsRight_477 rfl rfl (by omega) (fun c_477 => ?_) (fun c_477 => ?_)
                                                  · refine V.aload_n hC (x := (F.1 0)) dL_areBirdsRight_496 rfl ?_
                                                    refine V.callSBN (n := 1) (As := [.ref (F.1 0)]) (rest := []) hC (l_nests (kl K) G hst F s (dE D2 u_438) B hok_438) (SFt.k G) hgot (gx2 gL_areBirdsRight_L_areNestsRight) rfl ⟨rfl, rfl⟩ (by decide +kernel) ⟨by decide, by decide, by show _ ≤ 16000; omega, by show _ ≤ 191000; omega⟩ (L := [FW G F s (dE D2 u_438)]) (N := 1) rfl [0] [] (by decide) rfl (fun u_497 : DX => [FW G F s u_497]) (fun _ => rfl) rfl rfl (Nat.le_of_ble_eq_true rfl) dL_areBirdsRight_497 (fun r_497 u_497 hp_497 => ?_)
                                                    obtain ⟨e_497, hok_497⟩ := hp_497
                                                    subst e_497
                                                    show V G K 10 (15211 + 6 * k3 + 600) (163266 + 36 * k3 + 27000) 500 [some (.ref (F.1 0)), some (.int (nI (sNb s))), some (.int (nI (als (ldS s) (sNb s)))), some (.int (nI (rbt (sSh s) (sTn s) (sNs s)))), some (.int 1), some (.int (nI k3)), none, none, none, none] [.int (nI 1)] (flt [FW G F s u_497])
                                                    refine V.ifN_eq hC 1 507 dL_areBirdsRight_500 rfl rfl (by omega) (fun c_500 => ?_) (fun c_500 => ?_)
                                                    · exact absurd c_500 (by decide)
                                                    · refine V.iconst hC 1 dL_areBirdsRight_503 rfl ?_
                                                      refine V.goto hC 508 dL_areBirdsRight_504 rfl ?_
                                                      refine V.widen (k := 16000) (n := 191000) (by omega) (by omega) ?_
                                                      exact hE 508 _ 1 u_497 dL_areBirdsRight_508 rfl ⟨rfl, hok_497⟩
                                                  · refine V.aload_n hC (x := (F.1 0)) dL_areBirdsRight_480 rfl ?_
                                                    refine V.callVBXN (n := 0) (As := []) (rest := []) hC (f_rbShare (kl K) G hst F s (dE D2 u_438) B hok_438) (SFt.k G) hgot (gx1 gL_areBirdsRight_X12_rebuildableShare) rfl ⟨rfl, rfl⟩ (by decide +kernel) ⟨by decide, by decide, by show _ ≤ 16000; omega, by show _ ≤ 191000; omega⟩ (L := [FW G F s (dE D2 u_438)]) (N := 1) rfl [0] [] (by decide) (List.append_nil (FW G F s (dE D2 u_438))) (fun _ : Unit => [FW G F s (dE D2 u_438)]) (fun _ => List.append_nil (FW G F s (dE D2 u_438))) (fun _ : Unit => [FW G F s (dE D2 u_438)]) (fun _ => List.append_nil (FW G F s (dE D2 u_438))) rfl rfl rfl rfl (Nat.le_of_ble_eq_true rfl) dL_areBirdsRight_481 (fun E_ u_ hx_ => absurd hx_.2 c_477) (fun r_481 u_481 hp_481 => ?_)
                                                    obtain ⟨-, rfl⟩ := hp_481
                                                    show V G K 10 (15211 + 6 * k3 + 1) (163266 + 36 * k3 + 6) 484 [some (.ref (F.1 0)), some (.int (nI (sNb s))), some (.int (nI (als (ldS s) (sNb s)))), some (.int (nI (rbt (sSh s) (sTn s) (sNs s)))), some (.int 1), some (.int (nI k3)), none, none, none, none] [.float (rbsh s)] (flt [FW G F s (dE D2 u_438)])
                                                    refine V.iload_n hC (x := nI (rbt (sSh s) (sTn s) (sNs s))) dL_areBirdsRight_484 rfl ?_
                                                    refine V.i2f hC dL_areBirdsRight_485 ?_
                                                    refine V.aload_n hC (x := (F.1 0)) dL_areBirdsRight_486 rfl ?_
                                                    refine V.callVBN (n := 0) (As := []) (rest := [.float (FP.i2f (nI (rbt (sSh s) (sTn s) (sNs s)))), .float (rbsh s)]) hC (f_secretCount (kl K) G hst F s (dE D2 u_438) B hok_438) (SFt.k G) hgot (gx1 gL_areBirdsRight_X12_secretCount) rfl ⟨rfl, rfl⟩ (by decide +kernel) ⟨by decide, by decide, by show _ ≤ 16000; omega, by show _ ≤ 191000; omega⟩ (L := [FW G F s (dE D2 u_438)]) (N := 1) rfl [0] [] (by decide) (List.append_nil (FW G F s (dE D2 u_438))) (fun _ : Unit => [FW G F s (dE D2 u_438)]) (fun _ => List.append_nil (FW G F s (dE D2 u_438))) rfl rfl rfl rfl (Nat.le_of_ble_eq_true rfl) dL_areBirdsRight_487 (fun r_487 u_487 hp_487 => ?_)
                                                    subst hp_487
                                                    show V G K 10 (15211 + 6 * k3 + 1) (163266 + 36 * k3 + 6) 490 [some (.ref (F.1 0)), some (.int (nI (sNb s))), some (.int (nI (als (ldS s) (sNb s)))), some (.int (nI (rbt (sSh s) (sTn s) (sNs s)))), some (.int 1), some (.int (nI k3)), none, none, none, none] [.int (nI (sNs s)), .float (FP.i2f (nI (rbt (sSh s) (sTn s) (sNs s)))), .float (rbsh s)] (flt [FW G F s (dE D2 u_438)])
                                                    refine V.i2f hC dL_areBirdsRight_490 ?_
                                                    refine V.fdiv hC dL_areBirdsRight_491 (rbsh_ok _ (by omega) _ (by omega) (Nat.pos_of_ne_zero c_477)) ?_
                                                    refine V.fcmp hC dL_areBirdsRight_492 ?_
                                                    refine V.topeq (nI 0) (rbsh_e hok.1 (Nat.pos_of_ne_zero c_477)) ?_
                                                    refine V.ifN_ne hC 0 507 dL_areBirdsRight_493 rfl rfl (by omega) (fun c_493 => ?_) (fun c_493 => ?_)
                                                    · exact absurd c_493 (by decide)
                                                    · refine V.aload_n hC (x := (F.1 0)) dL_areBirdsRight_496 rfl ?_
                                                      refine V.callSBN (n := 1) (As := [.ref (F.1 0)]) (rest := []) hC (l_nests (kl K) G hst F s (dE D2 u_438) B hok_438) (SFt.k G) hgot (gx2 gL_areBirdsRight_L_areNestsRight) rfl ⟨rfl, rfl⟩ (by decide +kernel) ⟨by decide, by decide, by show _ ≤ 16000; omega, by show _ ≤ 191000; omega⟩ (L := [FW G F s (dE D2 u_438)]) (N := 1) rfl [0] [] (by decide) rfl (fun u_497 : DX => [FW G F s u_497]) (fun _ => rfl) rfl rfl (Nat.le_of_ble_eq_true rfl) dL_areBirdsRight_497 (fun r_497 u_497 hp_497 => ?_)
                                                      obtain ⟨e_497, hok_497⟩ := hp_497
                                                      subst e_497
                                                      show V G K 10 (15211 + 6 * k3 + 1 + 600) (163266 + 36 * k3 + 6 + 27000) 500 [some (.ref (F.1 0)), some (.int (nI (sNb s))), some (.int (nI (als (ldS s) (sNb s)))), some (.int (nI (rbt (sSh s) (sTn s) (sNs s)))), some (.int 1), some (.int (nI k3)), none, none, none, none] [.int (nI 1)] (flt [FW G F s u_497])
                                                      refine V.ifN_eq hC 1 507 dL_areBirdsRight_500 rfl rfl (by omega) (fun c_500 => ?_) (fun c_500 => ?_)
                                                      · exact absurd c_500 (by decide)
                                                      · refine V.iconst hC 1 dL_areBirdsRight_503 rfl ?_
                                                        refine V.goto hC 508 dL_areBirdsRight_504 rfl ?_
                                                        refine V.widen (k := 16000) (n := 191000) (by omega) (by omega) ?_
                                                        exact hE 508 _ 1 u_497 dL_areBirdsRight_508 rfl ⟨rfl, hok_497⟩
                                              · refine V.aload_n hC (x := (F.1 0)) dL_areBirdsRight_448 rfl ?_
                                                refine V.callVBXN (n := 0) (As := []) (rest := []) hC (f_mean (kl K) G hst F s (dE D2 u_438) B hok_438) (SFt.k G) hgot (gx1 gL_areBirdsRight_X12_meanShares) rfl ⟨rfl, rfl⟩ (by decide +kernel) ⟨by decide, by decide, by show _ ≤ 16000; omega, by show _ ≤ 191000; omega⟩ (L := [FW G F s (dE D2 u_438)]) (N := 1) rfl [0] [] (by decide) (List.append_nil (FW G F s (dE D2 u_438))) (fun _ : Unit => [FW G F s (dE D2 u_438)]) (fun _ => List.append_nil (FW G F s (dE D2 u_438))) (fun _ : Unit => [FW G F s (dE D2 u_438)]) (fun _ => List.append_nil (FW G F s (dE D2 u_438))) rfl rfl rfl rfl (Nat.le_of_ble_eq_true rfl) dL_areBirdsRight_449 (fun E_ u_ hx_ => absurd hx_.2 c_445) (fun r_449 u_449 hp_449 => ?_)
                                                obtain ⟨-, rfl⟩ := hp_449
                                                show V G K 10 (15211 + 6 * k3 + 1) (163266 + 36 * k3 + 6) 452 [some (.ref (F.1 0)), some (.int (nI (sNb s))), some (.int (nI (als (ldS s) (sNb s)))), some (.int (nI (rbt (sSh s) (sTn s) (sNs s)))), some (.int (nI 1)), some (.int (nI k3)), none, none, none, none] [.double (mean s)] (flt [FW G F s (dE D2 u_438)])
                                                refine V.iload_n hC (x := nI (als (ldS s) (sNb s))) dL_areBirdsRight_452 rfl ?_
                                                refine V.i2d hC dL_areBirdsRight_453 ?_
                                                refine V.iload_n hC (x := nI (sNb s)) dL_areBirdsRight_454 rfl ?_
                                                refine V.i2d hC dL_areBirdsRight_455 ?_
                                                refine V.ddiv hC dL_areBirdsRight_456 (mean_ok _ (Nat.lt_of_le_of_lt hal (by omega)) _ (by omega) (Nat.pos_of_ne_zero c_445)) ?_
                                                refine V.dcmp hC dL_areBirdsRight_457 ?_
                                                refine V.topeq (nI 0) (mean_e hok.1 (Nat.pos_of_ne_zero c_445)) ?_
                                                refine V.ifN_ne hC 0 465 dL_areBirdsRight_458 rfl rfl (by omega) (fun c_458 => ?_) (fun c_458 => ?_)
                                                · exact absurd c_458 (by decide)
                                                · refine V.iconst hC 1 dL_areBirdsRight_461 rfl ?_
                                                  refine V.goto hC 466 dL_areBirdsRight_462 rfl ?_
                                                  refine V.istore hC dL_areBirdsRight_466 [some (.ref (F.1 0)), some (.int (nI (sNb s))), some (.int (nI (als (ldS s) (sNb s)))), some (.int (nI (rbt (sSh s) (sTn s) (sNs s)))), some (.int 1), some (.int (nI k3)), none, none, none, none] (Nat.le_of_ble_eq_true rfl) rfl ?_
                                                  refine V.iload hC (x := 1) dL_areBirdsRight_468 rfl ?_
                                                  refine V.ifN_eq hC 1 507 dL_areBirdsRight_470 rfl rfl (by omega) (fun c_470 => ?_) (fun c_470 => ?_)
                                                  · exact absurd c_470 (by decide)
                                                  · refine V.aload_n hC (x := (F.1 0)) dL_areBirdsRight_473 rfl ?_
                                                    refine V.callVBN (n := 0) (As := []) (rest := []) hC (f_secretCount (kl K) G hst F s (dE D2 u_438) B hok_438) (SFt.k G) hgot (gx1 gL_areBirdsRight_X12_secretCount) rfl ⟨rfl, rfl⟩ (by decide +kernel) ⟨by decide, by decide, by show _ ≤ 16000; omega, by show _ ≤ 191000; omega⟩ (L := [FW G F s (dE D2 u_438)]) (N := 1) rfl [0] [] (by decide) (List.append_nil (FW G F s (dE D2 u_438))) (fun _ : Unit => [FW G F s (dE D2 u_438)]) (fun _ => List.append_nil (FW G F s (dE D2 u_438))) rfl rfl rfl rfl (Nat.le_of_ble_eq_true rfl) dL_areBirdsRight_474 (fun r_474 u_474 hp_474 => ?_)
                                                    subst hp_474
                                                    show V G K 10 (15211 + 6 * k3 + 1) (163266 + 36 * k3 + 6) 477 [some (.ref (F.1 0)), some (.int (nI (sNb s))), some (.int (nI (als (ldS s) (sNb s)))), some (.int (nI (rbt (sSh s) (sTn s) (sNs s)))), some (.int 1), some (.int (nI k3)), none, none, none, none] [.int (nI (sNs s))] (flt [FW G F s (dE D2 u_438)])
                                                    refine V.ifN_eq hC (sNs s) 496 dL_areBirdsRight_477 rfl rfl (by omega) (fun c_477 => ?_) (fun c_477 => ?_)
                                                    · refine V.aload_n hC (x := (F.1 0)) dL_areBirdsRight_496 rfl ?_
                                                      refine V.callSBN (n := 1) (As := [.ref (F.1 0)]) (rest := []) hC (l_nests (kl K) G hst F s (dE D2 u_438) B hok_438) (SFt.k G) hgot (gx2 gL_areBirdsRight_L_areNestsRight) rfl ⟨rfl, rfl⟩ (by decide +kernel) ⟨by decide, by decide, by show _ ≤ 16000; omega, by show _ ≤ 191000; omega⟩ (L := [FW G F s (dE D2 u_438)]) (N := 1) rfl [0] [] (by decide) rfl (fun u_497 : DX => [FW G F s u_497]) (fun _ => rfl) rfl rfl (Nat.le_of_ble_eq_true rfl) dL_areBirdsRight_497 (fun r_497 u_497 hp_497 => ?_)
                                                      obtain ⟨e_497, hok_497⟩ := hp_497
                                                      subst e_497
                                                      show V G K 10 (15211 + 6 * k3 + 1 + 600) (163266 + 36 * k3 + 6 + 27000) 500 [some (.ref (F.1 0)), some (.int (nI (sNb s))), some (.int (nI (als (ldS s) (sNb s)))), some (.int (nI (rbt (sSh s) (sTn s) (sNs s)))), some (.int 1), some (.int (nI k3)), none, none, none, none] [.int (nI 1)] (flt [FW G F s u_497])
                                                      refine V.ifN_eq hC 1 507 dL_areBirdsRight_500 rfl rfl (by omega) (fun c_500 => ?_) (fun c_500 => ?_)
                                                      · exact absurd c_500 (by decide)
                                                      · refine V.iconst hC 1 dL_areBirdsRight_503 rfl ?_
                                                        refine V.goto hC 508 dL_areBirdsRight_504 rfl ?_
                                                        refine V.widen (k := 16000) (n := 191000) (by omega) (by omega) ?_
                                                        exact hE 508 _ 1 u_497 dL_areBirdsRight_508 rfl ⟨rfl, hok_497⟩
                                                    · refine V.aload_n hC (x := (F.1 0)) dL_areBirdsRight_480 rfl ?_
                                                      refine V.callVBXN (n := 0) (As := []) (rest := []) hC (f_rbShare (kl K) G hst F s (dE D2 u_438) B hok_438) (SFt.k G) hgot (gx1 gL_areBirdsRight_X12_rebuildableShare) rfl ⟨rfl, rfl⟩ (by decide +kernel) ⟨by decide, by decide, by show _ ≤ 16000; omega, by show _ ≤ 191000; omega⟩ (L := [FW G F s (dE D2 u_438)]) (N := 1) rfl [0] [] (by decide) (List.append_nil (FW G F s (dE D2 u_438))) (fun _ : Unit => [FW G F s (dE D2 u_438)]) (fun _ => List.append_nil (FW G F s (dE D2 u_438))) (fun _ : Unit => [FW G F s (dE D2 u_438)]) (fun _ => List.append_nil (FW G F s (dE D2 u_438))) rfl rfl rfl rfl (Nat.le_of_ble_eq_true rfl) dL_areBirdsRight_481 (fun E_ u_ hx_ => absurd hx_.2 c_477) (fun r_481 u_481 hp_481 => ?_)
                                                      obtain ⟨-, rfl⟩ := hp_481
                                                      show V G K 10 (15211 + 6 * k3 + 1 + 1) (163266 + 36 * k3 + 6 + 6) 484 [some (.ref (F.1 0)), some (.int (nI (sNb s))), some (.int (nI (als (ldS s) (sNb s)))), some (.int (nI (rbt (sSh s) (sTn s) (sNs s)))), some (.int 1), some (.int (nI k3)), none, none, none, none] [.float (rbsh s)] (flt [FW G F s (dE D2 u_438)])
                                                      refine V.iload_n hC (x := nI (rbt (sSh s) (sTn s) (sNs s))) dL_areBirdsRight_484 rfl ?_
                                                      refine V.i2f hC dL_areBirdsRight_485 ?_
                                                      refine V.aload_n hC (x := (F.1 0)) dL_areBirdsRight_486 rfl ?_
                                                      refine V.callVBN (n := 0) (As := []) (rest := [.float (FP.i2f (nI (rbt (sSh s) (sTn s) (sNs s)))), .float (rbsh s)]) hC (f_secretCount (kl K) G hst F s (dE D2 u_438) B hok_438) (SFt.k G) hgot (gx1 gL_areBirdsRight_X12_secretCount) rfl ⟨rfl, rfl⟩ (by decide +kernel) ⟨by decide, by decide, by show _ ≤ 16000; omega, by show _ ≤ 191000; omega⟩ (L := [FW G F s (dE D2 u_438)]) (N := 1) rfl [0] [] (by decide) (List.append_nil (FW G F s (dE D2 u_438))) (fun _ : Unit => [FW G F s (dE D2 u_438)]) (fun _ => List.append_nil (FW G F s (dE D2 u_438))) rfl rfl rfl rfl (Nat.le_of_ble_eq_true rfl) dL_areBirdsRight_487 (fun r_487 u_487 hp_487 => ?_)
                                                      subst hp_487
                                                      show V G K 10 (15211 + 6 * k3 + 1 + 1) (163266 + 36 * k3 + 6 + 6) 490 [some (.ref (F.1 0)), some (.int (nI (sNb s))), some (.int (nI (als (ldS s) (sNb s)))), some (.int (nI (rbt (sSh s) (sTn s) (sNs s)))), some (.int 1), some (.int (nI k3)), none, none, none, none] [.int (nI (sNs s)), .float (FP.i2f (nI (rbt (sSh s) (sTn s) (sNs s)))), .float (rbsh s)] (flt [FW G F s (dE D2 u_438)])
                                                      refine V.i2f hC dL_areBirdsRight_490 ?_
                                                      refine V.fdiv hC dL_areBirdsRight_491 (rbsh_ok _ (by omega) _ (by omega) (Nat.pos_of_ne_zero c_477)) ?_
                                                      refine V.fcmp hC dL_areBirdsRight_492 ?_
                                                      refine V.topeq (nI 0) (rbsh_e hok.1 (Nat.pos_of_ne_zero c_477)) ?_
                                                      refine V.ifN_ne hC 0 507 dL_areBirdsRight_493 rfl rfl (by omega) (fun c_493 => ?_) (fun c_493 => ?_)
                                                      · exact absurd c_493 (by decide)
                                                      · refine V.aload_n hC (x := (F.1 0)) dL_areBirdsRight_496 rfl ?_
                                                        refine V.callSBN (n := 1) (As := [.ref (F.1 0)]) (rest := []) hC (l_nests (kl K) G hst F s (dE D2 u_438) B hok_438) (SFt.k G) hgot (gx2 gL_areBirdsRight_L_areNestsRight) rfl ⟨rfl, rfl⟩ (by decide +kernel) ⟨by decide, by decide, by show _ ≤ 16000; omega, by show _ ≤ 191000; omega⟩ (L := [FW G F s (dE D2 u_438)]) (N := 1) rfl [0] [] (by decide) rfl (fun u_497 : DX => [FW G F s u_497]) (fun _ => rfl) rfl rfl (Nat.le_of_ble_eq_true rfl) dL_areBirdsRight_497 (fun r_497 u_497 hp_497 => ?_)
                                                        obtain ⟨e_497, hok_497⟩ := hp_497
                                                        subst e_497
                                                        show V G K 10 (15211 + 6 * k3 + 1 + 1 + 600) (163266 + 36 * k3 + 6 + 6 + 27000) 500 [some (.ref (F.1 0)), some (.int (nI (sNb s))), some (.int (nI (als (ldS s) (sNb s)))), some (.int (nI (rbt (sSh s) (sTn s) (sNs s)))), some (.int 1), some (.int (nI k3)), none, none, none, none] [.int (nI 1)] (flt [FW G F s u_497])
                                                        refine V.ifN_eq hC 1 507 dL_areBirdsRight_500 rfl rfl (by omega) (fun c_500 => ?_) (fun c_500 => ?_)
                                                        · exact absurd c_500 (by decide)
                                                        · refine V.iconst hC 1 dL_areBirdsRight_503 rfl ?_
                                                          refine V.goto hC 508 dL_areBirdsRight_504 rfl ?_
                                                          refine V.widen (k := 16000) (n := 191000) (by omega) (by omega) ?_
                                                          exact hE 508 _ 1 u_497 dL_areBirdsRight_508 rfl ⟨rfl, hok_497⟩
                                      · have hr1 := rk_ok h8 (show k3 < sNb s by omega)
                                        have hr2 := rk_ok h8 (show k3 + 1 < sNb s from c_328)
                                        have hro := rk_ord hok.1 (show k3 + 1 < sNb s from c_328)
                                        refine V.aload_n hC (x := (F.1 0)) dL_areBirdsRight_331 rfl ?_
                                        refine V.iload hC (x := nI k3) dL_areBirdsRight_332 rfl ?_
                                        refine V.callVBXN (n := 1) (As := [.int (nI k3)]) (rest := []) hC (f_birdAtRank (kl K) G hst F s D2 B hok2 (nI k3)) (SFt.k G) hgot (gx1 gL_areBirdsRight_X12_birdAtRank) rfl ⟨rfl, rfl⟩ (by decide +kernel) ⟨by decide, by decide, by show _ ≤ 16000; omega, by show _ ≤ 191000; omega⟩ (L := [FW G F s D2]) (N := 1) rfl [0] [] (by decide) (List.append_nil (FW G F s D2)) (fun _ : Unit => [FW G F s D2]) (fun _ => List.append_nil (FW G F s D2)) (fun _ : Unit => [FW G F s D2]) (fun _ => List.append_nil (FW G F s D2)) rfl rfl rfl rfl (Nat.le_of_ble_eq_true rfl) dL_areBirdsRight_334 (fun E_ u_ hx_ => (XE_no hx_ (hr1.1)).elim) (fun r_334 u_334 hp_334 => ?_)
                                        obtain rfl : nI (rnkd s (nI k3)) = r_334 := congrArg Prod.snd ((hr1.1).symm.trans hp_334)
                                        show V G K 10 (15211 + 6 * k3 + 1) (163266 + 36 * k3 + 6) 337 [some (.ref (F.1 0)), some (.int (nI (sNb s))), some (.int (nI (als (ldS s) (sNb s)))), some (.int (nI (rbt (sSh s) (sTn s) (sNs s)))), some (.int (nI 1)), some (.int (nI k3)), none, none, none, none] [.int (nI (rnkd s (nI k3)))] (flt [FW G F s D2])
                                        refine V.istore hC dL_areBirdsRight_337 [some (.ref (F.1 0)), some (.int (nI (sNb s))), some (.int (nI (als (ldS s) (sNb s)))), some (.int (nI (rbt (sSh s) (sTn s) (sNs s)))), some (.int (nI 1)), some (.int (nI k3)), some (.int (nI (rnkd s (nI k3)))), none, none, none] (Nat.le_of_ble_eq_true rfl) rfl ?_
                                        refine V.aload_n hC (x := (F.1 0)) dL_areBirdsRight_339 rfl ?_
                                        refine V.iload hC (x := nI k3) dL_areBirdsRight_340 rfl ?_
                                        refine V.iconst hC 1 dL_areBirdsRight_342 rfl ?_
                                        refine V.iaddN hC k3 1 dL_areBirdsRight_343 rfl rfl ?_
                                        refine V.callVBXN (n := 1) (As := [.int (nI (k3 + 1))]) (rest := []) hC (f_birdAtRank (kl K) G hst F s D2 B hok2 (nI (k3 + 1))) (SFt.k G) hgot (gx1 gL_areBirdsRight_X12_birdAtRank) rfl ⟨rfl, rfl⟩ (by decide +kernel) ⟨by decide, by decide, by show _ ≤ 16000; omega, by show _ ≤ 191000; omega⟩ (L := [FW G F s D2]) (N := 1) rfl [0] [] (by decide) (List.append_nil (FW G F s D2)) (fun _ : Unit => [FW G F s D2]) (fun _ => List.append_nil (FW G F s D2)) (fun _ : Unit => [FW G F s D2]) (fun _ => List.append_nil (FW G F s D2)) rfl rfl rfl rfl (Nat.le_of_ble_eq_true rfl) dL_areBirdsRight_344 (fun E_ u_ hx_ => (XE_no hx_ (hr2.1)).elim) (fun r_344 u_344 hp_344 => ?_)
                                        obtain rfl : nI (rnkd s (nI (k3 + 1))) = r_344 := congrArg Prod.snd ((hr2.1).symm.trans hp_344)
                                        show V G K 10 (15211 + 6 * k3 + 1 + 1) (163266 + 36 * k3 + 6 + 6) 347 [some (.ref (F.1 0)), some (.int (nI (sNb s))), some (.int (nI (als (ldS s) (sNb s)))), some (.int (nI (rbt (sSh s) (sTn s) (sNs s)))), some (.int (nI 1)), some (.int (nI k3)), some (.int (nI (rnkd s (nI k3)))), none, none, none] [.int (nI (rnkd s (nI (k3 + 1))))] (flt [FW G F s D2])
                                        refine V.istore hC dL_areBirdsRight_347 [some (.ref (F.1 0)), some (.int (nI (sNb s))), some (.int (nI (als (ldS s) (sNb s)))), some (.int (nI (rbt (sSh s) (sTn s) (sNs s)))), some (.int (nI 1)), some (.int (nI k3)), some (.int (nI (rnkd s (nI k3)))), some (.int (nI (rnkd s (nI (k3 + 1))))), none, none] (Nat.le_of_ble_eq_true rfl) rfl ?_
                                        refine V.aload_n hC (x := (F.1 0)) dL_areBirdsRight_349 rfl ?_
                                        refine V.iload hC (x := nI (rnkd s (nI k3))) dL_areBirdsRight_350 rfl ?_
                                        refine V.callVBXN (n := 1) (As := [.int (nI (rnkd s (nI k3)))]) (rest := []) hC (f_sharesOf (kl K) G hst F s D2 B hok2 (nI (rnkd s (nI k3)))) (SFt.k G) hgot (gx1 gL_areBirdsRight_X12_sharesOf) rfl ⟨rfl, rfl⟩ (by decide +kernel) ⟨by decide, by decide, by show _ ≤ 16000; omega, by show _ ≤ 191000; omega⟩ (L := [FW G F s D2]) (N := 1) rfl [0] [] (by decide) (List.append_nil (FW G F s D2)) (fun _ : Unit => [FW G F s D2]) (fun _ => List.append_nil (FW G F s D2)) (fun _ : Unit => [FW G F s D2]) (fun _ => List.append_nil (FW G F s D2)) rfl rfl rfl rfl (Nat.le_of_ble_eq_true rfl) dL_areBirdsRight_352 (fun E_ u_ hx_ => (XE_no hx_ ((qShares_ok h8 hr1.2.1))).elim) (fun r_352 u_352 hp_352 => ?_)
                                        obtain rfl : nI (ldn (sSh s) (rnkd s (nI k3)) (sNs s)) = r_352 := congrArg Prod.snd (((qShares_ok h8 hr1.2.1)).symm.trans hp_352)
                                        show V G K 10 (15211 + 6 * k3 + 1 + 1 + 1) (163266 + 36 * k3 + 6 + 6 + 6) 355 [some (.ref (F.1 0)), some (.int (nI (sNb s))), some (.int (nI (als (ldS s) (sNb s)))), some (.int (nI (rbt (sSh s) (sTn s) (sNs s)))), some (.int (nI 1)), some (.int (nI k3)), some (.int (nI (rnkd s (nI k3)))), some (.int (nI (rnkd s (nI (k3 + 1))))), none, none] [.int (nI (ldn (sSh s) (rnkd s (nI k3)) (sNs s)))] (flt [FW G F s D2])
                                        refine V.aload_n hC (x := (F.1 0)) dL_areBirdsRight_355 rfl ?_
                                        refine V.iload hC (x := nI (rnkd s (nI (k3 + 1)))) dL_areBirdsRight_356 rfl ?_
                                        refine V.callVBXN (n := 1) (As := [.int (nI (rnkd s (nI (k3 + 1))))]) (rest := [.int (nI (ldn (sSh s) (rnkd s (nI k3)) (sNs s)))]) hC (f_sharesOf (kl K) G hst F s D2 B hok2 (nI (rnkd s (nI (k3 + 1))))) (SFt.k G) hgot (gx1 gL_areBirdsRight_X12_sharesOf) rfl ⟨rfl, rfl⟩ (by decide +kernel) ⟨by decide, by decide, by show _ ≤ 16000; omega, by show _ ≤ 191000; omega⟩ (L := [FW G F s D2]) (N := 1) rfl [0] [] (by decide) (List.append_nil (FW G F s D2)) (fun _ : Unit => [FW G F s D2]) (fun _ => List.append_nil (FW G F s D2)) (fun _ : Unit => [FW G F s D2]) (fun _ => List.append_nil (FW G F s D2)) rfl rfl rfl rfl (Nat.le_of_ble_eq_true rfl) dL_areBirdsRight_358 (fun E_ u_ hx_ => (XE_no hx_ ((qShares_ok h8 hr2.2.1))).elim) (fun r_358 u_358 hp_358 => ?_)
                                        obtain rfl : nI (ldn (sSh s) (rnkd s (nI (k3 + 1))) (sNs s)) = r_358 := congrArg Prod.snd (((qShares_ok h8 hr2.2.1)).symm.trans hp_358)
                                        show V G K 10 (15211 + 6 * k3 + 1 + 1 + 1 + 1) (163266 + 36 * k3 + 6 + 6 + 6 + 6) 361 [some (.ref (F.1 0)), some (.int (nI (sNb s))), some (.int (nI (als (ldS s) (sNb s)))), some (.int (nI (rbt (sSh s) (sTn s) (sNs s)))), some (.int (nI 1)), some (.int (nI k3)), some (.int (nI (rnkd s (nI k3)))), some (.int (nI (rnkd s (nI (k3 + 1))))), none, none] [.int (nI (ldn (sSh s) (rnkd s (nI (k3 + 1))) (sNs s))), .int (nI (ldn (sSh s) (rnkd s (nI k3)) (sNs s)))] (flt [FW G F s D2])
                                        refine V.isub hC dL_areBirdsRight_361 ?_
                                        refine V.istore hC dL_areBirdsRight_362 [some (.ref (F.1 0)), some (.int (nI (sNb s))), some (.int (nI (als (ldS s) (sNb s)))), some (.int (nI (rbt (sSh s) (sTn s) (sNs s)))), some (.int (nI 1)), some (.int (nI k3)), some (.int (nI (rnkd s (nI k3)))), some (.int (nI (rnkd s (nI (k3 + 1))))), some (.int ((nI (ldn (sSh s) (rnkd s (nI k3)) (sNs s))) - (nI (ldn (sSh s) (rnkd s (nI (k3 + 1))) (sNs s))))), none] (Nat.le_of_ble_eq_true rfl) rfl ?_
                                        refine V.aload_n hC (x := (F.1 0)) dL_areBirdsRight_364 rfl ?_
                                        refine V.iload hC (x := nI (rnkd s (nI (k3 + 1)))) dL_areBirdsRight_365 rfl ?_
                                        refine V.callVBXN (n := 1) (As := [.int (nI (rnkd s (nI (k3 + 1))))]) (rest := []) hC (f_nestOf (kl K) G hst F s D2 B hok2 (nI (rnkd s (nI (k3 + 1))))) (SFt.k G) hgot (gx1 gL_areBirdsRight_X12_nestOf) rfl ⟨rfl, rfl⟩ (by decide +kernel) ⟨by decide, by decide, by show _ ≤ 16000; omega, by show _ ≤ 191000; omega⟩ (L := [FW G F s D2]) (N := 1) rfl [0] [] (by decide) (List.append_nil (FW G F s D2)) (fun _ : Unit => [FW G F s D2]) (fun _ => List.append_nil (FW G F s D2)) (fun _ : Unit => [FW G F s D2]) (fun _ => List.append_nil (FW G F s D2)) rfl rfl rfl rfl (Nat.le_of_ble_eq_true rfl) dL_areBirdsRight_367 (fun E_ u_ hx_ => (XE_no hx_ ((qNest_ok h8 hr2.2.1))).elim) (fun r_367 u_367 hp_367 => ?_)
                                        obtain rfl : sHm s (rnkd s (nI (k3 + 1))) = r_367 := congrArg Prod.snd (((qNest_ok h8 hr2.2.1)).symm.trans hp_367)
                                        show V G K 10 (15211 + 6 * k3 + 1 + 1 + 1 + 1 + 1) (163266 + 36 * k3 + 6 + 6 + 6 + 6 + 6) 370 [some (.ref (F.1 0)), some (.int (nI (sNb s))), some (.int (nI (als (ldS s) (sNb s)))), some (.int (nI (rbt (sSh s) (sTn s) (sNs s)))), some (.int (nI 1)), some (.int (nI k3)), some (.int (nI (rnkd s (nI k3)))), some (.int (nI (rnkd s (nI (k3 + 1))))), some (.int ((nI (ldn (sSh s) (rnkd s (nI k3)) (sNs s))) - (nI (ldn (sSh s) (rnkd s (nI (k3 + 1))) (sNs s))))), none] [.int (sHm s (rnkd s (nI (k3 + 1))))] (flt [FW G F s D2])
                                        refine V.aload_n hC (x := (F.1 0)) dL_areBirdsRight_370 rfl ?_
                                        refine V.iload hC (x := nI (rnkd s (nI k3))) dL_areBirdsRight_371 rfl ?_
                                        refine V.callVBXN (n := 1) (As := [.int (nI (rnkd s (nI k3)))]) (rest := [.int (sHm s (rnkd s (nI (k3 + 1))))]) hC (f_nestOf (kl K) G hst F s D2 B hok2 (nI (rnkd s (nI k3)))) (SFt.k G) hgot (gx1 gL_areBirdsRight_X12_nestOf) rfl ⟨rfl, rfl⟩ (by decide +kernel) ⟨by decide, by decide, by show _ ≤ 16000; omega, by show _ ≤ 191000; omega⟩ (L := [FW G F s D2]) (N := 1) rfl [0] [] (by decide) (List.append_nil (FW G F s D2)) (fun _ : Unit => [FW G F s D2]) (fun _ => List.append_nil (FW G F s D2)) (fun _ : Unit => [FW G F s D2]) (fun _ => List.append_nil (FW G F s D2)) rfl rfl rfl rfl (Nat.le_of_ble_eq_true rfl) dL_areBirdsRight_373 (fun E_ u_ hx_ => (XE_no hx_ ((qNest_ok h8 hr1.2.1))).elim) (fun r_373 u_373 hp_373 => ?_)
                                        obtain rfl : sHm s (rnkd s (nI k3)) = r_373 := congrArg Prod.snd (((qNest_ok h8 hr1.2.1)).symm.trans hp_373)
                                        show V G K 10 (15211 + 6 * k3 + 1 + 1 + 1 + 1 + 1 + 1) (163266 + 36 * k3 + 6 + 6 + 6 + 6 + 6 + 6) 376 [some (.ref (F.1 0)), some (.int (nI (sNb s))), some (.int (nI (als (ldS s) (sNb s)))), some (.int (nI (rbt (sSh s) (sTn s) (sNs s)))), some (.int (nI 1)), some (.int (nI k3)), some (.int (nI (rnkd s (nI k3)))), some (.int (nI (rnkd s (nI (k3 + 1))))), some (.int ((nI (ldn (sSh s) (rnkd s (nI k3)) (sNs s))) - (nI (ldn (sSh s) (rnkd s (nI (k3 + 1))) (sNs s))))), none] [.int (sHm s (rnkd s (nI k3))), .int (sHm s (rnkd s (nI (k3 + 1))))] (flt [FW G F s D2])
                                        refine V.isub hC dL_areBirdsRight_376 ?_
                                        refine V.istore hC dL_areBirdsRight_377 [some (.ref (F.1 0)), some (.int (nI (sNb s))), some (.int (nI (als (ldS s) (sNb s)))), some (.int (nI (rbt (sSh s) (sTn s) (sNs s)))), some (.int (nI 1)), some (.int (nI k3)), some (.int (nI (rnkd s (nI k3)))), some (.int (nI (rnkd s (nI (k3 + 1))))), some (.int ((nI (ldn (sSh s) (rnkd s (nI k3)) (sNs s))) - (nI (ldn (sSh s) (rnkd s (nI (k3 + 1))) (sNs s))))), some (.int ((sHm s (rnkd s (nI (k3 + 1)))) - (sHm s (rnkd s (nI k3)))))] (Nat.le_of_ble_eq_true rfl) rfl ?_
                                        refine V.iload hC (x := nI 1) dL_areBirdsRight_379 rfl ?_
                                        refine V.ifN_eq hC 1 415 dL_areBirdsRight_381 rfl rfl (by omega) (fun c_381 => ?_) (fun c_381 => ?_)
                                        · exact absurd c_381 (by decide)
                                        · refine V.iload hC (x := (nI (ldn (sSh s) (rnkd s (nI k3)) (sNs s))) - (nI (ldn (sSh s) (rnkd s (nI (k3 + 1))) (sNs s)))) dL_areBirdsRight_384 rfl ?_
                                          refine V.if_gt hC 411 dL_areBirdsRight_386 rfl (fun c_386 => ?_) (fun c_386 => ?_)
                                          · refine V.iconst hC 1 dL_areBirdsRight_411 rfl ?_
                                            refine V.goto hC 416 dL_areBirdsRight_412 rfl ?_
                                            refine V.istore hC dL_areBirdsRight_416 [some (.ref (F.1 0)), some (.int (nI (sNb s))), some (.int (nI (als (ldS s) (sNb s)))), some (.int (nI (rbt (sSh s) (sTn s) (sNs s)))), some (.int 1), some (.int (nI k3)), some (.int (nI (rnkd s (nI k3)))), some (.int (nI (rnkd s (nI (k3 + 1))))), some (.int ((nI (ldn (sSh s) (rnkd s (nI k3)) (sNs s))) - (nI (ldn (sSh s) (rnkd s (nI (k3 + 1))) (sNs s))))), some (.int ((sHm s (rnkd s (nI (k3 + 1)))) - (sHm s (rnkd s (nI k3)))))] (Nat.le_of_ble_eq_true rfl) rfl ?_
                                            refine V.iincN hC k3 1 dL_areBirdsRight_418 rfl [some (.ref (F.1 0)), some (.int (nI (sNb s))), some (.int (nI (als (ldS s) (sNb s)))), some (.int (nI (rbt (sSh s) (sTn s) (sNs s)))), some (.int 1), some (.int (nI (k3 + 1))), some (.int (nI (rnkd s (nI k3)))), some (.int (nI (rnkd s (nI (k3 + 1))))), some (.int ((nI (ldn (sSh s) (rnkd s (nI k3)) (sNs s))) - (nI (ldn (sSh s) (rnkd s (nI (k3 + 1))) (sNs s))))), some (.int ((sHm s (rnkd s (nI (k3 + 1)))) - (sHm s (rnkd s (nI k3)))))] (Nat.le_of_ble_eq_true rfl) rfl rfl rfl ?_
                                            refine V.goto hC 323 dL_areBirdsRight_421 rfl ?_
                                            refine V.drop 6 (lv' := [some (.ref (F.1 0)), some (.int (nI (sNb s))), some (.int (nI (als (ldS s) (sNb s)))), some (.int (nI (rbt (sSh s) (sTn s) (sNs s)))), some (.int 1), some (.int (nI (k3 + 1))), none, some (.int (nI (rnkd s (nI (k3 + 1))))), some (.int ((nI (ldn (sSh s) (rnkd s (nI k3)) (sNs s))) - (nI (ldn (sSh s) (rnkd s (nI (k3 + 1))) (sNs s))))), some (.int ((sHm s (rnkd s (nI (k3 + 1)))) - (sHm s (rnkd s (nI k3)))))]) rfl ?_
                                            refine V.drop 7 (lv' := [some (.ref (F.1 0)), some (.int (nI (sNb s))), some (.int (nI (als (ldS s) (sNb s)))), some (.int (nI (rbt (sSh s) (sTn s) (sNs s)))), some (.int 1), some (.int (nI (k3 + 1))), none, none, some (.int ((nI (ldn (sSh s) (rnkd s (nI k3)) (sNs s))) - (nI (ldn (sSh s) (rnkd s (nI (k3 + 1))) (sNs s))))), some (.int ((sHm s (rnkd s (nI (k3 + 1)))) - (sHm s (rnkd s (nI k3)))))]) rfl ?_
                                            refine V.drop 8 (lv' := [some (.ref (F.1 0)), some (.int (nI (sNb s))), some (.int (nI (als (ldS s) (sNb s)))), some (.int (nI (rbt (sSh s) (sTn s) (sNs s)))), some (.int 1), some (.int (nI (k3 + 1))), none, none, none, some (.int ((sHm s (rnkd s (nI (k3 + 1)))) - (sHm s (rnkd s (nI k3)))))]) rfl ?_
                                            refine V.drop 9 (lv' := [some (.ref (F.1 0)), some (.int (nI (sNb s))), some (.int (nI (als (ldS s) (sNb s)))), some (.int (nI (rbt (sSh s) (sTn s) (sNs s)))), some (.int 1), some (.int (nI (k3 + 1))), none, none, none, none]) rfl ?_
                                            refine V.widen (k := 15211 + 6 * (k3 + 1)) (n := 163266 + 36 * (k3 + 1)) (by omega) (by omega) ?_
                                            exact ih323 (k3 + 1) (by omega) (by omega)
                                          · refine V.iload hC (x := (nI (ldn (sSh s) (rnkd s (nI k3)) (sNs s))) - (nI (ldn (sSh s) (rnkd s (nI (k3 + 1))) (sNs s)))) dL_areBirdsRight_389 rfl ?_
                                            refine V.if_ne hC 415 dL_areBirdsRight_391 rfl (fun c_391 => ?_) (fun c_391 => ?_)
                                            · exact (hro.elim (fun q => c_386 q) (fun q => c_391 q.1)).elim
                                            · refine V.iload hC (x := (sHm s (rnkd s (nI (k3 + 1)))) - (sHm s (rnkd s (nI k3)))) dL_areBirdsRight_394 rfl ?_
                                              refine V.if_gt hC 411 dL_areBirdsRight_396 rfl (fun c_396 => ?_) (fun c_396 => ?_)
                                              · refine V.iconst hC 1 dL_areBirdsRight_411 rfl ?_
                                                refine V.goto hC 416 dL_areBirdsRight_412 rfl ?_
                                                refine V.istore hC dL_areBirdsRight_416 [some (.ref (F.1 0)), some (.int (nI (sNb s))), some (.int (nI (als (ldS s) (sNb s)))), some (.int (nI (rbt (sSh s) (sTn s) (sNs s)))), some (.int 1), some (.int (nI k3)), some (.int (nI (rnkd s (nI k3)))), some (.int (nI (rnkd s (nI (k3 + 1))))), some (.int ((nI (ldn (sSh s) (rnkd s (nI k3)) (sNs s))) - (nI (ldn (sSh s) (rnkd s (nI (k3 + 1))) (sNs s))))), some (.int ((sHm s (rnkd s (nI (k3 + 1)))) - (sHm s (rnkd s (nI k3)))))] (Nat.le_of_ble_eq_true rfl) rfl ?_
                                                refine V.iincN hC k3 1 dL_areBirdsRight_418 rfl [some (.ref (F.1 0)), some (.int (nI (sNb s))), some (.int (nI (als (ldS s) (sNb s)))), some (.int (nI (rbt (sSh s) (sTn s) (sNs s)))), some (.int 1), some (.int (nI (k3 + 1))), some (.int (nI (rnkd s (nI k3)))), some (.int (nI (rnkd s (nI (k3 + 1))))), some (.int ((nI (ldn (sSh s) (rnkd s (nI k3)) (sNs s))) - (nI (ldn (sSh s) (rnkd s (nI (k3 + 1))) (sNs s))))), some (.int ((sHm s (rnkd s (nI (k3 + 1)))) - (sHm s (rnkd s (nI k3)))))] (Nat.le_of_ble_eq_true rfl) rfl rfl rfl ?_
                                                refine V.goto hC 323 dL_areBirdsRight_421 rfl ?_
                                                refine V.drop 6 (lv' := [some (.ref (F.1 0)), some (.int (nI (sNb s))), some (.int (nI (als (ldS s) (sNb s)))), some (.int (nI (rbt (sSh s) (sTn s) (sNs s)))), some (.int 1), some (.int (nI (k3 + 1))), none, some (.int (nI (rnkd s (nI (k3 + 1))))), some (.int ((nI (ldn (sSh s) (rnkd s (nI k3)) (sNs s))) - (nI (ldn (sSh s) (rnkd s (nI (k3 + 1))) (sNs s))))), some (.int ((sHm s (rnkd s (nI (k3 + 1)))) - (sHm s (rnkd s (nI k3)))))]) rfl ?_
                                                refine V.drop 7 (lv' := [some (.ref (F.1 0)), some (.int (nI (sNb s))), some (.int (nI (als (ldS s) (sNb s)))), some (.int (nI (rbt (sSh s) (sTn s) (sNs s)))), some (.int 1), some (.int (nI (k3 + 1))), none, none, some (.int ((nI (ldn (sSh s) (rnkd s (nI k3)) (sNs s))) - (nI (ldn (sSh s) (rnkd s (nI (k3 + 1))) (sNs s))))), some (.int ((sHm s (rnkd s (nI (k3 + 1)))) - (sHm s (rnkd s (nI k3)))))]) rfl ?_
                                                refine V.drop 8 (lv' := [some (.ref (F.1 0)), some (.int (nI (sNb s))), some (.int (nI (als (ldS s) (sNb s)))), some (.int (nI (rbt (sSh s) (sTn s) (sNs s)))), some (.int 1), some (.int (nI (k3 + 1))), none, none, none, some (.int ((sHm s (rnkd s (nI (k3 + 1)))) - (sHm s (rnkd s (nI k3)))))]) rfl ?_
                                                refine V.drop 9 (lv' := [some (.ref (F.1 0)), some (.int (nI (sNb s))), some (.int (nI (als (ldS s) (sNb s)))), some (.int (nI (rbt (sSh s) (sTn s) (sNs s)))), some (.int 1), some (.int (nI (k3 + 1))), none, none, none, none]) rfl ?_
                                                refine V.widen (k := 15211 + 6 * (k3 + 1)) (n := 163266 + 36 * (k3 + 1)) (by omega) (by omega) ?_
                                                exact ih323 (k3 + 1) (by omega) (by omega)
                                              · refine V.iload hC (x := (sHm s (rnkd s (nI (k3 + 1)))) - (sHm s (rnkd s (nI k3)))) dL_areBirdsRight_399 rfl ?_
                                                refine V.if_ne hC 415 dL_areBirdsRight_401 rfl (fun c_401 => ?_) (fun c_401 => ?_)
                                                · exact (hro.elim (fun q => c_386 q) (fun q => q.2.elim (fun q => c_396 q) (fun q => c_401 q.1))).elim
                                                · refine V.iload hC (x := nI (rnkd s (nI k3))) dL_areBirdsRight_404 rfl ?_
                                                  refine V.iload hC (x := nI (rnkd s (nI (k3 + 1)))) dL_areBirdsRight_406 rfl ?_
                                                  refine V.icmpN_ge hC (rnkd s (nI k3)) (rnkd s (nI (k3 + 1))) 415 dL_areBirdsRight_408 rfl rfl rfl (by omega) (by omega) (fun c_408 => ?_) (fun c_408 => ?_)
                                                  · exact (hro.elim (fun q => c_386 q) (fun q => q.2.elim (fun q => c_396 q) (fun q => absurd q.2 (Nat.not_lt.mpr c_408)))).elim
                                                  · refine V.iconst hC 1 dL_areBirdsRight_411 rfl ?_
                                                    refine V.goto hC 416 dL_areBirdsRight_412 rfl ?_
                                                    refine V.istore hC dL_areBirdsRight_416 [some (.ref (F.1 0)), some (.int (nI (sNb s))), some (.int (nI (als (ldS s) (sNb s)))), some (.int (nI (rbt (sSh s) (sTn s) (sNs s)))), some (.int 1), some (.int (nI k3)), some (.int (nI (rnkd s (nI k3)))), some (.int (nI (rnkd s (nI (k3 + 1))))), some (.int ((nI (ldn (sSh s) (rnkd s (nI k3)) (sNs s))) - (nI (ldn (sSh s) (rnkd s (nI (k3 + 1))) (sNs s))))), some (.int ((sHm s (rnkd s (nI (k3 + 1)))) - (sHm s (rnkd s (nI k3)))))] (Nat.le_of_ble_eq_true rfl) rfl ?_
                                                    refine V.iincN hC k3 1 dL_areBirdsRight_418 rfl [some (.ref (F.1 0)), some (.int (nI (sNb s))), some (.int (nI (als (ldS s) (sNb s)))), some (.int (nI (rbt (sSh s) (sTn s) (sNs s)))), some (.int 1), some (.int (nI (k3 + 1))), some (.int (nI (rnkd s (nI k3)))), some (.int (nI (rnkd s (nI (k3 + 1))))), some (.int ((nI (ldn (sSh s) (rnkd s (nI k3)) (sNs s))) - (nI (ldn (sSh s) (rnkd s (nI (k3 + 1))) (sNs s))))), some (.int ((sHm s (rnkd s (nI (k3 + 1)))) - (sHm s (rnkd s (nI k3)))))] (Nat.le_of_ble_eq_true rfl) rfl rfl rfl ?_
                                                    refine V.goto hC 323 dL_areBirdsRight_421 rfl ?_
                                                    refine V.drop 6 (lv' := [some (.ref (F.1 0)), some (.int (nI (sNb s))), some (.int (nI (als (ldS s) (sNb s)))), some (.int (nI (rbt (sSh s) (sTn s) (sNs s)))), some (.int 1), some (.int (nI (k3 + 1))), none, some (.int (nI (rnkd s (nI (k3 + 1))))), some (.int ((nI (ldn (sSh s) (rnkd s (nI k3)) (sNs s))) - (nI (ldn (sSh s) (rnkd s (nI (k3 + 1))) (sNs s))))), some (.int ((sHm s (rnkd s (nI (k3 + 1)))) - (sHm s (rnkd s (nI k3)))))]) rfl ?_
                                                    refine V.drop 7 (lv' := [some (.ref (F.1 0)), some (.int (nI (sNb s))), some (.int (nI (als (ldS s) (sNb s)))), some (.int (nI (rbt (sSh s) (sTn s) (sNs s)))), some (.int 1), some (.int (nI (k3 + 1))), none, none, some (.int ((nI (ldn (sSh s) (rnkd s (nI k3)) (sNs s))) - (nI (ldn (sSh s) (rnkd s (nI (k3 + 1))) (sNs s))))), some (.int ((sHm s (rnkd s (nI (k3 + 1)))) - (sHm s (rnkd s (nI k3)))))]) rfl ?_
                                                    refine V.drop 8 (lv' := [some (.ref (F.1 0)), some (.int (nI (sNb s))), some (.int (nI (als (ldS s) (sNb s)))), some (.int (nI (rbt (sSh s) (sTn s) (sNs s)))), some (.int 1), some (.int (nI (k3 + 1))), none, none, none, some (.int ((sHm s (rnkd s (nI (k3 + 1)))) - (sHm s (rnkd s (nI k3)))))]) rfl ?_
                                                    refine V.drop 9 (lv' := [some (.ref (F.1 0)), some (.int (nI (sNb s))), some (.int (nI (als (ldS s) (sNb s)))), some (.int (nI (rbt (sSh s) (sTn s) (sNs s)))), some (.int 1), some (.int (nI (k3 + 1))), none, none, none, none]) rfl ?_
                                                    refine V.widen (k := 15211 + 6 * (k3 + 1)) (n := 163266 + 36 * (k3 + 1)) (by omega) (by omega) ?_
                                                    exact ih323 (k3 + 1) (by omega) (by omega)
                                  refine V.widen (k := 15211 + 6 * 0) (n := 163266 + 36 * 0) (by omega) (by omega) ?_
                                  exact loop323 _ 0 (Nat.lt_succ_self _) (Nat.zero_le _)
                                · have hkn : k < sNs s := c_240
                                  have htk : 1 ≤ sTn s k ∧ sTn s k ≤ 4 := ⟨(hok.1.2.2.1 k hkn).1, (hok.1.2.2.1 k hkn).2.1⟩
                                  refine V.iload_n hC (x := nI (rbt (sSh s) (sTn s) k)) dL_areBirdsRight_243 rfl ?_
                                  refine V.aload_n hC (x := (F.1 0)) dL_areBirdsRight_244 rfl ?_
                                  refine V.aload_n hC (x := (F.1 0)) dL_areBirdsRight_245 rfl ?_
                                  refine V.iload hC (x := nI k) dL_areBirdsRight_246 rfl ?_
                                  refine V.callVBXN (n := 1) (As := [.int (nI k)]) (rest := [.ref (F.1 0), .int (nI (rbt (sSh s) (sTn s) k))]) hC (f_secretAt (kl K) G hst F s D2 B hok2 (nI k)) (SFt.k G) hgot (gx1 gL_areBirdsRight_X12_secretAt) rfl ⟨rfl, rfl⟩ (by decide +kernel) ⟨by decide, by decide, by show _ ≤ 16000; omega, by show _ ≤ 191000; omega⟩ (L := [FW G F s D2]) (N := 1) rfl [0] [] (by decide) (List.append_nil (FW G F s D2)) (fun _ : Unit => [FW G F s D2]) (fun _ => List.append_nil (FW G F s D2)) (fun _ : Unit => [FW G F s D2]) (fun _ => List.append_nil (FW G F s D2)) rfl rfl rfl rfl (Nat.le_of_ble_eq_true rfl) dL_areBirdsRight_248 (fun E_ u_ hx_ => (XE_no hx_ ((qSecAt_ok hs6 hkn))).elim) (fun r_248 u_248 hp_248 => ?_)
                                  obtain rfl : sNu s k = r_248 := congrArg Prod.snd (((qSecAt_ok hs6 hkn)).symm.trans hp_248)
                                  show V G K 10 (181 + 2505 * k + 1) (1086 + 27030 * k + 6) 251 [some (.ref (F.1 0)), some (.int (nI (sNb s))), some (.int (nI (als (ldS s) (sNb s)))), some (.int (nI (rbt (sSh s) (sTn s) k))), some (.int (nI 1)), some (.int (nI k)), none, none, none, none] [.int (sNu s k), .ref (F.1 0), .int (nI (rbt (sSh s) (sTn s) k))] (flt [FW G F s D2])
                                  refine V.callVBXN (n := 1) (As := [.int (sNu s k)]) (rest := [.int (nI (rbt (sSh s) (sTn s) k))]) hC (f_spareShares (kl K) G hst F s D2 B hok2 (sNu s k)) (SFt.k G) hgot (gx1 gL_areBirdsRight_X12_spareShares) rfl ⟨rfl, rfl⟩ (by decide +kernel) ⟨by decide, by decide, by show _ ≤ 16000; omega, by show _ ≤ 191000; omega⟩ (L := [FW G F s D2]) (N := 1) rfl [0] [] (by decide) (List.append_nil (FW G F s D2)) (fun _ : Unit => [FW G F s D2]) (fun _ => List.append_nil (FW G F s D2)) (fun _ : Unit => [FW G F s D2]) (fun _ => List.append_nil (FW G F s D2)) rfl rfl rfl rfl (Nat.le_of_ble_eq_true rfl) dL_areBirdsRight_251 (fun E_ u_ hx_ => (XE_no hx_ ((qSpare_ok hok.1 hB hkn))).elim) (fun r_251 u_251 hp_251 => ?_)
                                  obtain rfl : nI (hc (sSh s k) 8) - nI (sTn s k) = r_251 := congrArg Prod.snd (((qSpare_ok hok.1 hB hkn)).symm.trans hp_251)
                                  show V G K 10 (181 + 2505 * k + 1 + 1) (1086 + 27030 * k + 6 + 6) 254 [some (.ref (F.1 0)), some (.int (nI (sNb s))), some (.int (nI (als (ldS s) (sNb s)))), some (.int (nI (rbt (sSh s) (sTn s) k))), some (.int (nI 1)), some (.int (nI k)), none, none, none, none] [.int (nI (hc (sSh s k) 8) - nI (sTn s k)), .int (nI (rbt (sSh s) (sTn s) k))] (flt [FW G F s D2])
                                  refine V.if_lt hC 261 dL_areBirdsRight_254 rfl (fun c_254 => ?_) (fun c_254 => ?_)
                                  · refine V.iconst hC 0 dL_areBirdsRight_261 rfl ?_
                                    refine V.callSBN (n := 1) (As := [.int 0]) (rest := [.int (nI (rbt (sSh s) (sTn s) k))]) hC (l_told (kl K) G 0 (by decide)) SFk0 SFgo0 (gx2 gL_areBirdsRight_L_told) rfl ⟨rfl, rfl⟩ (by decide +kernel) ⟨by decide, by decide, by show _ ≤ 16000; omega, by show _ ≤ 191000; omega⟩ (L := [FW G F s D2]) (N := 1) rfl [] [0] (by decide) rfl (fun _ : Unit => []) (fun _ => rfl) rfl rfl (Nat.le_of_ble_eq_true rfl) dL_areBirdsRight_262 (fun r_262 u_262 hp_262 => ?_)
                                    subst hp_262
                                    show V G K 10 (181 + 2505 * k + 1 + 1) (1086 + 27030 * k + 6 + 6) 265 [some (.ref (F.1 0)), some (.int (nI (sNb s))), some (.int (nI (als (ldS s) (sNb s)))), some (.int (nI (rbt (sSh s) (sTn s) k))), some (.int (nI 1)), some (.int (nI k)), none, none, none, none] [.int (nI 0), .int (nI (rbt (sSh s) (sTn s) k))] (flt [FW G F s D2])
                                    refine V.iaddN hC (rbt (sSh s) (sTn s) k) 0 dL_areBirdsRight_265 rfl rfl ?_
                                    refine V.topeq (nI (rbt (sSh s) (sTn s) (k + 1))) (congrArg nI (rbt_n htk.2 c_254)) ?_
                                    refine V.istore_n hC dL_areBirdsRight_266 [some (.ref (F.1 0)), some (.int (nI (sNb s))), some (.int (nI (als (ldS s) (sNb s)))), some (.int (nI (rbt (sSh s) (sTn s) (k + 1)))), some (.int (nI 1)), some (.int (nI k)), none, none, none, none] (Nat.le_of_ble_eq_true rfl) rfl ?_
                                    refine V.iload hC (x := nI 1) dL_areBirdsRight_267 rfl ?_
                                    refine V.ifN_eq hC 1 311 dL_areBirdsRight_269 rfl rfl (by omega) (fun c_269 => ?_) (fun c_269 => ?_)
                                    · exact absurd c_269 (by decide)
                                    · refine V.iload hC (x := nI k) dL_areBirdsRight_272 rfl ?_
                                      refine V.ifN_eq hC k 294 dL_areBirdsRight_274 rfl rfl (by omega) (fun c_274 => ?_) (fun c_274 => ?_)
                                      · refine V.aload_n hC (x := (F.1 0)) dL_areBirdsRight_294 rfl ?_
                                        refine V.aload_n hC (x := (F.1 0)) dL_areBirdsRight_295 rfl ?_
                                        refine V.iload hC (x := nI k) dL_areBirdsRight_296 rfl ?_
                                        refine V.callVBXN (n := 1) (As := [.int (nI k)]) (rest := [.ref (F.1 0)]) hC (f_secretAt (kl K) G hst F s D2 B hok2 (nI k)) (SFt.k G) hgot (gx1 gL_areBirdsRight_X12_secretAt) rfl ⟨rfl, rfl⟩ (by decide +kernel) ⟨by decide, by decide, by show _ ≤ 16000; omega, by show _ ≤ 191000; omega⟩ (L := [FW G F s D2]) (N := 1) rfl [0] [] (by decide) (List.append_nil (FW G F s D2)) (fun _ : Unit => [FW G F s D2]) (fun _ => List.append_nil (FW G F s D2)) (fun _ : Unit => [FW G F s D2]) (fun _ => List.append_nil (FW G F s D2)) rfl rfl rfl rfl (Nat.le_of_ble_eq_true rfl) dL_areBirdsRight_298 (fun E_ u_ hx_ => (XE_no hx_ ((qSecAt_ok hs6 hkn))).elim) (fun r_298 u_298 hp_298 => ?_)
                                        obtain rfl : sNu s k = r_298 := congrArg Prod.snd (((qSecAt_ok hs6 hkn)).symm.trans hp_298)
                                        show V G K 10 (181 + 2505 * k + 1 + 1 + 1) (1086 + 27030 * k + 6 + 6 + 6) 301 [some (.ref (F.1 0)), some (.int (nI (sNb s))), some (.int (nI (als (ldS s) (sNb s)))), some (.int (nI (rbt (sSh s) (sTn s) (k + 1)))), some (.int (nI 1)), some (.int (nI k)), none, none, none, none] [.int (sNu s k), .ref (F.1 0)] (flt [FW G F s D2])
                                        refine V.callSBN (n := 2) (As := [.ref (F.1 0), .int (sNu s k)]) (rest := []) hC (l_isSecretRight (kl K) G hst F s D2 B hok2 hB k hkn) (SFt.k G) hgot (gx2 gL_areBirdsRight_L_isSecretRight) rfl ⟨rfl, rfl⟩ (by decide +kernel) ⟨by decide, by decide, by show _ ≤ 16000; omega, by show _ ≤ 191000; omega⟩ (L := [FW G F s D2]) (N := 1) rfl [0] [] (by decide) rfl (fun u_301 : DX => [FW G F s u_301]) (fun _ => rfl) rfl rfl (Nat.le_of_ble_eq_true rfl) dL_areBirdsRight_301 (fun r_301 u_301 hp_301 => ?_)
                                        obtain ⟨e_301, hok_301⟩ := hp_301
                                        subst e_301
                                        show V G K 10 (181 + 2505 * k + 1 + 1 + 1 + 2500) (1086 + 27030 * k + 6 + 6 + 6 + 27000) 304 [some (.ref (F.1 0)), some (.int (nI (sNb s))), some (.int (nI (als (ldS s) (sNb s)))), some (.int (nI (rbt (sSh s) (sTn s) (k + 1)))), some (.int (nI 1)), some (.int (nI k)), none, none, none, none] [.int (nI 1)] (flt [FW G F s u_301])
                                        refine V.ifN_eq hC 1 311 dL_areBirdsRight_304 rfl rfl (by omega) (fun c_304 => ?_) (fun c_304 => ?_)
                                        · exact absurd c_304 (by decide)
                                        · refine V.iconst hC 1 dL_areBirdsRight_307 rfl ?_
                                          refine V.goto hC 312 dL_areBirdsRight_308 rfl ?_
                                          refine V.istore hC dL_areBirdsRight_312 [some (.ref (F.1 0)), some (.int (nI (sNb s))), some (.int (nI (als (ldS s) (sNb s)))), some (.int (nI (rbt (sSh s) (sTn s) (k + 1)))), some (.int 1), some (.int (nI k)), none, none, none, none] (Nat.le_of_ble_eq_true rfl) rfl ?_
                                          refine V.iincN hC k 1 dL_areBirdsRight_314 rfl [some (.ref (F.1 0)), some (.int (nI (sNb s))), some (.int (nI (als (ldS s) (sNb s)))), some (.int (nI (rbt (sSh s) (sTn s) (k + 1)))), some (.int 1), some (.int (nI (k + 1))), none, none, none, none] (Nat.le_of_ble_eq_true rfl) rfl rfl rfl ?_
                                          refine V.goto hC 234 dL_areBirdsRight_317 rfl ?_
                                          refine V.widen (k := 181 + 2505 * (k + 1)) (n := 1086 + 27030 * (k + 1)) (by omega) (by omega) ?_
                                          exact ih234 (k + 1) u_301 (by omega) (by omega) hok_301
                                      · refine V.aload_n hC (x := (F.1 0)) dL_areBirdsRight_277 rfl ?_
                                        refine V.iload hC (x := nI k) dL_areBirdsRight_278 rfl ?_
                                        refine V.iconst hC 1 dL_areBirdsRight_280 rfl ?_
                                        refine V.isubN hC k 1 dL_areBirdsRight_281 rfl rfl (by omega) ?_
                                        refine V.callVBXN (n := 1) (As := [.int (nI (k - 1))]) (rest := []) hC (f_secretAt (kl K) G hst F s D2 B hok2 (nI (k - 1))) (SFt.k G) hgot (gx1 gL_areBirdsRight_X12_secretAt) rfl ⟨rfl, rfl⟩ (by decide +kernel) ⟨by decide, by decide, by show _ ≤ 16000; omega, by show _ ≤ 191000; omega⟩ (L := [FW G F s D2]) (N := 1) rfl [0] [] (by decide) (List.append_nil (FW G F s D2)) (fun _ : Unit => [FW G F s D2]) (fun _ => List.append_nil (FW G F s D2)) (fun _ : Unit => [FW G F s D2]) (fun _ => List.append_nil (FW G F s D2)) rfl rfl rfl rfl (Nat.le_of_ble_eq_true rfl) dL_areBirdsRight_282 (fun E_ u_ hx_ => (XE_no hx_ ((qSecAt_ok hs6 (show k - 1 < sNs s by omega)))).elim) (fun r_282 u_282 hp_282 => ?_)
                                        obtain rfl : sNu s (k - 1) = r_282 := congrArg Prod.snd (((qSecAt_ok hs6 (show k - 1 < sNs s by omega))).symm.trans hp_282)
                                        show V G K 10 (181 + 2505 * k + 1 + 1 + 1) (1086 + 27030 * k + 6 + 6 + 6) 285 [some (.ref (F.1 0)), some (.int (nI (sNb s))), some (.int (nI (als (ldS s) (sNb s)))), some (.int (nI (rbt (sSh s) (sTn s) (k + 1)))), some (.int (nI 1)), some (.int (nI k)), none, none, none, none] [.int (sNu s (k - 1))] (flt [FW G F s D2])
                                        refine V.aload_n hC (x := (F.1 0)) dL_areBirdsRight_285 rfl ?_
                                        refine V.iload hC (x := nI k) dL_areBirdsRight_286 rfl ?_
                                        refine V.callVBXN (n := 1) (As := [.int (nI k)]) (rest := [.int (sNu s (k - 1))]) hC (f_secretAt (kl K) G hst F s D2 B hok2 (nI k)) (SFt.k G) hgot (gx1 gL_areBirdsRight_X12_secretAt) rfl ⟨rfl, rfl⟩ (by decide +kernel) ⟨by decide, by decide, by show _ ≤ 16000; omega, by show _ ≤ 191000; omega⟩ (L := [FW G F s D2]) (N := 1) rfl [0] [] (by decide) (List.append_nil (FW G F s D2)) (fun _ : Unit => [FW G F s D2]) (fun _ => List.append_nil (FW G F s D2)) (fun _ : Unit => [FW G F s D2]) (fun _ => List.append_nil (FW G F s D2)) rfl rfl rfl rfl (Nat.le_of_ble_eq_true rfl) dL_areBirdsRight_288 (fun E_ u_ hx_ => (XE_no hx_ ((qSecAt_ok hs6 hkn))).elim) (fun r_288 u_288 hp_288 => ?_)
                                        obtain rfl : sNu s k = r_288 := congrArg Prod.snd (((qSecAt_ok hs6 hkn)).symm.trans hp_288)
                                        show V G K 10 (181 + 2505 * k + 1 + 1 + 1 + 1) (1086 + 27030 * k + 6 + 6 + 6 + 6) 291 [some (.ref (F.1 0)), some (.int (nI (sNb s))), some (.int (nI (als (ldS s) (sNb s)))), some (.int (nI (rbt (sSh s) (sTn s) (k + 1)))), some (.int (nI 1)), some (.int (nI k)), none, none, none, none] [.int (sNu s k), .int (sNu s (k - 1))] (flt [FW G F s D2])
                                        refine V.icmp_ge hC 311 dL_areBirdsRight_291 rfl (fun c_291 => ?_) (fun c_291 => ?_)
                                        · exact (nu_no hok.1 hB (Nat.pos_of_ne_zero c_274) hkn c_291).elim
                                        · refine V.aload_n hC (x := (F.1 0)) dL_areBirdsRight_294 rfl ?_
                                          refine V.aload_n hC (x := (F.1 0)) dL_areBirdsRight_295 rfl ?_
                                          refine V.iload hC (x := nI k) dL_areBirdsRight_296 rfl ?_
                                          refine V.callVBXN (n := 1) (As := [.int (nI k)]) (rest := [.ref (F.1 0)]) hC (f_secretAt (kl K) G hst F s D2 B hok2 (nI k)) (SFt.k G) hgot (gx1 gL_areBirdsRight_X12_secretAt) rfl ⟨rfl, rfl⟩ (by decide +kernel) ⟨by decide, by decide, by show _ ≤ 16000; omega, by show _ ≤ 191000; omega⟩ (L := [FW G F s D2]) (N := 1) rfl [0] [] (by decide) (List.append_nil (FW G F s D2)) (fun _ : Unit => [FW G F s D2]) (fun _ => List.append_nil (FW G F s D2)) (fun _ : Unit => [FW G F s D2]) (fun _ => List.append_nil (FW G F s D2)) rfl rfl rfl rfl (Nat.le_of_ble_eq_true rfl) dL_areBirdsRight_298 (fun E_ u_ hx_ => (XE_no hx_ ((qSecAt_ok hs6 hkn))).elim) (fun r_298 u_298 hp_298 => ?_)
                                          obtain rfl : sNu s k = r_298 := congrArg Prod.snd (((qSecAt_ok hs6 hkn)).symm.trans hp_298)
                                          show V G K 10 (181 + 2505 * k + 1 + 1 + 1 + 1 + 1) (1086 + 27030 * k + 6 + 6 + 6 + 6 + 6) 301 [some (.ref (F.1 0)), some (.int (nI (sNb s))), some (.int (nI (als (ldS s) (sNb s)))), some (.int (nI (rbt (sSh s) (sTn s) (k + 1)))), some (.int (nI 1)), some (.int (nI k)), none, none, none, none] [.int (sNu s k), .ref (F.1 0)] (flt [FW G F s D2])
                                          refine V.callSBN (n := 2) (As := [.ref (F.1 0), .int (sNu s k)]) (rest := []) hC (l_isSecretRight (kl K) G hst F s D2 B hok2 hB k hkn) (SFt.k G) hgot (gx2 gL_areBirdsRight_L_isSecretRight) rfl ⟨rfl, rfl⟩ (by decide +kernel) ⟨by decide, by decide, by show _ ≤ 16000; omega, by show _ ≤ 191000; omega⟩ (L := [FW G F s D2]) (N := 1) rfl [0] [] (by decide) rfl (fun u_301 : DX => [FW G F s u_301]) (fun _ => rfl) rfl rfl (Nat.le_of_ble_eq_true rfl) dL_areBirdsRight_301 (fun r_301 u_301 hp_301 => ?_)
                                          obtain ⟨e_301, hok_301⟩ := hp_301
                                          subst e_301
                                          show V G K 10 (181 + 2505 * k + 1 + 1 + 1 + 1 + 1 + 2500) (1086 + 27030 * k + 6 + 6 + 6 + 6 + 6 + 27000) 304 [some (.ref (F.1 0)), some (.int (nI (sNb s))), some (.int (nI (als (ldS s) (sNb s)))), some (.int (nI (rbt (sSh s) (sTn s) (k + 1)))), some (.int (nI 1)), some (.int (nI k)), none, none, none, none] [.int (nI 1)] (flt [FW G F s u_301])
                                          refine V.ifN_eq hC 1 311 dL_areBirdsRight_304 rfl rfl (by omega) (fun c_304 => ?_) (fun c_304 => ?_)
                                          · exact absurd c_304 (by decide)
                                          · refine V.iconst hC 1 dL_areBirdsRight_307 rfl ?_
                                            refine V.goto hC 312 dL_areBirdsRight_308 rfl ?_
                                            refine V.istore hC dL_areBirdsRight_312 [some (.ref (F.1 0)), some (.int (nI (sNb s))), some (.int (nI (als (ldS s) (sNb s)))), some (.int (nI (rbt (sSh s) (sTn s) (k + 1)))), some (.int 1), some (.int (nI k)), none, none, none, none] (Nat.le_of_ble_eq_true rfl) rfl ?_
                                            refine V.iincN hC k 1 dL_areBirdsRight_314 rfl [some (.ref (F.1 0)), some (.int (nI (sNb s))), some (.int (nI (als (ldS s) (sNb s)))), some (.int (nI (rbt (sSh s) (sTn s) (k + 1)))), some (.int 1), some (.int (nI (k + 1))), none, none, none, none] (Nat.le_of_ble_eq_true rfl) rfl rfl rfl ?_
                                            refine V.goto hC 234 dL_areBirdsRight_317 rfl ?_
                                            refine V.widen (k := 181 + 2505 * (k + 1)) (n := 1086 + 27030 * (k + 1)) (by omega) (by omega) ?_
                                            exact ih234 (k + 1) u_301 (by omega) (by omega) hok_301
                                  · refine V.iconst hC 1 dL_areBirdsRight_257 rfl ?_
                                    refine V.goto hC 262 dL_areBirdsRight_258 rfl ?_
                                    refine V.callSBN (n := 1) (As := [.int 1]) (rest := [.int (nI (rbt (sSh s) (sTn s) k))]) hC (l_told (kl K) G 1 (by decide)) SFk0 SFgo0 (gx2 gL_areBirdsRight_L_told) rfl ⟨rfl, rfl⟩ (by decide +kernel) ⟨by decide, by decide, by show _ ≤ 16000; omega, by show _ ≤ 191000; omega⟩ (L := [FW G F s D2]) (N := 1) rfl [] [0] (by decide) rfl (fun _ : Unit => []) (fun _ => rfl) rfl rfl (Nat.le_of_ble_eq_true rfl) dL_areBirdsRight_262 (fun r_262 u_262 hp_262 => ?_)
                                    subst hp_262
                                    show V G K 10 (181 + 2505 * k + 1 + 1) (1086 + 27030 * k + 6 + 6) 265 [some (.ref (F.1 0)), some (.int (nI (sNb s))), some (.int (nI (als (ldS s) (sNb s)))), some (.int (nI (rbt (sSh s) (sTn s) k))), some (.int (nI 1)), some (.int (nI k)), none, none, none, none] [.int (nI 1), .int (nI (rbt (sSh s) (sTn s) k))] (flt [FW G F s D2])
                                    refine V.iaddN hC (rbt (sSh s) (sTn s) k) 1 dL_areBirdsRight_265 rfl rfl ?_
                                    refine V.topeq (nI (rbt (sSh s) (sTn s) (k + 1))) (congrArg nI (rbt_y htk.2 c_254)) ?_
                                    refine V.istore_n hC dL_areBirdsRight_266 [some (.ref (F.1 0)), some (.int (nI (sNb s))), some (.int (nI (als (ldS s) (sNb s)))), some (.int (nI (rbt (sSh s) (sTn s) (k + 1)))), some (.int (nI 1)), some (.int (nI k)), none, none, none, none] (Nat.le_of_ble_eq_true rfl) rfl ?_
                                    refine V.iload hC (x := nI 1) dL_areBirdsRight_267 rfl ?_
                                    refine V.ifN_eq hC 1 311 dL_areBirdsRight_269 rfl rfl (by omega) (fun c_269 => ?_) (fun c_269 => ?_)
                                    · exact absurd c_269 (by decide)
                                    · refine V.iload hC (x := nI k) dL_areBirdsRight_272 rfl ?_
                                      refine V.ifN_eq hC k 294 dL_areBirdsRight_274 rfl rfl (by omega) (fun c_274 => ?_) (fun c_274 => ?_)
                                      · refine V.aload_n hC (x := (F.1 0)) dL_areBirdsRight_294 rfl ?_
                                        refine V.aload_n hC (x := (F.1 0)) dL_areBirdsRight_295 rfl ?_
                                        refine V.iload hC (x := nI k) dL_areBirdsRight_296 rfl ?_
                                        refine V.callVBXN (n := 1) (As := [.int (nI k)]) (rest := [.ref (F.1 0)]) hC (f_secretAt (kl K) G hst F s D2 B hok2 (nI k)) (SFt.k G) hgot (gx1 gL_areBirdsRight_X12_secretAt) rfl ⟨rfl, rfl⟩ (by decide +kernel) ⟨by decide, by decide, by show _ ≤ 16000; omega, by show _ ≤ 191000; omega⟩ (L := [FW G F s D2]) (N := 1) rfl [0] [] (by decide) (List.append_nil (FW G F s D2)) (fun _ : Unit => [FW G F s D2]) (fun _ => List.append_nil (FW G F s D2)) (fun _ : Unit => [FW G F s D2]) (fun _ => List.append_nil (FW G F s D2)) rfl rfl rfl rfl (Nat.le_of_ble_eq_true rfl) dL_areBirdsRight_298 (fun E_ u_ hx_ => (XE_no hx_ ((qSecAt_ok hs6 hkn))).elim) (fun r_298 u_298 hp_298 => ?_)
                                        obtain rfl : sNu s k = r_298 := congrArg Prod.snd (((qSecAt_ok hs6 hkn)).symm.trans hp_298)
                                        show V G K 10 (181 + 2505 * k + 1 + 1 + 1) (1086 + 27030 * k + 6 + 6 + 6) 301 [some (.ref (F.1 0)), some (.int (nI (sNb s))), some (.int (nI (als (ldS s) (sNb s)))), some (.int (nI (rbt (sSh s) (sTn s) (k + 1)))), some (.int (nI 1)), some (.int (nI k)), none, none, none, none] [.int (sNu s k), .ref (F.1 0)] (flt [FW G F s D2])
                                        refine V.callSBN (n := 2) (As := [.ref (F.1 0), .int (sNu s k)]) (rest := []) hC (l_isSecretRight (kl K) G hst F s D2 B hok2 hB k hkn) (SFt.k G) hgot (gx2 gL_areBirdsRight_L_isSecretRight) rfl ⟨rfl, rfl⟩ (by decide +kernel) ⟨by decide, by decide, by show _ ≤ 16000; omega, by show _ ≤ 191000; omega⟩ (L := [FW G F s D2]) (N := 1) rfl [0] [] (by decide) rfl (fun u_301 : DX => [FW G F s u_301]) (fun _ => rfl) rfl rfl (Nat.le_of_ble_eq_true rfl) dL_areBirdsRight_301 (fun r_301 u_301 hp_301 => ?_)
                                        obtain ⟨e_301, hok_301⟩ := hp_301
                                        subst e_301
                                        show V G K 10 (181 + 2505 * k + 1 + 1 + 1 + 2500) (1086 + 27030 * k + 6 + 6 + 6 + 27000) 304 [some (.ref (F.1 0)), some (.int (nI (sNb s))), some (.int (nI (als (ldS s) (sNb s)))), some (.int (nI (rbt (sSh s) (sTn s) (k + 1)))), some (.int (nI 1)), some (.int (nI k)), none, none, none, none] [.int (nI 1)] (flt [FW G F s u_301])
                                        refine V.ifN_eq hC 1 311 dL_areBirdsRight_304 rfl rfl (by omega) (fun c_304 => ?_) (fun c_304 => ?_)
                                        · exact absurd c_304 (by decide)
                                        · refine V.iconst hC 1 dL_areBirdsRight_307 rfl ?_
                                          refine V.goto hC 312 dL_areBirdsRight_308 rfl ?_
                                          refine V.istore hC dL_areBirdsRight_312 [some (.ref (F.1 0)), some (.int (nI (sNb s))), some (.int (nI (als (ldS s) (sNb s)))), some (.int (nI (rbt (sSh s) (sTn s) (k + 1)))), some (.int 1), some (.int (nI k)), none, none, none, none] (Nat.le_of_ble_eq_true rfl) rfl ?_
                                          refine V.iincN hC k 1 dL_areBirdsRight_314 rfl [some (.ref (F.1 0)), some (.int (nI (sNb s))), some (.int (nI (als (ldS s) (sNb s)))), some (.int (nI (rbt (sSh s) (sTn s) (k + 1)))), some (.int 1), some (.int (nI (k + 1))), none, none, none, none] (Nat.le_of_ble_eq_true rfl) rfl rfl rfl ?_
                                          refine V.goto hC 234 dL_areBirdsRight_317 rfl ?_
                                          refine V.widen (k := 181 + 2505 * (k + 1)) (n := 1086 + 27030 * (k + 1)) (by omega) (by omega) ?_
                                          exact ih234 (k + 1) u_301 (by omega) (by omega) hok_301
                                      · refine V.aload_n hC (x := (F.1 0)) dL_areBirdsRight_277 rfl ?_
                                        refine V.iload hC (x := nI k) dL_areBirdsRight_278 rfl ?_
                                        refine V.iconst hC 1 dL_areBirdsRight_280 rfl ?_
                                        refine V.isubN hC k 1 dL_areBirdsRight_281 rfl rfl (by omega) ?_
                                        refine V.callVBXN (n := 1) (As := [.int (nI (k - 1))]) (rest := []) hC (f_secretAt (kl K) G hst F s D2 B hok2 (nI (k - 1))) (SFt.k G) hgot (gx1 gL_areBirdsRight_X12_secretAt) rfl ⟨rfl, rfl⟩ (by decide +kernel) ⟨by decide, by decide, by show _ ≤ 16000; omega, by show _ ≤ 191000; omega⟩ (L := [FW G F s D2]) (N := 1) rfl [0] [] (by decide) (List.append_nil (FW G F s D2)) (fun _ : Unit => [FW G F s D2]) (fun _ => List.append_nil (FW G F s D2)) (fun _ : Unit => [FW G F s D2]) (fun _ => List.append_nil (FW G F s D2)) rfl rfl rfl rfl (Nat.le_of_ble_eq_true rfl) dL_areBirdsRight_282 (fun E_ u_ hx_ => (XE_no hx_ ((qSecAt_ok hs6 (show k - 1 < sNs s by omega)))).elim) (fun r_282 u_282 hp_282 => ?_)
                                        obtain rfl : sNu s (k - 1) = r_282 := congrArg Prod.snd (((qSecAt_ok hs6 (show k - 1 < sNs s by omega))).symm.trans hp_282)
                                        show V G K 10 (181 + 2505 * k + 1 + 1 + 1) (1086 + 27030 * k + 6 + 6 + 6) 285 [some (.ref (F.1 0)), some (.int (nI (sNb s))), some (.int (nI (als (ldS s) (sNb s)))), some (.int (nI (rbt (sSh s) (sTn s) (k + 1)))), some (.int (nI 1)), some (.int (nI k)), none, none, none, none] [.int (sNu s (k - 1))] (flt [FW G F s D2])
                                        refine V.aload_n hC (x := (F.1 0)) dL_areBirdsRight_285 rfl ?_
                                        refine V.iload hC (x := nI k) dL_areBirdsRight_286 rfl ?_
                                        refine V.callVBXN (n := 1) (As := [.int (nI k)]) (rest := [.int (sNu s (k - 1))]) hC (f_secretAt (kl K) G hst F s D2 B hok2 (nI k)) (SFt.k G) hgot (gx1 gL_areBirdsRight_X12_secretAt) rfl ⟨rfl, rfl⟩ (by decide +kernel) ⟨by decide, by decide, by show _ ≤ 16000; omega, by show _ ≤ 191000; omega⟩ (L := [FW G F s D2]) (N := 1) rfl [0] [] (by decide) (List.append_nil (FW G F s D2)) (fun _ : Unit => [FW G F s D2]) (fun _ => List.append_nil (FW G F s D2)) (fun _ : Unit => [FW G F s D2]) (fun _ => List.append_nil (FW G F s D2)) rfl rfl rfl rfl (Nat.le_of_ble_eq_true rfl) dL_areBirdsRight_288 (fun E_ u_ hx_ => (XE_no hx_ ((qSecAt_ok hs6 hkn))).elim) (fun r_288 u_288 hp_288 => ?_)
                                        obtain rfl : sNu s k = r_288 := congrArg Prod.snd (((qSecAt_ok hs6 hkn)).symm.trans hp_288)
                                        show V G K 10 (181 + 2505 * k + 1 + 1 + 1 + 1) (1086 + 27030 * k + 6 + 6 + 6 + 6) 291 [some (.ref (F.1 0)), some (.int (nI (sNb s))), some (.int (nI (als (ldS s) (sNb s)))), some (.int (nI (rbt (sSh s) (sTn s) (k + 1)))), some (.int (nI 1)), some (.int (nI k)), none, none, none, none] [.int (sNu s k), .int (sNu s (k - 1))] (flt [FW G F s D2])
                                        refine V.icmp_ge hC 311 dL_areBirdsRight_291 rfl (fun c_291 => ?_) (fun c_291 => ?_)
                                        · exact (nu_no hok.1 hB (Nat.pos_of_ne_zero c_274) hkn c_291).elim
                                        · refine V.aload_n hC (x := (F.1 0)) dL_areBirdsRight_294 rfl ?_
                                          refine V.aload_n hC (x := (F.1 0)) dL_areBirdsRight_295 rfl ?_
                                          refine V.iload hC (x := nI k) dL_areBirdsRight_296 rfl ?_
                                          refine V.callVBXN (n := 1) (As := [.int (nI k)]) (rest := [.ref (F.1 0)]) hC (f_secretAt (kl K) G hst F s D2 B hok2 (nI k)) (SFt.k G) hgot (gx1 gL_areBirdsRight_X12_secretAt) rfl ⟨rfl, rfl⟩ (by decide +kernel) ⟨by decide, by decide, by show _ ≤ 16000; omega, by show _ ≤ 191000; omega⟩ (L := [FW G F s D2]) (N := 1) rfl [0] [] (by decide) (List.append_nil (FW G F s D2)) (fun _ : Unit => [FW G F s D2]) (fun _ => List.append_nil (FW G F s D2)) (fun _ : Unit => [FW G F s D2]) (fun _ => List.append_nil (FW G F s D2)) rfl rfl rfl rfl (Nat.le_of_ble_eq_true rfl) dL_areBirdsRight_298 (fun E_ u_ hx_ => (XE_no hx_ ((qSecAt_ok hs6 hkn))).elim) (fun r_298 u_298 hp_298 => ?_)
                                          obtain rfl : sNu s k = r_298 := congrArg Prod.snd (((qSecAt_ok hs6 hkn)).symm.trans hp_298)
                                          show V G K 10 (181 + 2505 * k + 1 + 1 + 1 + 1 + 1) (1086 + 27030 * k + 6 + 6 + 6 + 6 + 6) 301 [some (.ref (F.1 0)), some (.int (nI (sNb s))), some (.int (nI (als (ldS s) (sNb s)))), some (.int (nI (rbt (sSh s) (sTn s) (k + 1)))), some (.int (nI 1)), some (.int (nI k)), none, none, none, none] [.int (sNu s k), .ref (F.1 0)] (flt [FW G F s D2])
                                          refine V.callSBN (n := 2) (As := [.ref (F.1 0), .int (sNu s k)]) (rest := []) hC (l_isSecretRight (kl K) G hst F s D2 B hok2 hB k hkn) (SFt.k G) hgot (gx2 gL_areBirdsRight_L_isSecretRight) rfl ⟨rfl, rfl⟩ (by decide +kernel) ⟨by decide, by decide, by show _ ≤ 16000; omega, by show _ ≤ 191000; omega⟩ (L := [FW G F s D2]) (N := 1) rfl [0] [] (by decide) rfl (fun u_301 : DX => [FW G F s u_301]) (fun _ => rfl) rfl rfl (Nat.le_of_ble_eq_true rfl) dL_areBirdsRight_301 (fun r_301 u_301 hp_301 => ?_)
                                          obtain ⟨e_301, hok_301⟩ := hp_301
                                          subst e_301
                                          show V G K 10 (181 + 2505 * k + 1 + 1 + 1 + 1 + 1 + 2500) (1086 + 27030 * k + 6 + 6 + 6 + 6 + 6 + 27000) 304 [some (.ref (F.1 0)), some (.int (nI (sNb s))), some (.int (nI (als (ldS s) (sNb s)))), some (.int (nI (rbt (sSh s) (sTn s) (k + 1)))), some (.int (nI 1)), some (.int (nI k)), none, none, none, none] [.int (nI 1)] (flt [FW G F s u_301])
                                          refine V.ifN_eq hC 1 311 dL_areBirdsRight_304 rfl rfl (by omega) (fun c_304 => ?_) (fun c_304 => ?_)
                                          · exact absurd c_304 (by decide)
                                          · refine V.iconst hC 1 dL_areBirdsRight_307 rfl ?_
                                            refine V.goto hC 312 dL_areBirdsRight_308 rfl ?_
                                            refine V.istore hC dL_areBirdsRight_312 [some (.ref (F.1 0)), some (.int (nI (sNb s))), some (.int (nI (als (ldS s) (sNb s)))), some (.int (nI (rbt (sSh s) (sTn s) (k + 1)))), some (.int 1), some (.int (nI k)), none, none, none, none] (Nat.le_of_ble_eq_true rfl) rfl ?_
                                            refine V.iincN hC k 1 dL_areBirdsRight_314 rfl [some (.ref (F.1 0)), some (.int (nI (sNb s))), some (.int (nI (als (ldS s) (sNb s)))), some (.int (nI (rbt (sSh s) (sTn s) (k + 1)))), some (.int 1), some (.int (nI (k + 1))), none, none, none, none] (Nat.le_of_ble_eq_true rfl) rfl rfl rfl ?_
                                            refine V.goto hC 234 dL_areBirdsRight_317 rfl ?_
                                            refine V.widen (k := 181 + 2505 * (k + 1)) (n := 1086 + 27030 * (k + 1)) (by omega) (by omega) ?_
                                            exact ih234 (k + 1) u_301 (by omega) (by omega) hok_301
                            refine V.widen (k := 181 + 2505 * 0) (n := 1086 + 27030 * 0) (by omega) (by omega) ?_
                            exact loop234 _ 0 u_123 (Nat.lt_succ_self _) (Nat.zero_le _) hok_123
                          · have hbn : b < sNb s := c_153
                            refine V.iconst hC 0 dL_areBirdsRight_156 rfl ?_
                            refine V.istore hC dL_areBirdsRight_157 [some (.ref (F.1 0)), some (.int (nI (sNb s))), some (.int (nI (als (ldS s) b))), some (.int (nI 0)), some (.int (nI 1)), some (.int (nI b)), some (.int 0), none, none, none] (Nat.le_of_ble_eq_true rfl) rfl ?_
                            refine V.iconst hC 0 dL_areBirdsRight_159 rfl ?_
                            refine V.istore hC dL_areBirdsRight_160 [some (.ref (F.1 0)), some (.int (nI (sNb s))), some (.int (nI (als (ldS s) b))), some (.int (nI 0)), some (.int (nI 1)), some (.int (nI b)), some (.int 0), some (.int 0), none, none] (Nat.le_of_ble_eq_true rfl) rfl ?_
                            have loop162 : ∀ (n : Nat) (κ : Nat), 6 - κ < n → (κ ≤ sNs s) → V G K 10 (29 + 19 * b + 3 * κ) (174 + 114 * b + 18 * κ) 162 [some (.ref (F.1 0)), some (.int (nI (sNb s))), some (.int (nI (als (ldS s) b))), some (.int (nI 0)), some (.int (nI 1)), some (.int (nI b)), some (.int (nI (ldn (sSh s) b κ))), some (.int (nI κ)), none, none] [] (flt [FW G F s u_123]) := by
                              intro n
                              induction n with
                              | zero => intro κ hlt; exact absurd hlt (Nat.not_lt_zero _)
                              | succ n ih162 =>
                                intro κ hlt162 hκ
                                refine V.iload hC (x := nI κ) dL_areBirdsRight_162 rfl ?_
                                refine V.aload_n hC (x := (F.1 0)) dL_areBirdsRight_164 rfl ?_
                                refine V.callVBN (n := 0) (As := []) (rest := [.int (nI κ)]) hC (f_secretCount (kl K) G hst F s u_123 B hok_123) (SFt.k G) hgot (gx1 gL_areBirdsRight_X12_secretCount) rfl ⟨rfl, rfl⟩ (by decide +kernel) ⟨by decide, by decide, by show _ ≤ 16000; omega, by show _ ≤ 191000; omega⟩ (L := [FW G F s u_123]) (N := 1) rfl [0] [] (by decide) (List.append_nil (FW G F s u_123)) (fun _ : Unit => [FW G F s u_123]) (fun _ => List.append_nil (FW G F s u_123)) rfl rfl rfl rfl (Nat.le_of_ble_eq_true rfl) dL_areBirdsRight_165 (fun r_165 u_165 hp_165 => ?_)
                                subst hp_165
                                show V G K 10 (29 + 19 * b + 3 * κ) (174 + 114 * b + 18 * κ) 168 [some (.ref (F.1 0)), some (.int (nI (sNb s))), some (.int (nI (als (ldS s) b))), some (.int (nI 0)), some (.int (nI 1)), some (.int (nI b)), some (.int (nI (ldn (sSh s) b κ))), some (.int (nI κ)), none, none] [.int (nI (sNs s)), .int (nI κ)] (flt [FW G F s u_123])
                                refine V.icmpN_ge hC κ (sNs s) 197 dL_areBirdsRight_168 rfl rfl rfl (by omega) (by omega) (fun c_168 => ?_) (fun c_168 => ?_)
                                · obtain rfl : κ = sNs s := by omega
                                  refine V.iload_n hC (x := nI (als (ldS s) b)) dL_areBirdsRight_197 rfl ?_
                                  refine V.iload hC (x := nI (ldn (sSh s) b (sNs s))) dL_areBirdsRight_198 rfl ?_
                                  refine V.iaddN hC (als (ldS s) b) (ldn (sSh s) b (sNs s)) dL_areBirdsRight_200 rfl rfl ?_
                                  refine V.istore_n hC dL_areBirdsRight_201 [some (.ref (F.1 0)), some (.int (nI (sNb s))), some (.int (nI ((als (ldS s) b) + (ldn (sSh s) b (sNs s))))), some (.int (nI 0)), some (.int (nI 1)), some (.int (nI b)), some (.int (nI (ldn (sSh s) b (sNs s)))), some (.int (nI (sNs s))), none, none] (Nat.le_of_ble_eq_true rfl) rfl ?_
                                  refine V.iload hC (x := nI 1) dL_areBirdsRight_202 rfl ?_
                                  refine V.ifN_eq hC 1 222 dL_areBirdsRight_204 rfl rfl (by omega) (fun c_204 => ?_) (fun c_204 => ?_)
                                  · exact absurd c_204 (by decide)
                                  · refine V.aload_n hC (x := (F.1 0)) dL_areBirdsRight_207 rfl ?_
                                    refine V.iload hC (x := nI b) dL_areBirdsRight_208 rfl ?_
                                    refine V.callVBXN (n := 1) (As := [.int (nI b)]) (rest := []) hC (f_sharesOf (kl K) G hst F s u_123 B hok_123 (nI b)) (SFt.k G) hgot (gx1 gL_areBirdsRight_X12_sharesOf) rfl ⟨rfl, rfl⟩ (by decide +kernel) ⟨by decide, by decide, by show _ ≤ 16000; omega, by show _ ≤ 191000; omega⟩ (L := [FW G F s u_123]) (N := 1) rfl [0] [] (by decide) (List.append_nil (FW G F s u_123)) (fun _ : Unit => [FW G F s u_123]) (fun _ => List.append_nil (FW G F s u_123)) (fun _ : Unit => [FW G F s u_123]) (fun _ => List.append_nil (FW G F s u_123)) rfl rfl rfl rfl (Nat.le_of_ble_eq_true rfl) dL_areBirdsRight_210 (fun E_ u_ hx_ => (XE_no hx_ ((qShares_ok h8 hbn))).elim) (fun r_210 u_210 hp_210 => ?_)
                                    obtain rfl : nI (ldn (sSh s) b (sNs s)) = r_210 := congrArg Prod.snd (((qShares_ok h8 hbn)).symm.trans hp_210)
                                    show V G K 10 (29 + 19 * b + 3 * (sNs s) + 1) (174 + 114 * b + 18 * (sNs s) + 6) 213 [some (.ref (F.1 0)), some (.int (nI (sNb s))), some (.int (nI ((als (ldS s) b) + (ldn (sSh s) b (sNs s))))), some (.int (nI 0)), some (.int (nI 1)), some (.int (nI b)), some (.int (nI (ldn (sSh s) b (sNs s)))), some (.int (nI (sNs s))), none, none] [.int (nI (ldn (sSh s) b (sNs s)))] (flt [FW G F s u_123])
                                    refine V.iload hC (x := nI (ldn (sSh s) b (sNs s))) dL_areBirdsRight_213 rfl ?_
                                    refine V.icmpN_ne hC (ldn (sSh s) b (sNs s)) (ldn (sSh s) b (sNs s)) 222 dL_areBirdsRight_215 rfl rfl rfl (by have := ldn_le (sSh s) b (sNs s); omega) (by have := ldn_le (sSh s) b (sNs s); omega) (fun c_215 => ?_) (fun c_215 => ?_)
                                    · exact absurd rfl c_215
                                    · refine V.iconst hC 1 dL_areBirdsRight_218 rfl ?_
                                      refine V.goto hC 223 dL_areBirdsRight_219 rfl ?_
                                      refine V.istore hC dL_areBirdsRight_223 [some (.ref (F.1 0)), some (.int (nI (sNb s))), some (.int (nI ((als (ldS s) b) + (ldn (sSh s) b (sNs s))))), some (.int (nI 0)), some (.int 1), some (.int (nI b)), some (.int (nI (ldn (sSh s) b (sNs s)))), some (.int (nI (sNs s))), none, none] (Nat.le_of_ble_eq_true rfl) rfl ?_
                                      refine V.iincN hC b 1 dL_areBirdsRight_225 rfl [some (.ref (F.1 0)), some (.int (nI (sNb s))), some (.int (nI ((als (ldS s) b) + (ldn (sSh s) b (sNs s))))), some (.int (nI 0)), some (.int 1), some (.int (nI (b + 1))), some (.int (nI (ldn (sSh s) b (sNs s)))), some (.int (nI (sNs s))), none, none] (Nat.le_of_ble_eq_true rfl) rfl rfl rfl ?_
                                      refine V.goto hC 150 dL_areBirdsRight_228 rfl ?_
                                      refine V.drop 6 (lv' := [some (.ref (F.1 0)), some (.int (nI (sNb s))), some (.int (nI ((als (ldS s) b) + (ldn (sSh s) b (sNs s))))), some (.int (nI 0)), some (.int 1), some (.int (nI (b + 1))), none, some (.int (nI (sNs s))), none, none]) rfl ?_
                                      refine V.drop 7 (lv' := [some (.ref (F.1 0)), some (.int (nI (sNb s))), some (.int (nI ((als (ldS s) b) + (ldn (sSh s) b (sNs s))))), some (.int (nI 0)), some (.int 1), some (.int (nI (b + 1))), none, none, none, none]) rfl ?_
                                      refine V.widen (k := 29 + 19 * (b + 1)) (n := 174 + 114 * (b + 1)) (by omega) (by omega) ?_
                                      exact ih150 (b + 1) (by omega) (by omega)
                                · have hkk : κ < sNs s := c_168
                                  refine V.iload hC (x := nI (ldn (sSh s) b κ)) dL_areBirdsRight_171 rfl ?_
                                  refine V.aload_n hC (x := (F.1 0)) dL_areBirdsRight_173 rfl ?_
                                  refine V.iload hC (x := nI b) dL_areBirdsRight_174 rfl ?_
                                  refine V.aload_n hC (x := (F.1 0)) dL_areBirdsRight_176 rfl ?_
                                  refine V.iload hC (x := nI κ) dL_areBirdsRight_177 rfl ?_
                                  refine V.callVBXN (n := 1) (As := [.int (nI κ)]) (rest := [.int (nI b), .ref (F.1 0), .int (nI (ldn (sSh s) b κ))]) hC (f_secretAt (kl K) G hst F s u_123 B hok_123 (nI κ)) (SFt.k G) hgot (gx1 gL_areBirdsRight_X12_secretAt) rfl ⟨rfl, rfl⟩ (by decide +kernel) ⟨by decide, by decide, by show _ ≤ 16000; omega, by show _ ≤ 191000; omega⟩ (L := [FW G F s u_123]) (N := 1) rfl [0] [] (by decide) (List.append_nil (FW G F s u_123)) (fun _ : Unit => [FW G F s u_123]) (fun _ => List.append_nil (FW G F s u_123)) (fun _ : Unit => [FW G F s u_123]) (fun _ => List.append_nil (FW G F s u_123)) rfl rfl rfl rfl (Nat.le_of_ble_eq_true rfl) dL_areBirdsRight_179 (fun E_ u_ hx_ => (XE_no hx_ ((qSecAt_ok hs6 hkk))).elim) (fun r_179 u_179 hp_179 => ?_)
                                  obtain rfl : sNu s κ = r_179 := congrArg Prod.snd (((qSecAt_ok hs6 hkk)).symm.trans hp_179)
                                  show V G K 10 (29 + 19 * b + 3 * κ + 1) (174 + 114 * b + 18 * κ + 6) 182 [some (.ref (F.1 0)), some (.int (nI (sNb s))), some (.int (nI (als (ldS s) b))), some (.int (nI 0)), some (.int (nI 1)), some (.int (nI b)), some (.int (nI (ldn (sSh s) b κ))), some (.int (nI κ)), none, none] [.int (sNu s κ), .int (nI b), .ref (F.1 0), .int (nI (ldn (sSh s) b κ))] (flt [FW G F s u_123])
                                  refine V.callVBXN (n := 2) (As := [.int (nI b), .int (sNu s κ)]) (rest := [.int (nI (ldn (sSh s) b κ))]) hC (f_holds (kl K) G hst F s u_123 B hok_123 (nI b) (sNu s κ)) (SFt.k G) hgot (gx1 gL_areBirdsRight_X12_holds) rfl ⟨rfl, rfl⟩ (by decide +kernel) ⟨by decide, by decide, by show _ ≤ 16000; omega, by show _ ≤ 191000; omega⟩ (L := [FW G F s u_123]) (N := 1) rfl [0] [] (by decide) (List.append_nil (FW G F s u_123)) (fun _ : Unit => [FW G F s u_123]) (fun _ => List.append_nil (FW G F s u_123)) (fun _ : Unit => [FW G F s u_123]) (fun _ => List.append_nil (FW G F s u_123)) rfl rfl rfl rfl (Nat.le_of_ble_eq_true rfl) dL_areBirdsRight_182 (fun E_ u_ hx_ => (XE_no hx_ (qHolds_ok hok.1 hB hkk hbn)).elim) (fun r_182 u_182 hp_182 => ?_)
                                  have e_182 := congrArg Prod.snd ((qHolds_ok hok.1 hB hkk hbn).symm.trans hp_182)
                                  show V G K 10 (29 + 19 * b + 3 * κ + 1 + 2) (174 + 114 * b + 18 * κ + 6 + 12) 185 [some (.ref (F.1 0)), some (.int (nI (sNb s))), some (.int (nI (als (ldS s) b))), some (.int (nI 0)), some (.int (nI 1)), some (.int (nI b)), some (.int (nI (ldn (sSh s) b κ))), some (.int (nI κ)), none, none] [.int r_182, .int (nI (ldn (sSh s) b κ))] (flt [FW G F s u_123])
                                  by_cases hq_ : sSh s κ b = -1
                                  · obtain rfl : (0 : Int32) = r_182 := (show (0 : Int32) = _ from (if_pos hq_).symm).trans e_182
                                    show V G K 10 (29 + 19 * b + 3 * κ + 1 + 2) (174 + 114 * b + 18 * κ + 6 + 12) 185 [some (.ref (F.1 0)), some (.int (nI (sNb s))), some (.int (nI (als (ldS s) b))), some (.int (nI 0)), some (.int (nI 1)), some (.int (nI b)), some (.int (nI (ldn (sSh s) b κ))), some (.int (nI κ)), none, none] [.int (nI 0), .int (nI (ldn (sSh s) b κ))] (flt [FW G F s u_123])
                                    refine V.callSBN (n := 1) (As := [.int (nI 0)]) (rest := [.int (nI (ldn (sSh s) b κ))]) hC (l_told (kl K) G 0 (by decide)) SFk0 SFgo0 (gx2 gL_areBirdsRight_L_told) rfl ⟨rfl, rfl⟩ (by decide +kernel) ⟨by decide, by decide, by show _ ≤ 16000; omega, by show _ ≤ 191000; omega⟩ (L := [FW G F s u_123]) (N := 1) rfl [] [0] (by decide) rfl (fun _ : Unit => []) (fun _ => rfl) rfl rfl (Nat.le_of_ble_eq_true rfl) dL_areBirdsRight_185 (fun r_185 u_185 hp_185 => ?_)
                                    subst hp_185
                                    show V G K 10 (29 + 19 * b + 3 * κ + 1 + 2) (174 + 114 * b + 18 * κ + 6 + 12) 188 [some (.ref (F.1 0)), some (.int (nI (sNb s))), some (.int (nI (als (ldS s) b))), some (.int (nI 0)), some (.int (nI 1)), some (.int (nI b)), some (.int (nI (ldn (sSh s) b κ))), some (.int (nI κ)), none, none] [.int (nI 0), .int (nI (ldn (sSh s) b κ))] (flt [FW G F s u_123])
                                    refine V.iaddN hC (ldn (sSh s) b κ) 0 dL_areBirdsRight_188 rfl rfl ?_
                                    refine V.topeq (nI (ldn (sSh s) b (κ + 1))) (congrArg nI (ldq_n hq_)) ?_
                                    refine V.istore hC dL_areBirdsRight_189 [some (.ref (F.1 0)), some (.int (nI (sNb s))), some (.int (nI (als (ldS s) b))), some (.int (nI 0)), some (.int (nI 1)), some (.int (nI b)), some (.int (nI (ldn (sSh s) b (κ + 1)))), some (.int (nI κ)), none, none] (Nat.le_of_ble_eq_true rfl) rfl ?_
                                    refine V.iincN hC κ 1 dL_areBirdsRight_191 rfl [some (.ref (F.1 0)), some (.int (nI (sNb s))), some (.int (nI (als (ldS s) b))), some (.int (nI 0)), some (.int (nI 1)), some (.int (nI b)), some (.int (nI (ldn (sSh s) b (κ + 1)))), some (.int (nI (κ + 1))), none, none] (Nat.le_of_ble_eq_true rfl) rfl rfl rfl ?_
                                    refine V.goto hC 162 dL_areBirdsRight_194 rfl ?_
                                    refine V.widen (k := 29 + 19 * b + 3 * (κ + 1)) (n := 174 + 114 * b + 18 * (κ + 1)) (by omega) (by omega) ?_
                                    exact ih162 (κ + 1) (by omega) (by omega)
                                  · obtain rfl : (1 : Int32) = r_182 := (show (1 : Int32) = _ from (if_neg hq_).symm).trans e_182
                                    show V G K 10 (29 + 19 * b + 3 * κ + 1 + 2) (174 + 114 * b + 18 * κ + 6 + 12) 185 [some (.ref (F.1 0)), some (.int (nI (sNb s))), some (.int (nI (als (ldS s) b))), some (.int (nI 0)), some (.int (nI 1)), some (.int (nI b)), some (.int (nI (ldn (sSh s) b κ))), some (.int (nI κ)), none, none] [.int (nI 1), .int (nI (ldn (sSh s) b κ))] (flt [FW G F s u_123])
                                    refine V.callSBN (n := 1) (As := [.int (nI 1)]) (rest := [.int (nI (ldn (sSh s) b κ))]) hC (l_told (kl K) G 1 (by decide)) SFk0 SFgo0 (gx2 gL_areBirdsRight_L_told) rfl ⟨rfl, rfl⟩ (by decide +kernel) ⟨by decide, by decide, by show _ ≤ 16000; omega, by show _ ≤ 191000; omega⟩ (L := [FW G F s u_123]) (N := 1) rfl [] [0] (by decide) rfl (fun _ : Unit => []) (fun _ => rfl) rfl rfl (Nat.le_of_ble_eq_true rfl) dL_areBirdsRight_185 (fun r_185 u_185 hp_185 => ?_)
                                    subst hp_185
                                    show V G K 10 (29 + 19 * b + 3 * κ + 1 + 2) (174 + 114 * b + 18 * κ + 6 + 12) 188 [some (.ref (F.1 0)), some (.int (nI (sNb s))), some (.int (nI (als (ldS s) b))), some (.int (nI 0)), some (.int (nI 1)), some (.int (nI b)), some (.int (nI (ldn (sSh s) b κ))), some (.int (nI κ)), none, none] [.int (nI 1), .int (nI (ldn (sSh s) b κ))] (flt [FW G F s u_123])
                                    refine V.iaddN hC (ldn (sSh s) b κ) 1 dL_areBirdsRight_188 rfl rfl ?_
                                    refine V.topeq (nI (ldn (sSh s) b (κ + 1))) (congrArg nI (ldq_y hq_)) ?_
                                    refine V.istore hC dL_areBirdsRight_189 [some (.ref (F.1 0)), some (.int (nI (sNb s))), some (.int (nI (als (ldS s) b))), some (.int (nI 0)), some (.int (nI 1)), some (.int (nI b)), some (.int (nI (ldn (sSh s) b (κ + 1)))), some (.int (nI κ)), none, none] (Nat.le_of_ble_eq_true rfl) rfl ?_
                                    refine V.iincN hC κ 1 dL_areBirdsRight_191 rfl [some (.ref (F.1 0)), some (.int (nI (sNb s))), some (.int (nI (als (ldS s) b))), some (.int (nI 0)), some (.int (nI 1)), some (.int (nI b)), some (.int (nI (ldn (sSh s) b (κ + 1)))), some (.int (nI (κ + 1))), none, none] (Nat.le_of_ble_eq_true rfl) rfl rfl rfl ?_
                                    refine V.goto hC 162 dL_areBirdsRight_194 rfl ?_
                                    refine V.widen (k := 29 + 19 * b + 3 * (κ + 1)) (n := 174 + 114 * b + 18 * (κ + 1)) (by omega) (by omega) ?_
                                    exact ih162 (κ + 1) (by omega) (by omega)
                            refine V.widen (k := 29 + 19 * b + 3 * 0) (n := 174 + 114 * b + 18 * 0) (by omega) (by omega) ?_
                            exact loop162 _ 0 (Nat.lt_succ_self _) (Nat.zero_le _)
                      refine V.widen (k := 29 + 19 * 0) (n := 174 + 114 * 0) (by omega) (by omega) ?_
                      exact loop150 _ 0 (Nat.lt_succ_self _) (Nat.zero_le _)
