/-! the law's own methods: laying, looking (printed by gen/s68p.py) -/
set_option maxHeartbeats 16000000 in
set_option maxRecDepth 100000 in
theorem l_secret (l : Launch) (G : Gx) (hst : l.stackTraces = false) (F : FX) (s : ASt) (D : DX) (B : Nat) (hok : FOk B s D) (n : Nat) (hn : n < 2 ^ 30) : Ct l G (SFt G) yL_secret (wsL_secret ++ hx9) ({ frames := 7, cells := 1, slots := 6, locals := 104 }) [.ref (F.1 0), .int (nI n)] (flt [FW G F s D]) mkI (fun (_ : Int32) (_ : Unit) => True) (fun _ : Unit => (flt [FW G F s D])) 1 6 := by
  refine Ct.ofI (cc := cL_secret) (maxL := 2) (by decide) rfl ⟨by simp [Value.category], Nat.le_of_ble_eq_true rfl⟩ ?_
  intro K hl hC hSF hnm hE
  subst hl
  have hgot := SFgoS (SFt.k G) hSF
  have hgo := SFgo.x hgot
  have hSFt := hSF
  replace hSF := hSF.1
  show V G K 2 0 0 0 [some (.ref (F.1 0)), some (.int (nI n))] [] (flt [FW G F s D])
  have hs6 : sNs s ≤ 6 := hok.1.2.1
  refine V.aload_n hC (x := (F.1 0)) dL_secret_0 rfl ?_
  refine V.callVBN (n := 0) (As := []) (rest := []) hC (f_secretCount (kl K) G hst F s D B hok) (SFt.k G) hgot (gx1 gL_secret_X12_secretCount) rfl ⟨rfl, rfl⟩ (by decide +kernel) ⟨by decide, by decide, by decide, by decide⟩ (L := [FW G F s D]) (N := 1) rfl [0] [] (by decide) (List.append_nil (FW G F s D)) (fun _ : Unit => [FW G F s D]) (fun _ => List.append_nil (FW G F s D)) rfl rfl rfl rfl (Nat.le_of_ble_eq_true rfl) dL_secret_1 (fun r_1 u_1 hp_1 => ?_)
  subst hp_1
  show V G K 2 0 0 4 [some (.ref (F.1 0)), some (.int (nI n))] [.int (nI (sNs s))] (flt [FW G F s D])
  refine V.ifN_ne hC (sNs s) 11 dL_secret_4 rfl rfl (by omega) (fun c_4 => ?_) (fun c_4 => ?_)
  · refine V.aload_n hC (x := (F.1 0)) dL_secret_11 rfl ?_
    refine V.iload_n hC (x := nI n) dL_secret_12 rfl ?_
    refine V.aload_n hC (x := (F.1 0)) dL_secret_13 rfl ?_
    refine V.callVBN (n := 0) (As := []) (rest := [.int (nI n), .ref (F.1 0)]) hC (f_secretCount (kl K) G hst F s D B hok) (SFt.k G) hgot (gx1 gL_secret_X12_secretCount) rfl ⟨rfl, rfl⟩ (by decide +kernel) ⟨by decide, by decide, by decide, by decide⟩ (L := [FW G F s D]) (N := 1) rfl [0] [] (by decide) (List.append_nil (FW G F s D)) (fun _ : Unit => [FW G F s D]) (fun _ => List.append_nil (FW G F s D)) rfl rfl rfl rfl (Nat.le_of_ble_eq_true rfl) dL_secret_14 (fun r_14 u_14 hp_14 => ?_)
    subst hp_14
    show V G K 2 0 0 17 [some (.ref (F.1 0)), some (.int (nI n))] [.int (nI (sNs s)), .int (nI n), .ref (F.1 0)] (flt [FW G F s D])
    refine V.iremN hC n (sNs s) dL_secret_17 rfl rfl (by omega) (Nat.pos_of_ne_zero c_4) (by omega) ?_
    refine V.callVBXN (n := 1) (As := [.int (nI (n % (sNs s)))]) (rest := []) hC (f_secretAt (kl K) G hst F s D B hok (nI (n % (sNs s)))) (SFt.k G) hgot (gx1 gL_secret_X12_secretAt) rfl ⟨rfl, rfl⟩ (by decide +kernel) ⟨by decide, by decide, by decide, by decide⟩ (L := [FW G F s D]) (N := 1) rfl [0] [] (by decide) (List.append_nil (FW G F s D)) (fun _ : Unit => [FW G F s D]) (fun _ => List.append_nil (FW G F s D)) (fun _ : Unit => [FW G F s D]) (fun _ => List.append_nil (FW G F s D)) rfl rfl rfl rfl (Nat.le_of_ble_eq_true rfl) dL_secret_18 (fun E_ u_ hx_ => (XE_no hx_ (qSecAt_ok hs6 (Nat.mod_lt n (Nat.pos_of_ne_zero c_4)))).elim) (fun r_18 u_18 hp_18 => ?_)
    show V G K 2 1 6 21 [some (.ref (F.1 0)), some (.int (nI n))] [.int r_18] (flt [FW G F s D])
    exact hE 21 _ r_18 () dL_secret_21 rfl trivial
  · refine V.iconst hC 0 dL_secret_7 rfl ?_
    refine V.goto hC 21 dL_secret_8 rfl ?_
    refine V.widen (k := 1) (n := 6) (Nat.le_of_ble_eq_true rfl) (Nat.le_of_ble_eq_true rfl) ?_
    exact hE 21 _ 0 () dL_secret_21 rfl trivial

set_option maxHeartbeats 16000000 in
set_option maxRecDepth 100000 in
theorem l_lay (l : Launch) (G : Gx) (hst : l.stackTraces = false) (F : FX) (s : ASt) (D : DX) (B : Nat) (hok : FOk B s D) (sc len : Nat) (xs : Nat → Int32) (hlen : len < 2 ^ 31) : Ct l G (SFs G sc len xs) yL_lay (wsL_lay ++ hx9) ({ frames := 11, cells := 32, slots := 192, locals := 215 }) [.ref (F.1 0), .ref sc] (flt [FW G F s D]) mkV (fun (_ : Unit) (u : ASt × DX) => FOk (B + 24) u.1 u.2) (fun u : ASt × DX => flt [FW G F u.1 u.2]) 32 192 := by
  refine Ct.ofV (cc := cL_lay) (maxL := 5) (by decide) rfl ⟨by simp [Value.category], Nat.le_of_ble_eq_true rfl⟩ ?_
  intro K hl hC hSF hnm hE
  subst hl
  have hgos := SFgoS (SFs.k G sc len xs) hSF
  have hgot := SFgo.s hgos
  have hgo := SFgo.x hgot
  have hSFs := hSF
  replace hSF := hSF.1
  have hSFt := hSF
  replace hSF := hSF.1
  have q0_ : Cond.methodLink RL 129 Lib.Math.max.name ∈ (wsL_lay ++ hx9) := by decide +kernel
  have q1_ : Cond.static Lib.Math.max.name ∈ (wsL_lay ++ hx9) := by decide +kernel
  have q2_ : Cond.initialized "java/lang/Math" ∈ (wsL_lay ++ hx9) := by decide +kernel
  have q3_ : Cond.code Lib.Math.max.name Lib.Math.max.code 2 (some .int) ∈ (wsL_lay ++ hx9) := by decide +kernel
  show V G K 5 0 0 0 [some (.ref (F.1 0)), some (.ref sc), none, none, none] [] (flt [FW G F s D])
  refine V.iconst hC 0 dL_lay_0 rfl ?_
  refine V.istore_n hC dL_lay_1 [some (.ref (F.1 0)), some (.ref sc), some (.int 0), none, none] (Nat.le_of_ble_eq_true rfl) rfl ?_
  refine V.iconst hC 0 dL_lay_2 rfl ?_
  refine V.istore_n hC dL_lay_3 [some (.ref (F.1 0)), some (.ref sc), some (.int 0), some (.int 0), none] (Nat.le_of_ble_eq_true rfl) rfl ?_
  have loop4 : ∀ (n : Nat) (k : Nat) (a : Int32) (s1 : ASt) (D1 : DX), 9 - k < n → (k ≤ 9) → (FOk (B + k) s1 D1) → V G K 5 (k) (6 * k) 4 [some (.ref (F.1 0)), some (.ref sc), some (.int a), some (.int (nI k)), none] [] (flt [FW G F s1 D1]) := by
    intro n
    induction n with
    | zero => intro k a s1 D1 hlt; exact absurd hlt (Nat.not_lt_zero _)
    | succ n ih4 =>
      intro k a s1 D1 hlt4 hk hok1
      refine V.iload_n hC (x := nI k) dL_lay_4 rfl ?_
      refine V.aload_n hC (x := sc) dL_lay_5 rfl ?_
      refine V.iconst hC 0 dL_lay_6 rfl ?_
      refine V.bipush hC 10 dL_lay_7 rfl ?_
      refine V.callSBN (n := 3) (As := [.ref sc, .int 0, .int 10]) (rest := [.int (nI k)]) hC (l_pick (kl K) G sc len xs hlen 0 (by decide) 10 (by decide) (by decide)) (SFs.k G sc len xs) hgos (gx2 gL_lay_L_pick) rfl ⟨rfl, rfl⟩ (by decide +kernel) ⟨by decide, by decide, by show _ ≤ 32; omega, by show _ ≤ 192; omega⟩ (L := [FW G F s1 D1]) (N := 1) rfl [] [0] (by decide) rfl (fun _ : Unit => []) (fun _ => rfl) rfl rfl (Nat.le_of_ble_eq_true rfl) dL_lay_9 (fun r_9 u_9 hp_9 => ?_)
      obtain ⟨p_9, hp_9, e_p_9⟩ := hp_9
      subst e_p_9
      show V G K 5 (k) (6 * k) 12 [some (.ref (F.1 0)), some (.ref sc), some (.int a), some (.int (nI k)), none] [.int (nI p_9), .int (nI k)] (flt [FW G F s1 D1])
      refine V.icmpN_ge hC k p_9 40 dL_lay_12 rfl rfl rfl (by omega) (by omega) (fun c_12 => ?_) (fun c_12 => ?_)
      · refine V.iconst hC 0 dL_lay_40 rfl ?_
        refine V.istore_n hC dL_lay_41 [some (.ref (F.1 0)), some (.ref sc), some (.int a), some (.int 0), none] (Nat.le_of_ble_eq_true rfl) rfl ?_
        have loop42 : ∀ (n : Nat) (k2 : Nat) (a : Int32) (s2 : ASt) (D2 : DX), 7 - k2 < n → (k2 ≤ 7) → (FOk (B + 9 + k2) s2 D2) → V G K 5 (9 + k2) (54 + 6 * k2) 42 [some (.ref (F.1 0)), some (.ref sc), some (.int a), some (.int (nI k2)), none] [] (flt [FW G F s2 D2]) := by
          intro n
          induction n with
          | zero => intro k2 a s2 D2 hlt; exact absurd hlt (Nat.not_lt_zero _)
          | succ n ih42 =>
            intro k2 a s2 D2 hlt42 hk2 hok2
            refine V.iload_n hC (x := nI k2) dL_lay_42 rfl ?_
            refine V.aload_n hC (x := sc) dL_lay_43 rfl ?_
            refine V.iconst hC 1 dL_lay_44 rfl ?_
            refine V.bipush hC 8 dL_lay_45 rfl ?_
            refine V.callSBN (n := 3) (As := [.ref sc, .int 1, .int 8]) (rest := [.int (nI k2)]) hC (l_pick (kl K) G sc len xs hlen 1 (by decide) 8 (by decide) (by decide)) (SFs.k G sc len xs) hgos (gx2 gL_lay_L_pick) rfl ⟨rfl, rfl⟩ (by decide +kernel) ⟨by decide, by decide, by show _ ≤ 32; omega, by show _ ≤ 192; omega⟩ (L := [FW G F s2 D2]) (N := 1) rfl [] [0] (by decide) rfl (fun _ : Unit => []) (fun _ => rfl) rfl rfl (Nat.le_of_ble_eq_true rfl) dL_lay_47 (fun r_47 u_47 hp_47 => ?_)
            obtain ⟨p_47, hp_47, e_p_47⟩ := hp_47
            subst e_p_47
            show V G K 5 (9 + k2) (54 + 6 * k2) 50 [some (.ref (F.1 0)), some (.ref sc), some (.int a), some (.int (nI k2)), none] [.int (nI p_47), .int (nI k2)] (flt [FW G F s2 D2])
            refine V.icmpN_ge hC k2 p_47 98 dL_lay_50 rfl rfl rfl (by omega) (by omega) (fun c_50 => ?_) (fun c_50 => ?_)
            · refine V.iconst hC 1 dL_lay_98 rfl ?_
              refine V.aload_n hC (x := (F.1 0)) dL_lay_99 rfl ?_
              refine V.callVBN (n := 0) (As := []) (rest := [.int 1]) hC (f_birdCount (kl K) G hst F s2 D2 (B + 9 + k2) hok2) (SFt.k G) hgot (gx1 gL_lay_X12_birdCount) rfl ⟨rfl, rfl⟩ (by decide +kernel) ⟨by decide, by decide, by show _ ≤ 32; omega, by show _ ≤ 192; omega⟩ (L := [FW G F s2 D2]) (N := 1) rfl [0] [] (by decide) (List.append_nil (FW G F s2 D2)) (fun _ : Unit => [FW G F s2 D2]) (fun _ => List.append_nil (FW G F s2 D2)) rfl rfl rfl rfl (Nat.le_of_ble_eq_true rfl) dL_lay_100 (fun r_100 u_100 hp_100 => ?_)
              subst hp_100
              show V G K 5 (9 + k2) (54 + 6 * k2) 103 [some (.ref (F.1 0)), some (.ref sc), some (.int a), some (.int (nI k2)), none] [.int (nI (sNb s2)), .int 1] (flt [FW G F s2 D2])
              refine V.mmax hC q0_ q1_ q2_ q3_ ⟨Nat.le_of_ble_eq_true rfl, Nat.le_of_ble_eq_true rfl, (by first | exact Nat.le_of_ble_eq_true rfl | (show _ ≤ _; simp only []; omega)), (by first | exact Nat.le_of_ble_eq_true rfl | (show _ ≤ _; simp only []; omega))⟩ dL_lay_103 ?_
              refine V.topeq (nI (max 1 (sNb s2))) (max1 hok2.1.1) ?_
              refine V.istore_n hC dL_lay_106 [some (.ref (F.1 0)), some (.ref sc), some (.int a), some (.int (nI (max 1 (sNb s2)))), none] (Nat.le_of_ble_eq_true rfl) rfl ?_
              refine V.iconst hC 0 dL_lay_107 rfl ?_
              refine V.istore hC dL_lay_108 [some (.ref (F.1 0)), some (.ref sc), some (.int a), some (.int (nI (max 1 (sNb s2)))), some (.int 0)] (Nat.le_of_ble_eq_true rfl) rfl ?_
              have loop110 : ∀ (n : Nat) (k3 : Nat) (a : Int32) (s3 : ASt) (D3 : DX), 7 - k3 < n → (k3 ≤ 7) → (FOk (B + 16 + k3) s3 D3) → V G K 5 (16 + 2 * k3) (96 + 12 * k3) 110 [some (.ref (F.1 0)), some (.ref sc), some (.int a), some (.int (nI (max 1 (sNb s2)))), some (.int (nI k3))] [] (flt [FW G F s3 D3]) := by
                intro n
                induction n with
                | zero => intro k3 a s3 D3 hlt; exact absurd hlt (Nat.not_lt_zero _)
                | succ n ih110 =>
                  intro k3 a s3 D3 hlt110 hk3 hok3
                  have hb3 : max 1 (sNb s2) ≤ 8 := by have := hok2.1.1; omega
                  refine V.iload hC (x := nI k3) dL_lay_110 rfl ?_
                  refine V.aload_n hC (x := sc) dL_lay_112 rfl ?_
                  refine V.iconst hC 2 dL_lay_113 rfl ?_
                  refine V.bipush hC 8 dL_lay_114 rfl ?_
                  refine V.callSBN (n := 3) (As := [.ref sc, .int 2, .int 8]) (rest := [.int (nI k3)]) hC (l_pick (kl K) G sc len xs hlen 2 (by decide) 8 (by decide) (by decide)) (SFs.k G sc len xs) hgos (gx2 gL_lay_L_pick) rfl ⟨rfl, rfl⟩ (by decide +kernel) ⟨by decide, by decide, by show _ ≤ 32; omega, by show _ ≤ 192; omega⟩ (L := [FW G F s3 D3]) (N := 1) rfl [] [0] (by decide) rfl (fun _ : Unit => []) (fun _ => rfl) rfl rfl (Nat.le_of_ble_eq_true rfl) dL_lay_116 (fun r_116 u_116 hp_116 => ?_)
                  obtain ⟨p_116, hp_116, e_p_116⟩ := hp_116
                  subst e_p_116
                  show V G K 5 (16 + 2 * k3) (96 + 12 * k3) 119 [some (.ref (F.1 0)), some (.ref sc), some (.int a), some (.int (nI (max 1 (sNb s2)))), some (.int (nI k3))] [.int (nI p_116), .int (nI k3)] (flt [FW G F s3 D3])
                  refine V.icmpN_ge hC k3 p_116 191 dL_lay_119 rfl rfl rfl (by omega) (by omega) (fun c_119 => ?_) (fun c_119 => ?_)
                  · refine V.widen (k := 32) (n := 192) (by omega) (by omega) ?_
                    exact hE 191 _ (s3, D3) dL_lay_191 (hok3.up (by omega))
                  · refine V.iload_n hC (x := a) dL_lay_122 rfl ?_
                    refine V.aload_n hC (x := (F.1 0)) dL_lay_123 rfl ?_
                    refine V.aload_n hC (x := sc) dL_lay_124 rfl ?_
                    refine V.bipush hC 61 dL_lay_125 rfl ?_
                    refine V.iload hC (x := nI k3) dL_lay_127 rfl ?_
                    refine V.iaddN hC 61 k3 dL_lay_129 rfl rfl ?_
                    refine V.iconst hC 3 dL_lay_130 rfl ?_
                    refine V.callSBN (n := 3) (As := [.ref sc, .int (nI (61 + k3)), .int 3]) (rest := [.ref (F.1 0), .int a]) hC (l_pick (kl K) G sc len xs hlen (61 + k3) (by omega) 3 (by decide) (by decide)) (SFs.k G sc len xs) hgos (gx2 gL_lay_L_pick) rfl ⟨rfl, rfl⟩ (by decide +kernel) ⟨by decide, by decide, by show _ ≤ 32; omega, by show _ ≤ 192; omega⟩ (L := [FW G F s3 D3]) (N := 1) rfl [] [0] (by decide) rfl (fun _ : Unit => []) (fun _ => rfl) rfl rfl (Nat.le_of_ble_eq_true rfl) dL_lay_131 (fun r_131 u_131 hp_131 => ?_)
                    obtain ⟨p_131, hp_131, e_p_131⟩ := hp_131
                    subst e_p_131
                    show V G K 5 (16 + 2 * k3) (96 + 12 * k3) 134 [some (.ref (F.1 0)), some (.ref sc), some (.int a), some (.int (nI (max 1 (sNb s2)))), some (.int (nI k3))] [.int (nI p_131), .ref (F.1 0), .int a] (flt [FW G F s3 D3])
                    refine V.ifN_ne hC p_131 141 dL_lay_134 rfl rfl (by omega) (fun c_134 => ?_) (fun c_134 => ?_)
                    · refine V.iconst hC 3 dL_lay_141 rfl ?_
                      refine V.aload_n hC (x := sc) dL_lay_142 rfl ?_
                      refine V.bipush hC 71 dL_lay_143 rfl ?_
                      refine V.iload hC (x := nI k3) dL_lay_145 rfl ?_
                      refine V.iaddN hC 71 k3 dL_lay_147 rfl rfl ?_
                      refine V.iload_n hC (x := nI (max 1 (sNb s2))) dL_lay_148 rfl ?_
                      refine V.callSBN (n := 3) (As := [.ref sc, .int (nI (71 + k3)), .int (nI (max 1 (sNb s2)))]) (rest := [.int 3, .ref (F.1 0), .int a]) hC (l_pick (kl K) G sc len xs hlen (71 + k3) (by omega) (max 1 (sNb s2)) (by omega) (by omega)) (SFs.k G sc len xs) hgos (gx2 gL_lay_L_pick) rfl ⟨rfl, rfl⟩ (by decide +kernel) ⟨by decide, by decide, by show _ ≤ 32; omega, by show _ ≤ 192; omega⟩ (L := [FW G F s3 D3]) (N := 1) rfl [] [0] (by decide) rfl (fun _ : Unit => []) (fun _ => rfl) rfl rfl (Nat.le_of_ble_eq_true rfl) dL_lay_149 (fun r_149 u_149 hp_149 => ?_)
                      obtain ⟨p_149, hp_149, e_p_149⟩ := hp_149
                      subst e_p_149
                      show V G K 5 (16 + 2 * k3) (96 + 12 * k3) 152 [some (.ref (F.1 0)), some (.ref sc), some (.int a), some (.int (nI (max 1 (sNb s2)))), some (.int (nI k3))] [.int (nI p_149), .int 3, .ref (F.1 0), .int a] (flt [FW G F s3 D3])
                      refine V.aload_n hC (x := (F.1 0)) dL_lay_152 rfl ?_
                      refine V.aload_n hC (x := sc) dL_lay_153 rfl ?_
                      refine V.bipush hC 81 dL_lay_154 rfl ?_
                      refine V.iload hC (x := nI k3) dL_lay_156 rfl ?_
                      refine V.iaddN hC 81 k3 dL_lay_158 rfl rfl ?_
                      refine V.bipush hC 6 dL_lay_159 rfl ?_
                      refine V.callSBN (n := 3) (As := [.ref sc, .int (nI (81 + k3)), .int 6]) (rest := [.ref (F.1 0), .int (nI p_149), .int 3, .ref (F.1 0), .int a]) hC (l_pick (kl K) G sc len xs hlen (81 + k3) (by omega) 6 (by decide) (by decide)) (SFs.k G sc len xs) hgos (gx2 gL_lay_L_pick) rfl ⟨rfl, rfl⟩ (by decide +kernel) ⟨by decide, by decide, by show _ ≤ 32; omega, by show _ ≤ 192; omega⟩ (L := [FW G F s3 D3]) (N := 1) rfl [] [0] (by decide) rfl (fun _ : Unit => []) (fun _ => rfl) rfl rfl (Nat.le_of_ble_eq_true rfl) dL_lay_161 (fun r_161 u_161 hp_161 => ?_)
                      obtain ⟨p_161, hp_161, e_p_161⟩ := hp_161
                      subst e_p_161
                      show V G K 5 (16 + 2 * k3) (96 + 12 * k3) 164 [some (.ref (F.1 0)), some (.ref sc), some (.int a), some (.int (nI (max 1 (sNb s2)))), some (.int (nI k3))] [.int (nI p_161), .ref (F.1 0), .int (nI p_149), .int 3, .ref (F.1 0), .int a] (flt [FW G F s3 D3])
                      refine V.callSBN (n := 2) (As := [.ref (F.1 0), .int (nI p_161)]) (rest := [.int (nI p_149), .int 3, .ref (F.1 0), .int a]) hC (l_secret (kl K) G hst F s3 D3 (B + 16 + k3) hok3 p_161 (by omega)) (SFt.k G) hgot (gx2 gL_lay_L_secret) rfl ⟨rfl, rfl⟩ (by decide +kernel) ⟨by decide, by decide, by show _ ≤ 32; omega, by show _ ≤ 192; omega⟩ (L := [FW G F s3 D3]) (N := 1) rfl [0] [] (by decide) rfl (fun _ : Unit => [FW G F s3 D3]) (fun _ => rfl) rfl rfl (Nat.le_of_ble_eq_true rfl) dL_lay_164 (fun r_164 u_164 hp_164 => ?_)
                      show V G K 5 (16 + 2 * k3 + 1) (96 + 12 * k3 + 6) 167 [some (.ref (F.1 0)), some (.ref sc), some (.int a), some (.int (nI (max 1 (sNb s2)))), some (.int (nI k3))] [.int r_164, .int (nI p_149), .int 3, .ref (F.1 0), .int a] (flt [FW G F s3 D3])
                      refine V.iconst hC 1 dL_lay_167 rfl ?_
                      refine V.aload_n hC (x := sc) dL_lay_168 rfl ?_
                      refine V.bipush hC 91 dL_lay_169 rfl ?_
                      refine V.iload hC (x := nI k3) dL_lay_171 rfl ?_
                      refine V.iaddN hC 91 k3 dL_lay_173 rfl rfl ?_
                      refine V.bipush hC 96 dL_lay_174 rfl ?_
                      refine V.callSBN (n := 3) (As := [.ref sc, .int (nI (91 + k3)), .int 96]) (rest := [.int 1, .int r_164, .int (nI p_149), .int 3, .ref (F.1 0), .int a]) hC (l_pick (kl K) G sc len xs hlen (91 + k3) (by omega) 96 (by decide) (by decide)) (SFs.k G sc len xs) hgos (gx2 gL_lay_L_pick) rfl ⟨rfl, rfl⟩ (by decide +kernel) ⟨by decide, by decide, by show _ ≤ 32; omega, by show _ ≤ 192; omega⟩ (L := [FW G F s3 D3]) (N := 1) rfl [] [0] (by decide) rfl (fun _ : Unit => []) (fun _ => rfl) rfl rfl (Nat.le_of_ble_eq_true rfl) dL_lay_176 (fun r_176 u_176 hp_176 => ?_)
                      obtain ⟨p_176, hp_176, e_p_176⟩ := hp_176
                      subst e_p_176
                      show V G K 5 (16 + 2 * k3 + 1) (96 + 12 * k3 + 6) 179 [some (.ref (F.1 0)), some (.ref sc), some (.int a), some (.int (nI (max 1 (sNb s2)))), some (.int (nI k3))] [.int (nI p_176), .int 1, .int r_164, .int (nI p_149), .int 3, .ref (F.1 0), .int a] (flt [FW G F s3 D3])
                      refine V.iaddN hC 1 p_176 dL_lay_179 rfl rfl ?_
                      refine V.callSBWN (n := 5) (As := [.ref (F.1 0), .int 3, .int (nI p_149), .int r_164, .int (nI (1 + p_176))]) (rest := [.int a]) hC (l_deed (kl K) G hst F s3 D3 (B + 16 + k3) hok3 3 (by decide) (nI p_149) r_164 (nI (1 + p_176))) (SFt.k G) hgot (gx2 gL_lay_L_deed) rfl ⟨rfl, rfl⟩ (by decide +kernel) ⟨by decide, by decide, by show _ ≤ 32; omega, by show _ ≤ 192; omega⟩ (L := [FW G F s3 D3]) (N := 1) rfl [0] [] (by decide) rfl (fun u_180 : ASt × DX => [FW G F u_180.1 u_180.2]) (fun _ => rfl) rfl rfl (Nat.le_of_ble_eq_true rfl) dL_lay_180 (fun r_180 u_180 hp_180 => ?_)
                      show V G K 5 (16 + 2 * k3 + 1 + 1) (96 + 12 * k3 + 6 + 6) 183 [some (.ref (F.1 0)), some (.ref sc), some (.int a), some (.int (nI (max 1 (sNb s2)))), some (.int (nI k3))] [.int r_180, .int a] (flt [FW G F u_180.1 u_180.2])
                      refine V.iadd hC dL_lay_183 ?_
                      refine V.istore_n hC dL_lay_184 [some (.ref (F.1 0)), some (.ref sc), some (.int (a + r_180)), some (.int (nI (max 1 (sNb s2)))), some (.int (nI k3))] (Nat.le_of_ble_eq_true rfl) rfl ?_
                      refine V.iincN hC k3 1 dL_lay_185 rfl [some (.ref (F.1 0)), some (.ref sc), some (.int (a + r_180)), some (.int (nI (max 1 (sNb s2)))), some (.int (nI (k3 + 1)))] (Nat.le_of_ble_eq_true rfl) rfl rfl rfl ?_
                      refine V.goto hC 110 dL_lay_188 rfl ?_
                      refine V.widen (k := 16 + 2 * (k3 + 1)) (n := 96 + 12 * (k3 + 1)) (by omega) (by omega) ?_
                      exact ih110 (k3 + 1) (a + r_180) (u_180.1) (u_180.2) (by omega) (by omega) hp_180
                    · refine V.iconst hC 4 dL_lay_137 rfl ?_
                      refine V.goto hC 142 dL_lay_138 rfl ?_
                      refine V.aload_n hC (x := sc) dL_lay_142 rfl ?_
                      refine V.bipush hC 71 dL_lay_143 rfl ?_
                      refine V.iload hC (x := nI k3) dL_lay_145 rfl ?_
                      refine V.iaddN hC 71 k3 dL_lay_147 rfl rfl ?_
                      refine V.iload_n hC (x := nI (max 1 (sNb s2))) dL_lay_148 rfl ?_
                      refine V.callSBN (n := 3) (As := [.ref sc, .int (nI (71 + k3)), .int (nI (max 1 (sNb s2)))]) (rest := [.int 4, .ref (F.1 0), .int a]) hC (l_pick (kl K) G sc len xs hlen (71 + k3) (by omega) (max 1 (sNb s2)) (by omega) (by omega)) (SFs.k G sc len xs) hgos (gx2 gL_lay_L_pick) rfl ⟨rfl, rfl⟩ (by decide +kernel) ⟨by decide, by decide, by show _ ≤ 32; omega, by show _ ≤ 192; omega⟩ (L := [FW G F s3 D3]) (N := 1) rfl [] [0] (by decide) rfl (fun _ : Unit => []) (fun _ => rfl) rfl rfl (Nat.le_of_ble_eq_true rfl) dL_lay_149 (fun r_149 u_149 hp_149 => ?_)
                      obtain ⟨p_149_1, hp_149_1, e_p_149_1⟩ := hp_149
                      subst e_p_149_1
                      show V G K 5 (16 + 2 * k3) (96 + 12 * k3) 152 [some (.ref (F.1 0)), some (.ref sc), some (.int a), some (.int (nI (max 1 (sNb s2)))), some (.int (nI k3))] [.int (nI p_149_1), .int 4, .ref (F.1 0), .int a] (flt [FW G F s3 D3])
                      refine V.aload_n hC (x := (F.1 0)) dL_lay_152 rfl ?_
                      refine V.aload_n hC (x := sc) dL_lay_153 rfl ?_
                      refine V.bipush hC 81 dL_lay_154 rfl ?_
                      refine V.iload hC (x := nI k3) dL_lay_156 rfl ?_
                      refine V.iaddN hC 81 k3 dL_lay_158 rfl rfl ?_
                      refine V.bipush hC 6 dL_lay_159 rfl ?_
                      refine V.callSBN (n := 3) (As := [.ref sc, .int (nI (81 + k3)), .int 6]) (rest := [.ref (F.1 0), .int (nI p_149_1), .int 4, .ref (F.1 0), .int a]) hC (l_pick (kl K) G sc len xs hlen (81 + k3) (by omega) 6 (by decide) (by decide)) (SFs.k G sc len xs) hgos (gx2 gL_lay_L_pick) rfl ⟨rfl, rfl⟩ (by decide +kernel) ⟨by decide, by decide, by show _ ≤ 32; omega, by show _ ≤ 192; omega⟩ (L := [FW G F s3 D3]) (N := 1) rfl [] [0] (by decide) rfl (fun _ : Unit => []) (fun _ => rfl) rfl rfl (Nat.le_of_ble_eq_true rfl) dL_lay_161 (fun r_161 u_161 hp_161 => ?_)
                      obtain ⟨p_161_1, hp_161_1, e_p_161_1⟩ := hp_161
                      subst e_p_161_1
                      show V G K 5 (16 + 2 * k3) (96 + 12 * k3) 164 [some (.ref (F.1 0)), some (.ref sc), some (.int a), some (.int (nI (max 1 (sNb s2)))), some (.int (nI k3))] [.int (nI p_161_1), .ref (F.1 0), .int (nI p_149_1), .int 4, .ref (F.1 0), .int a] (flt [FW G F s3 D3])
                      refine V.callSBN (n := 2) (As := [.ref (F.1 0), .int (nI p_161_1)]) (rest := [.int (nI p_149_1), .int 4, .ref (F.1 0), .int a]) hC (l_secret (kl K) G hst F s3 D3 (B + 16 + k3) hok3 p_161_1 (by omega)) (SFt.k G) hgot (gx2 gL_lay_L_secret) rfl ⟨rfl, rfl⟩ (by decide +kernel) ⟨by decide, by decide, by show _ ≤ 32; omega, by show _ ≤ 192; omega⟩ (L := [FW G F s3 D3]) (N := 1) rfl [0] [] (by decide) rfl (fun _ : Unit => [FW G F s3 D3]) (fun _ => rfl) rfl rfl (Nat.le_of_ble_eq_true rfl) dL_lay_164 (fun r_164 u_164 hp_164 => ?_)
                      show V G K 5 (16 + 2 * k3 + 1) (96 + 12 * k3 + 6) 167 [some (.ref (F.1 0)), some (.ref sc), some (.int a), some (.int (nI (max 1 (sNb s2)))), some (.int (nI k3))] [.int r_164, .int (nI p_149_1), .int 4, .ref (F.1 0), .int a] (flt [FW G F s3 D3])
                      refine V.iconst hC 1 dL_lay_167 rfl ?_
                      refine V.aload_n hC (x := sc) dL_lay_168 rfl ?_
                      refine V.bipush hC 91 dL_lay_169 rfl ?_
                      refine V.iload hC (x := nI k3) dL_lay_171 rfl ?_
                      refine V.iaddN hC 91 k3 dL_lay_173 rfl rfl ?_
                      refine V.bipush hC 96 dL_lay_174 rfl ?_
                      refine V.callSBN (n := 3) (As := [.ref sc, .int (nI (91 + k3)), .int 96]) (rest := [.int 1, .int r_164, .int (nI p_149_1), .int 4, .ref (F.1 0), .int a]) hC (l_pick (kl K) G sc len xs hlen (91 + k3) (by omega) 96 (by decide) (by decide)) (SFs.k G sc len xs) hgos (gx2 gL_lay_L_pick) rfl ⟨rfl, rfl⟩ (by decide +kernel) ⟨by decide, by decide, by show _ ≤ 32; omega, by show _ ≤ 192; omega⟩ (L := [FW G F s3 D3]) (N := 1) rfl [] [0] (by decide) rfl (fun _ : Unit => []) (fun _ => rfl) rfl rfl (Nat.le_of_ble_eq_true rfl) dL_lay_176 (fun r_176 u_176 hp_176 => ?_)
                      obtain ⟨p_176_1, hp_176_1, e_p_176_1⟩ := hp_176
                      subst e_p_176_1
                      show V G K 5 (16 + 2 * k3 + 1) (96 + 12 * k3 + 6) 179 [some (.ref (F.1 0)), some (.ref sc), some (.int a), some (.int (nI (max 1 (sNb s2)))), some (.int (nI k3))] [.int (nI p_176_1), .int 1, .int r_164, .int (nI p_149_1), .int 4, .ref (F.1 0), .int a] (flt [FW G F s3 D3])
                      refine V.iaddN hC 1 p_176_1 dL_lay_179 rfl rfl ?_
                      refine V.callSBWN (n := 5) (As := [.ref (F.1 0), .int 4, .int (nI p_149_1), .int r_164, .int (nI (1 + p_176_1))]) (rest := [.int a]) hC (l_deed (kl K) G hst F s3 D3 (B + 16 + k3) hok3 4 (by decide) (nI p_149_1) r_164 (nI (1 + p_176_1))) (SFt.k G) hgot (gx2 gL_lay_L_deed) rfl ⟨rfl, rfl⟩ (by decide +kernel) ⟨by decide, by decide, by show _ ≤ 32; omega, by show _ ≤ 192; omega⟩ (L := [FW G F s3 D3]) (N := 1) rfl [0] [] (by decide) rfl (fun u_180 : ASt × DX => [FW G F u_180.1 u_180.2]) (fun _ => rfl) rfl rfl (Nat.le_of_ble_eq_true rfl) dL_lay_180 (fun r_180 u_180 hp_180 => ?_)
                      show V G K 5 (16 + 2 * k3 + 1 + 1) (96 + 12 * k3 + 6 + 6) 183 [some (.ref (F.1 0)), some (.ref sc), some (.int a), some (.int (nI (max 1 (sNb s2)))), some (.int (nI k3))] [.int r_180, .int a] (flt [FW G F u_180.1 u_180.2])
                      refine V.iadd hC dL_lay_183 ?_
                      refine V.istore_n hC dL_lay_184 [some (.ref (F.1 0)), some (.ref sc), some (.int (a + r_180)), some (.int (nI (max 1 (sNb s2)))), some (.int (nI k3))] (Nat.le_of_ble_eq_true rfl) rfl ?_
                      refine V.iincN hC k3 1 dL_lay_185 rfl [some (.ref (F.1 0)), some (.ref sc), some (.int (a + r_180)), some (.int (nI (max 1 (sNb s2)))), some (.int (nI (k3 + 1)))] (Nat.le_of_ble_eq_true rfl) rfl rfl rfl ?_
                      refine V.goto hC 110 dL_lay_188 rfl ?_
                      refine V.widen (k := 16 + 2 * (k3 + 1)) (n := 96 + 12 * (k3 + 1)) (by omega) (by omega) ?_
                      exact ih110 (k3 + 1) (a + r_180) (u_180.1) (u_180.2) (by omega) (by omega) hp_180
              refine V.widen (k := 16 + 2 * 0) (n := 96 + 12 * 0) (by omega) (by omega) ?_
              exact loop110 _ 0 a s2 D2 (Nat.lt_succ_self _) (Nat.zero_le _) (hok2.up (by omega))
            · refine V.iload_n hC (x := a) dL_lay_53 rfl ?_
              refine V.aload_n hC (x := (F.1 0)) dL_lay_54 rfl ?_
              refine V.iconst hC 2 dL_lay_55 rfl ?_
              refine V.aload_n hC (x := sc) dL_lay_56 rfl ?_
              refine V.bipush hC 31 dL_lay_57 rfl ?_
              refine V.iload_n hC (x := nI k2) dL_lay_59 rfl ?_
              refine V.iaddN hC 31 k2 dL_lay_60 rfl rfl ?_
              refine V.bipush hC 97 dL_lay_61 rfl ?_
              refine V.callSBN (n := 3) (As := [.ref sc, .int (nI (31 + k2)), .int 97]) (rest := [.int 2, .ref (F.1 0), .int a]) hC (l_pick (kl K) G sc len xs hlen (31 + k2) (by omega) 97 (by decide) (by decide)) (SFs.k G sc len xs) hgos (gx2 gL_lay_L_pick) rfl ⟨rfl, rfl⟩ (by decide +kernel) ⟨by decide, by decide, by show _ ≤ 32; omega, by show _ ≤ 192; omega⟩ (L := [FW G F s2 D2]) (N := 1) rfl [] [0] (by decide) rfl (fun _ : Unit => []) (fun _ => rfl) rfl rfl (Nat.le_of_ble_eq_true rfl) dL_lay_63 (fun r_63 u_63 hp_63 => ?_)
              obtain ⟨p_63, hp_63, e_p_63⟩ := hp_63
              subst e_p_63
              show V G K 5 (9 + k2) (54 + 6 * k2) 66 [some (.ref (F.1 0)), some (.ref sc), some (.int a), some (.int (nI k2)), none] [.int (nI p_63), .int 2, .ref (F.1 0), .int a] (flt [FW G F s2 D2])
              refine V.iconst hC 1 dL_lay_66 rfl ?_
              refine V.aload_n hC (x := sc) dL_lay_67 rfl ?_
              refine V.bipush hC 41 dL_lay_68 rfl ?_
              refine V.iload_n hC (x := nI k2) dL_lay_70 rfl ?_
              refine V.iaddN hC 41 k2 dL_lay_71 rfl rfl ?_
              refine V.iconst hC 4 dL_lay_72 rfl ?_
              refine V.callSBN (n := 3) (As := [.ref sc, .int (nI (41 + k2)), .int 4]) (rest := [.int 1, .int (nI p_63), .int 2, .ref (F.1 0), .int a]) hC (l_pick (kl K) G sc len xs hlen (41 + k2) (by omega) 4 (by decide) (by decide)) (SFs.k G sc len xs) hgos (gx2 gL_lay_L_pick) rfl ⟨rfl, rfl⟩ (by decide +kernel) ⟨by decide, by decide, by show _ ≤ 32; omega, by show _ ≤ 192; omega⟩ (L := [FW G F s2 D2]) (N := 1) rfl [] [0] (by decide) rfl (fun _ : Unit => []) (fun _ => rfl) rfl rfl (Nat.le_of_ble_eq_true rfl) dL_lay_73 (fun r_73 u_73 hp_73 => ?_)
              obtain ⟨p_73, hp_73, e_p_73⟩ := hp_73
              subst e_p_73
              show V G K 5 (9 + k2) (54 + 6 * k2) 76 [some (.ref (F.1 0)), some (.ref sc), some (.int a), some (.int (nI k2)), none] [.int (nI p_73), .int 1, .int (nI p_63), .int 2, .ref (F.1 0), .int a] (flt [FW G F s2 D2])
              refine V.iaddN hC 1 p_73 dL_lay_76 rfl rfl ?_
              refine V.aload_n hC (x := sc) dL_lay_77 rfl ?_
              refine V.bipush hC 51 dL_lay_78 rfl ?_
              refine V.iload_n hC (x := nI k2) dL_lay_80 rfl ?_
              refine V.iaddN hC 51 k2 dL_lay_81 rfl rfl ?_
              refine V.bipush hC 97 dL_lay_82 rfl ?_
              refine V.callSBN (n := 3) (As := [.ref sc, .int (nI (51 + k2)), .int 97]) (rest := [.int (nI (1 + p_73)), .int (nI p_63), .int 2, .ref (F.1 0), .int a]) hC (l_pick (kl K) G sc len xs hlen (51 + k2) (by omega) 97 (by decide) (by decide)) (SFs.k G sc len xs) hgos (gx2 gL_lay_L_pick) rfl ⟨rfl, rfl⟩ (by decide +kernel) ⟨by decide, by decide, by show _ ≤ 32; omega, by show _ ≤ 192; omega⟩ (L := [FW G F s2 D2]) (N := 1) rfl [] [0] (by decide) rfl (fun _ : Unit => []) (fun _ => rfl) rfl rfl (Nat.le_of_ble_eq_true rfl) dL_lay_84 (fun r_84 u_84 hp_84 => ?_)
              obtain ⟨p_84, hp_84, e_p_84⟩ := hp_84
              subst e_p_84
              show V G K 5 (9 + k2) (54 + 6 * k2) 87 [some (.ref (F.1 0)), some (.ref sc), some (.int a), some (.int (nI k2)), none] [.int (nI p_84), .int (nI (1 + p_73)), .int (nI p_63), .int 2, .ref (F.1 0), .int a] (flt [FW G F s2 D2])
              refine V.callSBWN (n := 5) (As := [.ref (F.1 0), .int 2, .int (nI p_63), .int (nI (1 + p_73)), .int (nI p_84)]) (rest := [.int a]) hC (l_deed (kl K) G hst F s2 D2 (B + 9 + k2) hok2 2 (by decide) (nI p_63) (nI (1 + p_73)) (nI p_84)) (SFt.k G) hgot (gx2 gL_lay_L_deed) rfl ⟨rfl, rfl⟩ (by decide +kernel) ⟨by decide, by decide, by show _ ≤ 32; omega, by show _ ≤ 192; omega⟩ (L := [FW G F s2 D2]) (N := 1) rfl [0] [] (by decide) rfl (fun u_87 : ASt × DX => [FW G F u_87.1 u_87.2]) (fun _ => rfl) rfl rfl (Nat.le_of_ble_eq_true rfl) dL_lay_87 (fun r_87 u_87 hp_87 => ?_)
              show V G K 5 (9 + k2 + 1) (54 + 6 * k2 + 6) 90 [some (.ref (F.1 0)), some (.ref sc), some (.int a), some (.int (nI k2)), none] [.int r_87, .int a] (flt [FW G F u_87.1 u_87.2])
              refine V.iadd hC dL_lay_90 ?_
              refine V.istore_n hC dL_lay_91 [some (.ref (F.1 0)), some (.ref sc), some (.int (a + r_87)), some (.int (nI k2)), none] (Nat.le_of_ble_eq_true rfl) rfl ?_
              refine V.iincN hC k2 1 dL_lay_92 rfl [some (.ref (F.1 0)), some (.ref sc), some (.int (a + r_87)), some (.int (nI (k2 + 1))), none] (Nat.le_of_ble_eq_true rfl) rfl rfl rfl ?_
              refine V.goto hC 42 dL_lay_95 rfl ?_
              refine V.widen (k := 9 + (k2 + 1)) (n := 54 + 6 * (k2 + 1)) (by omega) (by omega) ?_
              exact ih42 (k2 + 1) (a + r_87) (u_87.1) (u_87.2) (by omega) (by omega) hp_87
        refine V.widen (k := 9 + 0) (n := 54 + 6 * 0) (by omega) (by omega) ?_
        exact loop42 _ 0 a s1 D1 (Nat.lt_succ_self _) (Nat.zero_le _) (hok1.up (by omega))
      · refine V.iload_n hC (x := a) dL_lay_15 rfl ?_
        refine V.aload_n hC (x := (F.1 0)) dL_lay_16 rfl ?_
        refine V.iconst hC 0 dL_lay_17 rfl ?_
        refine V.aload_n hC (x := sc) dL_lay_18 rfl ?_
        refine V.bipush hC 11 dL_lay_19 rfl ?_
        refine V.iload_n hC (x := nI k) dL_lay_21 rfl ?_
        refine V.iaddN hC 11 k dL_lay_22 rfl rfl ?_
        refine V.iconst hC 4 dL_lay_23 rfl ?_
        refine V.callSBN (n := 3) (As := [.ref sc, .int (nI (11 + k)), .int 4]) (rest := [.int 0, .ref (F.1 0), .int a]) hC (l_pick (kl K) G sc len xs hlen (11 + k) (by omega) 4 (by decide) (by decide)) (SFs.k G sc len xs) hgos (gx2 gL_lay_L_pick) rfl ⟨rfl, rfl⟩ (by decide +kernel) ⟨by decide, by decide, by show _ ≤ 32; omega, by show _ ≤ 192; omega⟩ (L := [FW G F s1 D1]) (N := 1) rfl [] [0] (by decide) rfl (fun _ : Unit => []) (fun _ => rfl) rfl rfl (Nat.le_of_ble_eq_true rfl) dL_lay_24 (fun r_24 u_24 hp_24 => ?_)
        obtain ⟨p_24, hp_24, e_p_24⟩ := hp_24
        subst e_p_24
        show V G K 5 (k) (6 * k) 27 [some (.ref (F.1 0)), some (.ref sc), some (.int a), some (.int (nI k)), none] [.int (nI p_24), .int 0, .ref (F.1 0), .int a] (flt [FW G F s1 D1])
        refine V.iconst hC 0 dL_lay_27 rfl ?_
        refine V.iconst hC 0 dL_lay_28 rfl ?_
        refine V.callSBWN (n := 5) (As := [.ref (F.1 0), .int 0, .int (nI p_24), .int 0, .int 0]) (rest := [.int a]) hC (l_deed (kl K) G hst F s1 D1 (B + k) hok1 0 (by decide) (nI p_24) 0 0) (SFt.k G) hgot (gx2 gL_lay_L_deed) rfl ⟨rfl, rfl⟩ (by decide +kernel) ⟨by decide, by decide, by show _ ≤ 32; omega, by show _ ≤ 192; omega⟩ (L := [FW G F s1 D1]) (N := 1) rfl [0] [] (by decide) rfl (fun u_29 : ASt × DX => [FW G F u_29.1 u_29.2]) (fun _ => rfl) rfl rfl (Nat.le_of_ble_eq_true rfl) dL_lay_29 (fun r_29 u_29 hp_29 => ?_)
        show V G K 5 (k + 1) (6 * k + 6) 32 [some (.ref (F.1 0)), some (.ref sc), some (.int a), some (.int (nI k)), none] [.int r_29, .int a] (flt [FW G F u_29.1 u_29.2])
        refine V.iadd hC dL_lay_32 ?_
        refine V.istore_n hC dL_lay_33 [some (.ref (F.1 0)), some (.ref sc), some (.int (a + r_29)), some (.int (nI k)), none] (Nat.le_of_ble_eq_true rfl) rfl ?_
        refine V.iincN hC k 1 dL_lay_34 rfl [some (.ref (F.1 0)), some (.ref sc), some (.int (a + r_29)), some (.int (nI (k + 1))), none] (Nat.le_of_ble_eq_true rfl) rfl rfl rfl ?_
        refine V.goto hC 4 dL_lay_37 rfl ?_
        refine V.widen (k := (k + 1)) (n := 6 * (k + 1)) (by omega) (by omega) ?_
        exact ih4 (k + 1) (a + r_29) (u_29.1) (u_29.2) (by omega) (by omega) hp_29
  refine V.widen (k := 0) (n := 6 * 0) (by omega) (by omega) ?_
  exact loop4 _ 0 0 s D (Nat.lt_succ_self _) (Nat.zero_le _) hok

set_option maxHeartbeats 16000000 in
set_option maxRecDepth 100000 in
theorem l_any (l : Launch) (G : Gx) (hst : l.stackTraces = false) (F : FX) (s : ASt) (D : DX) (B : Nat) (hok : FOk B s D) (sc len : Nat) (xs : Nat → Int32) (hlen : len < 2 ^ 31) (i : Nat) (hi : i < 10000) : Ct l G (SFs G sc len xs) yL_any (wsL_any ++ hx9) ({ frames := 11, cells := 2, slots := 12, locals := 215 }) [.ref (F.1 0), .ref sc, .int (nI i)] (flt [FW G F s D]) mkI (fun (_ : Int32) (u : ASt × DX) => FOk (B + 1) u.1 u.2) (fun u : ASt × DX => flt [FW G F u.1 u.2]) 2 12 := by
  refine Ct.ofI (cc := cL_any) (maxL := 5) (by decide) rfl ⟨by simp [Value.category], Nat.le_of_ble_eq_true rfl⟩ ?_
  intro K hl hC hSF hnm hE
  subst hl
  have hgos := SFgoS (SFs.k G sc len xs) hSF
  have hgot := SFgo.s hgos
  have hgo := SFgo.x hgot
  have hSFs := hSF
  replace hSF := hSF.1
  have hSFt := hSF
  replace hSF := hSF.1
  have q0_ : Cond.methodLink RL 129 Lib.Math.max.name ∈ (wsL_any ++ hx9) := by decide +kernel
  have q1_ : Cond.static Lib.Math.max.name ∈ (wsL_any ++ hx9) := by decide +kernel
  have q2_ : Cond.initialized "java/lang/Math" ∈ (wsL_any ++ hx9) := by decide +kernel
  have q3_ : Cond.code Lib.Math.max.name Lib.Math.max.code 2 (some .int) ∈ (wsL_any ++ hx9) := by decide +kernel
  show V G K 5 0 0 0 [some (.ref (F.1 0)), some (.ref sc), some (.int (nI i)), none, none] [] (flt [FW G F s D])
  have hb8 : sNb s ≤ 8 := hok.1.1
  refine V.aload_n hC (x := sc) dL_any_0 rfl ?_
  refine V.iload_n hC (x := nI i) dL_any_1 rfl ?_
  refine V.iconst hC 1 dL_any_2 rfl ?_
  refine V.iaddN hC i 1 dL_any_3 rfl rfl ?_
  refine V.iconst hC 1 dL_any_4 rfl ?_
  refine V.aload_n hC (x := (F.1 0)) dL_any_5 rfl ?_
  refine V.callVBN (n := 0) (As := []) (rest := [.int 1, .int (nI (i + 1)), .ref sc]) hC (f_birdCount (kl K) G hst F s D B hok) (SFt.k G) hgot (gx1 gL_any_X12_birdCount) rfl ⟨rfl, rfl⟩ (by decide +kernel) ⟨by decide, by decide, by decide, by decide⟩ (L := [FW G F s D]) (N := 1) rfl [0] [] (by decide) (List.append_nil (FW G F s D)) (fun _ : Unit => [FW G F s D]) (fun _ => List.append_nil (FW G F s D)) rfl rfl rfl rfl (Nat.le_of_ble_eq_true rfl) dL_any_6 (fun r_6 u_6 hp_6 => ?_)
  subst hp_6
  show V G K 5 0 0 9 [some (.ref (F.1 0)), some (.ref sc), some (.int (nI i)), none, none] [.int (nI (sNb s)), .int 1, .int (nI (i + 1)), .ref sc] (flt [FW G F s D])
  refine V.mmax hC q0_ q1_ q2_ q3_ ⟨Nat.le_of_ble_eq_true rfl, Nat.le_of_ble_eq_true rfl, (by first | exact Nat.le_of_ble_eq_true rfl | (show _ ≤ _; simp only []; omega)), (by first | exact Nat.le_of_ble_eq_true rfl | (show _ ≤ _; simp only []; omega))⟩ dL_any_9 ?_
  refine V.topeq (nI (max 1 (sNb s))) (max1 hok.1.1) ?_
  refine V.callSBN (n := 3) (As := [.ref sc, .int (nI (i + 1)), .int (nI (max 1 (sNb s)))]) (rest := []) hC (l_pick (kl K) G sc len xs hlen (i + 1) (by omega) (max 1 (sNb s)) (by omega) (by omega)) (SFs.k G sc len xs) hgos (gx2 gL_any_L_pick) rfl ⟨rfl, rfl⟩ (by decide +kernel) ⟨by decide, by decide, by decide, by decide⟩ (L := [FW G F s D]) (N := 1) rfl [] [0] (by decide) rfl (fun _ : Unit => []) (fun _ => rfl) rfl rfl (Nat.le_of_ble_eq_true rfl) dL_any_12 (fun r_12 u_12 hp_12 => ?_)
  obtain ⟨p_12, hp_12, e_p_12⟩ := hp_12
  subst e_p_12
  show V G K 5 0 0 15 [some (.ref (F.1 0)), some (.ref sc), some (.int (nI i)), none, none] [.int (nI p_12)] (flt [FW G F s D])
  refine V.istore_n hC dL_any_15 [some (.ref (F.1 0)), some (.ref sc), some (.int (nI i)), some (.int (nI p_12)), none] (Nat.le_of_ble_eq_true rfl) rfl ?_
  refine V.aload_n hC (x := (F.1 0)) dL_any_16 rfl ?_
  refine V.aload_n hC (x := sc) dL_any_17 rfl ?_
  refine V.iload_n hC (x := nI i) dL_any_18 rfl ?_
  refine V.iconst hC 2 dL_any_19 rfl ?_
  refine V.iaddN hC i 2 dL_any_20 rfl rfl ?_
  refine V.bipush hC 6 dL_any_21 rfl ?_
  refine V.callSBN (n := 3) (As := [.ref sc, .int (nI (i + 2)), .int 6]) (rest := [.ref (F.1 0)]) hC (l_pick (kl K) G sc len xs hlen (i + 2) (by omega) 6 (by decide) (by decide)) (SFs.k G sc len xs) hgos (gx2 gL_any_L_pick) rfl ⟨rfl, rfl⟩ (by decide +kernel) ⟨by decide, by decide, by decide, by decide⟩ (L := [FW G F s D]) (N := 1) rfl [] [0] (by decide) rfl (fun _ : Unit => []) (fun _ => rfl) rfl rfl (Nat.le_of_ble_eq_true rfl) dL_any_23 (fun r_23 u_23 hp_23 => ?_)
  obtain ⟨p_23, hp_23, e_p_23⟩ := hp_23
  subst e_p_23
  show V G K 5 0 0 26 [some (.ref (F.1 0)), some (.ref sc), some (.int (nI i)), some (.int (nI p_12)), none] [.int (nI p_23), .ref (F.1 0)] (flt [FW G F s D])
  refine V.callSBN (n := 2) (As := [.ref (F.1 0), .int (nI p_23)]) (rest := []) hC (l_secret (kl K) G hst F s D B hok p_23 (by omega)) (SFt.k G) hgot (gx2 gL_any_L_secret) rfl ⟨rfl, rfl⟩ (by decide +kernel) ⟨by decide, by decide, by decide, by decide⟩ (L := [FW G F s D]) (N := 1) rfl [0] [] (by decide) rfl (fun _ : Unit => [FW G F s D]) (fun _ => rfl) rfl rfl (Nat.le_of_ble_eq_true rfl) dL_any_26 (fun r_26 u_26 hp_26 => ?_)
  show V G K 5 1 6 29 [some (.ref (F.1 0)), some (.ref sc), some (.int (nI i)), some (.int (nI p_12)), none] [.int r_26] (flt [FW G F s D])
  refine V.istore hC dL_any_29 [some (.ref (F.1 0)), some (.ref sc), some (.int (nI i)), some (.int (nI p_12)), some (.int r_26)] (Nat.le_of_ble_eq_true rfl) rfl ?_
  refine V.aload_n hC (x := sc) dL_any_31 rfl ?_
  refine V.iload_n hC (x := nI i) dL_any_32 rfl ?_
  refine V.bipush hC 20 dL_any_33 rfl ?_
  refine V.callSBN (n := 3) (As := [.ref sc, .int (nI i), .int 20]) (rest := []) hC (l_pick (kl K) G sc len xs hlen i (by omega) 20 (by decide) (by decide)) (SFs.k G sc len xs) hgos (gx2 gL_any_L_pick) rfl ⟨rfl, rfl⟩ (by decide +kernel) ⟨by decide, by decide, by decide, by decide⟩ (L := [FW G F s D]) (N := 1) rfl [] [0] (by decide) rfl (fun _ : Unit => []) (fun _ => rfl) rfl rfl (Nat.le_of_ble_eq_true rfl) dL_any_35 (fun r_35 u_35 hp_35 => ?_)
  obtain ⟨p_35, hp_35, e_p_35⟩ := hp_35
  subst e_p_35
  show V G K 5 1 6 38 [some (.ref (F.1 0)), some (.ref sc), some (.int (nI i)), some (.int (nI p_12)), some (.int r_26)] [.int (nI p_35)] (flt [FW G F s D])
  obtain rfl | rfl | rfl | rfl | rfl | rfl | rfl | rfl | rfl | rfl | rfl | rfl | rfl | rfl | rfl | rfl | rfl | rfl | rfl | rfl := lt20 hp_35
  · show V G K 5 1 6 38 [some (.ref (F.1 0)), some (.ref sc), some (.int (nI i)), some (.int (nI p_12)), some (.int r_26)] [.int (nI 0)] (flt [FW G F s D])
    refine V.tableIn hC (x := nI 0) (off := 90) 128 dL_any_38 (by decide) (by decide) (by decide) rfl ?_
    refine V.aload_n hC (x := (F.1 0)) dL_any_128 rfl ?_
    refine V.iconst hC 0 dL_any_129 rfl ?_
    refine V.aload_n hC (x := sc) dL_any_130 rfl ?_
    refine V.iload_n hC (x := nI i) dL_any_131 rfl ?_
    refine V.iconst hC 3 dL_any_132 rfl ?_
    refine V.iaddN hC i 3 dL_any_133 rfl rfl ?_
    refine V.iconst hC 4 dL_any_134 rfl ?_
    refine V.callSBN (n := 3) (As := [.ref sc, .int (nI (i + 3)), .int 4]) (rest := [.int 0, .ref (F.1 0)]) hC (l_pick (kl K) G sc len xs hlen (i + 3) (by omega) 4 (by decide) (by decide)) (SFs.k G sc len xs) hgos (gx2 gL_any_L_pick) rfl ⟨rfl, rfl⟩ (by decide +kernel) ⟨by decide, by decide, by decide, by decide⟩ (L := [FW G F s D]) (N := 1) rfl [] [0] (by decide) rfl (fun _ : Unit => []) (fun _ => rfl) rfl rfl (Nat.le_of_ble_eq_true rfl) dL_any_135 (fun r_135 u_135 hp_135 => ?_)
    obtain ⟨p_135, hp_135, e_p_135⟩ := hp_135
    subst e_p_135
    show V G K 5 1 6 138 [some (.ref (F.1 0)), some (.ref sc), some (.int (nI i)), some (.int (nI p_12)), some (.int r_26)] [.int (nI p_135), .int 0, .ref (F.1 0)] (flt [FW G F s D])
    refine V.iconst hC 0 dL_any_138 rfl ?_
    refine V.iconst hC 0 dL_any_139 rfl ?_
    refine V.callSBWN (n := 5) (As := [.ref (F.1 0), .int 0, .int (nI p_135), .int 0, .int 0]) (rest := []) hC (l_deed (kl K) G hst F s D B hok 0 (by decide) (nI p_135) 0 0) (SFt.k G) hgot (gx2 gL_any_L_deed) rfl ⟨rfl, rfl⟩ (by decide +kernel) ⟨by decide, by decide, by decide, by decide⟩ (L := [FW G F s D]) (N := 1) rfl [0] [] (by decide) rfl (fun u_140 : ASt × DX => [FW G F u_140.1 u_140.2]) (fun _ => rfl) rfl rfl (Nat.le_of_ble_eq_true rfl) dL_any_140 (fun r_140 u_140 hp_140 => ?_)
    show V G K 5 2 12 143 [some (.ref (F.1 0)), some (.ref sc), some (.int (nI i)), some (.int (nI p_12)), some (.int r_26)] [.int r_140] (flt [FW G F u_140.1 u_140.2])
    exact hE 143 _ r_140 u_140 dL_any_143 rfl hp_140
  · show V G K 5 1 6 38 [some (.ref (F.1 0)), some (.ref sc), some (.int (nI i)), some (.int (nI p_12)), some (.int r_26)] [.int (nI 1)] (flt [FW G F s D])
    refine V.tableIn hC (x := nI 1) (off := 106) 144 dL_any_38 (by decide) (by decide) (by decide) rfl ?_
    refine V.aload_n hC (x := (F.1 0)) dL_any_144 rfl ?_
    refine V.iconst hC 1 dL_any_145 rfl ?_
    refine V.iload_n hC (x := nI p_12) dL_any_146 rfl ?_
    refine V.aload_n hC (x := sc) dL_any_147 rfl ?_
    refine V.iload_n hC (x := nI i) dL_any_148 rfl ?_
    refine V.iconst hC 3 dL_any_149 rfl ?_
    refine V.iaddN hC i 3 dL_any_150 rfl rfl ?_
    refine V.iconst hC 4 dL_any_151 rfl ?_
    refine V.callSBN (n := 3) (As := [.ref sc, .int (nI (i + 3)), .int 4]) (rest := [.int (nI p_12), .int 1, .ref (F.1 0)]) hC (l_pick (kl K) G sc len xs hlen (i + 3) (by omega) 4 (by decide) (by decide)) (SFs.k G sc len xs) hgos (gx2 gL_any_L_pick) rfl ⟨rfl, rfl⟩ (by decide +kernel) ⟨by decide, by decide, by decide, by decide⟩ (L := [FW G F s D]) (N := 1) rfl [] [0] (by decide) rfl (fun _ : Unit => []) (fun _ => rfl) rfl rfl (Nat.le_of_ble_eq_true rfl) dL_any_152 (fun r_152 u_152 hp_152 => ?_)
    obtain ⟨p_152, hp_152, e_p_152⟩ := hp_152
    subst e_p_152
    show V G K 5 1 6 155 [some (.ref (F.1 0)), some (.ref sc), some (.int (nI i)), some (.int (nI p_12)), some (.int r_26)] [.int (nI p_152), .int (nI p_12), .int 1, .ref (F.1 0)] (flt [FW G F s D])
    refine V.iconst hC 0 dL_any_155 rfl ?_
    refine V.callSBWN (n := 5) (As := [.ref (F.1 0), .int 1, .int (nI p_12), .int (nI p_152), .int 0]) (rest := []) hC (l_deed (kl K) G hst F s D B hok 1 (by decide) (nI p_12) (nI p_152) 0) (SFt.k G) hgot (gx2 gL_any_L_deed) rfl ⟨rfl, rfl⟩ (by decide +kernel) ⟨by decide, by decide, by decide, by decide⟩ (L := [FW G F s D]) (N := 1) rfl [0] [] (by decide) rfl (fun u_156 : ASt × DX => [FW G F u_156.1 u_156.2]) (fun _ => rfl) rfl rfl (Nat.le_of_ble_eq_true rfl) dL_any_156 (fun r_156 u_156 hp_156 => ?_)
    show V G K 5 2 12 159 [some (.ref (F.1 0)), some (.ref sc), some (.int (nI i)), some (.int (nI p_12)), some (.int r_26)] [.int r_156] (flt [FW G F u_156.1 u_156.2])
    exact hE 159 _ r_156 u_156 dL_any_159 rfl hp_156
  · show V G K 5 1 6 38 [some (.ref (F.1 0)), some (.ref sc), some (.int (nI i)), some (.int (nI p_12)), some (.int r_26)] [.int (nI 2)] (flt [FW G F s D])
    refine V.tableIn hC (x := nI 2) (off := 106) 144 dL_any_38 (by decide) (by decide) (by decide) rfl ?_
    refine V.aload_n hC (x := (F.1 0)) dL_any_144 rfl ?_
    refine V.iconst hC 1 dL_any_145 rfl ?_
    refine V.iload_n hC (x := nI p_12) dL_any_146 rfl ?_
    refine V.aload_n hC (x := sc) dL_any_147 rfl ?_
    refine V.iload_n hC (x := nI i) dL_any_148 rfl ?_
    refine V.iconst hC 3 dL_any_149 rfl ?_
    refine V.iaddN hC i 3 dL_any_150 rfl rfl ?_
    refine V.iconst hC 4 dL_any_151 rfl ?_
    refine V.callSBN (n := 3) (As := [.ref sc, .int (nI (i + 3)), .int 4]) (rest := [.int (nI p_12), .int 1, .ref (F.1 0)]) hC (l_pick (kl K) G sc len xs hlen (i + 3) (by omega) 4 (by decide) (by decide)) (SFs.k G sc len xs) hgos (gx2 gL_any_L_pick) rfl ⟨rfl, rfl⟩ (by decide +kernel) ⟨by decide, by decide, by decide, by decide⟩ (L := [FW G F s D]) (N := 1) rfl [] [0] (by decide) rfl (fun _ : Unit => []) (fun _ => rfl) rfl rfl (Nat.le_of_ble_eq_true rfl) dL_any_152 (fun r_152 u_152 hp_152 => ?_)
    obtain ⟨p_152_1, hp_152_1, e_p_152_1⟩ := hp_152
    subst e_p_152_1
    show V G K 5 1 6 155 [some (.ref (F.1 0)), some (.ref sc), some (.int (nI i)), some (.int (nI p_12)), some (.int r_26)] [.int (nI p_152_1), .int (nI p_12), .int 1, .ref (F.1 0)] (flt [FW G F s D])
    refine V.iconst hC 0 dL_any_155 rfl ?_
    refine V.callSBWN (n := 5) (As := [.ref (F.1 0), .int 1, .int (nI p_12), .int (nI p_152_1), .int 0]) (rest := []) hC (l_deed (kl K) G hst F s D B hok 1 (by decide) (nI p_12) (nI p_152_1) 0) (SFt.k G) hgot (gx2 gL_any_L_deed) rfl ⟨rfl, rfl⟩ (by decide +kernel) ⟨by decide, by decide, by decide, by decide⟩ (L := [FW G F s D]) (N := 1) rfl [0] [] (by decide) rfl (fun u_156 : ASt × DX => [FW G F u_156.1 u_156.2]) (fun _ => rfl) rfl rfl (Nat.le_of_ble_eq_true rfl) dL_any_156 (fun r_156 u_156 hp_156 => ?_)
    show V G K 5 2 12 159 [some (.ref (F.1 0)), some (.ref sc), some (.int (nI i)), some (.int (nI p_12)), some (.int r_26)] [.int r_156] (flt [FW G F u_156.1 u_156.2])
    exact hE 159 _ r_156 u_156 dL_any_159 rfl hp_156
  · show V G K 5 1 6 38 [some (.ref (F.1 0)), some (.ref sc), some (.int (nI i)), some (.int (nI p_12)), some (.int r_26)] [.int (nI 3)] (flt [FW G F s D])
    refine V.tableIn hC (x := nI 3) (off := 122) 160 dL_any_38 (by decide) (by decide) (by decide) rfl ?_
    refine V.aload_n hC (x := (F.1 0)) dL_any_160 rfl ?_
    refine V.iconst hC 2 dL_any_161 rfl ?_
    refine V.aload_n hC (x := sc) dL_any_162 rfl ?_
    refine V.iload_n hC (x := nI i) dL_any_163 rfl ?_
    refine V.iconst hC 3 dL_any_164 rfl ?_
    refine V.iaddN hC i 3 dL_any_165 rfl rfl ?_
    refine V.bipush hC 97 dL_any_166 rfl ?_
    refine V.callSBN (n := 3) (As := [.ref sc, .int (nI (i + 3)), .int 97]) (rest := [.int 2, .ref (F.1 0)]) hC (l_pick (kl K) G sc len xs hlen (i + 3) (by omega) 97 (by decide) (by decide)) (SFs.k G sc len xs) hgos (gx2 gL_any_L_pick) rfl ⟨rfl, rfl⟩ (by decide +kernel) ⟨by decide, by decide, by decide, by decide⟩ (L := [FW G F s D]) (N := 1) rfl [] [0] (by decide) rfl (fun _ : Unit => []) (fun _ => rfl) rfl rfl (Nat.le_of_ble_eq_true rfl) dL_any_168 (fun r_168 u_168 hp_168 => ?_)
    obtain ⟨p_168, hp_168, e_p_168⟩ := hp_168
    subst e_p_168
    show V G K 5 1 6 171 [some (.ref (F.1 0)), some (.ref sc), some (.int (nI i)), some (.int (nI p_12)), some (.int r_26)] [.int (nI p_168), .int 2, .ref (F.1 0)] (flt [FW G F s D])
    refine V.iconst hC 1 dL_any_171 rfl ?_
    refine V.aload_n hC (x := sc) dL_any_172 rfl ?_
    refine V.iload_n hC (x := nI i) dL_any_173 rfl ?_
    refine V.iconst hC 4 dL_any_174 rfl ?_
    refine V.iaddN hC i 4 dL_any_175 rfl rfl ?_
    refine V.iconst hC 4 dL_any_176 rfl ?_
    refine V.callSBN (n := 3) (As := [.ref sc, .int (nI (i + 4)), .int 4]) (rest := [.int 1, .int (nI p_168), .int 2, .ref (F.1 0)]) hC (l_pick (kl K) G sc len xs hlen (i + 4) (by omega) 4 (by decide) (by decide)) (SFs.k G sc len xs) hgos (gx2 gL_any_L_pick) rfl ⟨rfl, rfl⟩ (by decide +kernel) ⟨by decide, by decide, by decide, by decide⟩ (L := [FW G F s D]) (N := 1) rfl [] [0] (by decide) rfl (fun _ : Unit => []) (fun _ => rfl) rfl rfl (Nat.le_of_ble_eq_true rfl) dL_any_177 (fun r_177 u_177 hp_177 => ?_)
    obtain ⟨p_177, hp_177, e_p_177⟩ := hp_177
    subst e_p_177
    show V G K 5 1 6 180 [some (.ref (F.1 0)), some (.ref sc), some (.int (nI i)), some (.int (nI p_12)), some (.int r_26)] [.int (nI p_177), .int 1, .int (nI p_168), .int 2, .ref (F.1 0)] (flt [FW G F s D])
    refine V.iaddN hC 1 p_177 dL_any_180 rfl rfl ?_
    refine V.aload_n hC (x := sc) dL_any_181 rfl ?_
    refine V.iload_n hC (x := nI i) dL_any_182 rfl ?_
    refine V.iconst hC 5 dL_any_183 rfl ?_
    refine V.iaddN hC i 5 dL_any_184 rfl rfl ?_
    refine V.bipush hC 97 dL_any_185 rfl ?_
    refine V.callSBN (n := 3) (As := [.ref sc, .int (nI (i + 5)), .int 97]) (rest := [.int (nI (1 + p_177)), .int (nI p_168), .int 2, .ref (F.1 0)]) hC (l_pick (kl K) G sc len xs hlen (i + 5) (by omega) 97 (by decide) (by decide)) (SFs.k G sc len xs) hgos (gx2 gL_any_L_pick) rfl ⟨rfl, rfl⟩ (by decide +kernel) ⟨by decide, by decide, by decide, by decide⟩ (L := [FW G F s D]) (N := 1) rfl [] [0] (by decide) rfl (fun _ : Unit => []) (fun _ => rfl) rfl rfl (Nat.le_of_ble_eq_true rfl) dL_any_187 (fun r_187 u_187 hp_187 => ?_)
    obtain ⟨p_187, hp_187, e_p_187⟩ := hp_187
    subst e_p_187
    show V G K 5 1 6 190 [some (.ref (F.1 0)), some (.ref sc), some (.int (nI i)), some (.int (nI p_12)), some (.int r_26)] [.int (nI p_187), .int (nI (1 + p_177)), .int (nI p_168), .int 2, .ref (F.1 0)] (flt [FW G F s D])
    refine V.callSBWN (n := 5) (As := [.ref (F.1 0), .int 2, .int (nI p_168), .int (nI (1 + p_177)), .int (nI p_187)]) (rest := []) hC (l_deed (kl K) G hst F s D B hok 2 (by decide) (nI p_168) (nI (1 + p_177)) (nI p_187)) (SFt.k G) hgot (gx2 gL_any_L_deed) rfl ⟨rfl, rfl⟩ (by decide +kernel) ⟨by decide, by decide, by decide, by decide⟩ (L := [FW G F s D]) (N := 1) rfl [0] [] (by decide) rfl (fun u_190 : ASt × DX => [FW G F u_190.1 u_190.2]) (fun _ => rfl) rfl rfl (Nat.le_of_ble_eq_true rfl) dL_any_190 (fun r_190 u_190 hp_190 => ?_)
    show V G K 5 2 12 193 [some (.ref (F.1 0)), some (.ref sc), some (.int (nI i)), some (.int (nI p_12)), some (.int r_26)] [.int r_190] (flt [FW G F u_190.1 u_190.2])
    exact hE 193 _ r_190 u_190 dL_any_193 rfl hp_190
  · show V G K 5 1 6 38 [some (.ref (F.1 0)), some (.ref sc), some (.int (nI i)), some (.int (nI p_12)), some (.int r_26)] [.int (nI 4)] (flt [FW G F s D])
    refine V.tableIn hC (x := nI 4) (off := 122) 160 dL_any_38 (by decide) (by decide) (by decide) rfl ?_
    refine V.aload_n hC (x := (F.1 0)) dL_any_160 rfl ?_
    refine V.iconst hC 2 dL_any_161 rfl ?_
    refine V.aload_n hC (x := sc) dL_any_162 rfl ?_
    refine V.iload_n hC (x := nI i) dL_any_163 rfl ?_
    refine V.iconst hC 3 dL_any_164 rfl ?_
    refine V.iaddN hC i 3 dL_any_165 rfl rfl ?_
    refine V.bipush hC 97 dL_any_166 rfl ?_
    refine V.callSBN (n := 3) (As := [.ref sc, .int (nI (i + 3)), .int 97]) (rest := [.int 2, .ref (F.1 0)]) hC (l_pick (kl K) G sc len xs hlen (i + 3) (by omega) 97 (by decide) (by decide)) (SFs.k G sc len xs) hgos (gx2 gL_any_L_pick) rfl ⟨rfl, rfl⟩ (by decide +kernel) ⟨by decide, by decide, by decide, by decide⟩ (L := [FW G F s D]) (N := 1) rfl [] [0] (by decide) rfl (fun _ : Unit => []) (fun _ => rfl) rfl rfl (Nat.le_of_ble_eq_true rfl) dL_any_168 (fun r_168 u_168 hp_168 => ?_)
    obtain ⟨p_168_1, hp_168_1, e_p_168_1⟩ := hp_168
    subst e_p_168_1
    show V G K 5 1 6 171 [some (.ref (F.1 0)), some (.ref sc), some (.int (nI i)), some (.int (nI p_12)), some (.int r_26)] [.int (nI p_168_1), .int 2, .ref (F.1 0)] (flt [FW G F s D])
    refine V.iconst hC 1 dL_any_171 rfl ?_
    refine V.aload_n hC (x := sc) dL_any_172 rfl ?_
    refine V.iload_n hC (x := nI i) dL_any_173 rfl ?_
    refine V.iconst hC 4 dL_any_174 rfl ?_
    refine V.iaddN hC i 4 dL_any_175 rfl rfl ?_
    refine V.iconst hC 4 dL_any_176 rfl ?_
    refine V.callSBN (n := 3) (As := [.ref sc, .int (nI (i + 4)), .int 4]) (rest := [.int 1, .int (nI p_168_1), .int 2, .ref (F.1 0)]) hC (l_pick (kl K) G sc len xs hlen (i + 4) (by omega) 4 (by decide) (by decide)) (SFs.k G sc len xs) hgos (gx2 gL_any_L_pick) rfl ⟨rfl, rfl⟩ (by decide +kernel) ⟨by decide, by decide, by decide, by decide⟩ (L := [FW G F s D]) (N := 1) rfl [] [0] (by decide) rfl (fun _ : Unit => []) (fun _ => rfl) rfl rfl (Nat.le_of_ble_eq_true rfl) dL_any_177 (fun r_177 u_177 hp_177 => ?_)
    obtain ⟨p_177_1, hp_177_1, e_p_177_1⟩ := hp_177
    subst e_p_177_1
    show V G K 5 1 6 180 [some (.ref (F.1 0)), some (.ref sc), some (.int (nI i)), some (.int (nI p_12)), some (.int r_26)] [.int (nI p_177_1), .int 1, .int (nI p_168_1), .int 2, .ref (F.1 0)] (flt [FW G F s D])
    refine V.iaddN hC 1 p_177_1 dL_any_180 rfl rfl ?_
    refine V.aload_n hC (x := sc) dL_any_181 rfl ?_
    refine V.iload_n hC (x := nI i) dL_any_182 rfl ?_
    refine V.iconst hC 5 dL_any_183 rfl ?_
    refine V.iaddN hC i 5 dL_any_184 rfl rfl ?_
    refine V.bipush hC 97 dL_any_185 rfl ?_
    refine V.callSBN (n := 3) (As := [.ref sc, .int (nI (i + 5)), .int 97]) (rest := [.int (nI (1 + p_177_1)), .int (nI p_168_1), .int 2, .ref (F.1 0)]) hC (l_pick (kl K) G sc len xs hlen (i + 5) (by omega) 97 (by decide) (by decide)) (SFs.k G sc len xs) hgos (gx2 gL_any_L_pick) rfl ⟨rfl, rfl⟩ (by decide +kernel) ⟨by decide, by decide, by decide, by decide⟩ (L := [FW G F s D]) (N := 1) rfl [] [0] (by decide) rfl (fun _ : Unit => []) (fun _ => rfl) rfl rfl (Nat.le_of_ble_eq_true rfl) dL_any_187 (fun r_187 u_187 hp_187 => ?_)
    obtain ⟨p_187_1, hp_187_1, e_p_187_1⟩ := hp_187
    subst e_p_187_1
    show V G K 5 1 6 190 [some (.ref (F.1 0)), some (.ref sc), some (.int (nI i)), some (.int (nI p_12)), some (.int r_26)] [.int (nI p_187_1), .int (nI (1 + p_177_1)), .int (nI p_168_1), .int 2, .ref (F.1 0)] (flt [FW G F s D])
    refine V.callSBWN (n := 5) (As := [.ref (F.1 0), .int 2, .int (nI p_168_1), .int (nI (1 + p_177_1)), .int (nI p_187_1)]) (rest := []) hC (l_deed (kl K) G hst F s D B hok 2 (by decide) (nI p_168_1) (nI (1 + p_177_1)) (nI p_187_1)) (SFt.k G) hgot (gx2 gL_any_L_deed) rfl ⟨rfl, rfl⟩ (by decide +kernel) ⟨by decide, by decide, by decide, by decide⟩ (L := [FW G F s D]) (N := 1) rfl [0] [] (by decide) rfl (fun u_190 : ASt × DX => [FW G F u_190.1 u_190.2]) (fun _ => rfl) rfl rfl (Nat.le_of_ble_eq_true rfl) dL_any_190 (fun r_190 u_190 hp_190 => ?_)
    show V G K 5 2 12 193 [some (.ref (F.1 0)), some (.ref sc), some (.int (nI i)), some (.int (nI p_12)), some (.int r_26)] [.int r_190] (flt [FW G F u_190.1 u_190.2])
    exact hE 193 _ r_190 u_190 dL_any_193 rfl hp_190
  · show V G K 5 1 6 38 [some (.ref (F.1 0)), some (.ref sc), some (.int (nI i)), some (.int (nI p_12)), some (.int r_26)] [.int (nI 5)] (flt [FW G F s D])
    refine V.tableIn hC (x := nI 5) (off := 122) 160 dL_any_38 (by decide) (by decide) (by decide) rfl ?_
    refine V.aload_n hC (x := (F.1 0)) dL_any_160 rfl ?_
    refine V.iconst hC 2 dL_any_161 rfl ?_
    refine V.aload_n hC (x := sc) dL_any_162 rfl ?_
    refine V.iload_n hC (x := nI i) dL_any_163 rfl ?_
    refine V.iconst hC 3 dL_any_164 rfl ?_
    refine V.iaddN hC i 3 dL_any_165 rfl rfl ?_
    refine V.bipush hC 97 dL_any_166 rfl ?_
    refine V.callSBN (n := 3) (As := [.ref sc, .int (nI (i + 3)), .int 97]) (rest := [.int 2, .ref (F.1 0)]) hC (l_pick (kl K) G sc len xs hlen (i + 3) (by omega) 97 (by decide) (by decide)) (SFs.k G sc len xs) hgos (gx2 gL_any_L_pick) rfl ⟨rfl, rfl⟩ (by decide +kernel) ⟨by decide, by decide, by decide, by decide⟩ (L := [FW G F s D]) (N := 1) rfl [] [0] (by decide) rfl (fun _ : Unit => []) (fun _ => rfl) rfl rfl (Nat.le_of_ble_eq_true rfl) dL_any_168 (fun r_168 u_168 hp_168 => ?_)
    obtain ⟨p_168_2, hp_168_2, e_p_168_2⟩ := hp_168
    subst e_p_168_2
    show V G K 5 1 6 171 [some (.ref (F.1 0)), some (.ref sc), some (.int (nI i)), some (.int (nI p_12)), some (.int r_26)] [.int (nI p_168_2), .int 2, .ref (F.1 0)] (flt [FW G F s D])
    refine V.iconst hC 1 dL_any_171 rfl ?_
    refine V.aload_n hC (x := sc) dL_any_172 rfl ?_
    refine V.iload_n hC (x := nI i) dL_any_173 rfl ?_
    refine V.iconst hC 4 dL_any_174 rfl ?_
    refine V.iaddN hC i 4 dL_any_175 rfl rfl ?_
    refine V.iconst hC 4 dL_any_176 rfl ?_
    refine V.callSBN (n := 3) (As := [.ref sc, .int (nI (i + 4)), .int 4]) (rest := [.int 1, .int (nI p_168_2), .int 2, .ref (F.1 0)]) hC (l_pick (kl K) G sc len xs hlen (i + 4) (by omega) 4 (by decide) (by decide)) (SFs.k G sc len xs) hgos (gx2 gL_any_L_pick) rfl ⟨rfl, rfl⟩ (by decide +kernel) ⟨by decide, by decide, by decide, by decide⟩ (L := [FW G F s D]) (N := 1) rfl [] [0] (by decide) rfl (fun _ : Unit => []) (fun _ => rfl) rfl rfl (Nat.le_of_ble_eq_true rfl) dL_any_177 (fun r_177 u_177 hp_177 => ?_)
    obtain ⟨p_177_2, hp_177_2, e_p_177_2⟩ := hp_177
    subst e_p_177_2
    show V G K 5 1 6 180 [some (.ref (F.1 0)), some (.ref sc), some (.int (nI i)), some (.int (nI p_12)), some (.int r_26)] [.int (nI p_177_2), .int 1, .int (nI p_168_2), .int 2, .ref (F.1 0)] (flt [FW G F s D])
    refine V.iaddN hC 1 p_177_2 dL_any_180 rfl rfl ?_
    refine V.aload_n hC (x := sc) dL_any_181 rfl ?_
    refine V.iload_n hC (x := nI i) dL_any_182 rfl ?_
    refine V.iconst hC 5 dL_any_183 rfl ?_
    refine V.iaddN hC i 5 dL_any_184 rfl rfl ?_
    refine V.bipush hC 97 dL_any_185 rfl ?_
    refine V.callSBN (n := 3) (As := [.ref sc, .int (nI (i + 5)), .int 97]) (rest := [.int (nI (1 + p_177_2)), .int (nI p_168_2), .int 2, .ref (F.1 0)]) hC (l_pick (kl K) G sc len xs hlen (i + 5) (by omega) 97 (by decide) (by decide)) (SFs.k G sc len xs) hgos (gx2 gL_any_L_pick) rfl ⟨rfl, rfl⟩ (by decide +kernel) ⟨by decide, by decide, by decide, by decide⟩ (L := [FW G F s D]) (N := 1) rfl [] [0] (by decide) rfl (fun _ : Unit => []) (fun _ => rfl) rfl rfl (Nat.le_of_ble_eq_true rfl) dL_any_187 (fun r_187 u_187 hp_187 => ?_)
    obtain ⟨p_187_2, hp_187_2, e_p_187_2⟩ := hp_187
    subst e_p_187_2
    show V G K 5 1 6 190 [some (.ref (F.1 0)), some (.ref sc), some (.int (nI i)), some (.int (nI p_12)), some (.int r_26)] [.int (nI p_187_2), .int (nI (1 + p_177_2)), .int (nI p_168_2), .int 2, .ref (F.1 0)] (flt [FW G F s D])
    refine V.callSBWN (n := 5) (As := [.ref (F.1 0), .int 2, .int (nI p_168_2), .int (nI (1 + p_177_2)), .int (nI p_187_2)]) (rest := []) hC (l_deed (kl K) G hst F s D B hok 2 (by decide) (nI p_168_2) (nI (1 + p_177_2)) (nI p_187_2)) (SFt.k G) hgot (gx2 gL_any_L_deed) rfl ⟨rfl, rfl⟩ (by decide +kernel) ⟨by decide, by decide, by decide, by decide⟩ (L := [FW G F s D]) (N := 1) rfl [0] [] (by decide) rfl (fun u_190 : ASt × DX => [FW G F u_190.1 u_190.2]) (fun _ => rfl) rfl rfl (Nat.le_of_ble_eq_true rfl) dL_any_190 (fun r_190 u_190 hp_190 => ?_)
    show V G K 5 2 12 193 [some (.ref (F.1 0)), some (.ref sc), some (.int (nI i)), some (.int (nI p_12)), some (.int r_26)] [.int r_190] (flt [FW G F u_190.1 u_190.2])
    exact hE 193 _ r_190 u_190 dL_any_193 rfl hp_190
  · show V G K 5 1 6 38 [some (.ref (F.1 0)), some (.ref sc), some (.int (nI i)), some (.int (nI p_12)), some (.int r_26)] [.int (nI 6)] (flt [FW G F s D])
    refine V.tableIn hC (x := nI 6) (off := 156) 194 dL_any_38 (by decide) (by decide) (by decide) rfl ?_
    refine V.aload_n hC (x := (F.1 0)) dL_any_194 rfl ?_
    refine V.iconst hC 3 dL_any_195 rfl ?_
    refine V.iload_n hC (x := nI p_12) dL_any_196 rfl ?_
    refine V.iload hC (x := r_26) dL_any_197 rfl ?_
    refine V.iconst hC 0 dL_any_199 rfl ?_
    refine V.callSBWN (n := 5) (As := [.ref (F.1 0), .int 3, .int (nI p_12), .int r_26, .int 0]) (rest := []) hC (l_deed (kl K) G hst F s D B hok 3 (by decide) (nI p_12) r_26 0) (SFt.k G) hgot (gx2 gL_any_L_deed) rfl ⟨rfl, rfl⟩ (by decide +kernel) ⟨by decide, by decide, by decide, by decide⟩ (L := [FW G F s D]) (N := 1) rfl [0] [] (by decide) rfl (fun u_200 : ASt × DX => [FW G F u_200.1 u_200.2]) (fun _ => rfl) rfl rfl (Nat.le_of_ble_eq_true rfl) dL_any_200 (fun r_200 u_200 hp_200 => ?_)
    show V G K 5 2 12 203 [some (.ref (F.1 0)), some (.ref sc), some (.int (nI i)), some (.int (nI p_12)), some (.int r_26)] [.int r_200] (flt [FW G F u_200.1 u_200.2])
    exact hE 203 _ r_200 u_200 dL_any_203 rfl hp_200
  · show V G K 5 1 6 38 [some (.ref (F.1 0)), some (.ref sc), some (.int (nI i)), some (.int (nI p_12)), some (.int r_26)] [.int (nI 7)] (flt [FW G F s D])
    refine V.tableIn hC (x := nI 7) (off := 156) 194 dL_any_38 (by decide) (by decide) (by decide) rfl ?_
    refine V.aload_n hC (x := (F.1 0)) dL_any_194 rfl ?_
    refine V.iconst hC 3 dL_any_195 rfl ?_
    refine V.iload_n hC (x := nI p_12) dL_any_196 rfl ?_
    refine V.iload hC (x := r_26) dL_any_197 rfl ?_
    refine V.iconst hC 0 dL_any_199 rfl ?_
    refine V.callSBWN (n := 5) (As := [.ref (F.1 0), .int 3, .int (nI p_12), .int r_26, .int 0]) (rest := []) hC (l_deed (kl K) G hst F s D B hok 3 (by decide) (nI p_12) r_26 0) (SFt.k G) hgot (gx2 gL_any_L_deed) rfl ⟨rfl, rfl⟩ (by decide +kernel) ⟨by decide, by decide, by decide, by decide⟩ (L := [FW G F s D]) (N := 1) rfl [0] [] (by decide) rfl (fun u_200 : ASt × DX => [FW G F u_200.1 u_200.2]) (fun _ => rfl) rfl rfl (Nat.le_of_ble_eq_true rfl) dL_any_200 (fun r_200 u_200 hp_200 => ?_)
    show V G K 5 2 12 203 [some (.ref (F.1 0)), some (.ref sc), some (.int (nI i)), some (.int (nI p_12)), some (.int r_26)] [.int r_200] (flt [FW G F u_200.1 u_200.2])
    exact hE 203 _ r_200 u_200 dL_any_203 rfl hp_200
  · show V G K 5 1 6 38 [some (.ref (F.1 0)), some (.ref sc), some (.int (nI i)), some (.int (nI p_12)), some (.int r_26)] [.int (nI 8)] (flt [FW G F s D])
    refine V.tableIn hC (x := nI 8) (off := 156) 194 dL_any_38 (by decide) (by decide) (by decide) rfl ?_
    refine V.aload_n hC (x := (F.1 0)) dL_any_194 rfl ?_
    refine V.iconst hC 3 dL_any_195 rfl ?_
    refine V.iload_n hC (x := nI p_12) dL_any_196 rfl ?_
    refine V.iload hC (x := r_26) dL_any_197 rfl ?_
    refine V.iconst hC 0 dL_any_199 rfl ?_
    refine V.callSBWN (n := 5) (As := [.ref (F.1 0), .int 3, .int (nI p_12), .int r_26, .int 0]) (rest := []) hC (l_deed (kl K) G hst F s D B hok 3 (by decide) (nI p_12) r_26 0) (SFt.k G) hgot (gx2 gL_any_L_deed) rfl ⟨rfl, rfl⟩ (by decide +kernel) ⟨by decide, by decide, by decide, by decide⟩ (L := [FW G F s D]) (N := 1) rfl [0] [] (by decide) rfl (fun u_200 : ASt × DX => [FW G F u_200.1 u_200.2]) (fun _ => rfl) rfl rfl (Nat.le_of_ble_eq_true rfl) dL_any_200 (fun r_200 u_200 hp_200 => ?_)
    show V G K 5 2 12 203 [some (.ref (F.1 0)), some (.ref sc), some (.int (nI i)), some (.int (nI p_12)), some (.int r_26)] [.int r_200] (flt [FW G F u_200.1 u_200.2])
    exact hE 203 _ r_200 u_200 dL_any_203 rfl hp_200
  · show V G K 5 1 6 38 [some (.ref (F.1 0)), some (.ref sc), some (.int (nI i)), some (.int (nI p_12)), some (.int r_26)] [.int (nI 9)] (flt [FW G F s D])
    refine V.tableIn hC (x := nI 9) (off := 156) 194 dL_any_38 (by decide) (by decide) (by decide) rfl ?_
    refine V.aload_n hC (x := (F.1 0)) dL_any_194 rfl ?_
    refine V.iconst hC 3 dL_any_195 rfl ?_
    refine V.iload_n hC (x := nI p_12) dL_any_196 rfl ?_
    refine V.iload hC (x := r_26) dL_any_197 rfl ?_
    refine V.iconst hC 0 dL_any_199 rfl ?_
    refine V.callSBWN (n := 5) (As := [.ref (F.1 0), .int 3, .int (nI p_12), .int r_26, .int 0]) (rest := []) hC (l_deed (kl K) G hst F s D B hok 3 (by decide) (nI p_12) r_26 0) (SFt.k G) hgot (gx2 gL_any_L_deed) rfl ⟨rfl, rfl⟩ (by decide +kernel) ⟨by decide, by decide, by decide, by decide⟩ (L := [FW G F s D]) (N := 1) rfl [0] [] (by decide) rfl (fun u_200 : ASt × DX => [FW G F u_200.1 u_200.2]) (fun _ => rfl) rfl rfl (Nat.le_of_ble_eq_true rfl) dL_any_200 (fun r_200 u_200 hp_200 => ?_)
    show V G K 5 2 12 203 [some (.ref (F.1 0)), some (.ref sc), some (.int (nI i)), some (.int (nI p_12)), some (.int r_26)] [.int r_200] (flt [FW G F u_200.1 u_200.2])
    exact hE 203 _ r_200 u_200 dL_any_203 rfl hp_200
  · show V G K 5 1 6 38 [some (.ref (F.1 0)), some (.ref sc), some (.int (nI i)), some (.int (nI p_12)), some (.int r_26)] [.int (nI 10)] (flt [FW G F s D])
    refine V.tableIn hC (x := nI 10) (off := 166) 204 dL_any_38 (by decide) (by decide) (by decide) rfl ?_
    refine V.aload_n hC (x := (F.1 0)) dL_any_204 rfl ?_
    refine V.iconst hC 4 dL_any_205 rfl ?_
    refine V.iload_n hC (x := nI p_12) dL_any_206 rfl ?_
    refine V.iload hC (x := r_26) dL_any_207 rfl ?_
    refine V.iconst hC 1 dL_any_209 rfl ?_
    refine V.aload_n hC (x := sc) dL_any_210 rfl ?_
    refine V.iload_n hC (x := nI i) dL_any_211 rfl ?_
    refine V.iconst hC 3 dL_any_212 rfl ?_
    refine V.iaddN hC i 3 dL_any_213 rfl rfl ?_
    refine V.bipush hC 96 dL_any_214 rfl ?_
    refine V.callSBN (n := 3) (As := [.ref sc, .int (nI (i + 3)), .int 96]) (rest := [.int 1, .int r_26, .int (nI p_12), .int 4, .ref (F.1 0)]) hC (l_pick (kl K) G sc len xs hlen (i + 3) (by omega) 96 (by decide) (by decide)) (SFs.k G sc len xs) hgos (gx2 gL_any_L_pick) rfl ⟨rfl, rfl⟩ (by decide +kernel) ⟨by decide, by decide, by decide, by decide⟩ (L := [FW G F s D]) (N := 1) rfl [] [0] (by decide) rfl (fun _ : Unit => []) (fun _ => rfl) rfl rfl (Nat.le_of_ble_eq_true rfl) dL_any_216 (fun r_216 u_216 hp_216 => ?_)
    obtain ⟨p_216, hp_216, e_p_216⟩ := hp_216
    subst e_p_216
    show V G K 5 1 6 219 [some (.ref (F.1 0)), some (.ref sc), some (.int (nI i)), some (.int (nI p_12)), some (.int r_26)] [.int (nI p_216), .int 1, .int r_26, .int (nI p_12), .int 4, .ref (F.1 0)] (flt [FW G F s D])
    refine V.iaddN hC 1 p_216 dL_any_219 rfl rfl ?_
    refine V.callSBWN (n := 5) (As := [.ref (F.1 0), .int 4, .int (nI p_12), .int r_26, .int (nI (1 + p_216))]) (rest := []) hC (l_deed (kl K) G hst F s D B hok 4 (by decide) (nI p_12) r_26 (nI (1 + p_216))) (SFt.k G) hgot (gx2 gL_any_L_deed) rfl ⟨rfl, rfl⟩ (by decide +kernel) ⟨by decide, by decide, by decide, by decide⟩ (L := [FW G F s D]) (N := 1) rfl [0] [] (by decide) rfl (fun u_220 : ASt × DX => [FW G F u_220.1 u_220.2]) (fun _ => rfl) rfl rfl (Nat.le_of_ble_eq_true rfl) dL_any_220 (fun r_220 u_220 hp_220 => ?_)
    show V G K 5 2 12 223 [some (.ref (F.1 0)), some (.ref sc), some (.int (nI i)), some (.int (nI p_12)), some (.int r_26)] [.int r_220] (flt [FW G F u_220.1 u_220.2])
    exact hE 223 _ r_220 u_220 dL_any_223 rfl hp_220
  · show V G K 5 1 6 38 [some (.ref (F.1 0)), some (.ref sc), some (.int (nI i)), some (.int (nI p_12)), some (.int r_26)] [.int (nI 11)] (flt [FW G F s D])
    refine V.tableIn hC (x := nI 11) (off := 166) 204 dL_any_38 (by decide) (by decide) (by decide) rfl ?_
    refine V.aload_n hC (x := (F.1 0)) dL_any_204 rfl ?_
    refine V.iconst hC 4 dL_any_205 rfl ?_
    refine V.iload_n hC (x := nI p_12) dL_any_206 rfl ?_
    refine V.iload hC (x := r_26) dL_any_207 rfl ?_
    refine V.iconst hC 1 dL_any_209 rfl ?_
    refine V.aload_n hC (x := sc) dL_any_210 rfl ?_
    refine V.iload_n hC (x := nI i) dL_any_211 rfl ?_
    refine V.iconst hC 3 dL_any_212 rfl ?_
    refine V.iaddN hC i 3 dL_any_213 rfl rfl ?_
    refine V.bipush hC 96 dL_any_214 rfl ?_
    refine V.callSBN (n := 3) (As := [.ref sc, .int (nI (i + 3)), .int 96]) (rest := [.int 1, .int r_26, .int (nI p_12), .int 4, .ref (F.1 0)]) hC (l_pick (kl K) G sc len xs hlen (i + 3) (by omega) 96 (by decide) (by decide)) (SFs.k G sc len xs) hgos (gx2 gL_any_L_pick) rfl ⟨rfl, rfl⟩ (by decide +kernel) ⟨by decide, by decide, by decide, by decide⟩ (L := [FW G F s D]) (N := 1) rfl [] [0] (by decide) rfl (fun _ : Unit => []) (fun _ => rfl) rfl rfl (Nat.le_of_ble_eq_true rfl) dL_any_216 (fun r_216 u_216 hp_216 => ?_)
    obtain ⟨p_216_1, hp_216_1, e_p_216_1⟩ := hp_216
    subst e_p_216_1
    show V G K 5 1 6 219 [some (.ref (F.1 0)), some (.ref sc), some (.int (nI i)), some (.int (nI p_12)), some (.int r_26)] [.int (nI p_216_1), .int 1, .int r_26, .int (nI p_12), .int 4, .ref (F.1 0)] (flt [FW G F s D])
    refine V.iaddN hC 1 p_216_1 dL_any_219 rfl rfl ?_
    refine V.callSBWN (n := 5) (As := [.ref (F.1 0), .int 4, .int (nI p_12), .int r_26, .int (nI (1 + p_216_1))]) (rest := []) hC (l_deed (kl K) G hst F s D B hok 4 (by decide) (nI p_12) r_26 (nI (1 + p_216_1))) (SFt.k G) hgot (gx2 gL_any_L_deed) rfl ⟨rfl, rfl⟩ (by decide +kernel) ⟨by decide, by decide, by decide, by decide⟩ (L := [FW G F s D]) (N := 1) rfl [0] [] (by decide) rfl (fun u_220 : ASt × DX => [FW G F u_220.1 u_220.2]) (fun _ => rfl) rfl rfl (Nat.le_of_ble_eq_true rfl) dL_any_220 (fun r_220 u_220 hp_220 => ?_)
    show V G K 5 2 12 223 [some (.ref (F.1 0)), some (.ref sc), some (.int (nI i)), some (.int (nI p_12)), some (.int r_26)] [.int r_220] (flt [FW G F u_220.1 u_220.2])
    exact hE 223 _ r_220 u_220 dL_any_223 rfl hp_220
  · show V G K 5 1 6 38 [some (.ref (F.1 0)), some (.ref sc), some (.int (nI i)), some (.int (nI p_12)), some (.int r_26)] [.int (nI 12)] (flt [FW G F s D])
    refine V.tableIn hC (x := nI 12) (off := 166) 204 dL_any_38 (by decide) (by decide) (by decide) rfl ?_
    refine V.aload_n hC (x := (F.1 0)) dL_any_204 rfl ?_
    refine V.iconst hC 4 dL_any_205 rfl ?_
    refine V.iload_n hC (x := nI p_12) dL_any_206 rfl ?_
    refine V.iload hC (x := r_26) dL_any_207 rfl ?_
    refine V.iconst hC 1 dL_any_209 rfl ?_
    refine V.aload_n hC (x := sc) dL_any_210 rfl ?_
    refine V.iload_n hC (x := nI i) dL_any_211 rfl ?_
    refine V.iconst hC 3 dL_any_212 rfl ?_
    refine V.iaddN hC i 3 dL_any_213 rfl rfl ?_
    refine V.bipush hC 96 dL_any_214 rfl ?_
    refine V.callSBN (n := 3) (As := [.ref sc, .int (nI (i + 3)), .int 96]) (rest := [.int 1, .int r_26, .int (nI p_12), .int 4, .ref (F.1 0)]) hC (l_pick (kl K) G sc len xs hlen (i + 3) (by omega) 96 (by decide) (by decide)) (SFs.k G sc len xs) hgos (gx2 gL_any_L_pick) rfl ⟨rfl, rfl⟩ (by decide +kernel) ⟨by decide, by decide, by decide, by decide⟩ (L := [FW G F s D]) (N := 1) rfl [] [0] (by decide) rfl (fun _ : Unit => []) (fun _ => rfl) rfl rfl (Nat.le_of_ble_eq_true rfl) dL_any_216 (fun r_216 u_216 hp_216 => ?_)
    obtain ⟨p_216_2, hp_216_2, e_p_216_2⟩ := hp_216
    subst e_p_216_2
    show V G K 5 1 6 219 [some (.ref (F.1 0)), some (.ref sc), some (.int (nI i)), some (.int (nI p_12)), some (.int r_26)] [.int (nI p_216_2), .int 1, .int r_26, .int (nI p_12), .int 4, .ref (F.1 0)] (flt [FW G F s D])
    refine V.iaddN hC 1 p_216_2 dL_any_219 rfl rfl ?_
    refine V.callSBWN (n := 5) (As := [.ref (F.1 0), .int 4, .int (nI p_12), .int r_26, .int (nI (1 + p_216_2))]) (rest := []) hC (l_deed (kl K) G hst F s D B hok 4 (by decide) (nI p_12) r_26 (nI (1 + p_216_2))) (SFt.k G) hgot (gx2 gL_any_L_deed) rfl ⟨rfl, rfl⟩ (by decide +kernel) ⟨by decide, by decide, by decide, by decide⟩ (L := [FW G F s D]) (N := 1) rfl [0] [] (by decide) rfl (fun u_220 : ASt × DX => [FW G F u_220.1 u_220.2]) (fun _ => rfl) rfl rfl (Nat.le_of_ble_eq_true rfl) dL_any_220 (fun r_220 u_220 hp_220 => ?_)
    show V G K 5 2 12 223 [some (.ref (F.1 0)), some (.ref sc), some (.int (nI i)), some (.int (nI p_12)), some (.int r_26)] [.int r_220] (flt [FW G F u_220.1 u_220.2])
    exact hE 223 _ r_220 u_220 dL_any_223 rfl hp_220
  · show V G K 5 1 6 38 [some (.ref (F.1 0)), some (.ref sc), some (.int (nI i)), some (.int (nI p_12)), some (.int r_26)] [.int (nI 13)] (flt [FW G F s D])
    refine V.tableIn hC (x := nI 13) (off := 186) 224 dL_any_38 (by decide) (by decide) (by decide) rfl ?_
    refine V.aload_n hC (x := (F.1 0)) dL_any_224 rfl ?_
    refine V.iconst hC 5 dL_any_225 rfl ?_
    refine V.iload_n hC (x := nI p_12) dL_any_226 rfl ?_
    refine V.iload hC (x := r_26) dL_any_227 rfl ?_
    refine V.iconst hC 0 dL_any_229 rfl ?_
    refine V.callSBWN (n := 5) (As := [.ref (F.1 0), .int 5, .int (nI p_12), .int r_26, .int 0]) (rest := []) hC (l_deed (kl K) G hst F s D B hok 5 (by decide) (nI p_12) r_26 0) (SFt.k G) hgot (gx2 gL_any_L_deed) rfl ⟨rfl, rfl⟩ (by decide +kernel) ⟨by decide, by decide, by decide, by decide⟩ (L := [FW G F s D]) (N := 1) rfl [0] [] (by decide) rfl (fun u_230 : ASt × DX => [FW G F u_230.1 u_230.2]) (fun _ => rfl) rfl rfl (Nat.le_of_ble_eq_true rfl) dL_any_230 (fun r_230 u_230 hp_230 => ?_)
    show V G K 5 2 12 233 [some (.ref (F.1 0)), some (.ref sc), some (.int (nI i)), some (.int (nI p_12)), some (.int r_26)] [.int r_230] (flt [FW G F u_230.1 u_230.2])
    exact hE 233 _ r_230 u_230 dL_any_233 rfl hp_230
  · show V G K 5 1 6 38 [some (.ref (F.1 0)), some (.ref sc), some (.int (nI i)), some (.int (nI p_12)), some (.int r_26)] [.int (nI 14)] (flt [FW G F s D])
    refine V.tableIn hC (x := nI 14) (off := 186) 224 dL_any_38 (by decide) (by decide) (by decide) rfl ?_
    refine V.aload_n hC (x := (F.1 0)) dL_any_224 rfl ?_
    refine V.iconst hC 5 dL_any_225 rfl ?_
    refine V.iload_n hC (x := nI p_12) dL_any_226 rfl ?_
    refine V.iload hC (x := r_26) dL_any_227 rfl ?_
    refine V.iconst hC 0 dL_any_229 rfl ?_
    refine V.callSBWN (n := 5) (As := [.ref (F.1 0), .int 5, .int (nI p_12), .int r_26, .int 0]) (rest := []) hC (l_deed (kl K) G hst F s D B hok 5 (by decide) (nI p_12) r_26 0) (SFt.k G) hgot (gx2 gL_any_L_deed) rfl ⟨rfl, rfl⟩ (by decide +kernel) ⟨by decide, by decide, by decide, by decide⟩ (L := [FW G F s D]) (N := 1) rfl [0] [] (by decide) rfl (fun u_230 : ASt × DX => [FW G F u_230.1 u_230.2]) (fun _ => rfl) rfl rfl (Nat.le_of_ble_eq_true rfl) dL_any_230 (fun r_230 u_230 hp_230 => ?_)
    show V G K 5 2 12 233 [some (.ref (F.1 0)), some (.ref sc), some (.int (nI i)), some (.int (nI p_12)), some (.int r_26)] [.int r_230] (flt [FW G F u_230.1 u_230.2])
    exact hE 233 _ r_230 u_230 dL_any_233 rfl hp_230
  · show V G K 5 1 6 38 [some (.ref (F.1 0)), some (.ref sc), some (.int (nI i)), some (.int (nI p_12)), some (.int r_26)] [.int (nI 15)] (flt [FW G F s D])
    refine V.tableIn hC (x := nI 15) (off := 186) 224 dL_any_38 (by decide) (by decide) (by decide) rfl ?_
    refine V.aload_n hC (x := (F.1 0)) dL_any_224 rfl ?_
    refine V.iconst hC 5 dL_any_225 rfl ?_
    refine V.iload_n hC (x := nI p_12) dL_any_226 rfl ?_
    refine V.iload hC (x := r_26) dL_any_227 rfl ?_
    refine V.iconst hC 0 dL_any_229 rfl ?_
    refine V.callSBWN (n := 5) (As := [.ref (F.1 0), .int 5, .int (nI p_12), .int r_26, .int 0]) (rest := []) hC (l_deed (kl K) G hst F s D B hok 5 (by decide) (nI p_12) r_26 0) (SFt.k G) hgot (gx2 gL_any_L_deed) rfl ⟨rfl, rfl⟩ (by decide +kernel) ⟨by decide, by decide, by decide, by decide⟩ (L := [FW G F s D]) (N := 1) rfl [0] [] (by decide) rfl (fun u_230 : ASt × DX => [FW G F u_230.1 u_230.2]) (fun _ => rfl) rfl rfl (Nat.le_of_ble_eq_true rfl) dL_any_230 (fun r_230 u_230 hp_230 => ?_)
    show V G K 5 2 12 233 [some (.ref (F.1 0)), some (.ref sc), some (.int (nI i)), some (.int (nI p_12)), some (.int r_26)] [.int r_230] (flt [FW G F u_230.1 u_230.2])
    exact hE 233 _ r_230 u_230 dL_any_233 rfl hp_230
  · show V G K 5 1 6 38 [some (.ref (F.1 0)), some (.ref sc), some (.int (nI i)), some (.int (nI p_12)), some (.int r_26)] [.int (nI 16)] (flt [FW G F s D])
    refine V.tableIn hC (x := nI 16) (off := 196) 234 dL_any_38 (by decide) (by decide) (by decide) rfl ?_
    refine V.aload_n hC (x := (F.1 0)) dL_any_234 rfl ?_
    refine V.bipush hC 6 dL_any_235 rfl ?_
    refine V.iload hC (x := r_26) dL_any_237 rfl ?_
    refine V.aload_n hC (x := sc) dL_any_239 rfl ?_
    refine V.iload_n hC (x := nI i) dL_any_240 rfl ?_
    refine V.iconst hC 3 dL_any_241 rfl ?_
    refine V.iaddN hC i 3 dL_any_242 rfl rfl ?_
    refine V.bipush hC 97 dL_any_243 rfl ?_
    refine V.callSBN (n := 3) (As := [.ref sc, .int (nI (i + 3)), .int 97]) (rest := [.int r_26, .int 6, .ref (F.1 0)]) hC (l_pick (kl K) G sc len xs hlen (i + 3) (by omega) 97 (by decide) (by decide)) (SFs.k G sc len xs) hgos (gx2 gL_any_L_pick) rfl ⟨rfl, rfl⟩ (by decide +kernel) ⟨by decide, by decide, by decide, by decide⟩ (L := [FW G F s D]) (N := 1) rfl [] [0] (by decide) rfl (fun _ : Unit => []) (fun _ => rfl) rfl rfl (Nat.le_of_ble_eq_true rfl) dL_any_245 (fun r_245 u_245 hp_245 => ?_)
    obtain ⟨p_245, hp_245, e_p_245⟩ := hp_245
    subst e_p_245
    show V G K 5 1 6 248 [some (.ref (F.1 0)), some (.ref sc), some (.int (nI i)), some (.int (nI p_12)), some (.int r_26)] [.int (nI p_245), .int r_26, .int 6, .ref (F.1 0)] (flt [FW G F s D])
    refine V.iconst hC 0 dL_any_248 rfl ?_
    refine V.callSBWN (n := 5) (As := [.ref (F.1 0), .int 6, .int r_26, .int (nI p_245), .int 0]) (rest := []) hC (l_deed (kl K) G hst F s D B hok 6 (by decide) r_26 (nI p_245) 0) (SFt.k G) hgot (gx2 gL_any_L_deed) rfl ⟨rfl, rfl⟩ (by decide +kernel) ⟨by decide, by decide, by decide, by decide⟩ (L := [FW G F s D]) (N := 1) rfl [0] [] (by decide) rfl (fun u_249 : ASt × DX => [FW G F u_249.1 u_249.2]) (fun _ => rfl) rfl rfl (Nat.le_of_ble_eq_true rfl) dL_any_249 (fun r_249 u_249 hp_249 => ?_)
    show V G K 5 2 12 252 [some (.ref (F.1 0)), some (.ref sc), some (.int (nI i)), some (.int (nI p_12)), some (.int r_26)] [.int r_249] (flt [FW G F u_249.1 u_249.2])
    exact hE 252 _ r_249 u_249 dL_any_252 rfl hp_249
  · show V G K 5 1 6 38 [some (.ref (F.1 0)), some (.ref sc), some (.int (nI i)), some (.int (nI p_12)), some (.int r_26)] [.int (nI 17)] (flt [FW G F s D])
    refine V.tableIn hC (x := nI 17) (off := 196) 234 dL_any_38 (by decide) (by decide) (by decide) rfl ?_
    refine V.aload_n hC (x := (F.1 0)) dL_any_234 rfl ?_
    refine V.bipush hC 6 dL_any_235 rfl ?_
    refine V.iload hC (x := r_26) dL_any_237 rfl ?_
    refine V.aload_n hC (x := sc) dL_any_239 rfl ?_
    refine V.iload_n hC (x := nI i) dL_any_240 rfl ?_
    refine V.iconst hC 3 dL_any_241 rfl ?_
    refine V.iaddN hC i 3 dL_any_242 rfl rfl ?_
    refine V.bipush hC 97 dL_any_243 rfl ?_
    refine V.callSBN (n := 3) (As := [.ref sc, .int (nI (i + 3)), .int 97]) (rest := [.int r_26, .int 6, .ref (F.1 0)]) hC (l_pick (kl K) G sc len xs hlen (i + 3) (by omega) 97 (by decide) (by decide)) (SFs.k G sc len xs) hgos (gx2 gL_any_L_pick) rfl ⟨rfl, rfl⟩ (by decide +kernel) ⟨by decide, by decide, by decide, by decide⟩ (L := [FW G F s D]) (N := 1) rfl [] [0] (by decide) rfl (fun _ : Unit => []) (fun _ => rfl) rfl rfl (Nat.le_of_ble_eq_true rfl) dL_any_245 (fun r_245 u_245 hp_245 => ?_)
    obtain ⟨p_245_1, hp_245_1, e_p_245_1⟩ := hp_245
    subst e_p_245_1
    show V G K 5 1 6 248 [some (.ref (F.1 0)), some (.ref sc), some (.int (nI i)), some (.int (nI p_12)), some (.int r_26)] [.int (nI p_245_1), .int r_26, .int 6, .ref (F.1 0)] (flt [FW G F s D])
    refine V.iconst hC 0 dL_any_248 rfl ?_
    refine V.callSBWN (n := 5) (As := [.ref (F.1 0), .int 6, .int r_26, .int (nI p_245_1), .int 0]) (rest := []) hC (l_deed (kl K) G hst F s D B hok 6 (by decide) r_26 (nI p_245_1) 0) (SFt.k G) hgot (gx2 gL_any_L_deed) rfl ⟨rfl, rfl⟩ (by decide +kernel) ⟨by decide, by decide, by decide, by decide⟩ (L := [FW G F s D]) (N := 1) rfl [0] [] (by decide) rfl (fun u_249 : ASt × DX => [FW G F u_249.1 u_249.2]) (fun _ => rfl) rfl rfl (Nat.le_of_ble_eq_true rfl) dL_any_249 (fun r_249 u_249 hp_249 => ?_)
    show V G K 5 2 12 252 [some (.ref (F.1 0)), some (.ref sc), some (.int (nI i)), some (.int (nI p_12)), some (.int r_26)] [.int r_249] (flt [FW G F u_249.1 u_249.2])
    exact hE 252 _ r_249 u_249 dL_any_252 rfl hp_249
  · show V G K 5 1 6 38 [some (.ref (F.1 0)), some (.ref sc), some (.int (nI i)), some (.int (nI p_12)), some (.int r_26)] [.int (nI 18)] (flt [FW G F s D])
    refine V.tableIn hC (x := nI 18) (off := 196) 234 dL_any_38 (by decide) (by decide) (by decide) rfl ?_
    refine V.aload_n hC (x := (F.1 0)) dL_any_234 rfl ?_
    refine V.bipush hC 6 dL_any_235 rfl ?_
    refine V.iload hC (x := r_26) dL_any_237 rfl ?_
    refine V.aload_n hC (x := sc) dL_any_239 rfl ?_
    refine V.iload_n hC (x := nI i) dL_any_240 rfl ?_
    refine V.iconst hC 3 dL_any_241 rfl ?_
    refine V.iaddN hC i 3 dL_any_242 rfl rfl ?_
    refine V.bipush hC 97 dL_any_243 rfl ?_
    refine V.callSBN (n := 3) (As := [.ref sc, .int (nI (i + 3)), .int 97]) (rest := [.int r_26, .int 6, .ref (F.1 0)]) hC (l_pick (kl K) G sc len xs hlen (i + 3) (by omega) 97 (by decide) (by decide)) (SFs.k G sc len xs) hgos (gx2 gL_any_L_pick) rfl ⟨rfl, rfl⟩ (by decide +kernel) ⟨by decide, by decide, by decide, by decide⟩ (L := [FW G F s D]) (N := 1) rfl [] [0] (by decide) rfl (fun _ : Unit => []) (fun _ => rfl) rfl rfl (Nat.le_of_ble_eq_true rfl) dL_any_245 (fun r_245 u_245 hp_245 => ?_)
    obtain ⟨p_245_2, hp_245_2, e_p_245_2⟩ := hp_245
    subst e_p_245_2
    show V G K 5 1 6 248 [some (.ref (F.1 0)), some (.ref sc), some (.int (nI i)), some (.int (nI p_12)), some (.int r_26)] [.int (nI p_245_2), .int r_26, .int 6, .ref (F.1 0)] (flt [FW G F s D])
    refine V.iconst hC 0 dL_any_248 rfl ?_
    refine V.callSBWN (n := 5) (As := [.ref (F.1 0), .int 6, .int r_26, .int (nI p_245_2), .int 0]) (rest := []) hC (l_deed (kl K) G hst F s D B hok 6 (by decide) r_26 (nI p_245_2) 0) (SFt.k G) hgot (gx2 gL_any_L_deed) rfl ⟨rfl, rfl⟩ (by decide +kernel) ⟨by decide, by decide, by decide, by decide⟩ (L := [FW G F s D]) (N := 1) rfl [0] [] (by decide) rfl (fun u_249 : ASt × DX => [FW G F u_249.1 u_249.2]) (fun _ => rfl) rfl rfl (Nat.le_of_ble_eq_true rfl) dL_any_249 (fun r_249 u_249 hp_249 => ?_)
    show V G K 5 2 12 252 [some (.ref (F.1 0)), some (.ref sc), some (.int (nI i)), some (.int (nI p_12)), some (.int r_26)] [.int r_249] (flt [FW G F u_249.1 u_249.2])
    exact hE 252 _ r_249 u_249 dL_any_252 rfl hp_249
  · show V G K 5 1 6 38 [some (.ref (F.1 0)), some (.ref sc), some (.int (nI i)), some (.int (nI p_12)), some (.int r_26)] [.int (nI 19)] (flt [FW G F s D])
    refine V.tableOut hC (x := nI 19) 253 dL_any_38 (by decide) rfl ?_
    refine V.aload_n hC (x := (F.1 0)) dL_any_253 rfl ?_
    refine V.bipush hC 7 dL_any_254 rfl ?_
    refine V.iload hC (x := r_26) dL_any_256 rfl ?_
    refine V.iconst hC 0 dL_any_258 rfl ?_
    refine V.iconst hC 0 dL_any_259 rfl ?_
    refine V.callSBWN (n := 5) (As := [.ref (F.1 0), .int 7, .int r_26, .int 0, .int 0]) (rest := []) hC (l_deed (kl K) G hst F s D B hok 7 (by decide) r_26 0 0) (SFt.k G) hgot (gx2 gL_any_L_deed) rfl ⟨rfl, rfl⟩ (by decide +kernel) ⟨by decide, by decide, by decide, by decide⟩ (L := [FW G F s D]) (N := 1) rfl [0] [] (by decide) rfl (fun u_260 : ASt × DX => [FW G F u_260.1 u_260.2]) (fun _ => rfl) rfl rfl (Nat.le_of_ble_eq_true rfl) dL_any_260 (fun r_260 u_260 hp_260 => ?_)
    show V G K 5 2 12 263 [some (.ref (F.1 0)), some (.ref sc), some (.int (nI i)), some (.int (nI p_12)), some (.int r_26)] [.int r_260] (flt [FW G F u_260.1 u_260.2])
    exact hE 263 _ r_260 u_260 dL_any_263 rfl hp_260

set_option maxHeartbeats 16000000 in
set_option maxRecDepth 100000 in
theorem l_looks (l : Launch) (G : Gx) (hst : l.stackTraces = false) (F : FX) (s : ASt) (D : DX) (B : Nat) (hok : FOk B s D) (hB : B < 10000) : Ct l G (SFt G) yL_looks (wsL_looks ++ hx9) ({ frames := 11, cells := 170, slots := 1000, locals := 196 }) [.ref (F.1 0)] (flt [FW G F s D]) mkI (fun (r : Int32) (u : DX) => r = lk2 s (sNs s) ∧ DK D u) (fun u : DX => flt [FW G F s u]) 170 1000 := by
  refine Ct.ofI (cc := cL_looks) (maxL := 5) (by decide) rfl ⟨by simp [Value.category], Nat.le_of_ble_eq_true rfl⟩ ?_
  intro K hl hC hSF hnm hE
  subst hl
  have hgot := SFgoS (SFt.k G) hSF
  have hgo := SFgo.x hgot
  have hSFt := hSF
  replace hSF := hSF.1
  show V G K 5 0 0 0 [some (.ref (F.1 0)), none, none, none, none] [] (flt [FW G F s D])
  have h8 : sNb s ≤ 8 := hok.1.1
  have hs6 : sNs s ≤ 6 := hok.1.2.1
  refine V.bipush hC 31 dL_looks_0 rfl ?_
  refine V.bipush hC 31 dL_looks_2 rfl ?_
  refine V.aload_n hC (x := (F.1 0)) dL_looks_4 rfl ?_
  refine V.callVBN (n := 0) (As := []) (rest := [.int 31, .int 31]) hC (f_birdCount (kl K) G hst F s D B hok) (SFt.k G) hgot (gx1 gL_looks_X12_birdCount) rfl ⟨rfl, rfl⟩ (by decide +kernel) ⟨by decide, by decide, by decide, by decide⟩ (L := [FW G F s D]) (N := 1) rfl [0] [] (by decide) (List.append_nil (FW G F s D)) (fun _ : Unit => [FW G F s D]) (fun _ => List.append_nil (FW G F s D)) rfl rfl rfl rfl (Nat.le_of_ble_eq_true rfl) dL_looks_5 (fun r_5 u_5 hp_5 => ?_)
  subst hp_5
  show V G K 5 0 0 8 [some (.ref (F.1 0)), none, none, none, none] [.int (nI (sNb s)), .int 31, .int 31] (flt [FW G F s D])
  refine V.imulN hC 31 (sNb s) dL_looks_8 rfl rfl ?_
  refine V.aload_n hC (x := (F.1 0)) dL_looks_9 rfl ?_
  refine V.callVBN (n := 0) (As := []) (rest := [.int (nI (31 * (sNb s))), .int 31]) hC (f_secretCount (kl K) G hst F s D B hok) (SFt.k G) hgot (gx1 gL_looks_X12_secretCount) rfl ⟨rfl, rfl⟩ (by decide +kernel) ⟨by decide, by decide, by decide, by decide⟩ (L := [FW G F s D]) (N := 1) rfl [0] [] (by decide) (List.append_nil (FW G F s D)) (fun _ : Unit => [FW G F s D]) (fun _ => List.append_nil (FW G F s D)) rfl rfl rfl rfl (Nat.le_of_ble_eq_true rfl) dL_looks_10 (fun r_10 u_10 hp_10 => ?_)
  subst hp_10
  show V G K 5 0 0 13 [some (.ref (F.1 0)), none, none, none, none] [.int (nI (sNs s)), .int (nI (31 * (sNb s))), .int 31] (flt [FW G F s D])
  refine V.iaddN hC (31 * (sNb s)) (sNs s) dL_looks_13 rfl rfl ?_
  refine V.imulN hC 31 ((31 * (sNb s)) + (sNs s)) dL_looks_14 rfl rfl ?_
  refine V.aload_n hC (x := (F.1 0)) dL_looks_15 rfl ?_
  refine V.callVBN (n := 0) (As := []) (rest := [.int (nI (31 * ((31 * (sNb s)) + (sNs s))))]) hC (f_lostTotal (kl K) G hst F s D B hok) (SFt.k G) hgot (gx1 gL_looks_X12_lostTotal) rfl ⟨rfl, rfl⟩ (by decide +kernel) ⟨by decide, by decide, by decide, by decide⟩ (L := [FW G F s D]) (N := 1) rfl [0] [] (by decide) (List.append_nil (FW G F s D)) (fun _ : Unit => [FW G F s D]) (fun _ => List.append_nil (FW G F s D)) rfl rfl rfl rfl (Nat.le_of_ble_eq_true rfl) dL_looks_16 (fun r_16 u_16 hp_16 => ?_)
  subst hp_16
  show V G K 5 0 0 19 [some (.ref (F.1 0)), none, none, none, none] [.long (sLo s), .int (nI (31 * ((31 * (sNb s)) + (sNs s))))] (flt [FW G F s D])
  refine V.l2i hC dL_looks_19 ?_
  refine V.iadd hC dL_looks_20 ?_
  refine V.istore_n hC dL_looks_21 [some (.ref (F.1 0)), some (.int ((nI (31 * ((31 * (sNb s)) + (sNs s)))) + ((sLo s).toInt32))), none, none, none] (Nat.le_of_ble_eq_true rfl) rfl ?_
  refine V.iconst hC 0 dL_looks_22 rfl ?_
  refine V.istore_n hC dL_looks_23 [some (.ref (F.1 0)), some (.int ((nI (31 * ((31 * (sNb s)) + (sNs s)))) + ((sLo s).toInt32))), some (.int 0), none, none] (Nat.le_of_ble_eq_true rfl) rfl ?_
  have loop24 : ∀ (n : Nat) (b : Nat), 8 - b < n → (b ≤ sNb s) → V G K 5 (b) (6 * b) 24 [some (.ref (F.1 0)), some (.int (lk1 s b)), some (.int (nI b)), none, none] [] (flt [FW G F s D]) := by
    intro n
    induction n with
    | zero => intro b hlt; exact absurd hlt (Nat.not_lt_zero _)
    | succ n ih24 =>
      intro b hlt24 hb
      refine V.iload_n hC (x := nI b) dL_looks_24 rfl ?_
      refine V.aload_n hC (x := (F.1 0)) dL_looks_25 rfl ?_
      refine V.callVBN (n := 0) (As := []) (rest := [.int (nI b)]) hC (f_birdCount (kl K) G hst F s D B hok) (SFt.k G) hgot (gx1 gL_looks_X12_birdCount) rfl ⟨rfl, rfl⟩ (by decide +kernel) ⟨by decide, by decide, by show _ ≤ 170; omega, by show _ ≤ 1000; omega⟩ (L := [FW G F s D]) (N := 1) rfl [0] [] (by decide) (List.append_nil (FW G F s D)) (fun _ : Unit => [FW G F s D]) (fun _ => List.append_nil (FW G F s D)) rfl rfl rfl rfl (Nat.le_of_ble_eq_true rfl) dL_looks_26 (fun r_26 u_26 hp_26 => ?_)
      subst hp_26
      show V G K 5 (b) (6 * b) 29 [some (.ref (F.1 0)), some (.int (lk1 s b)), some (.int (nI b)), none, none] [.int (nI (sNb s)), .int (nI b)] (flt [FW G F s D])
      refine V.icmpN_ge hC b (sNb s) 49 dL_looks_29 rfl rfl rfl (by omega) (by omega) (fun c_29 => ?_) (fun c_29 => ?_)
      · obtain rfl : b = sNb s := by omega
        refine V.iconst hC 0 dL_looks_49 rfl ?_
        refine V.istore_n hC dL_looks_50 [some (.ref (F.1 0)), some (.int (lk1 s (sNb s))), some (.int 0), none, none] (Nat.le_of_ble_eq_true rfl) rfl ?_
        have loop51 : ∀ (n : Nat) (k : Nat) (D1 : DX), 6 - k < n → (k ≤ sNs s) → (DK D D1) → V G K 5 (8 + 26 * k) (48 + 156 * k) 51 [some (.ref (F.1 0)), some (.int (lk2 s k)), some (.int (nI k)), none, none] [] (flt [FW G F s D1]) := by
          intro n
          induction n with
          | zero => intro k D1 hlt; exact absurd hlt (Nat.not_lt_zero _)
          | succ n ih51 =>
            intro k D1 hlt51 hk hd_D1
            refine V.iload_n hC (x := nI k) dL_looks_51 rfl ?_
            refine V.aload_n hC (x := (F.1 0)) dL_looks_52 rfl ?_
            refine V.callVBN (n := 0) (As := []) (rest := [.int (nI k)]) hC (f_secretCount (kl K) G hst F s D1 B (hok.k hd_D1)) (SFt.k G) hgot (gx1 gL_looks_X12_secretCount) rfl ⟨rfl, rfl⟩ (by decide +kernel) ⟨by decide, by decide, by show _ ≤ 170; omega, by show _ ≤ 1000; omega⟩ (L := [FW G F s D1]) (N := 1) rfl [0] [] (by decide) (List.append_nil (FW G F s D1)) (fun _ : Unit => [FW G F s D1]) (fun _ => List.append_nil (FW G F s D1)) rfl rfl rfl rfl (Nat.le_of_ble_eq_true rfl) dL_looks_53 (fun r_53 u_53 hp_53 => ?_)
            subst hp_53
            show V G K 5 (8 + 26 * k) (48 + 156 * k) 56 [some (.ref (F.1 0)), some (.int (lk2 s k)), some (.int (nI k)), none, none] [.int (nI (sNs s)), .int (nI k)] (flt [FW G F s D1])
            refine V.icmpN_ge hC k (sNs s) 119 dL_looks_56 rfl rfl rfl (by omega) (by omega) (fun c_56 => ?_) (fun c_56 => ?_)
            · obtain rfl : k = sNs s := by omega
              refine V.iload_n hC (x := lk2 s (sNs s)) dL_looks_119 rfl ?_
              refine V.widen (k := 170) (n := 1000) (by omega) (by omega) ?_
              exact hE 120 _ (lk2 s (sNs s)) D1 dL_looks_120 rfl ⟨rfl, hd_D1⟩
            · refine V.aload_n hC (x := (F.1 0)) dL_looks_59 rfl ?_
              refine V.iload_n hC (x := nI k) dL_looks_60 rfl ?_
              refine V.callVBXN (n := 1) (As := [.int (nI k)]) (rest := []) hC (f_secretAt (kl K) G hst F s D1 B (hok.k hd_D1) (nI k)) (SFt.k G) hgot (gx1 gL_looks_X12_secretAt) rfl ⟨rfl, rfl⟩ (by decide +kernel) ⟨by decide, by decide, by show _ ≤ 170; omega, by show _ ≤ 1000; omega⟩ (L := [FW G F s D1]) (N := 1) rfl [0] [] (by decide) (List.append_nil (FW G F s D1)) (fun _ : Unit => [FW G F s D1]) (fun _ => List.append_nil (FW G F s D1)) (fun _ : Unit => [FW G F s D1]) (fun _ => List.append_nil (FW G F s D1)) rfl rfl rfl rfl (Nat.le_of_ble_eq_true rfl) dL_looks_61 (fun E_ u_ hx_ => (XE_no hx_ (qSecAt_ok hs6 c_56)).elim) (fun r_61 u_61 hp_61 => ?_)
              obtain rfl : sNu s k = r_61 := congrArg Prod.snd ((qSecAt_ok hs6 c_56).symm.trans hp_61)
              show V G K 5 (8 + 26 * k + 1) (48 + 156 * k + 6) 64 [some (.ref (F.1 0)), some (.int (lk2 s k)), some (.int (nI k)), none, none] [.int (sNu s k)] (flt [FW G F s D1])
              refine V.istore_n hC dL_looks_64 [some (.ref (F.1 0)), some (.int (lk2 s k)), some (.int (nI k)), some (.int (sNu s k)), none] (Nat.le_of_ble_eq_true rfl) rfl ?_
              refine V.bipush hC 31 dL_looks_65 rfl ?_
              refine V.bipush hC 31 dL_looks_67 rfl ?_
              refine V.iload_n hC (x := lk2 s k) dL_looks_69 rfl ?_
              refine V.imul hC dL_looks_70 ?_
              refine V.iload_n hC (x := sNu s k) dL_looks_71 rfl ?_
              refine V.iadd hC dL_looks_72 ?_
              refine V.imul hC dL_looks_73 ?_
              refine V.aload_n hC (x := (F.1 0)) dL_looks_74 rfl ?_
              refine V.iload_n hC (x := sNu s k) dL_looks_75 rfl ?_
              refine V.callVBXN (n := 1) (As := [.int (sNu s k)]) (rest := [.int (31 * ((31 * (lk2 s k)) + (sNu s k)))]) hC (f_threshold (kl K) G hst F s D1 B (hok.k hd_D1) (sNu s k)) (SFt.k G) hgot (gx1 gL_looks_X12_threshold) rfl ⟨rfl, rfl⟩ (by decide +kernel) ⟨by decide, by decide, by show _ ≤ 170; omega, by show _ ≤ 1000; omega⟩ (L := [FW G F s D1]) (N := 1) rfl [0] [] (by decide) (List.append_nil (FW G F s D1)) (fun _ : Unit => [FW G F s D1]) (fun _ => List.append_nil (FW G F s D1)) (fun _ : Unit => [FW G F s D1]) (fun _ => List.append_nil (FW G F s D1)) rfl rfl rfl rfl (Nat.le_of_ble_eq_true rfl) dL_looks_76 (fun E_ u_ hx_ => (XE_no hx_ (qThr_ok (fd_own hok.1 hB c_56))).elim) (fun r_76 u_76 hp_76 => ?_)
              obtain rfl : nI (sTn s k) = r_76 := congrArg Prod.snd ((qThr_ok (fd_own hok.1 hB c_56)).symm.trans hp_76)
              show V G K 5 (8 + 26 * k + 1 + 1) (48 + 156 * k + 6 + 6) 79 [some (.ref (F.1 0)), some (.int (lk2 s k)), some (.int (nI k)), some (.int (sNu s k)), none] [.int (nI (sTn s k)), .int (31 * ((31 * (lk2 s k)) + (sNu s k)))] (flt [FW G F s D1])
              refine V.iadd hC dL_looks_79 ?_
              refine V.istore_n hC dL_looks_80 [some (.ref (F.1 0)), some (.int ((31 * ((31 * (lk2 s k)) + (sNu s k))) + (nI (sTn s k)))), some (.int (nI k)), some (.int (sNu s k)), none] (Nat.le_of_ble_eq_true rfl) rfl ?_
              refine V.iconst hC 0 dL_looks_81 rfl ?_
              refine V.istore hC dL_looks_82 [some (.ref (F.1 0)), some (.int ((31 * ((31 * (lk2 s k)) + (sNu s k))) + (nI (sTn s k)))), some (.int (nI k)), some (.int (sNu s k)), some (.int 0)] (Nat.le_of_ble_eq_true rfl) rfl ?_
              have loop84 : ∀ (n : Nat) (b2 : Nat) (D2 : DX), 8 - b2 < n → (b2 ≤ sNb s) → (DK D D2) → V G K 5 (10 + 26 * k + 3 * b2) (60 + 156 * k + 18 * b2) 84 [some (.ref (F.1 0)), some (.int (lk3 s k (31 * (31 * (lk2 s k) + sNu s k) + nI (sTn s k)) b2)), some (.int (nI k)), some (.int (sNu s k)), some (.int (nI b2))] [] (flt [FW G F s D2]) := by
                intro n
                induction n with
                | zero => intro b2 D2 hlt; exact absurd hlt (Nat.not_lt_zero _)
                | succ n ih84 =>
                  intro b2 D2 hlt84 hb2 hd_D2
                  refine V.iload hC (x := nI b2) dL_looks_84 rfl ?_
                  refine V.aload_n hC (x := (F.1 0)) dL_looks_86 rfl ?_
                  refine V.callVBN (n := 0) (As := []) (rest := [.int (nI b2)]) hC (f_birdCount (kl K) G hst F s D2 B (hok.k hd_D2)) (SFt.k G) hgot (gx1 gL_looks_X12_birdCount) rfl ⟨rfl, rfl⟩ (by decide +kernel) ⟨by decide, by decide, by show _ ≤ 170; omega, by show _ ≤ 1000; omega⟩ (L := [FW G F s D2]) (N := 1) rfl [0] [] (by decide) (List.append_nil (FW G F s D2)) (fun _ : Unit => [FW G F s D2]) (fun _ => List.append_nil (FW G F s D2)) rfl rfl rfl rfl (Nat.le_of_ble_eq_true rfl) dL_looks_87 (fun r_87 u_87 hp_87 => ?_)
                  subst hp_87
                  show V G K 5 (10 + 26 * k + 3 * b2) (60 + 156 * k + 18 * b2) 90 [some (.ref (F.1 0)), some (.int (lk3 s k (31 * (31 * (lk2 s k) + sNu s k) + nI (sTn s k)) b2)), some (.int (nI k)), some (.int (sNu s k)), some (.int (nI b2))] [.int (nI (sNb s)), .int (nI b2)] (flt [FW G F s D2])
                  refine V.icmpN_ge hC b2 (sNb s) 113 dL_looks_90 rfl rfl rfl (by omega) (by omega) (fun c_90 => ?_) (fun c_90 => ?_)
                  · obtain rfl : b2 = sNb s := by omega
                    refine V.iincN hC k 1 dL_looks_113 rfl [some (.ref (F.1 0)), some (.int (lk3 s k (31 * (31 * (lk2 s k) + sNu s k) + nI (sTn s k)) (sNb s))), some (.int (nI (k + 1))), some (.int (sNu s k)), some (.int (nI (sNb s)))] (Nat.le_of_ble_eq_true rfl) rfl rfl rfl ?_
                    refine V.goto hC 51 dL_looks_116 rfl ?_
                    refine V.drop 3 (lv' := [some (.ref (F.1 0)), some (.int (lk3 s k (31 * (31 * (lk2 s k) + sNu s k) + nI (sTn s k)) (sNb s))), some (.int (nI (k + 1))), none, some (.int (nI (sNb s)))]) rfl ?_
                    refine V.drop 4 (lv' := [some (.ref (F.1 0)), some (.int (lk3 s k (31 * (31 * (lk2 s k) + sNu s k) + nI (sTn s k)) (sNb s))), some (.int (nI (k + 1))), none, none]) rfl ?_
                    refine V.widen (k := 8 + 26 * (k + 1)) (n := 48 + 156 * (k + 1)) (by omega) (by omega) ?_
                    exact ih51 (k + 1) D2 (by omega) (by omega) hd_D2
                  · refine V.bipush hC 31 dL_looks_93 rfl ?_
                    refine V.iload_n hC (x := lk3 s k (31 * (31 * (lk2 s k) + sNu s k) + nI (sTn s k)) b2) dL_looks_95 rfl ?_
                    refine V.imul hC dL_looks_96 ?_
                    refine V.aload_n hC (x := (F.1 0)) dL_looks_97 rfl ?_
                    refine V.iconst hC 4 dL_looks_98 rfl ?_
                    refine V.iload hC (x := nI b2) dL_looks_99 rfl ?_
                    refine V.iload_n hC (x := sNu s k) dL_looks_101 rfl ?_
                    refine V.callSBWN (n := 4) (As := [.ref (F.1 0), .int 4, .int (nI b2), .int (sNu s k)]) (rest := [.int (31 * (lk3 s k (31 * (31 * (lk2 s k) + sNu s k) + nI (sTn s k)) b2))]) hC (l_ask (kl K) G hst F s D2 B (hok.k hd_D2) 4 (by decide) (nI b2) (sNu s k)) (SFt.k G) hgot (gx2 gL_looks_L_ask) rfl ⟨rfl, rfl⟩ (by decide +kernel) ⟨by decide, by decide, by show _ ≤ 170; omega, by show _ ≤ 1000; omega⟩ (L := [FW G F s D2]) (N := 1) rfl [0] [] (by decide) rfl (fun u_102 : DX => [FW G F s u_102]) (fun _ => rfl) rfl rfl (Nat.le_of_ble_eq_true rfl) dL_looks_102 (fun r_102 u_102 hp_102 => ?_)
                    obtain ⟨e_102, hd3_⟩ := hp_102
                    subst e_102
                    show V G K 5 (10 + 26 * k + 3 * b2 + 3) (60 + 156 * k + 18 * b2 + 18) 105 [some (.ref (F.1 0)), some (.int (lk3 s k (31 * (31 * (lk2 s k) + sNu s k) + nI (sTn s k)) b2)), some (.int (nI k)), some (.int (sNu s k)), some (.int (nI b2))] [.int (askV (exA 4) (qA 4 s (nI b2) (sNu s k))), .int (31 * (lk3 s k (31 * (31 * (lk2 s k) + sNu s k) + nI (sTn s k)) b2))] (flt [FW G F s u_102])
                    refine V.iadd hC dL_looks_105 ?_
                    refine V.istore_n hC dL_looks_106 [some (.ref (F.1 0)), some (.int ((31 * (lk3 s k (31 * (31 * (lk2 s k) + sNu s k) + nI (sTn s k)) b2)) + (askV (exA 4) (qA 4 s (nI b2) (sNu s k))))), some (.int (nI k)), some (.int (sNu s k)), some (.int (nI b2))] (Nat.le_of_ble_eq_true rfl) rfl ?_
                    refine V.iincN hC b2 1 dL_looks_107 rfl [some (.ref (F.1 0)), some (.int ((31 * (lk3 s k (31 * (31 * (lk2 s k) + sNu s k) + nI (sTn s k)) b2)) + (askV (exA 4) (qA 4 s (nI b2) (sNu s k))))), some (.int (nI k)), some (.int (sNu s k)), some (.int (nI (b2 + 1)))] (Nat.le_of_ble_eq_true rfl) rfl rfl rfl ?_
                    refine V.goto hC 84 dL_looks_110 rfl ?_
                    refine V.widen (k := 10 + 26 * k + 3 * (b2 + 1)) (n := 60 + 156 * k + 18 * (b2 + 1)) (by omega) (by omega) ?_
                    exact ih84 (b2 + 1) u_102 (by omega) (by omega) (hd_D2.trans hd3_)
              refine V.widen (k := 10 + 26 * k + 3 * 0) (n := 60 + 156 * k + 18 * 0) (by omega) (by omega) ?_
              exact loop84 _ 0 D1 (Nat.lt_succ_self _) (Nat.zero_le _) hd_D1
        refine V.widen (k := 8 + 26 * 0) (n := 48 + 156 * 0) (by omega) (by omega) ?_
        exact loop51 _ 0 D (Nat.lt_succ_self _) (Nat.zero_le _) (DK.refl hok)
      · refine V.bipush hC 31 dL_looks_32 rfl ?_
        refine V.iload_n hC (x := lk1 s b) dL_looks_34 rfl ?_
        refine V.imul hC dL_looks_35 ?_
        refine V.aload_n hC (x := (F.1 0)) dL_looks_36 rfl ?_
        refine V.iload_n hC (x := nI b) dL_looks_37 rfl ?_
        refine V.callVBXN (n := 1) (As := [.int (nI b)]) (rest := [.int (31 * (lk1 s b))]) hC (f_nestOf (kl K) G hst F s D B hok (nI b)) (SFt.k G) hgot (gx1 gL_looks_X12_nestOf) rfl ⟨rfl, rfl⟩ (by decide +kernel) ⟨by decide, by decide, by show _ ≤ 170; omega, by show _ ≤ 1000; omega⟩ (L := [FW G F s D]) (N := 1) rfl [0] [] (by decide) (List.append_nil (FW G F s D)) (fun _ : Unit => [FW G F s D]) (fun _ => List.append_nil (FW G F s D)) (fun _ : Unit => [FW G F s D]) (fun _ => List.append_nil (FW G F s D)) rfl rfl rfl rfl (Nat.le_of_ble_eq_true rfl) dL_looks_38 (fun E_ u_ hx_ => (XE_no hx_ (qNest_ok h8 c_29)).elim) (fun r_38 u_38 hp_38 => ?_)
        obtain rfl : sHm s b = r_38 := congrArg Prod.snd ((qNest_ok h8 c_29).symm.trans hp_38)
        show V G K 5 (b + 1) (6 * b + 6) 41 [some (.ref (F.1 0)), some (.int (lk1 s b)), some (.int (nI b)), none, none] [.int (sHm s b), .int (31 * (lk1 s b))] (flt [FW G F s D])
        refine V.iadd hC dL_looks_41 ?_
        refine V.istore_n hC dL_looks_42 [some (.ref (F.1 0)), some (.int ((31 * (lk1 s b)) + (sHm s b))), some (.int (nI b)), none, none] (Nat.le_of_ble_eq_true rfl) rfl ?_
        refine V.iincN hC b 1 dL_looks_43 rfl [some (.ref (F.1 0)), some (.int ((31 * (lk1 s b)) + (sHm s b))), some (.int (nI (b + 1))), none, none] (Nat.le_of_ble_eq_true rfl) rfl rfl rfl ?_
        refine V.goto hC 24 dL_looks_46 rfl ?_
        refine V.widen (k := (b + 1)) (n := 6 * (b + 1)) (by omega) (by omega) ?_
        exact ih24 (b + 1) (by omega) (by omega)
  refine V.widen (k := 0) (n := 6 * 0) (by omega) (by omega) ?_
  refine V.lset 1 (x := .int (nI (31 * (31 * sNb s + sNs s)) + (sLo s).toInt32)) (y := .int (lk1 s 0)) (congrArg Value.int (by have mu : ∀ a b : Nat, nI a * nI b = nI (a * b) := fun a b => (Int32.ofNat_mul a b).symm; rw [lk1, show (31 : Int32) = nI 31 from rfl, mu, nI_add, mu])) rfl (lv' := [some (.ref (F.1 0)), some (.int (lk1 s 0)), some (.int (nI 0)), none, none]) rfl ?_
  exact loop24 _ 0 (Nat.lt_succ_self _) (Nat.zero_le _)
