/-! the law's own methods: a share lost and issued again (printed by gen/s73p.py) -/
theorem hc_lo {f g : Nat → Int32} {b : Nat} (h : ∀ j, j ≠ b → f j = g j) : ∀ n, n ≤ b → hc f n = hc g n
  | 0, _ => rfl
  | n + 1, q => by rw [hc, hc, hc_lo h n (by omega), h n (by omega)]
theorem hc_one {f g : Nat → Int32} {b : Nat} (h : ∀ j, j ≠ b → f j = g j) (hf : f b = -1) (hg : ¬ g b = -1) : ∀ n, b < n → hc f n + 1 = hc g n
  | 0, q => absurd q (by omega)
  | n + 1, q => by
    by_cases e : n = b
    · rw [hc, hc, e, hc_lo h b (Nat.le_refl b), if_pos hf, if_neg hg]
    · have := hc_one h hf hg n (by omega)
      rw [hc, hc, h n e]
      by_cases z : g n = -1
      · rw [if_pos z]
        omega
      · rw [if_neg z]
        omega
theorem hc_lose {sh : Nat → Int32} {b : Nat} (hb : b < 8) (h : ¬ sh b = -1) : hc (upd sh b (-1)) 8 + 1 = hc sh 8 := hc_one (fun j hj => pk_un hj) pk_us h 8 hb
theorem hc_put {sh : Nat → Int32} {b n : Nat} (hb : b < 8) (h : sh b = -1) (hn : n < 97) : hc sh 8 + 1 = hc (upd sh b (nI n)) 8 := hc_one (fun j hj => (pk_un hj).symm) h (by rw [pk_us]; exact nI_m1 (by omega)) 8 hb
theorem lag_lose {sh : Nat → Int32} {t b x : Nat} (hb : b < 8) (h : ¬ sh b = -1) (h4 : t ≤ 4) (hsp : t + 1 ≤ hc sh 8) (hu : unfA sh t = 0) (hx : x < 9) : lagS (fh (upd sh b (-1)) t 8) (svn (upd sh b (-1))) x = lagS (fh sh t 8) (svn sh) x := by
  have e1 : popb (fh sh t 8) 8 = t := by rw [F_pop sh t 8 (Nat.le_refl 8)]; omega
  have hl := hc_lose hb h
  have e2 : popb (fh (upd sh b (-1)) t 8) 8 = t := by rw [F_pop _ t 8 (Nat.le_refl 8)]; omega
  have key : ∀ j, j < 8 → fh (upd sh b (-1)) t 8 / 2 ^ j % 2 = 1 → j ≠ b := fun j hj z e => ((F_bit (upd sh b (-1)) t hj).mp z).1 (by rw [e]; exact pk_us)
  rw [lagS_congr (w := svn sh) (fun j hj z => by unfold svn; rw [pk_un (key j hj z)])]
  refine lagS_fit (H := fh sh 8 8) (F_lt sh t) (F_lt _ t) (by omega) (by rw [e1, e2]) (fun j hj z => (H_bit sh hj).mpr ?_) hu hx
  have q := ((F_bit (upd sh b (-1)) t hj).mp z).1
  rw [pk_un (key j hj z)] at q
  exact q
theorem lag_own {sh : Nat → Int32} {t b : Nat} (hb : b < 8) (h : ¬ sh b = -1) (hu : unfA sh t = 0) : lagS (fh sh t 8) (svn sh) (b + 1) = svn sh b := unf_0.mp hu b hb ((H_bit sh hb).mpr h)
theorem upd_back {sh : Nat → Int32} {b : Nat} : upd (upd sh b (-1)) b (sh b) = sh := by
  funext j
  by_cases e : j = b
  · rw [e]
    exact pk_us
  · rw [pk_un e, pk_un e]
theorem ask4_pos {s : ASt} {B : Nat} {x y : Int32} (hI : InvA B s) (h : ¬ askV (exA 4) (qA 4 s x y) < 0) : ∃ b k, b < sNb s ∧ x = nI b ∧ fd (sNu s) y (sNs s) = some k ∧ ¬ sSh s k b = -1 := by
  have h8 := hI.1
  by_cases hx : ¬ x < 0 ∧ x < nI (sNb s)
  · obtain ⟨b, hb, rfl⟩ := i32_nat (by omega) hx
    cases hf : fd (sNu s) y (sNs s) with
    | none =>
      have e : qA 4 s (nI b) y = (2, 0) := show qShare s (nI b) y = (2, 0) from (qB_y h8 hb rfl).trans (qS_n hf)
      have e2 : askV (exA 4) (2, 0) = -2004 := rfl
      rw [e, e2] at h
      exact absurd (by decide) h
    | some k =>
      by_cases hq : sSh s k b = -1
      · have e : qA 4 s (nI b) y = (3, 0) := show qShare s (nI b) y = (3, 0) from (qB_y h8 hb rfl).trans ((qS_y hf).trans (qI_n (fun z => z hq)))
        have e2 : askV (exA 4) (3, 0) = -2005 := rfl
        rw [e, e2] at h
        exact absurd (by decide) h
      · exact ⟨b, k, hb, rfl, (by first | exact hf | rfl), hq⟩
  · have e : qA 4 s x y = (1, 0) := show qShare s x y = (1, 0) from qB_n hx
    have e2 : askV (exA 4) (1, 0) = -2002 := rfl
    rw [e, e2] at h
    exact absurd (by decide) h
theorem spare_pos {s : ASt} {B : Nat} (hI : InvA B s) {k : Nat} (hk : k < sNs s) (h : ¬ nI (hc (sSh s k) 8) - nI (sTn s k) < 1) : sTn s k + 1 ≤ hc (sSh s k) 8 := by
  have h8 := hc_le8 (sSh s k)
  have ht := (hI.2.2.1 k hk).2.1
  rw [Int32.lt_iff_toInt_lt, pk_sub_toInt (by omega) (by omega), show Int32.toInt 1 = 1 from rfl] at h
  omega
/-- the state behind a loss, and behind the share's being issued again -/
def lsS (s : ASt) (k b : Nat) : ASt := (sHm s, sNb s, sNs s, sLa s, sLo s + 1, sNu s, sTn s, va_up (sSh s) k (upd (sSh s k) b (-1)))
def isS (s : ASt) (k b : Nat) : ASt := (sHm s, sNb s, sNs s, sLa s, sLo s, sNu s, sTn s, va_up (sSh s) k (upd (sSh s k) b (nI (lagS (fh (sSh s k) (sTn s k) 8) (svn (sSh s k)) (b + 1)))))
section ISS
variable {s : ASt} {B b k : Nat} {y : Int32}
theorem cX3_is (hb8 : b < 8) (hf : fd (sNu s) y (sNs s) = some k) : cX 3 s (nI b) y 0 = lsS s k b := by
  have hc : (nI b).toNatClampNeg = b := nI_clamp (by omega)
  first
    | (simp only [cX, hf, hc]; done)
    | (simp only [cX, hf, hc]; rfl)
    | (unfold cX; rw [hf]; simp only [hc]; done)
    | (unfold cX; rw [hf]; simp only [hc]; rfl)
    | (unfold cX; simp only []; rw [hf]; simp only [hc]; rfl)
theorem cX5_is (hb8 : b < 8) (hf : fd (sNu s) y (sNs s) = some k) : cX 5 s (nI b) y 0 = isS s k b := by
  have hc : (nI b).toNatClampNeg = b := nI_clamp (by omega)
  first
    | (simp only [cX, hf, hc]; done)
    | (simp only [cX, hf, hc]; rfl)
    | (unfold cX; rw [hf]; simp only [hc]; done)
    | (unfold cX; rw [hf]; simp only [hc]; rfl)
    | (unfold cX; simp only []; rw [hf]; simp only [hc]; rfl)
theorem rX3_is (hb8 : b < 8) (hf : fd (sNu s) y (sNs s) = some k) : rX 3 s (nI b) y 0 = nI (hc (upd (sSh s k) b (-1)) 8) := by
  have hc : (nI b).toNatClampNeg = b := nI_clamp (by omega)
  first
    | (simp only [rX, hf, hc]; done)
    | (simp only [rX, hf, hc]; rfl)
    | (unfold rX; rw [hf]; simp only [hc]; done)
    | (unfold rX; rw [hf]; simp only [hc]; rfl)
    | (unfold rX; simp only []; rw [hf]; simp only [hc]; rfl)
theorem rX5_is (hb8 : b < 8) (hf : fd (sNu s) y (sNs s) = some k) : rX 5 s (nI b) y 0 = nI (lagS (fh (sSh s k) (sTn s k) 8) (svn (sSh s k)) (b + 1)) := by
  have hc : (nI b).toNatClampNeg = b := nI_clamp (by omega)
  first
    | (simp only [rX, hf, hc]; done)
    | (simp only [rX, hf, hc]; rfl)
    | (unfold rX; rw [hf]; simp only [hc]; done)
    | (unfold rX; rw [hf]; simp only [hc]; rfl)
    | (unfold rX; simp only []; rw [hf]; simp only [hc]; rfl)
theorem pwX3_is (h8 : sNb s ≤ 8) (hb : b < sNb s) (hf : fd (sNu s) y (sNs s) = some k) (h : ¬ sSh s k b = -1) : pwX 3 s (nI b) y 0 = 0 := by
  have hc : (nI b).toNatClampNeg = b := nI_clamp (by omega)
  rw [pwX_share (Or.inl rfl), if_pos ⟨nI_nn (by omega), nI_lt hb (by omega)⟩, hf]
  simp only [hc]
  unfold pwK
  rw [if_neg (by omega), if_neg (fun z => z.elim (fun z => absurd z.1 (by decide)) (fun z => h z.2)), if_neg (by omega)]
theorem pwX5_is (h8 : sNb s ≤ 8) (hb : b < sNb s) (hf : fd (sNu s) y (sNs s) = some k) (h : sSh s k b = -1) (ht : sTn s k ≤ hc (sSh s k) 8) : pwX 5 s (nI b) y 0 = 0 := by
  have hc : (nI b).toNatClampNeg = b := nI_clamp (by omega)
  rw [pwX_share (Or.inr (Or.inr rfl)), if_pos ⟨nI_nn (by omega), nI_lt hb (by omega)⟩, hf]
  simp only [hc]
  unfold pwK
  rw [if_neg (by omega), if_neg (fun z => z.elim (fun z => z.2 h) (fun z => z.1 rfl)), if_neg (fun z => z.2 ht)]
theorem lsS_sh : sSh (lsS s k b) k = upd (sSh s k) b (-1) := va_up_self _ _ _
theorem isS_sh : sSh (isS s k b) k = upd (sSh s k) b (nI (lagS (fh (sSh s k) (sTn s k) 8) (svn (sSh s k)) (b + 1))) := va_up_self _ _ _
/-- all that the law asks of the two changes -/
theorem iss_all (hI : InvA B s) (hk : k < sNs s) (hf : fd (sNu s) y (sNs s) = some k) (hb : b < sNb s) (h : ¬ sSh s k b = -1) (hsp : sTn s k + 1 ≤ hc (sSh s k) 8) :
    pwX 3 s (nI b) y 0 = 0 ∧ rX 3 s (nI b) y 0 = nI (hc (sSh s k) 8 - 1) ∧ qReb (cX 3 s (nI b) y 0) y = (0, nI (lagS (fh (upd (sSh s k) b (-1)) (sTn s k) 8) (svn (upd (sSh s k) b (-1))) 0)) ∧ pwX 5 (cX 3 s (nI b) y 0) (nI b) y 0 = 0 ∧
    (unfA (sSh s k) (sTn s k) = 0 → rX 5 (cX 3 s (nI b) y 0) (nI b) y 0 = sSh s k b) ∧ qHolders (cX 5 (cX 3 s (nI b) y 0) (nI b) y 0) y = (0, nI (hc (sSh s k) 8)) ∧
    (unfA (sSh s k) (sTn s k) = 0 → qReb (cX 5 (cX 3 s (nI b) y 0) (nI b) y 0) y = (0, nI (lagS (fh (upd (sSh s k) b (-1)) (sTn s k) 8) (svn (upd (sSh s k) b (-1))) 0))) := by
  have h8 := hI.1
  have hb8 : b < 8 := by omega
  have h4 := (hI.2.2.1 k hk).2.1
  have hS := (hI.2.2.1 k hk).2.2.1 b hb8 h
  have hl := hc_lose hb8 h
  have hf1 : fd (sNu (lsS s k b)) y (sNs (lsS s k b)) = some k := hf
  have hf2 : fd (sNu (isS (lsS s k b) k b)) y (sNs (isS (lsS s k b) k b)) = some k := hf
  have hp := hc_put (sh := upd (sSh s k) b (-1)) hb8 pk_us (lagS_lt (fh (upd (sSh s k) b (-1)) (sTn s k) 8) (svn (upd (sSh s k) b (-1))) (b + 1))
  have hown : unfA (sSh s k) (sTn s k) = 0 → nI (lagS (fh (upd (sSh s k) b (-1)) (sTn s k) 8) (svn (upd (sSh s k) b (-1))) (b + 1)) = sSh s k b := fun hu => by
    rw [lag_lose hb8 h h4 hsp hu (by omega), lag_own hb8 h hu]
    exact hS.1.symm
  rw [cX3_is hb8 hf, cX5_is hb8 hf1]
  refine ⟨pwX3_is h8 hb hf h, ?_, ?_, pwX5_is h8 hb hf1 ?_ ?_, fun hu => ?_, ?_, fun hu => ?_⟩
  · rw [rX3_is hb8 hf, show hc (sSh s k) 8 - 1 = hc (upd (sSh s k) b (-1)) 8 by omega]
  · refine (qS_y hf1).trans ?_
    show qI (sTn s k ≤ hc (sSh (lsS s k b) k) 8) 2 (nI (lagS (fh (sSh (lsS s k b) k) (sTn s k) 8) (svn (sSh (lsS s k b) k)) 0)) = _
    rw [lsS_sh]
    exact qI_y (by omega)
  · rw [lsS_sh]
    exact pk_us
  · rw [lsS_sh]
    show sTn s k ≤ _
    omega
  · rw [rX5_is hb8 hf1, lsS_sh]
    exact hown hu
  · refine (qS_y hf2).trans ?_
    show (0, nI (hc (sSh (isS (lsS s k b) k b) k) 8)) = _
    rw [isS_sh, lsS_sh]
    show (0, nI (hc (upd (upd (sSh s k) b (-1)) b (nI (lagS (fh (upd (sSh s k) b (-1)) (sTn s k) 8) (svn (upd (sSh s k) b (-1))) (b + 1)))) 8)) = _
    rw [← hp, hl]
  · refine (qS_y hf2).trans ?_
    have e : sSh (isS (lsS s k b) k b) k = sSh s k := by
      rw [isS_sh, lsS_sh]
      show upd (upd (sSh s k) b (-1)) b (nI (lagS (fh (upd (sSh s k) b (-1)) (sTn s k) 8) (svn (upd (sSh s k) b (-1))) (b + 1))) = _
      rw [hown hu]
      exact upd_back
    show qI (sTn s k ≤ hc (sSh (isS (lsS s k b) k b) k) 8) 2 (nI (lagS (fh (sSh (isS (lsS s k b) k b) k) (sTn s k) 8) (svn (sSh (isS (lsS s k b) k b) k)) 0)) = _
    rw [e, lag_lose hb8 h h4 hsp hu (by decide)]
    exact qI_y (by omega)
end ISS
theorem FOk.sv {B : Nat} {s : ASt} {D : DX} (h : FOk B s D) : FOk B s (dSv D s) := h
theorem FOk.rs {B C : Nat} {s s2 : ASt} {D D2 : DX} (h : FOk B s D) (h2 : FOk C s2 D2) : FOk B s (dRs D2) := ⟨h.1, Nat.zero_le _, h2.2.2⟩

set_option maxHeartbeats 30000000 in
set_option maxRecDepth 100000 in
theorem l_isIssue (l : Launch) (G : Gx) (hst : l.stackTraces = false) (F : FX) (s : ASt) (D : DX) (B : Nat) (hok : FOk B s D) (hB : B < 10000) (x y : Int32) : Ct l G (SFt G) yL_isIssueRight (wsL_isIssueRight ++ hx9) ({ frames := 12, cells := 400, slots := 2400, locals := 220 }) [.ref (F.1 0), .int x, .int y] (flt [FW G F s D]) mkI (fun (r : Int32) (u : DX) => r = 1 ∧ FOk B s u) (fun u : DX => flt [FW G F s u]) 400 2400 := by
  have h8 : sNb s ≤ 8 := hok.1.1
  refine Ct.ofI (cc := cL_isIssueRight) (maxL := 10) (by decide) rfl ⟨by simp [Value.category], Nat.le_of_ble_eq_true rfl⟩ ?_
  intro K hl hC hSF hnm hE
  subst hl
  have hgot := SFgoS (SFt.k G) hSF
  have hgo := SFgo.x hgot
  have hSFt := hSF
  replace hSF := hSF.1
  show V G K 10 0 0 0 [some (.ref (F.1 0)), some (.int x), some (.int y), none, none, none, none, none, none, none] [] (flt [FW G F s D])
  refine V.aload_n hC (x := (F.1 0)) dL_isIssueRight_0 rfl ?_
  refine V.iconst hC 4 dL_isIssueRight_1 rfl ?_
  refine V.iload_n hC (x := x) dL_isIssueRight_2 rfl ?_
  refine V.iload_n hC (x := y) dL_isIssueRight_3 rfl ?_
  refine V.callSBWN (n := 4) (As := [.ref (F.1 0), .int 4, .int x, .int y]) (rest := []) hC (l_ask (kl K) G hst F s D B hok 4 (by decide) x y) (SFt.k G) hgot (gx2 gL_isIssueRight_L_ask) rfl ⟨rfl, rfl⟩ (by decide +kernel) ⟨by decide, by decide, by decide, by decide⟩ (L := [FW G F s D]) (N := 1) rfl [0] [] (by decide) rfl (fun u_4 : DX => [FW G F s u_4]) (fun _ => rfl) rfl rfl (Nat.le_of_ble_eq_true rfl) dL_isIssueRight_4 (fun r_4 u_4 hp_4 => ?_)
  obtain ⟨e_4, hd_4⟩ := hp_4
  subst e_4
  have hok_4 : FOk B s u_4 := hok.k hd_4
  show V G K 10 3 18 7 [some (.ref (F.1 0)), some (.int x), some (.int y), none, none, none, none, none, none, none] [.int (askV (exA 4) (qA 4 s x y))] (flt [FW G F s u_4])
  refine V.if_lt hC 19 dL_isIssueRight_7 rfl (fun c_7 => ?_) (fun c_7 => ?_)
  · refine V.iconst hC 1 dL_isIssueRight_19 rfl ?_
    refine V.widen (k := 400) (n := 2400) (Nat.le_of_ble_eq_true rfl) (Nat.le_of_ble_eq_true rfl) ?_
    exact hE 20 _ 1 u_4 dL_isIssueRight_20 rfl ⟨rfl, hok_4⟩
  · obtain ⟨b, k, hb, rfl, hf, hsh⟩ := ask4_pos hok.1 c_7
    have hk : k < sNs s := (fd_some hf).1
    refine V.aload_n hC (x := (F.1 0)) dL_isIssueRight_10 rfl ?_
    refine V.iload_n hC (x := y) dL_isIssueRight_11 rfl ?_
    refine V.callVBXN (n := 1) (As := [.int y]) (rest := []) hC (f_spareShares (kl K) G hst F s u_4 B hok_4 y) (SFt.k G) hgot (gx1 gL_isIssueRight_X12_spareShares) rfl ⟨rfl, rfl⟩ (by decide +kernel) ⟨by decide, by decide, by decide, by decide⟩ (L := [FW G F s u_4]) (N := 1) rfl [0] [] (by decide) (List.append_nil (FW G F s u_4)) (fun _ : Unit => [FW G F s u_4]) (fun _ => List.append_nil (FW G F s u_4)) (fun _ : Unit => [FW G F s u_4]) (fun _ => List.append_nil (FW G F s u_4)) rfl rfl rfl rfl (Nat.le_of_ble_eq_true rfl) dL_isIssueRight_12 (fun E_ u_ hx_ => (XE_no hx_ ((show qSpare s y = (0, nI (hc (sSh s k) 8) - nI (sTn s k)) from qS_y hf))).elim) (fun r_12 u_12 hp_12 => ?_)
    obtain rfl : nI (hc (sSh s k) 8) - nI (sTn s k) = r_12 := congrArg Prod.snd (((show qSpare s y = (0, nI (hc (sSh s k) 8) - nI (sTn s k)) from qS_y hf)).symm.trans hp_12)
    show V G K 10 4 24 15 [some (.ref (F.1 0)), some (.int (nI b)), some (.int y), none, none, none, none, none, none, none] [.int (nI (hc (sSh s k) 8) - nI (sTn s k))] (flt [FW G F s u_4])
    refine V.iconst hC 1 dL_isIssueRight_15 rfl ?_
    refine V.icmp_ge hC 21 dL_isIssueRight_16 rfl (fun c_16 => ?_) (fun c_16 => ?_)
    · have hsp := spare_pos hok.1 hk (Int32.not_lt.mpr c_16)
      obtain ⟨i1, i2, i3, i4, i5, i6, i7⟩ := iss_all hok.1 hk hf hb hsh hsp
      have hth : sTn s k ≤ hc (sSh s k) 8 := by omega
      have hc8_ := hc_le8 (sSh s k)
      refine V.aload_n hC (x := (F.1 0)) dL_isIssueRight_21 rfl ?_
      refine V.callSBN (n := 1) (As := [.ref (F.1 0)]) (rest := []) hC (l_looks (kl K) G hst F s u_4 B hok_4 hB) (SFt.k G) hgot (gx2 gL_isIssueRight_L_looks) rfl ⟨rfl, rfl⟩ (by decide +kernel) ⟨by decide, by decide, by decide, by decide⟩ (L := [FW G F s u_4]) (N := 1) rfl [0] [] (by decide) rfl (fun u_22 : DX => [FW G F s u_22]) (fun _ => rfl) rfl rfl (Nat.le_of_ble_eq_true rfl) dL_isIssueRight_22 (fun r_22 u_22 hp_22 => ?_)
      obtain ⟨e_22, hd_22⟩ := hp_22
      subst e_22
      have hok_22 : FOk B s u_22 := hok_4.k hd_22
      show V G K 10 174 1024 25 [some (.ref (F.1 0)), some (.int (nI b)), some (.int y), none, none, none, none, none, none, none] [.int (lk2 s (sNs s))] (flt [FW G F s u_22])
      refine V.istore_n hC dL_isIssueRight_25 [some (.ref (F.1 0)), some (.int (nI b)), some (.int y), some (.int (lk2 s (sNs s))), none, none, none, none, none, none] (Nat.le_of_ble_eq_true rfl) rfl ?_
      refine V.aload_n hC (x := (F.1 0)) dL_isIssueRight_26 rfl ?_
      refine V.callVBN (n := 0) (As := []) (rest := []) hC (f_save (kl K) G hst F s u_22 B hok_22) (SFt.k G) hgot (gx1 gL_isIssueRight_X12_save) rfl ⟨rfl, rfl⟩ (by decide +kernel) ⟨by decide, by decide, by decide, by decide⟩ (L := [FW G F s u_22]) (N := 1) rfl [0] [] (by decide) (List.append_nil (FW G F s u_22)) (fun _ : Unit => [FW G F s (dSv u_22 s)]) (fun _ => List.append_nil (FW G F s (dSv u_22 s))) rfl rfl rfl rfl (Nat.le_of_ble_eq_true rfl) dL_isIssueRight_27 (fun r_27 u_27 hp_27 => ?_)
      have hok_26 : FOk B s (dSv u_22 s) := FOk.sv hok_22
      show V G K 10 174 1024 30 [some (.ref (F.1 0)), some (.int (nI b)), some (.int y), some (.int (lk2 s (sNs s))), none, none, none, none, none, none] [] (flt [FW G F s (dSv u_22 s)])
      refine V.aload_n hC (x := (F.1 0)) dL_isIssueRight_30 rfl ?_
      refine V.iload_n hC (x := nI b) dL_isIssueRight_31 rfl ?_
      refine V.iload_n hC (x := y) dL_isIssueRight_32 rfl ?_
      refine V.callVBXN (n := 2) (As := [.int (nI b), .int y]) (rest := []) hC (f_share (kl K) G hst F s (dSv u_22 s) B hok_26 (nI b) y) (SFt.k G) hgot (gx1 gL_isIssueRight_X12_share) rfl ⟨rfl, rfl⟩ (by decide +kernel) ⟨by decide, by decide, by decide, by decide⟩ (L := [FW G F s (dSv u_22 s)]) (N := 1) rfl [0] [] (by decide) (List.append_nil (FW G F s (dSv u_22 s))) (fun _ : Unit => [FW G F s (dSv u_22 s)]) (fun _ => List.append_nil (FW G F s (dSv u_22 s))) (fun _ : Unit => [FW G F s (dSv u_22 s)]) (fun _ => List.append_nil (FW G F s (dSv u_22 s))) rfl rfl rfl rfl (Nat.le_of_ble_eq_true rfl) dL_isIssueRight_33 (fun E_ u_ hx_ => (XE_no hx_ (((show qShare s (nI b) y = (0, sSh s k b) from (qB_y h8 hb rfl).trans ((qS_y hf).trans (qI_y hsh)))))).elim) (fun r_33 u_33 hp_33 => ?_)
      obtain rfl : sSh s k b = r_33 := congrArg Prod.snd ((((show qShare s (nI b) y = (0, sSh s k b) from (qB_y h8 hb rfl).trans ((qS_y hf).trans (qI_y hsh))))).symm.trans hp_33)
      show V G K 10 177 1042 36 [some (.ref (F.1 0)), some (.int (nI b)), some (.int y), some (.int (lk2 s (sNs s))), none, none, none, none, none, none] [.int (sSh s k b)] (flt [FW G F s (dSv u_22 s)])
      refine V.istore hC dL_isIssueRight_36 [some (.ref (F.1 0)), some (.int (nI b)), some (.int y), some (.int (lk2 s (sNs s))), some (.int (sSh s k b)), none, none, none, none, none] (Nat.le_of_ble_eq_true rfl) rfl ?_
      refine V.aload_n hC (x := (F.1 0)) dL_isIssueRight_38 rfl ?_
      refine V.iload_n hC (x := y) dL_isIssueRight_39 rfl ?_
      refine V.callVBXN (n := 1) (As := [.int y]) (rest := []) hC (f_unfit (kl K) G hst F s (dSv u_22 s) B hok_26 y) (SFt.k G) hgot (gx1 gL_isIssueRight_X12_unfitShares) rfl ⟨rfl, rfl⟩ (by decide +kernel) ⟨by decide, by decide, by decide, by decide⟩ (L := [FW G F s (dSv u_22 s)]) (N := 1) rfl [0] [] (by decide) (List.append_nil (FW G F s (dSv u_22 s))) (fun u_40 : Scr => [FW G F s (dE (dSv u_22 s) u_40)]) (fun u_40 => List.append_nil (FW G F s (dE (dSv u_22 s) u_40))) (fun _ : Unit => [FW G F s (dSv u_22 s)]) (fun _ => List.append_nil (FW G F s (dSv u_22 s))) rfl rfl rfl rfl (Nat.le_of_ble_eq_true rfl) dL_isIssueRight_40 (fun E_ u_ hx_ => (XE_no hx_ ((show qUnf s y = (0, nI (unfA (sSh s k) (sTn s k))) from (qS_y hf).trans (qI_y hth)))).elim) (fun r_40 u_40 hp_40 => ?_)
      obtain ⟨e_40, hs_40⟩ := hp_40
      have hok_40 : FOk B s (dE (dSv u_22 s) u_40) := hok_26.k ⟨u_40, hs_40, rfl⟩
      obtain rfl : nI (unfA (sSh s k) (sTn s k)) = r_40 := congrArg Prod.snd (((show qUnf s y = (0, nI (unfA (sSh s k) (sTn s k))) from (qS_y hf).trans (qI_y hth))).symm.trans e_40)
      show V G K 10 179 1054 43 [some (.ref (F.1 0)), some (.int (nI b)), some (.int y), some (.int (lk2 s (sNs s))), some (.int (sSh s k b)), none, none, none, none, none] [.int (nI (unfA (sSh s k) (sTn s k)))] (flt [FW G F s (dE (dSv u_22 s) u_40)])
      refine V.ifN_ne hC (unfA (sSh s k) (sTn s k)) 50 dL_isIssueRight_43 rfl rfl (by have := unf_le (fh (sSh s k) (sTn s k) 8) (svn (sSh s k)) (fh (sSh s k) 8 8) 8; unfold unfA; omega) (fun c_43 => ?_) (fun c_43 => ?_)
      · refine V.iconst hC 0 dL_isIssueRight_50 rfl ?_
        refine V.istore hC dL_isIssueRight_51 [some (.ref (F.1 0)), some (.int (nI b)), some (.int y), some (.int (lk2 s (sNs s))), some (.int (sSh s k b)), some (.int 0), none, none, none, none] (Nat.le_of_ble_eq_true rfl) rfl ?_
        refine V.aload_n hC (x := (F.1 0)) dL_isIssueRight_53 rfl ?_
        refine V.iload_n hC (x := nI b) dL_isIssueRight_54 rfl ?_
        refine V.iload_n hC (x := y) dL_isIssueRight_55 rfl ?_
        refine V.callVBXN (n := 2) (As := [.int (nI b), .int y]) (rest := []) hC (f_lose (kl K) G hst F s (dE (dSv u_22 s) u_40) B hok_40 (nI b) y) (SFt.k G) hgot (gx1 gL_isIssueRight_X12_lose) rfl ⟨rfl, rfl⟩ (by decide +kernel) ⟨by decide, by decide, by decide, by decide⟩ (L := [FW G F s (dE (dSv u_22 s) u_40)]) (N := 1) rfl [0] [] (by decide) (List.append_nil (FW G F s (dE (dSv u_22 s) u_40))) (fun u_56 : (Nat → Nat) × (Nat → Nat) × Scr => [FW G F (cX 3 s (nI b) y 0) (dC (dE (dSv u_22 s) u_40) s u_56.1 u_56.2.1 u_56.2.2)]) (fun u_56 => List.append_nil (FW G F (cX 3 s (nI b) y 0) (dC (dE (dSv u_22 s) u_40) s u_56.1 u_56.2.1 u_56.2.2))) (fun _ : Unit => [FW G F s (dE (dSv u_22 s) u_40)]) (fun _ => List.append_nil (FW G F s (dE (dSv u_22 s) u_40))) rfl rfl rfl rfl (Nat.le_of_ble_eq_true rfl) dL_isIssueRight_56 (fun E_ u_ hx_ => absurd i1 hx_.1) (fun r_56 u_56 hp_56 => ?_)
        have hok_56 : FOk (B + 1) (cX 3 s (nI b) y 0) (dC (dE (dSv u_22 s) u_40) s u_56.1 u_56.2.1 u_56.2.2) := hok_40.step (w := 3) (by decide) i1 hp_56.2.2
        obtain rfl : nI (hc (sSh s k) 8 - 1) = r_56 := (hp_56.2.1.trans i2).symm
        show V G K 10 180 1060 59 [some (.ref (F.1 0)), some (.int (nI b)), some (.int y), some (.int (lk2 s (sNs s))), some (.int (sSh s k b)), some (.int 0), none, none, none, none] [.int (nI (hc (sSh s k) 8 - 1))] (flt [FW G F (cX 3 s (nI b) y 0) (dC (dE (dSv u_22 s) u_40) s u_56.1 u_56.2.1 u_56.2.2)])
        refine V.istore hC dL_isIssueRight_59 [some (.ref (F.1 0)), some (.int (nI b)), some (.int y), some (.int (lk2 s (sNs s))), some (.int (sSh s k b)), some (.int 0), some (.int (nI (hc (sSh s k) 8 - 1))), none, none, none] (Nat.le_of_ble_eq_true rfl) rfl ?_
        refine V.aload_n hC (x := (F.1 0)) dL_isIssueRight_61 rfl ?_
        refine V.iload_n hC (x := y) dL_isIssueRight_62 rfl ?_
        refine V.callVBXN (n := 1) (As := [.int y]) (rest := []) hC (f_rebuild (kl K) G hst F (cX 3 s (nI b) y 0) (dC (dE (dSv u_22 s) u_40) s u_56.1 u_56.2.1 u_56.2.2) (B + 1) hok_56 y) (SFt.k G) hgot (gx1 gL_isIssueRight_X12_rebuild) rfl ⟨rfl, rfl⟩ (by decide +kernel) ⟨by decide, by decide, by decide, by decide⟩ (L := [FW G F (cX 3 s (nI b) y 0) (dC (dE (dSv u_22 s) u_40) s u_56.1 u_56.2.1 u_56.2.2)]) (N := 1) rfl [0] [] (by decide) (List.append_nil (FW G F (cX 3 s (nI b) y 0) (dC (dE (dSv u_22 s) u_40) s u_56.1 u_56.2.1 u_56.2.2))) (fun u_63 : Scr => [FW G F (cX 3 s (nI b) y 0) (dE (dC (dE (dSv u_22 s) u_40) s u_56.1 u_56.2.1 u_56.2.2) u_63)]) (fun u_63 => List.append_nil (FW G F (cX 3 s (nI b) y 0) (dE (dC (dE (dSv u_22 s) u_40) s u_56.1 u_56.2.1 u_56.2.2) u_63))) (fun _ : Unit => [FW G F (cX 3 s (nI b) y 0) (dC (dE (dSv u_22 s) u_40) s u_56.1 u_56.2.1 u_56.2.2)]) (fun _ => List.append_nil (FW G F (cX 3 s (nI b) y 0) (dC (dE (dSv u_22 s) u_40) s u_56.1 u_56.2.1 u_56.2.2))) rfl rfl rfl rfl (Nat.le_of_ble_eq_true rfl) dL_isIssueRight_63 (fun E_ u_ hx_ => (XE_no hx_ (i3)).elim) (fun r_63 u_63 hp_63 => ?_)
        obtain ⟨e_63, hs_63⟩ := hp_63
        have hok_63 : FOk (B + 1) (cX 3 s (nI b) y 0) (dE (dC (dE (dSv u_22 s) u_40) s u_56.1 u_56.2.1 u_56.2.2) u_63) := hok_56.k ⟨u_63, hs_63, rfl⟩
        obtain rfl : nI (lagS (fh (upd (sSh s k) b (-1)) (sTn s k) 8) (svn (upd (sSh s k) b (-1))) 0) = r_63 := congrArg Prod.snd ((i3).symm.trans e_63)
        show V G K 10 182 1072 66 [some (.ref (F.1 0)), some (.int (nI b)), some (.int y), some (.int (lk2 s (sNs s))), some (.int (sSh s k b)), some (.int 0), some (.int (nI (hc (sSh s k) 8 - 1))), none, none, none] [.int (nI (lagS (fh (upd (sSh s k) b (-1)) (sTn s k) 8) (svn (upd (sSh s k) b (-1))) 0))] (flt [FW G F (cX 3 s (nI b) y 0) (dE (dC (dE (dSv u_22 s) u_40) s u_56.1 u_56.2.1 u_56.2.2) u_63)])
        refine V.istore hC dL_isIssueRight_66 [some (.ref (F.1 0)), some (.int (nI b)), some (.int y), some (.int (lk2 s (sNs s))), some (.int (sSh s k b)), some (.int 0), some (.int (nI (hc (sSh s k) 8 - 1))), some (.int (nI (lagS (fh (upd (sSh s k) b (-1)) (sTn s k) 8) (svn (upd (sSh s k) b (-1))) 0))), none, none] (Nat.le_of_ble_eq_true rfl) rfl ?_
        refine V.aload_n hC (x := (F.1 0)) dL_isIssueRight_68 rfl ?_
        refine V.iload_n hC (x := nI b) dL_isIssueRight_69 rfl ?_
        refine V.iload_n hC (x := y) dL_isIssueRight_70 rfl ?_
        refine V.callVBXN (n := 2) (As := [.int (nI b), .int y]) (rest := []) hC (f_issue (kl K) G hst F (cX 3 s (nI b) y 0) (dE (dC (dE (dSv u_22 s) u_40) s u_56.1 u_56.2.1 u_56.2.2) u_63) (B + 1) hok_63 (nI b) y) (SFt.k G) hgot (gx1 gL_isIssueRight_X12_issue) rfl ⟨rfl, rfl⟩ (by decide +kernel) ⟨by decide, by decide, by decide, by decide⟩ (L := [FW G F (cX 3 s (nI b) y 0) (dE (dC (dE (dSv u_22 s) u_40) s u_56.1 u_56.2.1 u_56.2.2) u_63)]) (N := 1) rfl [0] [] (by decide) (List.append_nil (FW G F (cX 3 s (nI b) y 0) (dE (dC (dE (dSv u_22 s) u_40) s u_56.1 u_56.2.1 u_56.2.2) u_63))) (fun u_71 : (Nat → Nat) × (Nat → Nat) × Scr => [FW G F (cX 5 (cX 3 s (nI b) y 0) (nI b) y 0) (dC (dE (dC (dE (dSv u_22 s) u_40) s u_56.1 u_56.2.1 u_56.2.2) u_63) (cX 3 s (nI b) y 0) u_71.1 u_71.2.1 u_71.2.2)]) (fun u_71 => List.append_nil (FW G F (cX 5 (cX 3 s (nI b) y 0) (nI b) y 0) (dC (dE (dC (dE (dSv u_22 s) u_40) s u_56.1 u_56.2.1 u_56.2.2) u_63) (cX 3 s (nI b) y 0) u_71.1 u_71.2.1 u_71.2.2))) (fun _ : Unit => [FW G F (cX 3 s (nI b) y 0) (dE (dC (dE (dSv u_22 s) u_40) s u_56.1 u_56.2.1 u_56.2.2) u_63)]) (fun _ => List.append_nil (FW G F (cX 3 s (nI b) y 0) (dE (dC (dE (dSv u_22 s) u_40) s u_56.1 u_56.2.1 u_56.2.2) u_63))) rfl rfl rfl rfl (Nat.le_of_ble_eq_true rfl) dL_isIssueRight_71 (fun E_ u_ hx_ => absurd i4 hx_.1) (fun r_71 u_71 hp_71 => ?_)
        have hok_71 : FOk (B + 1 + 1) (cX 5 (cX 3 s (nI b) y 0) (nI b) y 0) (dC (dE (dC (dE (dSv u_22 s) u_40) s u_56.1 u_56.2.1 u_56.2.2) u_63) (cX 3 s (nI b) y 0) u_71.1 u_71.2.1 u_71.2.2) := hok_63.step (w := 5) (by decide) i4 hp_71.2.2
        obtain rfl : rX 5 (cX 3 s (nI b) y 0) (nI b) y 0 = r_71 := hp_71.2.1.symm
        show V G K 10 183 1078 74 [some (.ref (F.1 0)), some (.int (nI b)), some (.int y), some (.int (lk2 s (sNs s))), some (.int (sSh s k b)), some (.int 0), some (.int (nI (hc (sSh s k) 8 - 1))), some (.int (nI (lagS (fh (upd (sSh s k) b (-1)) (sTn s k) 8) (svn (upd (sSh s k) b (-1))) 0))), none, none] [.int (rX 5 (cX 3 s (nI b) y 0) (nI b) y 0)] (flt [FW G F (cX 5 (cX 3 s (nI b) y 0) (nI b) y 0) (dC (dE (dC (dE (dSv u_22 s) u_40) s u_56.1 u_56.2.1 u_56.2.2) u_63) (cX 3 s (nI b) y 0) u_71.1 u_71.2.1 u_71.2.2)])
        refine V.istore hC dL_isIssueRight_74 [some (.ref (F.1 0)), some (.int (nI b)), some (.int y), some (.int (lk2 s (sNs s))), some (.int (sSh s k b)), some (.int 0), some (.int (nI (hc (sSh s k) 8 - 1))), some (.int (nI (lagS (fh (upd (sSh s k) b (-1)) (sTn s k) 8) (svn (upd (sSh s k) b (-1))) 0))), some (.int (rX 5 (cX 3 s (nI b) y 0) (nI b) y 0)), none] (Nat.le_of_ble_eq_true rfl) rfl ?_
        refine V.iload hC (x := 0) dL_isIssueRight_76 rfl ?_
        refine V.ifN_eq hC 0 88 dL_isIssueRight_78 rfl rfl (by omega) (fun c_78 => ?_) (fun c_78 => ?_)
        · refine V.aload_n hC (x := (F.1 0)) dL_isIssueRight_88 rfl ?_
          refine V.iload_n hC (x := y) dL_isIssueRight_89 rfl ?_
          refine V.callVBXN (n := 1) (As := [.int y]) (rest := []) hC (f_holders (kl K) G hst F (cX 5 (cX 3 s (nI b) y 0) (nI b) y 0) (dC (dE (dC (dE (dSv u_22 s) u_40) s u_56.1 u_56.2.1 u_56.2.2) u_63) (cX 3 s (nI b) y 0) u_71.1 u_71.2.1 u_71.2.2) (B + 1 + 1) hok_71 y) (SFt.k G) hgot (gx1 gL_isIssueRight_X12_holders) rfl ⟨rfl, rfl⟩ (by decide +kernel) ⟨by decide, by decide, by decide, by decide⟩ (L := [FW G F (cX 5 (cX 3 s (nI b) y 0) (nI b) y 0) (dC (dE (dC (dE (dSv u_22 s) u_40) s u_56.1 u_56.2.1 u_56.2.2) u_63) (cX 3 s (nI b) y 0) u_71.1 u_71.2.1 u_71.2.2)]) (N := 1) rfl [0] [] (by decide) (List.append_nil (FW G F (cX 5 (cX 3 s (nI b) y 0) (nI b) y 0) (dC (dE (dC (dE (dSv u_22 s) u_40) s u_56.1 u_56.2.1 u_56.2.2) u_63) (cX 3 s (nI b) y 0) u_71.1 u_71.2.1 u_71.2.2))) (fun _ : Unit => [FW G F (cX 5 (cX 3 s (nI b) y 0) (nI b) y 0) (dC (dE (dC (dE (dSv u_22 s) u_40) s u_56.1 u_56.2.1 u_56.2.2) u_63) (cX 3 s (nI b) y 0) u_71.1 u_71.2.1 u_71.2.2)]) (fun _ => List.append_nil (FW G F (cX 5 (cX 3 s (nI b) y 0) (nI b) y 0) (dC (dE (dC (dE (dSv u_22 s) u_40) s u_56.1 u_56.2.1 u_56.2.2) u_63) (cX 3 s (nI b) y 0) u_71.1 u_71.2.1 u_71.2.2))) (fun _ : Unit => [FW G F (cX 5 (cX 3 s (nI b) y 0) (nI b) y 0) (dC (dE (dC (dE (dSv u_22 s) u_40) s u_56.1 u_56.2.1 u_56.2.2) u_63) (cX 3 s (nI b) y 0) u_71.1 u_71.2.1 u_71.2.2)]) (fun _ => List.append_nil (FW G F (cX 5 (cX 3 s (nI b) y 0) (nI b) y 0) (dC (dE (dC (dE (dSv u_22 s) u_40) s u_56.1 u_56.2.1 u_56.2.2) u_63) (cX 3 s (nI b) y 0) u_71.1 u_71.2.1 u_71.2.2))) rfl rfl rfl rfl (Nat.le_of_ble_eq_true rfl) dL_isIssueRight_90 (fun E_ u_ hx_ => (XE_no hx_ (i6)).elim) (fun r_90 u_90 hp_90 => ?_)
          obtain rfl : nI (hc (sSh s k) 8) = r_90 := congrArg Prod.snd ((i6).symm.trans hp_90)
          show V G K 10 184 1084 93 [some (.ref (F.1 0)), some (.int (nI b)), some (.int y), some (.int (lk2 s (sNs s))), some (.int (sSh s k b)), some (.int 0), some (.int (nI (hc (sSh s k) 8 - 1))), some (.int (nI (lagS (fh (upd (sSh s k) b (-1)) (sTn s k) 8) (svn (upd (sSh s k) b (-1))) 0))), some (.int (rX 5 (cX 3 s (nI b) y 0) (nI b) y 0)), none] [.int (nI (hc (sSh s k) 8))] (flt [FW G F (cX 5 (cX 3 s (nI b) y 0) (nI b) y 0) (dC (dE (dC (dE (dSv u_22 s) u_40) s u_56.1 u_56.2.1 u_56.2.2) u_63) (cX 3 s (nI b) y 0) u_71.1 u_71.2.1 u_71.2.2)])
          refine V.iload hC (x := nI (hc (sSh s k) 8 - 1)) dL_isIssueRight_93 rfl ?_
          refine V.iconst hC 1 dL_isIssueRight_95 rfl ?_
          refine V.iaddN hC (hc (sSh s k) 8 - 1) 1 dL_isIssueRight_96 rfl rfl ?_
          refine V.icmpN_ne hC (hc (sSh s k) 8) ((hc (sSh s k) 8 - 1) + 1) 119 dL_isIssueRight_97 rfl rfl rfl (by omega) (by omega) (fun c_97 => ?_) (fun c_97 => ?_)
          · exact (c_97 (by omega)).elim
          · refine V.iload hC (x := 0) dL_isIssueRight_100 rfl ?_
            refine V.ifN_eq hC 0 115 dL_isIssueRight_102 rfl rfl (by omega) (fun c_102 => ?_) (fun c_102 => ?_)
            · refine V.iconst hC 1 dL_isIssueRight_115 rfl ?_
              refine V.goto hC 120 dL_isIssueRight_116 rfl ?_
              refine V.istore hC dL_isIssueRight_120 [some (.ref (F.1 0)), some (.int (nI b)), some (.int y), some (.int (lk2 s (sNs s))), some (.int (sSh s k b)), some (.int 0), some (.int (nI (hc (sSh s k) 8 - 1))), some (.int (nI (lagS (fh (upd (sSh s k) b (-1)) (sTn s k) 8) (svn (upd (sSh s k) b (-1))) 0))), some (.int (rX 5 (cX 3 s (nI b) y 0) (nI b) y 0)), some (.int 1)] (Nat.le_of_ble_eq_true rfl) rfl ?_
              refine V.aload_n hC (x := (F.1 0)) dL_isIssueRight_122 rfl ?_
              refine V.callVBXN (n := 0) (As := []) (rest := []) hC (f_restore (kl K) G hst F (cX 5 (cX 3 s (nI b) y 0) (nI b) y 0) (dC (dE (dC (dE (dSv u_22 s) u_40) s u_56.1 u_56.2.1 u_56.2.2) u_63) (cX 3 s (nI b) y 0) u_71.1 u_71.2.1 u_71.2.2) (B + 1 + 1) hok_71) (SFt.k G) hgot (gx1 gL_isIssueRight_X12_restore) rfl ⟨rfl, rfl⟩ (by decide +kernel) ⟨by decide, by decide, by decide, by decide⟩ (L := [FW G F (cX 5 (cX 3 s (nI b) y 0) (nI b) y 0) (dC (dE (dC (dE (dSv u_22 s) u_40) s u_56.1 u_56.2.1 u_56.2.2) u_63) (cX 3 s (nI b) y 0) u_71.1 u_71.2.1 u_71.2.2)]) (N := 1) rfl [0] [] (by decide) (List.append_nil (FW G F (cX 5 (cX 3 s (nI b) y 0) (nI b) y 0) (dC (dE (dC (dE (dSv u_22 s) u_40) s u_56.1 u_56.2.1 u_56.2.2) u_63) (cX 3 s (nI b) y 0) u_71.1 u_71.2.1 u_71.2.2))) (fun _ : Unit => [FW G F s (dRs (dC (dE (dC (dE (dSv u_22 s) u_40) s u_56.1 u_56.2.1 u_56.2.2) u_63) (cX 3 s (nI b) y 0) u_71.1 u_71.2.1 u_71.2.2))]) (fun _ => List.append_nil (FW G F s (dRs (dC (dE (dC (dE (dSv u_22 s) u_40) s u_56.1 u_56.2.1 u_56.2.2) u_63) (cX 3 s (nI b) y 0) u_71.1 u_71.2.1 u_71.2.2)))) (fun _ : Unit => [FW G F (cX 5 (cX 3 s (nI b) y 0) (nI b) y 0) (dC (dE (dC (dE (dSv u_22 s) u_40) s u_56.1 u_56.2.1 u_56.2.2) u_63) (cX 3 s (nI b) y 0) u_71.1 u_71.2.1 u_71.2.2)]) (fun _ => List.append_nil (FW G F (cX 5 (cX 3 s (nI b) y 0) (nI b) y 0) (dC (dE (dC (dE (dSv u_22 s) u_40) s u_56.1 u_56.2.1 u_56.2.2) u_63) (cX 3 s (nI b) y 0) u_71.1 u_71.2.1 u_71.2.2))) rfl rfl rfl rfl (Nat.le_of_ble_eq_true rfl) dL_isIssueRight_123 (fun E_ u_ hx_ => absurd (show (1 : Int32) = 0 from hx_.2) (by decide)) (fun r_123 u_123 hp_123 => ?_)
              have hok_123 : FOk B s (dRs (dC (dE (dC (dE (dSv u_22 s) u_40) s u_56.1 u_56.2.1 u_56.2.2) u_63) (cX 3 s (nI b) y 0) u_71.1 u_71.2.1 u_71.2.2)) := FOk.rs hok hok_71
              show V G K 10 185 1090 126 [some (.ref (F.1 0)), some (.int (nI b)), some (.int y), some (.int (lk2 s (sNs s))), some (.int (sSh s k b)), some (.int 0), some (.int (nI (hc (sSh s k) 8 - 1))), some (.int (nI (lagS (fh (upd (sSh s k) b (-1)) (sTn s k) 8) (svn (upd (sSh s k) b (-1))) 0))), some (.int (rX 5 (cX 3 s (nI b) y 0) (nI b) y 0)), some (.int 1)] [] (flt [FW G F s (dRs (dC (dE (dC (dE (dSv u_22 s) u_40) s u_56.1 u_56.2.1 u_56.2.2) u_63) (cX 3 s (nI b) y 0) u_71.1 u_71.2.1 u_71.2.2))])
              refine V.iload hC (x := 1) dL_isIssueRight_126 rfl ?_
              refine V.ifN_eq hC 1 143 dL_isIssueRight_128 rfl rfl (by omega) (fun c_128 => ?_) (fun c_128 => ?_)
              · exact absurd c_128 (by decide)
              · refine V.aload_n hC (x := (F.1 0)) dL_isIssueRight_131 rfl ?_
                refine V.callSBN (n := 1) (As := [.ref (F.1 0)]) (rest := []) hC (l_looks (kl K) G hst F s (dRs (dC (dE (dC (dE (dSv u_22 s) u_40) s u_56.1 u_56.2.1 u_56.2.2) u_63) (cX 3 s (nI b) y 0) u_71.1 u_71.2.1 u_71.2.2)) B hok_123 hB) (SFt.k G) hgot (gx2 gL_isIssueRight_L_looks) rfl ⟨rfl, rfl⟩ (by decide +kernel) ⟨by decide, by decide, by decide, by decide⟩ (L := [FW G F s (dRs (dC (dE (dC (dE (dSv u_22 s) u_40) s u_56.1 u_56.2.1 u_56.2.2) u_63) (cX 3 s (nI b) y 0) u_71.1 u_71.2.1 u_71.2.2))]) (N := 1) rfl [0] [] (by decide) rfl (fun u_132 : DX => [FW G F s u_132]) (fun _ => rfl) rfl rfl (Nat.le_of_ble_eq_true rfl) dL_isIssueRight_132 (fun r_132 u_132 hp_132 => ?_)
                obtain ⟨e_132, hd_132⟩ := hp_132
                subst e_132
                have hok_132 : FOk B s u_132 := hok_123.k hd_132
                show V G K 10 355 2090 135 [some (.ref (F.1 0)), some (.int (nI b)), some (.int y), some (.int (lk2 s (sNs s))), some (.int (sSh s k b)), some (.int 0), some (.int (nI (hc (sSh s k) 8 - 1))), some (.int (nI (lagS (fh (upd (sSh s k) b (-1)) (sTn s k) 8) (svn (upd (sSh s k) b (-1))) 0))), some (.int (rX 5 (cX 3 s (nI b) y 0) (nI b) y 0)), some (.int 1)] [.int (lk2 s (sNs s))] (flt [FW G F s u_132])
                refine V.iload_n hC (x := lk2 s (sNs s)) dL_isIssueRight_135 rfl ?_
                refine V.icmp_ne hC 143 dL_isIssueRight_136 rfl (fun c_136 => ?_) (fun c_136 => ?_)
                · exact absurd rfl c_136
                · refine V.iconst hC 1 dL_isIssueRight_139 rfl ?_
                  refine V.goto hC 144 dL_isIssueRight_140 rfl ?_
                  refine V.widen (k := 400) (n := 2400) (Nat.le_of_ble_eq_true rfl) (Nat.le_of_ble_eq_true rfl) ?_
                  exact hE 144 _ 1 u_132 dL_isIssueRight_144 rfl ⟨rfl, hok_132⟩
            · exact absurd c_102 (by decide)
        · exact absurd c_78 (by decide)
      · refine V.iconst hC 1 dL_isIssueRight_46 rfl ?_
        refine V.goto hC 51 dL_isIssueRight_47 rfl ?_
        refine V.istore hC dL_isIssueRight_51 [some (.ref (F.1 0)), some (.int (nI b)), some (.int y), some (.int (lk2 s (sNs s))), some (.int (sSh s k b)), some (.int 1), none, none, none, none] (Nat.le_of_ble_eq_true rfl) rfl ?_
        refine V.aload_n hC (x := (F.1 0)) dL_isIssueRight_53 rfl ?_
        refine V.iload_n hC (x := nI b) dL_isIssueRight_54 rfl ?_
        refine V.iload_n hC (x := y) dL_isIssueRight_55 rfl ?_
        refine V.callVBXN (n := 2) (As := [.int (nI b), .int y]) (rest := []) hC (f_lose (kl K) G hst F s (dE (dSv u_22 s) u_40) B hok_40 (nI b) y) (SFt.k G) hgot (gx1 gL_isIssueRight_X12_lose) rfl ⟨rfl, rfl⟩ (by decide +kernel) ⟨by decide, by decide, by decide, by decide⟩ (L := [FW G F s (dE (dSv u_22 s) u_40)]) (N := 1) rfl [0] [] (by decide) (List.append_nil (FW G F s (dE (dSv u_22 s) u_40))) (fun u_56 : (Nat → Nat) × (Nat → Nat) × Scr => [FW G F (cX 3 s (nI b) y 0) (dC (dE (dSv u_22 s) u_40) s u_56.1 u_56.2.1 u_56.2.2)]) (fun u_56 => List.append_nil (FW G F (cX 3 s (nI b) y 0) (dC (dE (dSv u_22 s) u_40) s u_56.1 u_56.2.1 u_56.2.2))) (fun _ : Unit => [FW G F s (dE (dSv u_22 s) u_40)]) (fun _ => List.append_nil (FW G F s (dE (dSv u_22 s) u_40))) rfl rfl rfl rfl (Nat.le_of_ble_eq_true rfl) dL_isIssueRight_56 (fun E_ u_ hx_ => absurd i1 hx_.1) (fun r_56 u_56 hp_56 => ?_)
        have hok_56 : FOk (B + 1) (cX 3 s (nI b) y 0) (dC (dE (dSv u_22 s) u_40) s u_56.1 u_56.2.1 u_56.2.2) := hok_40.step (w := 3) (by decide) i1 hp_56.2.2
        obtain rfl : nI (hc (sSh s k) 8 - 1) = r_56 := (hp_56.2.1.trans i2).symm
        show V G K 10 180 1060 59 [some (.ref (F.1 0)), some (.int (nI b)), some (.int y), some (.int (lk2 s (sNs s))), some (.int (sSh s k b)), some (.int 1), none, none, none, none] [.int (nI (hc (sSh s k) 8 - 1))] (flt [FW G F (cX 3 s (nI b) y 0) (dC (dE (dSv u_22 s) u_40) s u_56.1 u_56.2.1 u_56.2.2)])
        refine V.istore hC dL_isIssueRight_59 [some (.ref (F.1 0)), some (.int (nI b)), some (.int y), some (.int (lk2 s (sNs s))), some (.int (sSh s k b)), some (.int 1), some (.int (nI (hc (sSh s k) 8 - 1))), none, none, none] (Nat.le_of_ble_eq_true rfl) rfl ?_
        refine V.aload_n hC (x := (F.1 0)) dL_isIssueRight_61 rfl ?_
        refine V.iload_n hC (x := y) dL_isIssueRight_62 rfl ?_
        refine V.callVBXN (n := 1) (As := [.int y]) (rest := []) hC (f_rebuild (kl K) G hst F (cX 3 s (nI b) y 0) (dC (dE (dSv u_22 s) u_40) s u_56.1 u_56.2.1 u_56.2.2) (B + 1) hok_56 y) (SFt.k G) hgot (gx1 gL_isIssueRight_X12_rebuild) rfl ⟨rfl, rfl⟩ (by decide +kernel) ⟨by decide, by decide, by decide, by decide⟩ (L := [FW G F (cX 3 s (nI b) y 0) (dC (dE (dSv u_22 s) u_40) s u_56.1 u_56.2.1 u_56.2.2)]) (N := 1) rfl [0] [] (by decide) (List.append_nil (FW G F (cX 3 s (nI b) y 0) (dC (dE (dSv u_22 s) u_40) s u_56.1 u_56.2.1 u_56.2.2))) (fun u_63 : Scr => [FW G F (cX 3 s (nI b) y 0) (dE (dC (dE (dSv u_22 s) u_40) s u_56.1 u_56.2.1 u_56.2.2) u_63)]) (fun u_63 => List.append_nil (FW G F (cX 3 s (nI b) y 0) (dE (dC (dE (dSv u_22 s) u_40) s u_56.1 u_56.2.1 u_56.2.2) u_63))) (fun _ : Unit => [FW G F (cX 3 s (nI b) y 0) (dC (dE (dSv u_22 s) u_40) s u_56.1 u_56.2.1 u_56.2.2)]) (fun _ => List.append_nil (FW G F (cX 3 s (nI b) y 0) (dC (dE (dSv u_22 s) u_40) s u_56.1 u_56.2.1 u_56.2.2))) rfl rfl rfl rfl (Nat.le_of_ble_eq_true rfl) dL_isIssueRight_63 (fun E_ u_ hx_ => (XE_no hx_ (i3)).elim) (fun r_63 u_63 hp_63 => ?_)
        obtain ⟨e_63, hs_63⟩ := hp_63
        have hok_63 : FOk (B + 1) (cX 3 s (nI b) y 0) (dE (dC (dE (dSv u_22 s) u_40) s u_56.1 u_56.2.1 u_56.2.2) u_63) := hok_56.k ⟨u_63, hs_63, rfl⟩
        obtain rfl : nI (lagS (fh (upd (sSh s k) b (-1)) (sTn s k) 8) (svn (upd (sSh s k) b (-1))) 0) = r_63 := congrArg Prod.snd ((i3).symm.trans e_63)
        show V G K 10 182 1072 66 [some (.ref (F.1 0)), some (.int (nI b)), some (.int y), some (.int (lk2 s (sNs s))), some (.int (sSh s k b)), some (.int 1), some (.int (nI (hc (sSh s k) 8 - 1))), none, none, none] [.int (nI (lagS (fh (upd (sSh s k) b (-1)) (sTn s k) 8) (svn (upd (sSh s k) b (-1))) 0))] (flt [FW G F (cX 3 s (nI b) y 0) (dE (dC (dE (dSv u_22 s) u_40) s u_56.1 u_56.2.1 u_56.2.2) u_63)])
        refine V.istore hC dL_isIssueRight_66 [some (.ref (F.1 0)), some (.int (nI b)), some (.int y), some (.int (lk2 s (sNs s))), some (.int (sSh s k b)), some (.int 1), some (.int (nI (hc (sSh s k) 8 - 1))), some (.int (nI (lagS (fh (upd (sSh s k) b (-1)) (sTn s k) 8) (svn (upd (sSh s k) b (-1))) 0))), none, none] (Nat.le_of_ble_eq_true rfl) rfl ?_
        refine V.aload_n hC (x := (F.1 0)) dL_isIssueRight_68 rfl ?_
        refine V.iload_n hC (x := nI b) dL_isIssueRight_69 rfl ?_
        refine V.iload_n hC (x := y) dL_isIssueRight_70 rfl ?_
        refine V.callVBXN (n := 2) (As := [.int (nI b), .int y]) (rest := []) hC (f_issue (kl K) G hst F (cX 3 s (nI b) y 0) (dE (dC (dE (dSv u_22 s) u_40) s u_56.1 u_56.2.1 u_56.2.2) u_63) (B + 1) hok_63 (nI b) y) (SFt.k G) hgot (gx1 gL_isIssueRight_X12_issue) rfl ⟨rfl, rfl⟩ (by decide +kernel) ⟨by decide, by decide, by decide, by decide⟩ (L := [FW G F (cX 3 s (nI b) y 0) (dE (dC (dE (dSv u_22 s) u_40) s u_56.1 u_56.2.1 u_56.2.2) u_63)]) (N := 1) rfl [0] [] (by decide) (List.append_nil (FW G F (cX 3 s (nI b) y 0) (dE (dC (dE (dSv u_22 s) u_40) s u_56.1 u_56.2.1 u_56.2.2) u_63))) (fun u_71 : (Nat → Nat) × (Nat → Nat) × Scr => [FW G F (cX 5 (cX 3 s (nI b) y 0) (nI b) y 0) (dC (dE (dC (dE (dSv u_22 s) u_40) s u_56.1 u_56.2.1 u_56.2.2) u_63) (cX 3 s (nI b) y 0) u_71.1 u_71.2.1 u_71.2.2)]) (fun u_71 => List.append_nil (FW G F (cX 5 (cX 3 s (nI b) y 0) (nI b) y 0) (dC (dE (dC (dE (dSv u_22 s) u_40) s u_56.1 u_56.2.1 u_56.2.2) u_63) (cX 3 s (nI b) y 0) u_71.1 u_71.2.1 u_71.2.2))) (fun _ : Unit => [FW G F (cX 3 s (nI b) y 0) (dE (dC (dE (dSv u_22 s) u_40) s u_56.1 u_56.2.1 u_56.2.2) u_63)]) (fun _ => List.append_nil (FW G F (cX 3 s (nI b) y 0) (dE (dC (dE (dSv u_22 s) u_40) s u_56.1 u_56.2.1 u_56.2.2) u_63))) rfl rfl rfl rfl (Nat.le_of_ble_eq_true rfl) dL_isIssueRight_71 (fun E_ u_ hx_ => absurd i4 hx_.1) (fun r_71 u_71 hp_71 => ?_)
        have hok_71 : FOk (B + 1 + 1) (cX 5 (cX 3 s (nI b) y 0) (nI b) y 0) (dC (dE (dC (dE (dSv u_22 s) u_40) s u_56.1 u_56.2.1 u_56.2.2) u_63) (cX 3 s (nI b) y 0) u_71.1 u_71.2.1 u_71.2.2) := hok_63.step (w := 5) (by decide) i4 hp_71.2.2
        obtain rfl : rX 5 (cX 3 s (nI b) y 0) (nI b) y 0 = r_71 := hp_71.2.1.symm
        show V G K 10 183 1078 74 [some (.ref (F.1 0)), some (.int (nI b)), some (.int y), some (.int (lk2 s (sNs s))), some (.int (sSh s k b)), some (.int 1), some (.int (nI (hc (sSh s k) 8 - 1))), some (.int (nI (lagS (fh (upd (sSh s k) b (-1)) (sTn s k) 8) (svn (upd (sSh s k) b (-1))) 0))), none, none] [.int (rX 5 (cX 3 s (nI b) y 0) (nI b) y 0)] (flt [FW G F (cX 5 (cX 3 s (nI b) y 0) (nI b) y 0) (dC (dE (dC (dE (dSv u_22 s) u_40) s u_56.1 u_56.2.1 u_56.2.2) u_63) (cX 3 s (nI b) y 0) u_71.1 u_71.2.1 u_71.2.2)])
        refine V.istore hC dL_isIssueRight_74 [some (.ref (F.1 0)), some (.int (nI b)), some (.int y), some (.int (lk2 s (sNs s))), some (.int (sSh s k b)), some (.int 1), some (.int (nI (hc (sSh s k) 8 - 1))), some (.int (nI (lagS (fh (upd (sSh s k) b (-1)) (sTn s k) 8) (svn (upd (sSh s k) b (-1))) 0))), some (.int (rX 5 (cX 3 s (nI b) y 0) (nI b) y 0)), none] (Nat.le_of_ble_eq_true rfl) rfl ?_
        refine V.iload hC (x := 1) dL_isIssueRight_76 rfl ?_
        refine V.ifN_eq hC 1 88 dL_isIssueRight_78 rfl rfl (by omega) (fun c_78 => ?_) (fun c_78 => ?_)
        · exact absurd c_78 (by decide)
        · refine V.iload hC (x := rX 5 (cX 3 s (nI b) y 0) (nI b) y 0) dL_isIssueRight_81 rfl ?_
          refine V.iload hC (x := sSh s k b) dL_isIssueRight_83 rfl ?_
          refine V.icmp_ne hC 119 dL_isIssueRight_85 rfl (fun c_85 => ?_) (fun c_85 => ?_)
          · exact absurd (i5 c_43) c_85
          · refine V.aload_n hC (x := (F.1 0)) dL_isIssueRight_88 rfl ?_
            refine V.iload_n hC (x := y) dL_isIssueRight_89 rfl ?_
            refine V.callVBXN (n := 1) (As := [.int y]) (rest := []) hC (f_holders (kl K) G hst F (cX 5 (cX 3 s (nI b) y 0) (nI b) y 0) (dC (dE (dC (dE (dSv u_22 s) u_40) s u_56.1 u_56.2.1 u_56.2.2) u_63) (cX 3 s (nI b) y 0) u_71.1 u_71.2.1 u_71.2.2) (B + 1 + 1) hok_71 y) (SFt.k G) hgot (gx1 gL_isIssueRight_X12_holders) rfl ⟨rfl, rfl⟩ (by decide +kernel) ⟨by decide, by decide, by decide, by decide⟩ (L := [FW G F (cX 5 (cX 3 s (nI b) y 0) (nI b) y 0) (dC (dE (dC (dE (dSv u_22 s) u_40) s u_56.1 u_56.2.1 u_56.2.2) u_63) (cX 3 s (nI b) y 0) u_71.1 u_71.2.1 u_71.2.2)]) (N := 1) rfl [0] [] (by decide) (List.append_nil (FW G F (cX 5 (cX 3 s (nI b) y 0) (nI b) y 0) (dC (dE (dC (dE (dSv u_22 s) u_40) s u_56.1 u_56.2.1 u_56.2.2) u_63) (cX 3 s (nI b) y 0) u_71.1 u_71.2.1 u_71.2.2))) (fun _ : Unit => [FW G F (cX 5 (cX 3 s (nI b) y 0) (nI b) y 0) (dC (dE (dC (dE (dSv u_22 s) u_40) s u_56.1 u_56.2.1 u_56.2.2) u_63) (cX 3 s (nI b) y 0) u_71.1 u_71.2.1 u_71.2.2)]) (fun _ => List.append_nil (FW G F (cX 5 (cX 3 s (nI b) y 0) (nI b) y 0) (dC (dE (dC (dE (dSv u_22 s) u_40) s u_56.1 u_56.2.1 u_56.2.2) u_63) (cX 3 s (nI b) y 0) u_71.1 u_71.2.1 u_71.2.2))) (fun _ : Unit => [FW G F (cX 5 (cX 3 s (nI b) y 0) (nI b) y 0) (dC (dE (dC (dE (dSv u_22 s) u_40) s u_56.1 u_56.2.1 u_56.2.2) u_63) (cX 3 s (nI b) y 0) u_71.1 u_71.2.1 u_71.2.2)]) (fun _ => List.append_nil (FW G F (cX 5 (cX 3 s (nI b) y 0) (nI b) y 0) (dC (dE (dC (dE (dSv u_22 s) u_40) s u_56.1 u_56.2.1 u_56.2.2) u_63) (cX 3 s (nI b) y 0) u_71.1 u_71.2.1 u_71.2.2))) rfl rfl rfl rfl (Nat.le_of_ble_eq_true rfl) dL_isIssueRight_90 (fun E_ u_ hx_ => (XE_no hx_ (i6)).elim) (fun r_90 u_90 hp_90 => ?_)
            obtain rfl : nI (hc (sSh s k) 8) = r_90 := congrArg Prod.snd ((i6).symm.trans hp_90)
            show V G K 10 184 1084 93 [some (.ref (F.1 0)), some (.int (nI b)), some (.int y), some (.int (lk2 s (sNs s))), some (.int (sSh s k b)), some (.int 1), some (.int (nI (hc (sSh s k) 8 - 1))), some (.int (nI (lagS (fh (upd (sSh s k) b (-1)) (sTn s k) 8) (svn (upd (sSh s k) b (-1))) 0))), some (.int (rX 5 (cX 3 s (nI b) y 0) (nI b) y 0)), none] [.int (nI (hc (sSh s k) 8))] (flt [FW G F (cX 5 (cX 3 s (nI b) y 0) (nI b) y 0) (dC (dE (dC (dE (dSv u_22 s) u_40) s u_56.1 u_56.2.1 u_56.2.2) u_63) (cX 3 s (nI b) y 0) u_71.1 u_71.2.1 u_71.2.2)])
            refine V.iload hC (x := nI (hc (sSh s k) 8 - 1)) dL_isIssueRight_93 rfl ?_
            refine V.iconst hC 1 dL_isIssueRight_95 rfl ?_
            refine V.iaddN hC (hc (sSh s k) 8 - 1) 1 dL_isIssueRight_96 rfl rfl ?_
            refine V.icmpN_ne hC (hc (sSh s k) 8) ((hc (sSh s k) 8 - 1) + 1) 119 dL_isIssueRight_97 rfl rfl rfl (by omega) (by omega) (fun c_97 => ?_) (fun c_97 => ?_)
            · exact (c_97 (by omega)).elim
            · refine V.iload hC (x := 1) dL_isIssueRight_100 rfl ?_
              refine V.ifN_eq hC 1 115 dL_isIssueRight_102 rfl rfl (by omega) (fun c_102 => ?_) (fun c_102 => ?_)
              · exact absurd c_102 (by decide)
              · refine V.aload_n hC (x := (F.1 0)) dL_isIssueRight_105 rfl ?_
                refine V.iload_n hC (x := y) dL_isIssueRight_106 rfl ?_
                refine V.callVBXN (n := 1) (As := [.int y]) (rest := []) hC (f_rebuild (kl K) G hst F (cX 5 (cX 3 s (nI b) y 0) (nI b) y 0) (dC (dE (dC (dE (dSv u_22 s) u_40) s u_56.1 u_56.2.1 u_56.2.2) u_63) (cX 3 s (nI b) y 0) u_71.1 u_71.2.1 u_71.2.2) (B + 1 + 1) hok_71 y) (SFt.k G) hgot (gx1 gL_isIssueRight_X12_rebuild) rfl ⟨rfl, rfl⟩ (by decide +kernel) ⟨by decide, by decide, by decide, by decide⟩ (L := [FW G F (cX 5 (cX 3 s (nI b) y 0) (nI b) y 0) (dC (dE (dC (dE (dSv u_22 s) u_40) s u_56.1 u_56.2.1 u_56.2.2) u_63) (cX 3 s (nI b) y 0) u_71.1 u_71.2.1 u_71.2.2)]) (N := 1) rfl [0] [] (by decide) (List.append_nil (FW G F (cX 5 (cX 3 s (nI b) y 0) (nI b) y 0) (dC (dE (dC (dE (dSv u_22 s) u_40) s u_56.1 u_56.2.1 u_56.2.2) u_63) (cX 3 s (nI b) y 0) u_71.1 u_71.2.1 u_71.2.2))) (fun u_107 : Scr => [FW G F (cX 5 (cX 3 s (nI b) y 0) (nI b) y 0) (dE (dC (dE (dC (dE (dSv u_22 s) u_40) s u_56.1 u_56.2.1 u_56.2.2) u_63) (cX 3 s (nI b) y 0) u_71.1 u_71.2.1 u_71.2.2) u_107)]) (fun u_107 => List.append_nil (FW G F (cX 5 (cX 3 s (nI b) y 0) (nI b) y 0) (dE (dC (dE (dC (dE (dSv u_22 s) u_40) s u_56.1 u_56.2.1 u_56.2.2) u_63) (cX 3 s (nI b) y 0) u_71.1 u_71.2.1 u_71.2.2) u_107))) (fun _ : Unit => [FW G F (cX 5 (cX 3 s (nI b) y 0) (nI b) y 0) (dC (dE (dC (dE (dSv u_22 s) u_40) s u_56.1 u_56.2.1 u_56.2.2) u_63) (cX 3 s (nI b) y 0) u_71.1 u_71.2.1 u_71.2.2)]) (fun _ => List.append_nil (FW G F (cX 5 (cX 3 s (nI b) y 0) (nI b) y 0) (dC (dE (dC (dE (dSv u_22 s) u_40) s u_56.1 u_56.2.1 u_56.2.2) u_63) (cX 3 s (nI b) y 0) u_71.1 u_71.2.1 u_71.2.2))) rfl rfl rfl rfl (Nat.le_of_ble_eq_true rfl) dL_isIssueRight_107 (fun E_ u_ hx_ => (XE_no hx_ ((i7 c_43))).elim) (fun r_107 u_107 hp_107 => ?_)
                obtain ⟨e_107, hs_107⟩ := hp_107
                have hok_107 : FOk (B + 1 + 1) (cX 5 (cX 3 s (nI b) y 0) (nI b) y 0) (dE (dC (dE (dC (dE (dSv u_22 s) u_40) s u_56.1 u_56.2.1 u_56.2.2) u_63) (cX 3 s (nI b) y 0) u_71.1 u_71.2.1 u_71.2.2) u_107) := hok_71.k ⟨u_107, hs_107, rfl⟩
                obtain rfl : nI (lagS (fh (upd (sSh s k) b (-1)) (sTn s k) 8) (svn (upd (sSh s k) b (-1))) 0) = r_107 := congrArg Prod.snd (((i7 c_43)).symm.trans e_107)
                show V G K 10 186 1096 110 [some (.ref (F.1 0)), some (.int (nI b)), some (.int y), some (.int (lk2 s (sNs s))), some (.int (sSh s k b)), some (.int 1), some (.int (nI (hc (sSh s k) 8 - 1))), some (.int (nI (lagS (fh (upd (sSh s k) b (-1)) (sTn s k) 8) (svn (upd (sSh s k) b (-1))) 0))), some (.int (rX 5 (cX 3 s (nI b) y 0) (nI b) y 0)), none] [.int (nI (lagS (fh (upd (sSh s k) b (-1)) (sTn s k) 8) (svn (upd (sSh s k) b (-1))) 0))] (flt [FW G F (cX 5 (cX 3 s (nI b) y 0) (nI b) y 0) (dE (dC (dE (dC (dE (dSv u_22 s) u_40) s u_56.1 u_56.2.1 u_56.2.2) u_63) (cX 3 s (nI b) y 0) u_71.1 u_71.2.1 u_71.2.2) u_107)])
                refine V.iload hC (x := nI (lagS (fh (upd (sSh s k) b (-1)) (sTn s k) 8) (svn (upd (sSh s k) b (-1))) 0)) dL_isIssueRight_110 rfl ?_
                refine V.icmpN_ne hC (lagS (fh (upd (sSh s k) b (-1)) (sTn s k) 8) (svn (upd (sSh s k) b (-1))) 0) (lagS (fh (upd (sSh s k) b (-1)) (sTn s k) 8) (svn (upd (sSh s k) b (-1))) 0) 119 dL_isIssueRight_112 rfl rfl rfl (Nat.lt_trans (lagS_lt _ _ _) (by decide)) (Nat.lt_trans (lagS_lt _ _ _) (by decide)) (fun c_112 => ?_) (fun c_112 => ?_)
                · exact absurd rfl c_112
                · refine V.iconst hC 1 dL_isIssueRight_115 rfl ?_
                  refine V.goto hC 120 dL_isIssueRight_116 rfl ?_
                  refine V.istore hC dL_isIssueRight_120 [some (.ref (F.1 0)), some (.int (nI b)), some (.int y), some (.int (lk2 s (sNs s))), some (.int (sSh s k b)), some (.int 1), some (.int (nI (hc (sSh s k) 8 - 1))), some (.int (nI (lagS (fh (upd (sSh s k) b (-1)) (sTn s k) 8) (svn (upd (sSh s k) b (-1))) 0))), some (.int (rX 5 (cX 3 s (nI b) y 0) (nI b) y 0)), some (.int 1)] (Nat.le_of_ble_eq_true rfl) rfl ?_
                  refine V.aload_n hC (x := (F.1 0)) dL_isIssueRight_122 rfl ?_
                  refine V.callVBXN (n := 0) (As := []) (rest := []) hC (f_restore (kl K) G hst F (cX 5 (cX 3 s (nI b) y 0) (nI b) y 0) (dE (dC (dE (dC (dE (dSv u_22 s) u_40) s u_56.1 u_56.2.1 u_56.2.2) u_63) (cX 3 s (nI b) y 0) u_71.1 u_71.2.1 u_71.2.2) u_107) (B + 1 + 1) hok_107) (SFt.k G) hgot (gx1 gL_isIssueRight_X12_restore) rfl ⟨rfl, rfl⟩ (by decide +kernel) ⟨by decide, by decide, by decide, by decide⟩ (L := [FW G F (cX 5 (cX 3 s (nI b) y 0) (nI b) y 0) (dE (dC (dE (dC (dE (dSv u_22 s) u_40) s u_56.1 u_56.2.1 u_56.2.2) u_63) (cX 3 s (nI b) y 0) u_71.1 u_71.2.1 u_71.2.2) u_107)]) (N := 1) rfl [0] [] (by decide) (List.append_nil (FW G F (cX 5 (cX 3 s (nI b) y 0) (nI b) y 0) (dE (dC (dE (dC (dE (dSv u_22 s) u_40) s u_56.1 u_56.2.1 u_56.2.2) u_63) (cX 3 s (nI b) y 0) u_71.1 u_71.2.1 u_71.2.2) u_107))) (fun _ : Unit => [FW G F s (dRs (dE (dC (dE (dC (dE (dSv u_22 s) u_40) s u_56.1 u_56.2.1 u_56.2.2) u_63) (cX 3 s (nI b) y 0) u_71.1 u_71.2.1 u_71.2.2) u_107))]) (fun _ => List.append_nil (FW G F s (dRs (dE (dC (dE (dC (dE (dSv u_22 s) u_40) s u_56.1 u_56.2.1 u_56.2.2) u_63) (cX 3 s (nI b) y 0) u_71.1 u_71.2.1 u_71.2.2) u_107)))) (fun _ : Unit => [FW G F (cX 5 (cX 3 s (nI b) y 0) (nI b) y 0) (dE (dC (dE (dC (dE (dSv u_22 s) u_40) s u_56.1 u_56.2.1 u_56.2.2) u_63) (cX 3 s (nI b) y 0) u_71.1 u_71.2.1 u_71.2.2) u_107)]) (fun _ => List.append_nil (FW G F (cX 5 (cX 3 s (nI b) y 0) (nI b) y 0) (dE (dC (dE (dC (dE (dSv u_22 s) u_40) s u_56.1 u_56.2.1 u_56.2.2) u_63) (cX 3 s (nI b) y 0) u_71.1 u_71.2.1 u_71.2.2) u_107))) rfl rfl rfl rfl (Nat.le_of_ble_eq_true rfl) dL_isIssueRight_123 (fun E_ u_ hx_ => absurd (show (1 : Int32) = 0 from hx_.2) (by decide)) (fun r_123 u_123 hp_123 => ?_)
                  have hok_123 : FOk B s (dRs (dE (dC (dE (dC (dE (dSv u_22 s) u_40) s u_56.1 u_56.2.1 u_56.2.2) u_63) (cX 3 s (nI b) y 0) u_71.1 u_71.2.1 u_71.2.2) u_107)) := FOk.rs hok hok_107
                  show V G K 10 187 1102 126 [some (.ref (F.1 0)), some (.int (nI b)), some (.int y), some (.int (lk2 s (sNs s))), some (.int (sSh s k b)), some (.int 1), some (.int (nI (hc (sSh s k) 8 - 1))), some (.int (nI (lagS (fh (upd (sSh s k) b (-1)) (sTn s k) 8) (svn (upd (sSh s k) b (-1))) 0))), some (.int (rX 5 (cX 3 s (nI b) y 0) (nI b) y 0)), some (.int 1)] [] (flt [FW G F s (dRs (dE (dC (dE (dC (dE (dSv u_22 s) u_40) s u_56.1 u_56.2.1 u_56.2.2) u_63) (cX 3 s (nI b) y 0) u_71.1 u_71.2.1 u_71.2.2) u_107))])
                  refine V.iload hC (x := 1) dL_isIssueRight_126 rfl ?_
                  refine V.ifN_eq hC 1 143 dL_isIssueRight_128 rfl rfl (by omega) (fun c_128 => ?_) (fun c_128 => ?_)
                  · exact absurd c_128 (by decide)
                  · refine V.aload_n hC (x := (F.1 0)) dL_isIssueRight_131 rfl ?_
                    refine V.callSBN (n := 1) (As := [.ref (F.1 0)]) (rest := []) hC (l_looks (kl K) G hst F s (dRs (dE (dC (dE (dC (dE (dSv u_22 s) u_40) s u_56.1 u_56.2.1 u_56.2.2) u_63) (cX 3 s (nI b) y 0) u_71.1 u_71.2.1 u_71.2.2) u_107)) B hok_123 hB) (SFt.k G) hgot (gx2 gL_isIssueRight_L_looks) rfl ⟨rfl, rfl⟩ (by decide +kernel) ⟨by decide, by decide, by decide, by decide⟩ (L := [FW G F s (dRs (dE (dC (dE (dC (dE (dSv u_22 s) u_40) s u_56.1 u_56.2.1 u_56.2.2) u_63) (cX 3 s (nI b) y 0) u_71.1 u_71.2.1 u_71.2.2) u_107))]) (N := 1) rfl [0] [] (by decide) rfl (fun u_132 : DX => [FW G F s u_132]) (fun _ => rfl) rfl rfl (Nat.le_of_ble_eq_true rfl) dL_isIssueRight_132 (fun r_132 u_132 hp_132 => ?_)
                    obtain ⟨e_132, hd_132⟩ := hp_132
                    subst e_132
                    have hok_132 : FOk B s u_132 := hok_123.k hd_132
                    show V G K 10 357 2102 135 [some (.ref (F.1 0)), some (.int (nI b)), some (.int y), some (.int (lk2 s (sNs s))), some (.int (sSh s k b)), some (.int 1), some (.int (nI (hc (sSh s k) 8 - 1))), some (.int (nI (lagS (fh (upd (sSh s k) b (-1)) (sTn s k) 8) (svn (upd (sSh s k) b (-1))) 0))), some (.int (rX 5 (cX 3 s (nI b) y 0) (nI b) y 0)), some (.int 1)] [.int (lk2 s (sNs s))] (flt [FW G F s u_132])
                    refine V.iload_n hC (x := lk2 s (sNs s)) dL_isIssueRight_135 rfl ?_
                    refine V.icmp_ne hC 143 dL_isIssueRight_136 rfl (fun c_136 => ?_) (fun c_136 => ?_)
                    · exact absurd rfl c_136
                    · refine V.iconst hC 1 dL_isIssueRight_139 rfl ?_
                      refine V.goto hC 144 dL_isIssueRight_140 rfl ?_
                      refine V.widen (k := 400) (n := 2400) (Nat.le_of_ble_eq_true rfl) (Nat.le_of_ble_eq_true rfl) ?_
                      exact hE 144 _ 1 u_132 dL_isIssueRight_144 rfl ⟨rfl, hok_132⟩
    · refine V.iconst hC 1 dL_isIssueRight_19 rfl ?_
      refine V.widen (k := 400) (n := 2400) (Nat.le_of_ble_eq_true rfl) (Nat.le_of_ble_eq_true rfl) ?_
      exact hE 20 _ 1 u_4 dL_isIssueRight_20 rfl ⟨rfl, hok_4⟩
