/-! what holds of every state is kept by a change -/
theorem svn_nI {sh : Nat → Int32} {b n : Nat} (h : sh b = nI n) (hn : n < 97) : svn sh b = n := by
  unfold svn
  rw [h, nI_clamp (by omega)]
theorem SHok.put {sh : Nat → Int32} (h : SHok sh) {b : Nat} {x : Int32} (hx : x = -1 ∨ ∃ n, n < 97 ∧ x = nI n) : SHok (upd sh b x) := by
  intro j hj hn
  by_cases e : j = b
  · subst e
    rw [pk_us] at hn
    rcases hx with hx | ⟨n, hn97, hx⟩
    · exact absurd hx hn
    · have e1 : upd sh j x j = nI n := by rw [pk_us]; exact hx
      rw [svn_nI e1 hn97]
      exact ⟨e1, hn97⟩
  · rw [pk_un e] at hn
    have := h j hj hn
    unfold svn
    rw [pk_un e]
    exact this
theorem SHok.deal (v sd t nb : Nat) (hv : v < 97) : SHok (flf (dl v sd t) (fun _ => -1) nb) := by
  intro j hj hn
  by_cases e : j < nb
  · have e1 : flf (dl v sd t) (fun _ => -1) nb j = nI (spr v sd (7 * v + 13) (j + 1) (t - 1)).1 := flf_in e
    have e2 := (spr_lt (seed := sd) (off := 7 * v + 13) (place := j + 1) hv (t - 1)).1
    rw [svn_nI e1 e2]
    exact ⟨e1, e2⟩
  · exact absurd (if_neg e) hn
theorem sp97 {u : Int32} {v w : Nat} (hu : u = nI v) (hv : v < 97) (hw : w < 97) : (u + nI w) - (u + nI w) / 97 * 97 = nI ((v + w) % 97) := by
  rw [hu, nI_add]
  exact pk_rem (d := 97) (by omega) (by decide) (by decide)
theorem SHok.ref {sh : Nat → Int32} (h : SHok sh) {ad : Nat → Nat} (ha : ∀ b, ad b < 97) : SHok (rfs sh ad) := by
  intro j hj hn
  by_cases e : sh j = -1 ∨ ad j = 0
  · have e1 := rfs_y e
    rw [e1] at hn
    have := h j hj hn
    unfold svn
    rw [e1]
    exact this
  · have h1 := h j hj (fun z => e (Or.inl z))
    have e1 : rfs sh ad j = nI ((svn sh j + ad j) % 97) := (rfs_n e).symm.trans (sp97 h1.1 h1.2 (ha j))
    have e2 : (svn sh j + ad j) % 97 < 97 := Nat.mod_lt _ (by decide)
    rw [svn_nI e1 e2]
    exact ⟨e1, e2⟩
theorem rfa_lt (sd t b : Nat) : rfa sd t b < 97 := (spr_lt (c := 0) (seed := sd) (off := 5) (place := b + 1) (by decide) (t - 1)).1
theorem pm_lt {c ns k : Nat} (hc : c < ns) (hk : k < ns - 1) : pm c ns k < ns := by
  unfold pm
  split
  · omega
  · split <;> omega
theorem pm_mono {c ns i j : Nat} (h : i < j) (hj : j < ns - 1) : pm c ns i < pm c ns j := by
  unfold pm
  repeat' split
  all_goals omega
theorem InvA.sh {B : Nat} {s : ASt} (hI : InvA B s) {k : Nat} (hk : k < sNs s) {f : Nat → Int32} (hf : SHok f) (hb : ∀ b, sNb s ≤ b → b < 8 → f b = -1) {lo : Int64} (hl : ∃ m, m ≤ B + 1 ∧ lo = lN m) : InvA (B + 1) (sHm s, sNb s, sNs s, sLa s, lo, sNu s, sTn s, va_up (sSh s) k f) := by
  obtain ⟨h1, h2, h3, h4, ⟨L, m, hL, h5⟩, h6⟩ := hI
  refine ⟨h1, h2, fun j hj => ?_, h4, ⟨L, m, Nat.le_succ_of_le hL, h5⟩, hl⟩
  show 1 ≤ sTn s j ∧ sTn s j ≤ 4 ∧ SHok (va_up (sSh s) k f j) ∧ ∀ b, sNb s ≤ b → b < 8 → va_up (sSh s) k f j b = -1
  have a := h3 j hj
  by_cases e : j = k
  · subst e
    rw [va_up_self]
    exact ⟨a.1, a.2.1, hf, hb⟩
  · rw [va_up_ne _ _ e]
    exact a
set_option maxHeartbeats 1000000 in
theorem InvA.step {B : Nat} {s : ASt} (hI : InvA B s) {i : Nat} (hi : i < 8) {x y z : Int32} (h0 : pwX i s x y z = 0) : InvA (B + 1) (cX i s x y z) := by
  have hI0 := hI
  obtain ⟨h1, h2, h3, h4, ⟨L, m, hL, hla, hnu, hmm⟩, m2, hm2, hlo⟩ := hI0
  obtain rfl | rfl | rfl | rfl | rfl | rfl | rfl | rfl := lt8 hi
  · have p := pwB_0 (show pwB (sNb s) x = 0 from h0)
    obtain ⟨n, hn, rfl⟩ := i32_nat (n := 4) (by decide) p.1
    show InvA (B + 1) (upd (sHm s) (sNb s) (nI n), sNb s + 1, s.2.2)
    refine ⟨p.2, h2, fun k hk => ?_, fun b hb => ?_, ⟨L, m, by omega, hla, hnu, hmm⟩, m2, by omega, hlo⟩
    · have a := h3 k hk
      exact ⟨a.1, a.2.1, a.2.2.1, fun b hb hb8 => a.2.2.2 b (Nat.le_of_succ_le hb) hb8⟩
    · by_cases e : b = sNb s
      · subst e
        exact ⟨n, hn, pk_us⟩
      · obtain ⟨w, hw, e2⟩ := h4 b (by have : b < sNb s + 1 := hb; omega)
        exact ⟨w, hw, (pk_un e).trans e2⟩
  · obtain ⟨p, q⟩ := pwM_0 (show pwM (sNb s) x y = 0 from h0)
    obtain ⟨b, hb, rfl⟩ := i32_nat (by omega) p
    obtain ⟨n, hn, rfl⟩ := i32_nat (n := 4) (by decide) q
    have hc : (nI b).toNatClampNeg = b := nI_clamp (by omega)
    show InvA (B + 1) (upd (sHm s) (nI b).toNatClampNeg (nI n), s.2)
    rw [hc]
    refine ⟨h1, h2, h3, fun j hj => ?_, ⟨L, m, by omega, hla, hnu, hmm⟩, m2, by omega, hlo⟩
    by_cases e : j = b
    · subst e
      exact ⟨n, hn, pk_us⟩
    · obtain ⟨w, hw, e2⟩ := h4 j hj
      exact ⟨w, hw, (pk_un e).trans e2⟩
  · obtain ⟨p1, p2, p3, p4, p5, p6⟩ := pwS_0 (show pwS (sNb s) (sNs s) x y z = 0 from h0)
    obtain ⟨v, hv, rfl⟩ := isR_nat p1
    obtain ⟨sd, hsd, rfl⟩ := isR_nat p4
    obtain ⟨t, ht, rfl⟩ := i32_nat (n := 5) (x := y) (by decide) ⟨fun z => p2 (Int32.lt_trans z (by decide)), Int32.lt_of_le_of_lt (Int32.not_lt.mp p3) (by decide)⟩
    have ht1 : 1 ≤ t := Nat.le_of_not_lt (fun z => p2 (nI_lt (a := t) (b := 1) z (by decide)))
    show InvA (B + 1) (sHm s, sNb s, sNs s + 1, sLa s + 1, sLo s, va_up (sNu s) (sNs s) (sLa s + 1), va_up (sTn s) (sNs s) (nI t).toNatClampNeg, va_up (sSh s) (sNs s) (flf (dl (nI v).toNatClampNeg (nI sd).toNatClampNeg (nI t).toNatClampNeg) (fun _ => -1) (sNb s)))
    rw [show (nI v).toNatClampNeg = v from nI_clamp (by omega), show (nI sd).toNatClampNeg = sd from nI_clamp (by omega), show (nI t).toNatClampNeg = t from nI_clamp (by omega)]
    refine ⟨h1, p5, fun k hk => ?_, h4, ⟨L + 1, va_up m (sNs s) (L + 1), by omega, by show sLa s + 1 = _; rw [hla, nI_1], fun k hk => ?_, fun i j hij hj => ?_⟩, m2, by omega, hlo⟩
    · by_cases e : k = sNs s
      · subst e
        refine ⟨?_, ?_, ?_, fun b hb hb8 => ?_⟩
        · show 1 ≤ va_up (sTn s) (sNs s) t (sNs s)
          rw [va_up_self]
          exact ht1
        · show va_up (sTn s) (sNs s) t (sNs s) ≤ 4
          rw [va_up_self]
          omega
        · show SHok (va_up (sSh s) (sNs s) _ (sNs s))
          rw [va_up_self]
          exact SHok.deal v sd t (sNb s) hv
        · show va_up (sSh s) (sNs s) _ (sNs s) b = -1
          rw [va_up_self]
          exact if_neg (Nat.not_lt.mpr hb)
      · have a := h3 k (by have : k < sNs s + 1 := hk; omega)
        show 1 ≤ va_up (sTn s) (sNs s) t k ∧ va_up (sTn s) (sNs s) t k ≤ 4 ∧ SHok (va_up (sSh s) (sNs s) _ k) ∧ ∀ b, sNb s ≤ b → b < 8 → va_up (sSh s) (sNs s) _ k b = -1
        rw [va_up_ne _ _ e, va_up_ne _ _ e]
        exact a
    · show va_up (sNu s) (sNs s) (sLa s + 1) k = nI (va_up m (sNs s) (L + 1) k) ∧ 1 ≤ va_up m (sNs s) (L + 1) k ∧ va_up m (sNs s) (L + 1) k ≤ L + 1
      by_cases e : k = sNs s
      · subst e
        rw [va_up_self, va_up_self, hla, nI_1]
        exact ⟨rfl, by omega, by omega⟩
      · have a := hnu k (by have : k < sNs s + 1 := hk; omega)
        rw [va_up_ne _ _ e, va_up_ne _ _ e]
        exact ⟨a.1, a.2.1, by omega⟩
    · have hj' : j < sNs s + 1 := hj
      have ei : ¬ i = sNs s := by omega
      show va_up m (sNs s) (L + 1) i < va_up m (sNs s) (L + 1) j
      rw [va_up_ne _ _ ei]
      by_cases e : j = sNs s
      · subst e
        rw [va_up_self]
        have := (hnu i hij).2.2
        omega
      · rw [va_up_ne _ _ e]
        exact hmm i j hij (by omega)
  · obtain ⟨b, k, hb, rfl, hf, hk⟩ := pwX_sh h1 (by omega) h0
    have hkn := (fd_lt hf h2).1
    have a := h3 k hkn
    have hc : (nI b).toNatClampNeg = b := nI_clamp (by omega)
    simp only [cX, hf, hc]
    exact InvA.sh hI hkn (SHok.put a.2.2.1 (Or.inl rfl)) (fun j hj hj8 => (pk_un (show j ≠ b by omega)).trans (a.2.2.2 j hj hj8)) ⟨m2 + 1, by omega, (congrArg (fun z : Int64 => z + 1) hlo).trans (lN_1 m2)⟩
  · obtain ⟨b, k, hb, rfl, hf, hk⟩ := pwX_sh h1 (by omega) h0
    have hkn := (fd_lt hf h2).1
    have a := h3 k hkn
    have hc : (nI b).toNatClampNeg = b := nI_clamp (by omega)
    have q := pwK_0 hk
    obtain ⟨w, hw, rfl⟩ := isR_nat (q.1 rfl).2
    have hv := a.2.2.1 b (by omega) (q.2.2 (by decide))
    simp only [cX, hf, hc]
    exact InvA.sh hI hkn (SHok.put a.2.2.1 (Or.inr ⟨_, Nat.mod_lt _ (by decide), sp97 hv.1 hv.2 hw⟩)) (fun j hj hj8 => (pk_un (show j ≠ b by omega)).trans (a.2.2.2 j hj hj8)) ⟨m2, by omega, hlo⟩
  · obtain ⟨b, k, hb, rfl, hf, hk⟩ := pwX_sh h1 (by omega) h0
    have hkn := (fd_lt hf h2).1
    have a := h3 k hkn
    have hc : (nI b).toNatClampNeg = b := nI_clamp (by omega)
    simp only [cX, hf, hc]
    exact InvA.sh hI hkn (SHok.put a.2.2.1 (Or.inr ⟨_, lagS_lt _ _ _, rfl⟩)) (fun j hj hj8 => (pk_un (show j ≠ b by omega)).trans (a.2.2.2 j hj hj8)) ⟨m2, by omega, hlo⟩
  · obtain ⟨⟨k, hf⟩, p⟩ := pwR_0 (show pwR (fd (sNu s) x (sNs s)) y = 0 from h0)
    have hkn := (fd_lt hf h2).1
    have a := h3 k hkn
    simp only [cX, hf]
    exact InvA.sh hI hkn (SHok.ref a.2.2.1 (rfa_lt _ _)) (fun j hj hj8 => (rfs_y (Or.inl (a.2.2.2 j hj hj8))).trans (a.2.2.2 j hj hj8)) ⟨m2, by omega, hlo⟩
  · obtain ⟨c, hf⟩ := pwF_0 (show pwF (fd (sNu s) x (sNs s)) = 0 from h0)
    have hcn := (fd_lt hf h2).1
    simp only [cX, hf]
    refine ⟨h1, by show sNs s - 1 ≤ 6; omega, fun k hk => h3 _ (pm_lt hcn hk), h4, ⟨L, fun k => m (pm c (sNs s) k), by omega, hla, fun k hk => hnu _ (pm_lt hcn hk), fun i j hij hj => hmm _ _ (pm_mono hij hj) (pm_lt hcn hj)⟩, m2, by omega, hlo⟩
