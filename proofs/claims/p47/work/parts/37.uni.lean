/-! the test of a change and the change, by the deed's number (printed by gen/s37.py) -/
theorem pwB_0 {nb : Nat} {x : Int32} (h : pwB nb x = 0) : (¬ x < 0 ∧ x < 4) ∧ nb < 8 := by
  unfold pwB at h
  split at h
  · rename_i h1
    split at h
    · omega
    · exact ⟨h1, by omega⟩
  · omega
theorem pwM_0 {nb : Nat} {x y : Int32} (h : pwM nb x y = 0) : (¬ x < 0 ∧ x < nI nb) ∧ ¬ y < 0 ∧ y < 4 := by
  unfold pwM at h
  split at h
  · rename_i h1
    split at h
    · rename_i h2
      exact ⟨h1, h2⟩
    · omega
  · omega
theorem pwS_0 {nb ns : Nat} {x y z : Int32} (h : pwS nb ns x y z = 0) : isR x ∧ ¬ y < 1 ∧ ¬ 4 < y ∧ isR z ∧ ns < 6 ∧ ¬ nI nb < y := by
  unfold pwS at h
  by_cases h1 : isR x
  · rw [if_neg (fun z => z h1)] at h
    by_cases h2 : y < 1
    · rw [if_pos h2] at h; omega
    · rw [if_neg h2] at h
      by_cases h3 : 4 < y
      · rw [if_pos h3] at h; omega
      · rw [if_neg h3] at h
        by_cases h4 : isR z
        · rw [if_neg (fun z => z h4)] at h
          by_cases h5 : 6 ≤ ns
          · rw [if_pos h5] at h; omega
          · rw [if_neg h5] at h
            by_cases h6 : nI nb < y
            · rw [if_pos h6] at h; omega
            · exact ⟨h1, h2, h3, h4, by omega, h6⟩
        · rw [if_pos h4] at h; omega
  · rw [if_pos h1] at h; omega
theorem pwR_0 {f : Option Nat} {y : Int32} (h : pwR f y = 0) : (∃ k, f = some k) ∧ isR y := by
  unfold pwR at h
  cases f with
  | none => rw [if_pos rfl] at h; omega
  | some k =>
    rw [if_neg (fun z => by cases z)] at h
    by_cases h1 : isR y
    · exact ⟨⟨k, rfl⟩, h1⟩
    · rw [if_neg h1] at h; omega
theorem pwF_0 {f : Option Nat} (h : pwF f = 0) : ∃ k, f = some k := by
  unfold pwF at h
  cases f with
  | none => rw [if_pos rfl] at h; omega
  | some k => exact ⟨k, rfl⟩
theorem pwK_0 {i : Nat} {s : Nat → Int32} {t b : Nat} {z : Int32} (h : pwK i s t b z = 0) : (i = 4 → ¬ z = 0 ∧ isR z) ∧ (i = 5 → s b = -1 ∧ t ≤ hc s 8) ∧ (¬ i = 5 → ¬ s b = -1) := by
  unfold pwK at h
  by_cases h1 : i = 4 ∧ (z = 0 ∨ ¬ isR z)
  · rw [if_pos h1] at h; omega
  · rw [if_neg h1] at h
    by_cases h2 : (i = 5 ∧ ¬ s b = -1) ∨ (¬ i = 5 ∧ s b = -1)
    · rw [if_pos h2] at h; omega
    · rw [if_neg h2] at h
      by_cases h3 : i = 5 ∧ ¬ t ≤ hc s 8
      · rw [if_pos h3] at h; omega
      · refine ⟨fun e => ⟨fun z => h1 ⟨e, Or.inl z⟩, Decidable.byContradiction (fun z => h1 ⟨e, Or.inr z⟩)⟩, fun e => ⟨Decidable.byContradiction (fun z => h2 (Or.inl ⟨e, z⟩)), Decidable.byContradiction (fun z => h3 ⟨e, z⟩)⟩, fun e z => h2 (Or.inr ⟨e, z⟩)⟩
theorem pwX_share {i : Nat} {s : ASt} {x y z : Int32} (hi : i = 3 ∨ i = 4 ∨ i = 5) : pwX i s x y z = (if ¬ x < 0 ∧ x < nI (sNb s) then (match fd (sNu s) y (sNs s) with
    | none => 3
    | some k => pwK i (sSh s k) (sTn s k) x.toNatClampNeg z) else 2) := by
  rcases hi with rfl | rfl | rfl <;> rfl
/-- a change of a share that is not refused -/
theorem pwX_sh {i : Nat} {s : ASt} {x y z : Int32} (hb8 : sNb s ≤ 8) (hi : i = 3 ∨ i = 4 ∨ i = 5) (h : pwX i s x y z = 0) : ∃ b k, b < sNb s ∧ x = nI b ∧ fd (sNu s) y (sNs s) = some k ∧ pwK i (sSh s k) (sTn s k) b z = 0 := by
  rw [pwX_share hi] at h
  by_cases hx : ¬ x < 0 ∧ x < nI (sNb s)
  · rw [if_pos hx] at h
    obtain ⟨b, hb, rfl⟩ := i32_nat (by omega) hx
    cases hf : fd (sNu s) y (sNs s) with
    | none => rw [hf] at h; simp only at h; omega
    | some k =>
      rw [hf] at h
      simp only at h
      rw [nI_clamp (by omega)] at h
      exact ⟨b, k, hb, rfl, rfl, h⟩
  · rw [if_neg hx] at h; omega
theorem c_pw (l : Launch) (G : Gx) (hg hr : Nat) (h ah as_ : Nat) (rr ra : Nat → Nat) (s : ASt) (B : Nat) (hI : InvA B s) (i : Nat) (hi : i < 8) (x y z : Int32) : Ct l G (SFx G) yX1_problemWith wsX1_problemWith ({ frames := 4, cells := 0, slots := 0, locals := 88 }) [.ref hg, .ref (adD G i), .int x, .int y, .int z] ([(hg, .inr (4, [.ref h, .ref hr]))] ++ stA G h ah as_ rr ra s) mkA (fun (r : Option Nat) (_ : Unit) => r = some (adP G (pwX i s x y z))) (fun _ : Unit => ([(hg, .inr (4, [.ref h, .ref hr]))] ++ stA G h ah as_ rr ra s)) 0 0 := by
  have hb8 := hI.1
  have hs6 := hI.2.1
  have share : ∀ (i : Nat) (_ : i = 3 ∨ i = 4 ∨ i = 5)
      (FV : ∀ (b k : Nat), b < sNb s → x = nI b → fd (sNu s) y (sNs s) = some k → Ct l G (SFx G) yX1_problemWith wsX1_problemWith ({ frames := 4, cells := 0, slots := 0, locals := 88 }) [.ref hg, .ref (adD G i), .int x, .int y, .int z] ([(hg, .inr (4, [.ref h, .ref hr]))] ++ stA G h ah as_ rr ra s) mkA (fun (r : Option Nat) (_ : Unit) => r = some (adP G (pwK i (sSh s k) (sTn s k) b z))) (fun _ : Unit => ([(hg, .inr (4, [.ref h, .ref hr]))] ++ stA G h ah as_ rr ra s)) 0 0)
      (FX : ∀ (k : Nat), ¬ (¬ x < 0 ∧ x < nI (sNb s)) → fd (sNu s) y (sNs s) = some k → Ct l G (SFx G) yX1_problemWith wsX1_problemWith ({ frames := 4, cells := 0, slots := 0, locals := 88 }) [.ref hg, .ref (adD G i), .int x, .int y, .int z] ([(hg, .inr (4, [.ref h, .ref hr]))] ++ stA G h ah as_ rr ra s) mkA (fun (r : Option Nat) (_ : Unit) => r = some (adP G 2)) (fun _ : Unit => ([(hg, .inr (4, [.ref h, .ref hr]))] ++ stA G h ah as_ rr ra s)) 0 0)
      (NV : ∀ (b : Nat), b < sNb s → x = nI b → fd (sNu s) y (sNs s) = none → Ct l G (SFx G) yX1_problemWith wsX1_problemWith ({ frames := 4, cells := 0, slots := 0, locals := 88 }) [.ref hg, .ref (adD G i), .int x, .int y, .int z] ([(hg, .inr (4, [.ref h, .ref hr]))] ++ stA G h ah as_ rr ra s) mkA (fun (r : Option Nat) (_ : Unit) => r = some (adP G 3)) (fun _ : Unit => ([(hg, .inr (4, [.ref h, .ref hr]))] ++ stA G h ah as_ rr ra s)) 0 0)
      (NX : ¬ (¬ x < 0 ∧ x < nI (sNb s)) → fd (sNu s) y (sNs s) = none → Ct l G (SFx G) yX1_problemWith wsX1_problemWith ({ frames := 4, cells := 0, slots := 0, locals := 88 }) [.ref hg, .ref (adD G i), .int x, .int y, .int z] ([(hg, .inr (4, [.ref h, .ref hr]))] ++ stA G h ah as_ rr ra s) mkA (fun (r : Option Nat) (_ : Unit) => r = some (adP G 2)) (fun _ : Unit => ([(hg, .inr (4, [.ref h, .ref hr]))] ++ stA G h ah as_ rr ra s)) 0 0),
      Ct l G (SFx G) yX1_problemWith wsX1_problemWith ({ frames := 4, cells := 0, slots := 0, locals := 88 }) [.ref hg, .ref (adD G i), .int x, .int y, .int z] ([(hg, .inr (4, [.ref h, .ref hr]))] ++ stA G h ah as_ rr ra s) mkA (fun (r : Option Nat) (_ : Unit) => r = some (adP G (pwX i s x y z))) (fun _ : Unit => ([(hg, .inr (4, [.ref h, .ref hr]))] ++ stA G h ah as_ rr ra s)) 0 0 := by
    intro i hi FV FX NV NX
    rw [pwX_share hi]
    by_cases hx : ¬ x < 0 ∧ x < nI (sNb s)
    · rw [if_pos hx]
      obtain ⟨b, hb, hxb⟩ := i32_nat (by omega) hx
      cases hf : fd (sNu s) y (sNs s) with
      | none => exact NV b hb hxb hf
      | some k =>
        have := FV b k hb hxb hf
        simp only
        rw [show x.toNatClampNeg = b by rw [hxb, nI_clamp (by omega)]]
        exact this
    · rw [if_neg hx]
      cases hf : fd (sNu s) y (sNs s) with
      | none => exact NX hx hf
      | some k => exact FX k hx hf
  obtain rfl | rfl | rfl | rfl | rfl | rfl | rfl | rfl := lt8 hi
  · exact Ct.room (c_pw0 l G hg hr h ah as_ rr ra (sHm s) (sNb s) (sNs s) (sLa s) (sLo s) (sNu s) (sTn s) (sSh s) hb8 hs6 x y z) (by decide) (by decide) (by decide) (by decide)
  · exact Ct.room (c_pw1 l G hg hr h ah as_ rr ra (sHm s) (sNb s) (sNs s) (sLa s) (sLo s) (sNu s) (sTn s) (sSh s) hb8 hs6 x y z) (by decide) (by decide) (by decide) (by decide)
  · exact Ct.room (c_pw2 l G hg hr h ah as_ rr ra (sHm s) (sNb s) (sNs s) (sLa s) (sLo s) (sNu s) (sTn s) (sSh s) hb8 hs6 x y z) (by decide) (by decide) (by decide) (by decide)
  · refine share 3 (by omega) (fun b k hb hx hf => ?_) (fun k hx hf => ?_) (fun b hb hx hf => ?_) (fun hx hf => ?_)
    · subst hx; exact Ct.room (c_pw3FV l G hg hr h ah as_ rr ra (sHm s) (sNb s) (sNs s) (sLa s) (sLo s) (sNu s) (sTn s) (sSh s) hb8 hs6 b hb y z k (fd_lt hf hs6).2 hf (hI.2.2.1 k (fd_lt hf hs6).1).2.1) (by decide) (by decide) (by decide) (by decide)
    · exact Ct.room (c_pw3FX l G hg hr h ah as_ rr ra (sHm s) (sNb s) (sNs s) (sLa s) (sLo s) (sNu s) (sTn s) (sSh s) hb8 hs6 x hx y z k (fd_lt hf hs6).2 hf (hI.2.2.1 k (fd_lt hf hs6).1).2.1) (by decide) (by decide) (by decide) (by decide)
    · subst hx; exact Ct.room (c_pw3NV l G hg hr h ah as_ rr ra (sHm s) (sNb s) (sNs s) (sLa s) (sLo s) (sNu s) (sTn s) (sSh s) hb8 hs6 b hb y z hf) (by decide) (by decide) (by decide) (by decide)
    · exact Ct.room (c_pw3NX l G hg hr h ah as_ rr ra (sHm s) (sNb s) (sNs s) (sLa s) (sLo s) (sNu s) (sTn s) (sSh s) hb8 hs6 x hx y z hf) (by decide) (by decide) (by decide) (by decide)
  · refine share 4 (by omega) (fun b k hb hx hf => ?_) (fun k hx hf => ?_) (fun b hb hx hf => ?_) (fun hx hf => ?_)
    · subst hx; exact Ct.room (c_pw4FV l G hg hr h ah as_ rr ra (sHm s) (sNb s) (sNs s) (sLa s) (sLo s) (sNu s) (sTn s) (sSh s) hb8 hs6 b hb y z k (fd_lt hf hs6).2 hf (hI.2.2.1 k (fd_lt hf hs6).1).2.1) (by decide) (by decide) (by decide) (by decide)
    · exact Ct.room (c_pw4FX l G hg hr h ah as_ rr ra (sHm s) (sNb s) (sNs s) (sLa s) (sLo s) (sNu s) (sTn s) (sSh s) hb8 hs6 x hx y z k (fd_lt hf hs6).2 hf (hI.2.2.1 k (fd_lt hf hs6).1).2.1) (by decide) (by decide) (by decide) (by decide)
    · subst hx; exact Ct.room (c_pw4NV l G hg hr h ah as_ rr ra (sHm s) (sNb s) (sNs s) (sLa s) (sLo s) (sNu s) (sTn s) (sSh s) hb8 hs6 b hb y z hf) (by decide) (by decide) (by decide) (by decide)
    · exact Ct.room (c_pw4NX l G hg hr h ah as_ rr ra (sHm s) (sNb s) (sNs s) (sLa s) (sLo s) (sNu s) (sTn s) (sSh s) hb8 hs6 x hx y z hf) (by decide) (by decide) (by decide) (by decide)
  · refine share 5 (by omega) (fun b k hb hx hf => ?_) (fun k hx hf => ?_) (fun b hb hx hf => ?_) (fun hx hf => ?_)
    · subst hx; exact Ct.room (c_pw5FV l G hg hr h ah as_ rr ra (sHm s) (sNb s) (sNs s) (sLa s) (sLo s) (sNu s) (sTn s) (sSh s) hb8 hs6 b hb y z k (fd_lt hf hs6).2 hf (hI.2.2.1 k (fd_lt hf hs6).1).2.1) (by decide) (by decide) (by decide) (by decide)
    · exact Ct.room (c_pw5FX l G hg hr h ah as_ rr ra (sHm s) (sNb s) (sNs s) (sLa s) (sLo s) (sNu s) (sTn s) (sSh s) hb8 hs6 x hx y z k (fd_lt hf hs6).2 hf (hI.2.2.1 k (fd_lt hf hs6).1).2.1) (by decide) (by decide) (by decide) (by decide)
    · subst hx; exact Ct.room (c_pw5NV l G hg hr h ah as_ rr ra (sHm s) (sNb s) (sNs s) (sLa s) (sLo s) (sNu s) (sTn s) (sSh s) hb8 hs6 b hb y z hf) (by decide) (by decide) (by decide) (by decide)
    · exact Ct.room (c_pw5NX l G hg hr h ah as_ rr ra (sHm s) (sNb s) (sNs s) (sLa s) (sLo s) (sNu s) (sTn s) (sSh s) hb8 hs6 x hx y z hf) (by decide) (by decide) (by decide) (by decide)
  · exact Ct.room (c_pw6 l G hg hr h ah as_ rr ra (sHm s) (sNb s) (sNs s) (sLa s) (sLo s) (sNu s) (sTn s) (sSh s) hb8 hs6 x y z) (by decide) (by decide) (by decide) (by decide)
  · show Ct l G (SFx G) _ _ _ _ _ mkA (fun (r : Option Nat) (_ : Unit) => r = some (adP G (pwF (fd (sNu s) x (sNs s))))) _ 0 0
    cases hf : fd (sNu s) x (sNs s) with
    | none => exact Ct.room (c_pw7N l G hg hr h ah as_ rr ra (sHm s) (sNb s) (sNs s) (sLa s) (sLo s) (sNu s) (sTn s) (sSh s) hb8 hs6 x y z hf) (by decide) (by decide) (by decide) (by decide)
    | some k => exact Ct.room (c_pw7F l G hg hr h ah as_ rr ra (sHm s) (sNb s) (sNs s) (sLa s) (sLo s) (sNu s) (sTn s) (sSh s) hb8 hs6 x y z k (fd_lt hf hs6).2 hf) (by decide) (by decide) (by decide) (by decide)
set_option maxHeartbeats 1000000 in
theorem c_co (l : Launch) (G : Gx) (hg hr : Nat) (h ah as_ : Nat) (rr ra : Nat → Nat) (s : ASt) (B : Nat) (hI : InvA B s) (hp ap av he aw al af as3 : Nat) (ar : Nat → Nat) (E : Scr) (hok : Sok E) (i : Nat) (hi : i < 8) (x y z : Int32) (h0 : pwX i s x y z = 0) : Ct l G (SFx G) yX1_carryOut wsX1_carryOut ({ frames := 4, cells := 0, slots := 0, locals := 95 }) [.ref hg, .ref (adD G i), .int x, .int y, .int z] ([(hg, .inr (4, [.ref h, .ref hr]))] ++ (stA G h ah as_ rr ra s ++ (rbW G hr hp ap av he aw al af as3 ar E))) mkI (fun (r : Int32) (u : (Nat → Nat) × (Nat → Nat) × Scr) => r = rX i s x y z ∧ Sok u.2.2) (fun u : (Nat → Nat) × (Nat → Nat) × Scr => [(hg, .inr (4, [.ref h, .ref hr]))] ++ (stA G h ah as_ u.1 u.2.1 (cX i s x y z) ++ (rbW G hr hp ap av he aw al af as3 ar u.2.2))) 0 0 := by
  have hb8 := hI.1
  have hs6 := hI.2.1
  have lift : ∀ {rm : Room} {av_ : List Value} {r0 : Int32} {s' : ASt} (_ : Ct l G (SFx G) yX1_carryOut wsX1_carryOut rm av_ ([(hg, .inr (4, [.ref h, .ref hr]))] ++ stA G h ah as_ rr ra s) mkI (fun (r : Int32) (_ : Unit) => r = r0) (fun _ : Unit => [(hg, .inr (4, [.ref h, .ref hr]))] ++ stA G h ah as_ rr ra s') 0 0), rm.frames ≤ 4 → rm.locals ≤ 95 → rm.cells ≤ 0 → rm.slots ≤ 0 → r0 = rX i s x y z → s' = cX i s x y z →
      Ct l G (SFx G) yX1_carryOut wsX1_carryOut ({ frames := 4, cells := 0, slots := 0, locals := 95 }) av_ ([(hg, .inr (4, [.ref h, .ref hr]))] ++ (stA G h ah as_ rr ra s ++ (rbW G hr hp ap av he aw al af as3 ar E))) mkI (fun (r : Int32) (u : (Nat → Nat) × (Nat → Nat) × Scr) => r = rX i s x y z ∧ Sok u.2.2) (fun u : (Nat → Nat) × (Nat → Nat) × Scr => [(hg, .inr (4, [.ref h, .ref hr]))] ++ (stA G h ah as_ u.1 u.2.1 (cX i s x y z) ++ (rbW G hr hp ap av he aw al af as3 ar u.2.2))) 0 0 := by
    intro rm av_ r0 s' C h1 h2 h3 h4 e1 e2
    rw [← List.append_assoc]
    refine Ct.mono (Ct.frame (Ct.room C h1 h2 h3 h4) (SFx.k G) (rbW G hr hp ap av he aw al af as3 ar E)) (fun r u hp => ⟨(rr, ra, E), ⟨hp.trans e1, hok⟩, ?_⟩)
    rw [e2, List.append_assoc]
  obtain rfl | rfl | rfl | rfl | rfl | rfl | rfl | rfl := lt8 hi
  · have C := c_co0 l G hg hr h ah as_ rr ra (sHm s) (sNb s) (sNs s) (sLa s) (sLo s) (sNu s) (sTn s) (sSh s) (pwB_0 h0).2 hs6 x y z
    exact lift C (by decide) (by decide) (by decide) (by decide) rfl rfl
  · obtain ⟨⟨h1, h2⟩, h3⟩ := pwM_0 h0
    obtain ⟨b, hb, rfl⟩ := i32_nat (by omega) ⟨h1, h2⟩
    have hc : (nI b).toNatClampNeg = b := nI_clamp (by omega)
    have C := c_co1 l G hg hr h ah as_ rr ra (sHm s) (sNb s) (sNs s) (sLa s) (sLo s) (sNu s) (sTn s) (sSh s) hb8 hs6 b (by omega) y z
    exact lift (s' := (upd (sHm s) b y, s.2)) C (by decide) (by decide) (by decide) (by decide) (by show _ = sHm s _; rw [hc]) (by show _ = (upd (sHm s) _ y, s.2); rw [hc])
  · obtain ⟨h1, h2, h3, h4, h5, h6⟩ := pwS_0 h0
    obtain ⟨v, hv, rfl⟩ := isR_nat h1
    obtain ⟨sd, hsd, rfl⟩ := isR_nat h4
    obtain ⟨t, ht, rfl⟩ := i32_nat (n := 5) (x := y) (by decide) ⟨fun z => h2 (Int32.lt_trans z (by decide)), Int32.lt_of_le_of_lt (Int32.not_lt.mp h3) (by decide)⟩
    have ht1 : 1 ≤ t := Nat.le_of_not_lt (fun z => h2 (nI_lt (a := t) (b := 1) z (by decide)))
    have e1 : (nI v).toNatClampNeg = v := nI_clamp (by omega)
    have e2 : (nI sd).toNatClampNeg = sd := nI_clamp (by omega)
    have e3 : (nI t).toNatClampNeg = t := nI_clamp (by omega)
    have C := c_co2 l G hg hr h ah as_ rr ra (sHm s) (sNb s) (sNs s) (sLa s) (sLo s) (sNu s) (sTn s) (sSh s) hb8 h5 v t sd hv ht1 (by omega) hsd
    exact lift (s' := (sHm s, sNb s, sNs s + 1, sLa s + 1, sLo s, va_up (sNu s) (sNs s) (sLa s + 1), va_up (sTn s) (sNs s) t, va_up (sSh s) (sNs s) (flf (dl v sd t) (fun _ => -1) (sNb s)))) C (by decide) (by decide) (by decide) (by decide) rfl (by show _ = (sHm s, sNb s, sNs s + 1, _, _, _, va_up (sTn s) (sNs s) _, va_up (sSh s) (sNs s) (flf (dl _ _ _) (fun _ => -1) (sNb s))); rw [e1, e2, e3])
  · obtain ⟨b, k, hb, rfl, hf, hk⟩ := pwX_sh hb8 (by omega) h0
    have hc : (nI b).toNatClampNeg = b := nI_clamp (by omega)
    have C := c_co3 l G hg hr h ah as_ rr ra (sHm s) (sNb s) (sNs s) (sLa s) (sLo s) (sNu s) (sTn s) (sSh s) hb8 hs6 b (by omega) y z k (fd_lt hf hs6).2 hf
    exact lift (s' := (sHm s, sNb s, sNs s, sLa s, sLo s + 1, sNu s, sTn s, va_up (sSh s) k (upd (sSh s k) b (-1)))) C (by decide) (by decide) (by decide) (by decide) (by simp only [rX, hf, hc]) (by simp only [cX, hf, hc])
  · obtain ⟨b, k, hb, rfl, hf, hk⟩ := pwX_sh hb8 (by omega) h0
    have hc : (nI b).toNatClampNeg = b := nI_clamp (by omega)
    have C := c_co4 l G hg hr h ah as_ rr ra (sHm s) (sNb s) (sNs s) (sLa s) (sLo s) (sNu s) (sTn s) (sSh s) hb8 hs6 b (by omega) y z k (fd_lt hf hs6).2 hf
    exact lift (s' := (sHm s, sNb s, sNs s, sLa s, sLo s, sNu s, sTn s, va_up (sSh s) k (upd (sSh s k) b ((sSh s k b + z) - (sSh s k b + z) / 97 * 97)))) C (by decide) (by decide) (by decide) (by decide) (by simp only [rX, hf, hc]) (by simp only [cX, hf, hc])
  · obtain ⟨b, k, hb, rfl, hf, hk⟩ := pwX_sh hb8 (by omega) h0
    have hc : (nI b).toNatClampNeg = b := nI_clamp (by omega)
    have ik := hI.2.2.1 k (fd_lt hf hs6).1
    refine Ct.mono (Ct.room (c_co5 l G hg hr hp ap av he aw al af as3 ar E hok h ah as_ rr ra (sHm s) (sNb s) (sNs s) (sLa s) (sLo s) (sNu s) (sTn s) (sSh s) hb8 hs6 b (by omega) y z k (fd_lt hf hs6).2 hf ik.2.2.1 ik.1 ik.2.1) (by decide) (by decide) (by decide) (by decide)) (fun r u hp => ⟨(rr, ra, u), ⟨hp.1.trans ?_, hp.2⟩, ?_⟩)
    · simp only [rX, hf, hc]
    · simp only [cX, hf, hc]
  · obtain ⟨⟨k, hf⟩, h1⟩ := pwR_0 h0
    obtain ⟨sd, hsd, rfl⟩ := isR_nat h1
    have hc : (nI sd).toNatClampNeg = sd := nI_clamp (by omega)
    have ik := hI.2.2.1 k (fd_lt hf hs6).1
    have C := c_co6 l G hg hr h ah as_ rr ra (sHm s) (sNb s) (sNs s) (sLa s) (sLo s) (sNu s) (sTn s) (sSh s) hb8 hs6 x k (fd_lt hf hs6).2 hf ik.1 ik.2.1 sd hsd z
    exact lift (s' := (sHm s, sNb s, sNs s, sLa s, sLo s, sNu s, sTn s, va_up (sSh s) k (rfs (sSh s k) (rfa sd (sTn s k))))) C (by decide) (by decide) (by decide) (by decide) (by simp only [rX, hf, hc]) (by simp only [cX, hf, hc])
  · obtain ⟨c, hf⟩ := pwF_0 h0
    have hc6 := (fd_lt hf hs6).2
    have hcn := (fd_lt hf hs6).1
    have C := c_co7 l G hg hr h ah as_ rr ra (sHm s) (sNb s) (sNs s) (sLa s) (sLo s) (sNu s) (sTn s) (sSh s) hb8 hs6 x y z c hf
    have C2 := Ct.out (S' := Unit) (Po' := fun (r : Int32) (_ : Unit) => r = nI (hc (sSh s c) 8)) (w1' := fun _ : Unit => [(hg, .inr (4, [.ref h, .ref hr]))] ++ stA G h ah as_ (fun k => rr (pm c (sNs s) k)) (fun k => ra (pm c (sNs s) k)) (cX 7 s x y z)) C (fun r u hp => ⟨(), [0, 1, 2, 3, 4 + 2 * pm c (sNs s) 0, 5 + 2 * pm c (sNs s) 0, 4 + 2 * pm c (sNs s) 1, 5 + 2 * pm c (sNs s) 1, 4 + 2 * pm c (sNs s) 2, 5 + 2 * pm c (sNs s) 2, 4 + 2 * pm c (sNs s) 3, 5 + 2 * pm c (sNs s) 3, 4 + 2 * pm c (sNs s) 4, 5 + 2 * pm c (sNs s) 4, 4 + 2 * pm c (sNs s) 5, 5 + 2 * pm c (sNs s) 5], hp, ?_, ?_⟩)
    · rw [← List.append_assoc]
      refine Ct.mono (Ct.frame (Ct.room C2 (by decide) (by decide) (by decide) (by decide)) (SFx.k G) (rbW G hr hp ap av he aw al af as3 ar E)) (fun r u hp => ⟨(fun k => rr (pm c (sNs s) k), fun k => ra (pm c (sNs s) k), E), ⟨hp.trans ?_, hok⟩, ?_⟩)
      · simp only [rX, hf]
      · rw [List.append_assoc]
    · have hn7 : sNs s < 7 := by omega
      simp only [cX, hf]
      generalize sNs s = ns at hn7 hcn ⊢
      rcases lt6 hc6 with rfl | rfl | rfl | rfl | rfl | rfl <;> rcases lt7 hn7 with rfl | rfl | rfl | rfl | rfl | rfl | rfl <;> first | rfl | omega
    · have hn7 : sNs s < 7 := by omega
      generalize sNs s = ns at hn7 hcn ⊢
      rcases lt6 hc6 with rfl | rfl | rfl | rfl | rfl | rfl <;> rcases lt7 hn7 with rfl | rfl | rfl | rfl | rfl | rfl | rfl <;> first | rfl | omega