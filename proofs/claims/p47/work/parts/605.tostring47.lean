/-! toString (printed by gen/s60t.py) -/
set_option maxHeartbeats 4000000 in
set_option maxRecDepth 100000 in
theorem d_toString (l : Launch) (G : Gx) (sb b cap : Nat) (f : Nat → Nat) (n : Nat) (ml : Int32) (hcap : capQ cap) (hn : n ≤ cap) (hf : ∀ j, f j < 128) : Ct l G (SFt G) yJ4_toString_0e30d wsJ4_toString_0e30d ({ frames := 5, cells := 2, slots := 102, locals := 112 }) [.ref sb] (flt [[(sb, .inr (1, [.ref b, .int 0, .int ml, .int (nI n)]))], [(b, .inl (gB G, cap, .inl (fun j => nI (f j))))]]) mkA (fun (r : Option Nat) (u : Nat × Nat × (Nat → Nat)) => r = some u.1 ∧ (∀ j, u.2.2 j < 128) ∧ ∀ j, j < n → u.2.2 j = f j) (fun u : Nat × Nat × (Nat → Nat) => flt [[(u.1, .inr (0, [.ref (u.2.1), .int 0, .int 0, .int 0]))], [(u.2.1, .inl (gB G, n, .inl (fun j => nI ((u.2.2) j))))], [(sb, .inr (1, [.ref b, .int 0, .int ml, .int (nI n)]))], [(b, .inl (gB G, cap, .inl (fun j => nI (f j))))]]) 2 102 := by
  refine Ct.ofA (mk := fun r : Option Nat => va_rf r) (fun r => va_rf_or r) (Or.inl ⟨_, rfl⟩) (cc := cJ4_toString_0e30d) (maxL := 1) (by decide) rfl ⟨by simp [Value.category], Nat.le_of_ble_eq_true rfl⟩ ?_
  intro K hl hC hSF hnm hE
  subst hl
  have hgot := SFgoS (SFt.k G) hSF
  have hgo := SFgo.x hgot
  have hSFt := hSF
  replace hSF := hSF.1
  have q0_ : Cond.classLink RJ4 18 RJ0 ∈ wsJ4_toString_0e30d := by decide +kernel
  have q1_ : Cond.instantiable RJ0 4 ∈ wsJ4_toString_0e30d := by decide +kernel
  have q2_ : Cond.initialized RJ0 ∈ wsJ4_toString_0e30d := by decide +kernel
  have q3_ : ∀ w ∈ u_ws RJ0 TJ0 4, w ∈ wsJ4_toString_0e30d := by decide +kernel
  have q4_ : Cond.initialized yJ0_init_81219.cls ∈ wsJ4_toString_0e30d := by decide +kernel
  have q5_ : Cond.methodLink RJ4 137 yJ0_init_81219 ∈ wsJ4_toString_0e30d := by decide +kernel
  have q6_ : Cond.instanceMethod yJ0_init_81219 ∈ wsJ4_toString_0e30d := by decide +kernel
  show V G K 1 0 0 0 [some (.ref sb)] [] (flt [[(sb, .inr (1, [.ref b, .int 0, .int ml, .int (nI n)]))], [(b, .inl (gB G, cap, .inl (fun j => nI (f j))))]])
  refine V.newOB hC (T := TJ0) (N := 4) (ci := 0) q3_ tyJ0 tyJ0_ok q0_ q1_ q2_ rfl (fs := [.null, .int 0, .int 0, .int 0]) (by decide) (by decide) (by decide) dJ4_toString_0e30d_0 (fun q_0 => ?_)
  show V G K 1 1 4 3 [some (.ref sb)] [.ref q_0] (flt [[(q_0, .inr (0, [.null, .int 0, .int 0, .int 0]))], [(sb, .inr (1, [.ref b, .int 0, .int ml, .int (nI n)]))], [(b, .inl (gB G, cap, .inl (fun j => nI (f j))))]])
  refine V.dup hC dJ4_toString_0e30d_3 rfl ?_
  refine V.aload_n hC (x := sb) dJ4_toString_0e30d_4 rfl ?_
  refine V.callIBN (n := 1) (As := [.ref sb]) (rest := [.ref q_0]) hC (d_strInit (kl K) G sb b cap f n ml hcap hn hf q_0) (SFt.k G) hgot gJ4_toString_0e30d_J0_init_81219 rfl ⟨rfl, rfl⟩ q4_ q5_ q6_ rfl (by decide +kernel) ⟨by decide, by decide, by decide, by decide⟩ (L := [[(q_0, .inr (0, [.null, .int 0, .int 0, .int 0]))], [(sb, .inr (1, [.ref b, .int 0, .int ml, .int (nI n)]))], [(b, .inl (gB G, cap, .inl (fun j => nI (f j))))]]) (N := 3) rfl [0, 1, 2] [] (by decide) rfl (fun u_5 : Nat × (Nat → Nat) => [[(q_0, .inr (0, [.ref (u_5.1), .int 0, .int 0, .int 0]))], [(u_5.1, .inl (gB G, n, .inl (fun j => nI ((u_5.2) j))))], [(sb, .inr (1, [.ref b, .int 0, .int ml, .int (nI n)]))], [(b, .inl (gB G, cap, .inl (fun j => nI (f j))))]]) (fun _ => rfl) rfl rfl (Nat.le_of_ble_eq_true rfl) dJ4_toString_0e30d_5 (fun r_5 u_5 hp_5 => ?_)
  show V G K 1 2 102 8 [some (.ref sb)] [.ref q_0] (flt [[(q_0, .inr (0, [.ref (u_5.1), .int 0, .int 0, .int 0]))], [(u_5.1, .inl (gB G, n, .inl (fun j => nI ((u_5.2) j))))], [(sb, .inr (1, [.ref b, .int 0, .int ml, .int (nI n)]))], [(b, .inl (gB G, cap, .inl (fun j => nI (f j))))]])
  exact hE 8 _ (some q_0) (q_0, u_5) dJ4_toString_0e30d_8 ⟨rfl, hp_5⟩
