/-! rows over arrays that hold numbers: content fun j => nI (f j) -/
theorem updN (f : Nat → Nat) (j x : Nat) : upd (fun i => nI (f i)) j (nI x) = fun i => nI (va_up f j x i) := by
  funext i
  by_cases h : i = j
  · subst h
    rw [pk_us, va_up_self]
  · rw [pk_un h, va_up_ne _ _ h]
section VNARR
variable {G : Gx} {K : Cx} {nL cells slots pc : Nat} {lv lv' : List (Option Value)} {st : List Value} {ws ws' : va_W} {cc : ByteArray} {own : String} {Ts : List Cond} {rm : Room}
theorem V.ialdN (hC : Cok G K cc nL own Ts rm) (hdg : decode cc pc = .ok (.iaload, 1)) (q0 : Nat) {a n : Nat} {f : Nat → Nat} (ha : ws[q0]? = some (a, .inl (gI G, n, .inl (fun j => nI (f j))))) {i : Int32} (j : Nat) (hi : i = nI j) (hj : j < n) (hn : n < 2 ^ 31) (h : V G K nL cells slots (pc + 1) lv (.int (nI (f j)) :: st) ws) : V G K nL cells slots pc lv (.int i :: .ref a :: st) ws := V.iald hC hdg q0 ha j hi hj hn h
theorem V.zaldN (hC : Cok G K cc nL own Ts rm) (hdg : decode cc pc = .ok (.baload, 1)) (q0 : Nat) {a n : Nat} {f : Nat → Nat} (ha : ws[q0]? = some (a, .inl (gZ G, n, .inl (fun j => nI (f j))))) {i : Int32} (j : Nat) (hi : i = nI j) (hj : j < n) (hn : n < 2 ^ 31) (h : V G K nL cells slots (pc + 1) lv (.int (nI (f j)) :: st) ws) : V G K nL cells slots pc lv (.int i :: .ref a :: st) ws := V.zald hC hdg q0 ha j hi hj hn h
theorem V.iastN (hC : Cok G K cc nL own Ts rm) (hdg : decode cc pc = .ok (.iastore, 1)) (q0 : Nat) {a n : Nat} {f : Nat → Nat} (ha : ws[q0]? = some (a, .inl (gI G, n, .inl (fun j => nI (f j))))) {i x : Int32} (j y : Nat) (hi : i = nI j) (hj : j < n) (hn : n < 2 ^ 31) (hx : x = nI y) (ws' : va_W) (e : ws.set q0 (a, .inl (gI G, n, .inl (fun i => nI (va_up f j y i)))) = ws') (h : V G K nL cells slots (pc + 1) lv st ws') : V G K nL cells slots pc lv (.int x :: .int i :: .ref a :: st) ws := by
  subst hx
  exact V.iast hC hdg q0 ha j hi hj hn ws' (by rw [updN]; exact e) h
theorem V.zastN (hC : Cok G K cc nL own Ts rm) (hdg : decode cc pc = .ok (.bastore, 1)) (q0 : Nat) {a n : Nat} {f : Nat → Nat} (ha : ws[q0]? = some (a, .inl (gZ G, n, .inl (fun j => nI (f j))))) {i x : Int32} (j y : Nat) (hi : i = nI j) (hj : j < n) (hn : n < 2 ^ 31) (hx : x = nI y) (hz : vp_nar .boolean x = x) (ws' : va_W) (e : ws.set q0 (a, .inl (gZ G, n, .inl (fun i => nI (va_up f j y i)))) = ws') (h : V G K nL cells slots (pc + 1) lv st ws') : V G K nL cells slots pc lv (.int x :: .int i :: .ref a :: st) ws := by
  subst hx
  exact V.zast hC hdg q0 ha j hi hj hn hz ws' (by rw [updN]; exact e) h
theorem V.aaldII (hC : Cok G K cc nL own Ts rm) (hdg : decode cc pc = .ok (.aaload, 1)) (q0 : Nat) {a n : Nat} {f : Nat → Option Nat} (ha : ws[q0]? = some (a, .inl (gII G, n, .inr (.inr (.inr (.inr f)))))) {i : Int32} (j : Nat) (hi : i = nI j) (hj : j < n) (hn : n < 2 ^ 31) (x : Nat) (hx : f j = some x) (h : V G K nL cells slots (pc + 1) lv (.ref x :: st) ws) : V G K nL cells slots pc lv (.int i :: .ref a :: st) ws := by
  intro H locs ls hP hD hS hl
  have hin := ix_in hi hj hn
  have hcl := ix_cl hi hj hn
  have hlt : i.toNatClampNeg < n := by rw [hcl]; exact hj
  have hK := hC.2.2.2.2.2.2.1
  exact W.aald (v := va_rf (f i.toNatClampNeg)) (ty := .array .int) hC.1 hC.2.1 (hP q0 _ ha) ((hK.2 5 _ rfl).1 n (fun j => va_rf (f j))) rfl (fun q => by cases q) (by show ¬ (i < 0 ∨ (arrV _ _ _).slots.size ≤ _); rw [arrV_size]; exact hin) (by show (arrV _ _ _).slots[_]? = _; rw [arrV_read _ _ hlt]) rfl rfl hdg (by rw [hcl, hx]; exact h H locs ls hP hD hS hl)
/-- a row of numbers said by another function that agrees on its places -/
theorem V.extN (q0 : Nat) {a n : Nat} {cA : ClassId} {f g : Nat → Nat} (ha : ws[q0]? = some (a, .inl (cA, n, .inl (fun j => nI (f j))))) (hfg : ∀ k, k < n → f k = g k) (e : ws.set q0 (a, .inl (cA, n, .inl (fun j => nI (g j)))) = ws') (h : V G K nL cells slots pc lv st ws') : V G K nL cells slots pc lv st ws :=
  V.ext q0 ha (fun k hk => by rw [hfg k hk]) e h
end VNARR
