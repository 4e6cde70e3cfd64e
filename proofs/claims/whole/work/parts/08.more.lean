section VMORE
variable {G : Gx} {K : Cx} {nL cells slots pc : Nat} {lv lv' : List (Option Value)} {st : List Value} {ws ws' : va_W} {cc : ByteArray} {own : String} {Ts : List Cond} {rm : Room}
theorem V.iushr (hC : Cok G K cc nL own Ts rm) {x y : Int32} (hdg : decode cc pc = .ok (.iushr, 1)) (h : V G K nL cells slots (pc + 1) lv (.int (x.toUInt32 >>> (y.toUInt32 &&& Int32.toUInt32 31)).toInt32 :: st) ws) : V G K nL cells slots pc lv (.int y :: .int x :: st) ws :=
  fun H locs ls hP hD hS hl => lv_iushr hC.1 hC.2.1 hdg rfl (h H locs ls hP hD hS hl)
theorem V.ldcw (hC : Cok G K cc nL own Ts rm) {index : Nat} (v : Int32) (hdg : decode cc pc = .ok (.ldc_w index, 3)) (hm : Cond.constant own index v ∈ Ts) (h : V G K nL cells slots (pc + 3) lv (.int v :: st) ws) : V G K nL cells slots pc lv st ws :=
  fun H locs ls hP hD hS hl => lv_ldcw hC.1 hC.2.1 hC.2.2.2.1 (hC.2.2.2.2.1 _ hm) hdg (h H locs ls hP hD hS hl)
theorem V.lset (i : Nat) {x y : Value} (e : x = y) (h1 : lv[i]? = some (some x)) (e2 : lv.set i (some y) = lv') (h : V G K nL cells slots pc lv' st ws) : V G K nL cells slots pc lv st ws := by
  subst e
  have : lv.set i (some x) = lv := by
    apply List.ext_getElem?
    intro j
    by_cases hj : i = j
    · subst hj
      rw [List.getElem?_set_self (List.getElem?_eq_some_iff.mp h1).1, h1]
    · rw [List.getElem?_set_ne hj]
  rw [this] at e2
  rw [e2]
  exact h
end VMORE
theorem m31 {a b A B : Nat} (ha : a ≤ A) (hb : b ≤ B) (h : A * B < 2 ^ 31) : a * b < 2 ^ 31 := Nat.lt_of_le_of_lt (Nat.mul_le_mul ha hb) h
theorem r31 {a d : Nat} (hd : 0 < d) (h : d < 2 ^ 31) : a % d < 2 ^ 31 := Nat.lt_trans (Nat.mod_lt _ hd) h
