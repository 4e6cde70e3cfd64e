/-! rows over numbers: values that are nI of a Nat -/
section VNAT
variable {G : Gx} {K : Cx} {nL cells slots pc : Nat} {lv lv' : List (Option Value)} {st : List Value} {ws ws' : va_W} {cc : ByteArray} {own : String} {Ts : List Cond} {rm : Room}
theorem V.topeq {x : Int32} (y : Int32) (e : x = y) (h : V G K nL cells slots pc lv (.int y :: st) ws) : V G K nL cells slots pc lv (.int x :: st) ws := by rw [e]; exact h
theorem V.topeqL {x : Int64} (y : Int64) (e : x = y) (h : V G K nL cells slots pc lv (.long y :: st) ws) : V G K nL cells slots pc lv (.long x :: st) ws := by rw [e]; exact h

theorem V.icmpN_eq (hC : Cok G K cc nL own Ts rm) {x y : Int32} (a b : Nat) {off : Int} (tgt : Nat) (hdg : decode cc pc = .ok (.if_icmp .eq off, 3)) (ht : (pc : Int) + off = (tgt : Int)) (hx : x = nI a) (hy : y = nI b) (ha : a < 2 ^ 31) (hb : b < 2 ^ 31) (ht1 : a = b → V G K nL cells slots tgt lv st ws) (hf1 : a ≠ b → V G K nL cells slots (pc + 3) lv st ws) : V G K nL cells slots pc lv (.int y :: .int x :: st) ws := by
  subst hx
  subst hy
  exact V.icmp_eq hC tgt hdg ht (fun q => ht1 ((nI_eq ha hb).mp q)) (fun q => hf1 (fun z => q ((nI_eq ha hb).mpr z)))
theorem V.icmpN_ne (hC : Cok G K cc nL own Ts rm) {x y : Int32} (a b : Nat) {off : Int} (tgt : Nat) (hdg : decode cc pc = .ok (.if_icmp .ne off, 3)) (ht : (pc : Int) + off = (tgt : Int)) (hx : x = nI a) (hy : y = nI b) (ha : a < 2 ^ 31) (hb : b < 2 ^ 31) (ht1 : a ≠ b → V G K nL cells slots tgt lv st ws) (hf1 : a = b → V G K nL cells slots (pc + 3) lv st ws) : V G K nL cells slots pc lv (.int y :: .int x :: st) ws := by
  subst hx
  subst hy
  exact V.icmp_ne hC tgt hdg ht (fun q => ht1 (fun z => q ((nI_eq ha hb).mpr z))) (fun q => hf1 ((nI_eq ha hb).mp q))
theorem V.icmpN_lt (hC : Cok G K cc nL own Ts rm) {x y : Int32} (a b : Nat) {off : Int} (tgt : Nat) (hdg : decode cc pc = .ok (.if_icmp .lt off, 3)) (ht : (pc : Int) + off = (tgt : Int)) (hx : x = nI a) (hy : y = nI b) (ha : a < 2 ^ 31) (hb : b < 2 ^ 31) (ht1 : a < b → V G K nL cells slots tgt lv st ws) (hf1 : b ≤ a → V G K nL cells slots (pc + 3) lv st ws) : V G K nL cells slots pc lv (.int y :: .int x :: st) ws := by
  subst hx
  subst hy
  exact V.icmp_lt hC tgt hdg ht (fun q => ht1 ((nI_ltI ha hb).mp q)) (fun q => hf1 (Nat.le_of_not_lt (fun z => q ((nI_ltI ha hb).mpr z))))
theorem V.icmpN_ge (hC : Cok G K cc nL own Ts rm) {x y : Int32} (a b : Nat) {off : Int} (tgt : Nat) (hdg : decode cc pc = .ok (.if_icmp .ge off, 3)) (ht : (pc : Int) + off = (tgt : Int)) (hx : x = nI a) (hy : y = nI b) (ha : a < 2 ^ 31) (hb : b < 2 ^ 31) (ht1 : b ≤ a → V G K nL cells slots tgt lv st ws) (hf1 : a < b → V G K nL cells slots (pc + 3) lv st ws) : V G K nL cells slots pc lv (.int y :: .int x :: st) ws := by
  subst hx
  subst hy
  exact V.icmp_ge hC tgt hdg ht (fun q => ht1 ((nI_leI hb ha).mp q)) (fun q => hf1 (Nat.lt_of_not_le (fun z => q ((nI_leI hb ha).mpr z))))
theorem V.icmpN_gt (hC : Cok G K cc nL own Ts rm) {x y : Int32} (a b : Nat) {off : Int} (tgt : Nat) (hdg : decode cc pc = .ok (.if_icmp .gt off, 3)) (ht : (pc : Int) + off = (tgt : Int)) (hx : x = nI a) (hy : y = nI b) (ha : a < 2 ^ 31) (hb : b < 2 ^ 31) (ht1 : b < a → V G K nL cells slots tgt lv st ws) (hf1 : a ≤ b → V G K nL cells slots (pc + 3) lv st ws) : V G K nL cells slots pc lv (.int y :: .int x :: st) ws := by
  subst hx
  subst hy
  exact V.icmp_gt hC tgt hdg ht (fun q => ht1 ((nI_ltI hb ha).mp q)) (fun q => hf1 (Nat.le_of_not_lt (fun z => q ((nI_ltI hb ha).mpr z))))
theorem V.icmpN_le (hC : Cok G K cc nL own Ts rm) {x y : Int32} (a b : Nat) {off : Int} (tgt : Nat) (hdg : decode cc pc = .ok (.if_icmp .le off, 3)) (ht : (pc : Int) + off = (tgt : Int)) (hx : x = nI a) (hy : y = nI b) (ha : a < 2 ^ 31) (hb : b < 2 ^ 31) (ht1 : a ≤ b → V G K nL cells slots tgt lv st ws) (hf1 : b < a → V G K nL cells slots (pc + 3) lv st ws) : V G K nL cells slots pc lv (.int y :: .int x :: st) ws := by
  subst hx
  subst hy
  exact V.icmp_le hC tgt hdg ht (fun q => ht1 ((nI_leI ha hb).mp q)) (fun q => hf1 (Nat.lt_of_not_le (fun z => q ((nI_leI ha hb).mpr z))))
theorem V.ifN_eq (hC : Cok G K cc nL own Ts rm) {x : Int32} (a : Nat) {off : Int} (tgt : Nat) (hdg : decode cc pc = .ok (.ifCond .eq off, 3)) (ht : (pc : Int) + off = (tgt : Int)) (hx : x = nI a) (ha : a < 2 ^ 31) (ht1 : a = 0 → V G K nL cells slots tgt lv st ws) (hf1 : a ≠ 0 → V G K nL cells slots (pc + 3) lv st ws) : V G K nL cells slots pc lv (.int x :: st) ws := by
  subst hx
  exact V.if_eq hC tgt hdg ht (fun q => ht1 ((nI_eq ha (by decide)).mp (q.trans nI_0.symm))) (fun q => hf1 (fun z => q (by rw [z]; exact nI_0)))
theorem V.ifN_ne (hC : Cok G K cc nL own Ts rm) {x : Int32} (a : Nat) {off : Int} (tgt : Nat) (hdg : decode cc pc = .ok (.ifCond .ne off, 3)) (ht : (pc : Int) + off = (tgt : Int)) (hx : x = nI a) (ha : a < 2 ^ 31) (ht1 : a ≠ 0 → V G K nL cells slots tgt lv st ws) (hf1 : a = 0 → V G K nL cells slots (pc + 3) lv st ws) : V G K nL cells slots pc lv (.int x :: st) ws := by
  subst hx
  exact V.if_ne hC tgt hdg ht (fun q => ht1 (fun z => q (by rw [z]; exact nI_0))) (fun q => hf1 ((nI_eq ha (by decide)).mp (q.trans nI_0.symm)))
theorem V.ifN_gt (hC : Cok G K cc nL own Ts rm) {x : Int32} (a : Nat) {off : Int} (tgt : Nat) (hdg : decode cc pc = .ok (.ifCond .gt off, 3)) (ht : (pc : Int) + off = (tgt : Int)) (hx : x = nI a) (ha : a < 2 ^ 31) (ht1 : 0 < a → V G K nL cells slots tgt lv st ws) (hf1 : a = 0 → V G K nL cells slots (pc + 3) lv st ws) : V G K nL cells slots pc lv (.int x :: st) ws := by
  subst hx
  exact V.if_gt hC tgt hdg ht (fun q => ht1 (Nat.pos_of_ne_zero (fun z => by rw [z] at q; exact absurd q (by decide)))) (fun q => hf1 (Nat.eq_zero_of_not_pos (fun z => q (by have := (nI_ltI (a := 0) (b := a) (by decide) ha).mpr z; exact this))))
theorem V.ifN_le (hC : Cok G K cc nL own Ts rm) {x : Int32} (a : Nat) {off : Int} (tgt : Nat) (hdg : decode cc pc = .ok (.ifCond .le off, 3)) (ht : (pc : Int) + off = (tgt : Int)) (hx : x = nI a) (ha : a < 2 ^ 31) (ht1 : a = 0 → V G K nL cells slots tgt lv st ws) (hf1 : 0 < a → V G K nL cells slots (pc + 3) lv st ws) : V G K nL cells slots pc lv (.int x :: st) ws := by
  subst hx
  exact V.if_le hC tgt hdg ht (fun q => ht1 (Nat.eq_zero_of_not_pos (fun z => nI_nle z ha q))) (fun q => hf1 (Nat.pos_of_ne_zero (fun z => q (by rw [z]; decide))))
theorem V.ifN_lt (hC : Cok G K cc nL own Ts rm) {x : Int32} (a : Nat) {off : Int} (tgt : Nat) (hdg : decode cc pc = .ok (.ifCond .lt off, 3)) (ht : (pc : Int) + off = (tgt : Int)) (hx : x = nI a) (ha : a < 2 ^ 31) (hf1 : V G K nL cells slots (pc + 3) lv st ws) : V G K nL cells slots pc lv (.int x :: st) ws := by
  subst hx
  exact V.if_lt hC tgt hdg ht (fun q => absurd q (nI_pos ha)) (fun _ => hf1)
theorem V.iaddN (hC : Cok G K cc nL own Ts rm) {x y : Int32} (a b : Nat) (hdg : decode cc pc = .ok (.iadd, 1)) (hx : x = nI a) (hy : y = nI b) (h : V G K nL cells slots (pc + 1) lv (.int (nI (a + b)) :: st) ws) : V G K nL cells slots pc lv (.int y :: .int x :: st) ws := by
  subst hx
  subst hy
  exact V.iadd hC hdg (by rw [nI_add]; exact h)
theorem V.isubN (hC : Cok G K cc nL own Ts rm) {x y : Int32} (a b : Nat) (hdg : decode cc pc = .ok (.isub, 1)) (hx : x = nI a) (hy : y = nI b) (hle : b ≤ a) (h : V G K nL cells slots (pc + 1) lv (.int (nI (a - b)) :: st) ws) : V G K nL cells slots pc lv (.int y :: .int x :: st) ws := by
  subst hx
  subst hy
  exact V.isub hC hdg (by rw [pk_sub hle]; exact h)
theorem V.imulN (hC : Cok G K cc nL own Ts rm) {x y : Int32} (a b : Nat) (hdg : decode cc pc = .ok (.imul, 1)) (hx : x = nI a) (hy : y = nI b) (h : V G K nL cells slots (pc + 1) lv (.int (nI (a * b)) :: st) ws) : V G K nL cells slots pc lv (.int y :: .int x :: st) ws := by
  subst hx
  subst hy
  exact V.imul hC hdg (by rw [pk_mul]; exact h)
theorem V.iremN (hC : Cok G K cc nL own Ts rm) {x y : Int32} (a d : Nat) (hdg : decode cc pc = .ok (.irem, 1)) (hx : x = nI a) (hy : y = nI d) (ha : a < 2 ^ 31) (h0 : 0 < d) (hd : d < 2 ^ 31) (h : V G K nL cells slots (pc + 1) lv (.int (nI (a % d)) :: st) ws) : V G K nL cells slots pc lv (.int y :: .int x :: st) ws := by
  subst hx
  subst hy
  exact V.irem hC hdg (nI_ne0 h0 hd) (by rw [pk_rem ha h0 hd]; exact h)
theorem V.idivN (hC : Cok G K cc nL own Ts rm) {x y : Int32} (a d : Nat) (hdg : decode cc pc = .ok (.idiv, 1)) (hx : x = nI a) (hy : y = nI d) (ha : a < 2 ^ 31) (h0 : 0 < d) (hd : d < 2 ^ 31) (h : V G K nL cells slots (pc + 1) lv (.int (nI (a / d)) :: st) ws) : V G K nL cells slots pc lv (.int y :: .int x :: st) ws := by
  subst hx
  subst hy
  exact V.idiv hC hdg (nI_ne0 h0 hd) (by rw [pk_div ha h0 hd]; exact h)
theorem V.iincN (hC : Cok G K cc nL own Ts rm) {k : Nat} {n : Int} {x : Int32} (a b : Nat) (hdg : decode cc pc = .ok (.iinc k n, 3)) (hj : lv[k]? = some (some (.int x))) (lv' : List (Option Value)) (hn : k < nL) (hx : x = nI a) (hnb : Int32.ofInt n = nI b) (e : lv.set k (some (.int (nI (a + b)))) = lv') (h : V G K nL cells slots (pc + 3) lv' st ws) : V G K nL cells slots pc lv st ws := by
  subst hx
  exact V.iinc hC (nI (a + b)) hdg hj lv' hn (by rw [hnb, nI_add]) e h
end VNAT
