/-! the line: its text, what is written (printed by gen/s52.py) -/
/-- the digits of a number -/
def dig (x : Nat) : List Nat := (List.range (dgc x)).map (dgt x)
theorem dig_len (x : Nat) : (dig x).length = dgc x := by simp [dig]
def isT (f : Nat → Nat) (n : Nat) (L : List Nat) : Prop := n = L.length ∧ ∀ j, j < n → f j = L.getD j 0
theorem isT.nil (f : Nat → Nat) : isT f 0 [] := ⟨rfl, fun j h => absurd h (Nat.not_lt_zero _)⟩
theorem isT.c {f g : Nat → Nat} {n c : Nat} {L : List Nat} (h : isT f n L) (h1 : ∀ j, j < n → g j = f j) (h2 : g n = c) : isT g (n + 1) (L ++ [c]) := by
  obtain ⟨e, h3⟩ := h
  refine ⟨by simp [e], fun j hj => ?_⟩
  by_cases q : j < n
  · rw [h1 j q, h3 j q, List.getD_eq_getElem?_getD, List.getD_eq_getElem?_getD, List.getElem?_append_left (by omega)]
  · have : j = n := by omega
    subst this
    rw [h2, List.getD_eq_getElem?_getD, List.getElem?_append_right (by omega), e, Nat.sub_self]
    rfl
theorem isT.i {f g : Nat → Nat} {n x : Nat} {L : List Nat} (h : isT f n L) (h1 : ∀ j, j < n → g j = f j) (h2 : ∀ j, j < dgc x → g (n + j) = dgt x j) : isT g (n + dgc x) (L ++ dig x) := by
  obtain ⟨e, h3⟩ := h
  refine ⟨by rw [List.length_append, dig_len, e], fun j hj => ?_⟩
  by_cases q : j < n
  · rw [h1 j q, h3 j q, List.getD_eq_getElem?_getD, List.getD_eq_getElem?_getD, List.getElem?_append_left (by omega)]
  · obtain ⟨k, rfl⟩ : ∃ k, j = n + k := ⟨j - n, by omega⟩
    have hk : k < dgc x := by omega
    rw [h2 k hk, List.getD_eq_getElem?_getD, List.getElem?_append_right (by omega), e, Nat.add_sub_cancel_left, dig, List.getElem?_map, List.getElem?_range hk]
    rfl
theorem isT.app {f : Nat → Nat} {n : Nat} {L M : List Nat} (h : isT f n L) (e : M = L) : isT f n M := by rw [e]; exact h
/-- the shares of the first b birds, as they are written -/
def wsh (sh : Nat → Int32) : Nat → List Nat
  | 0 => []
  | b + 1 => if sh b = -1 then wsh sh b else (((wsh sh b ++ [32]) ++ dig b) ++ [58]) ++ dig (svn sh b)
def nuN (s : ASt) (k : Nat) : Nat := (sNu s k).toNatClampNeg
def wSp (s : ASt) (k : Nat) : List Nat := (dig (nuN s k) ++ [47]) ++ dig (sTn s k)
def wS (s : ASt) (k b : Nat) : List Nat := wSp s k ++ wsh (sSh s k) b
theorem wS_no {s : ASt} {k b : Nat} (h : sSh s k b = -1) : wS s k (b + 1) = wS s k b := by rw [wS, wS, wsh, if_pos h]
theorem wS_yes {s : ASt} {k b : Nat} (h : ¬ sSh s k b = -1) : wS s k (b + 1) = (((wS s k b ++ [32]) ++ dig b) ++ [58]) ++ dig (svn (sSh s k) b) := by rw [wS, wS, wsh, if_neg h]; simp
theorem wS_0 (s : ASt) (k : Nat) : wS s k 0 = (([] ++ dig (nuN s k)) ++ [47]) ++ dig (sTn s k) := by simp [wS, wSp, wsh]
/-- the birds of a nest, as they are written -/
def wbd (hm : Nat → Int32) (x : Int32) : Nat → List Nat
  | 0 => []
  | b + 1 => if hm b = x then wbd hm x b ++ dig b else wbd hm x b
/-- the nests -/
def wns (s : ASt) : Nat → List Nat
  | 0 => []
  | i + 1 => ((wns s i ++ [91]) ++ wbd (sHm s) (nI i) (sNb s)) ++ [93]
theorem wbd_y {hm : Nat → Int32} {x : Int32} {b : Nat} (L : List Nat) (h : hm b = x) : L ++ wbd hm x (b + 1) = (L ++ wbd hm x b) ++ dig b := by rw [wbd, if_pos h]; simp
theorem wbd_n {hm : Nat → Int32} {x : Int32} {b : Nat} (L : List Nat) (h : ¬ hm b = x) : L ++ wbd hm x (b + 1) = L ++ wbd hm x b := by rw [wbd, if_neg h]
theorem dgc_4l {x : Nat} (h : x < 10000) : dgc x ≤ 4 := by
  unfold dgc
  repeat' split
  all_goals omega
theorem dgc_2l {x : Nat} (h : x < 100) : dgc x ≤ 2 := by
  unfold dgc
  repeat' split
  all_goals omega
theorem nu_ok {B : Nat} {s : ASt} (hI : InvA B s) (hB : B < 10000) {k : Nat} (hk : k < sNs s) : sNu s k = nI (nuN s k) ∧ nuN s k < 10000 := by
  obtain ⟨L, m, hL, -, hnu, -⟩ := hI.2.2.2.2.1
  have h := hnu k hk
  have e : nuN s k = m k := by rw [nuN, h.1, nI_clamp (by omega)]
  rw [e]
  exact ⟨h.1, by omega⟩
set_option maxRecDepth 100000 in
theorem asc_c : ∀ c, c < 128 → ((nI c &&& 255).toUInt32 % 65536).toInt32 = nI c := by decide +kernel
theorem asc_nar {c : Nat} (h : c < 128) : narrow .char (.int (nI c)) = .int (nI c) := (pk_charN (by omega)).1
set_option maxHeartbeats 4000000 in
set_option maxRecDepth 100000 in
theorem c_sbCharAt5 (l : Launch) (G : Gx) (sb b cap : Nat) (f : Nat → Nat) (n : Nat) (ml : Int32) (hcap : capOK cap) (hn : n ≤ cap) (hf : ∀ j, f j < 128) (j : Nat) (hj : j < n) : Ct l G (SFx G) yJ5_charAt_5068e wsJ5_charAt_5068e ({ frames := 2, cells := 0, slots := 0, locals := 43 }) [.ref sb, .int (nI j)] [(sb, .inr (1, [.ref b, .int 0, .int ml, .int (nI n)])), (b, .inl (gB G, cap, .inl (fun j => nI (f j))))] mkI (fun (r : Int32) (_ : Unit) => r = nI (f j)) (fun _ : Unit => [(sb, .inr (1, [.ref b, .int 0, .int ml, .int (nI n)])), (b, .inl (gB G, cap, .inl (fun j => nI (f j))))]) 0 0 := by
  refine Ct.ofI (cc := cJ5_charAt_5068e) (maxL := 5) (by decide) rfl ⟨by simp [Value.category], Nat.le_of_ble_eq_true rfl⟩ ?_
  intro K hl hC hSF hnm hE
  subst hl
  have hgo := SFgoS (SFx.k G) hSF
  have q0_ : ∀ w ∈ u_ws RJ4 TJ4 4, w ∈ wsJ5_charAt_5068e := by decide +kernel
  have q1_ : Cond.fieldLink RJ5 22 "java/lang/AbstractStringBuilder" "coder" "B" ∈ wsJ5_charAt_5068e := by decide +kernel
  have q2_ : Cond.fieldLink RJ5 15 "java/lang/AbstractStringBuilder" "value" "[B" ∈ wsJ5_charAt_5068e := by decide +kernel
  have q3_ : Cond.fieldLink RJ5 79 "java/lang/AbstractStringBuilder" "count" "I" ∈ wsJ5_charAt_5068e := by decide +kernel
  have q4_ : Cond.methodLink RJ5 138 Lib.Math.min.name ∈ wsJ5_charAt_5068e := by decide +kernel
  have q5_ : Cond.static Lib.Math.min.name ∈ wsJ5_charAt_5068e := by decide +kernel
  have q6_ : Cond.initialized "java/lang/Math" ∈ wsJ5_charAt_5068e := by decide +kernel
  have q7_ : Cond.code Lib.Math.min.name Lib.Math.min.code 2 (some .int) ∈ wsJ5_charAt_5068e := by decide +kernel
  show V G K 5 0 0 0 [some (.ref sb), some (.int (nI j)), none, none, none] [] [(sb, .inr (1, [.ref b, .int 0, .int ml, .int (nI n)])), (b, .inl (gB G, cap, .inl (fun j => nI (f j))))]
  refine V.aload_n hC (x := sb) dJ5_charAt_5068e_0 rfl ?_
  refine V.getf hC (T := TJ4) q0_ 1 q1_ rfl (0) rfl rfl (by decide) (.int 0) rfl dJ5_charAt_5068e_1 ?_
  refine V.istore_n hC dJ5_charAt_5068e_4 [some (.ref sb), some (.int (nI j)), some (.int 0), none, none] (Nat.le_of_ble_eq_true rfl) rfl ?_
  refine V.aload_n hC (x := sb) dJ5_charAt_5068e_5 rfl ?_
  refine V.getf hC (T := TJ4) q0_ 0 q2_ rfl (0) rfl rfl (by decide) (.ref b) rfl dJ5_charAt_5068e_6 ?_
  refine V.astore_n hC dJ5_charAt_5068e_9 [some (.ref sb), some (.int (nI j)), some (.int 0), some (.ref b), none] (Nat.le_of_ble_eq_true rfl) rfl ?_
  refine V.aload_n hC (x := sb) dJ5_charAt_5068e_10 rfl ?_
  refine V.getf hC (T := TJ4) q0_ 3 q3_ rfl (0) rfl rfl (by decide) (.int (nI n)) rfl dJ5_charAt_5068e_11 ?_
  have hcl := hcap.lt
  refine V.aload_n hC (x := b) dJ5_charAt_5068e_14 rfl ?_
  refine V.alen hC dJ5_charAt_5068e_15 (1) 6 rfl rfl (nI cap) rfl ?_
  refine V.iload_n hC (x := 0) dJ5_charAt_5068e_16 rfl ?_
  refine V.ishr hC dJ5_charAt_5068e_17 ?_
  refine V.topeq (nI cap) (shr_0 (by have := hcap.lt; omega)) ?_
  refine V.mmin hC q4_ q5_ q6_ q7_ ⟨Nat.le_of_ble_eq_true rfl, Nat.le_of_ble_eq_true rfl, Nat.le_of_ble_eq_true rfl, Nat.le_of_ble_eq_true rfl⟩ dJ5_charAt_5068e_18 ?_
  refine V.topeq (nI n) (by rw [nI_min (by omega) (by omega), Nat.min_eq_left hn]) ?_
  refine V.istore hC dJ5_charAt_5068e_21 [some (.ref sb), some (.int (nI j)), some (.int 0), some (.ref b), some (.int (nI n))] (Nat.le_of_ble_eq_true rfl) rfl ?_
  refine V.iload_n hC (x := nI j) dJ5_charAt_5068e_23 rfl ?_
  refine V.iload hC (x := nI n) dJ5_charAt_5068e_24 rfl ?_
  refine V.callSr (n := 2) (As := [.int (nI j), .int (nI n)]) (rest := []) hC (c_checkIx0 (kl K) G j n hj (by have := hcap.lt; omega)) (SFx.k G) hgo gJ5_charAt_5068e_J0_checkIndex_df160 rfl ⟨rfl, rfl⟩ (by decide +kernel) ⟨by decide, by decide, by decide, by decide⟩ [] rfl (by decide) rfl rfl (Nat.le_of_ble_eq_true rfl) dJ5_charAt_5068e_26 (fun r_26 u_26 hp_26 => ?_)
  show V G K 5 0 0 29 [some (.ref sb), some (.int (nI j)), some (.int 0), some (.ref b), some (.int (nI n))] [] [(sb, .inr (1, [.ref b, .int 0, .int ml, .int (nI n)])), (b, .inl (gB G, cap, .inl (fun j => nI (f j))))]
  refine V.iload_n hC (x := 0) dJ5_charAt_5068e_29 rfl ?_
  refine V.ifN_ne hC 0 42 dJ5_charAt_5068e_30 rfl rfl (by omega) (fun c_30 => ?_) (fun c_30 => ?_)
  · exact absurd c_30 (by decide)
  · refine V.aload_n hC (x := b) dJ5_charAt_5068e_33 rfl ?_
    refine V.iload_n hC (x := nI j) dJ5_charAt_5068e_34 rfl ?_
    refine V.baldN hC dJ5_charAt_5068e_35 (1) (f := f) rfl j rfl (by omega) (by omega) ?_
    refine V.sipush hC 255 dJ5_charAt_5068e_36 rfl ?_
    refine V.iand hC dJ5_charAt_5068e_39 ?_
    refine V.i2c hC dJ5_charAt_5068e_40 ?_
    refine V.topeq (nI (f j)) (asc_c _ (hf j)) ?_
    exact hE 41 _ (nI (f j)) () dJ5_charAt_5068e_41 (asc_nar (hf j)) rfl

set_option maxHeartbeats 4000000 in
set_option maxRecDepth 100000 in
theorem c_sbCharAt (l : Launch) (G : Gx) (sb b cap : Nat) (f : Nat → Nat) (n : Nat) (ml : Int32) (hcap : capOK cap) (hn : n ≤ cap) (hf : ∀ j, f j < 128) (j : Nat) (hj : j < n) : Ct l G (SFx G) yJ4_charAt_5068e wsJ4_charAt_5068e ({ frames := 3, cells := 0, slots := 0, locals := 67 }) [.ref sb, .int (nI j)] [(sb, .inr (1, [.ref b, .int 0, .int ml, .int (nI n)])), (b, .inl (gB G, cap, .inl (fun j => nI (f j))))] mkI (fun (r : Int32) (_ : Unit) => r = nI (f j)) (fun _ : Unit => [(sb, .inr (1, [.ref b, .int 0, .int ml, .int (nI n)])), (b, .inl (gB G, cap, .inl (fun j => nI (f j))))]) 0 0 := by
  refine Ct.ofI (cc := cJ4_charAt_5068e) (maxL := 2) (by decide) rfl ⟨by simp [Value.category], Nat.le_of_ble_eq_true rfl⟩ ?_
  intro K hl hC hSF hnm hE
  subst hl
  have hgo := SFgoS (SFx.k G) hSF
  show V G K 2 0 0 0 [some (.ref sb), some (.int (nI j))] [] [(sb, .inr (1, [.ref b, .int 0, .int ml, .int (nI n)])), (b, .inl (gB G, cap, .inl (fun j => nI (f j))))]
  refine V.aload_n hC (x := sb) dJ4_charAt_5068e_0 rfl ?_
  refine V.iload_n hC (x := nI j) dJ4_charAt_5068e_1 rfl ?_
  refine V.callPG (n := 1) (As := [.int (nI j)]) (rest := []) (wr := []) hC (c_sbCharAt5 (kl K) G sb b cap f n ml hcap hn hf j hj) (SFx.k G) hgo gJ4_charAt_5068e_J5_charAt_5068e_s329 rfl ⟨rfl, rfl⟩ (by decide +kernel) ⟨by decide, by decide, by decide, by decide⟩ [0, 1] [] rfl (by decide) rfl (by decide) (by decide) rfl rfl rfl rfl (Nat.le_of_ble_eq_true rfl) dJ4_charAt_5068e_2 (fun r_2 u_2 hp_2 => ?_)
  subst hp_2
  show V G K 2 0 0 5 [some (.ref sb), some (.int (nI j))] [.int (nI (f j))] [(sb, .inr (1, [.ref b, .int 0, .int ml, .int (nI n)])), (b, .inl (gB G, cap, .inl (fun j => nI (f j))))]
  exact hE 5 _ (nI (f j)) () dJ4_charAt_5068e_5 (asc_nar (hf j)) rfl

set_option maxHeartbeats 4000000 in
set_option maxRecDepth 100000 in
theorem c_outputAt (l : Launch) (G : Gx) (hst : l.stackTraces = false) (fs h h2 h3 hh hr hg hq hl : Nat) (iS eA fA : Int32) (lb cap : Nat) (f : Nat → Nat) (n : Nat) (ml : Int32) (hcap : capOK cap) (hn : n ≤ cap) (hfb : ∀ j, f j < 128) (hn60 : n ≤ 60) (x : Int32) : CtX l G (SFt G) yX12_outputAt wsX12_outputAt ({ frames := 6, cells := 1, slots := 6, locals := 88 }) [.ref fs, .int x] [(fs, .inr (12, [.ref h, .ref h2, .ref h3, .ref hh, .ref hr, .ref hg, .ref hq, .ref hl, .int iS, .int eA, .int fA])), (hl, .inr (1, [.ref lb, .int 0, .int ml, .int (nI n)])), (lb, .inl (gB G, cap, .inl (fun j => nI (f j))))] mkI (fun (r : Int32) (_ : Unit) => (¬ x < 0 ∧ x < nI n) ∧ r = nI (f x.toNatClampNeg)) (fun _ : Unit => [(fs, .inr (12, [.ref h, .ref h2, .ref h3, .ref hh, .ref hr, .ref hg, .ref hq, .ref hl, .int iS, .int eA, .int fA])), (hl, .inr (1, [.ref lb, .int 0, .int ml, .int (nI n)])), (lb, .inl (gB G, cap, .inl (fun j => nI (f j))))]) (fun (E : String) (_ : Unit) => E = "java/lang/IndexOutOfBoundsException" ∧ ¬ (¬ x < 0 ∧ x < nI n)) (fun _ : Unit => [(fs, .inr (12, [.ref h, .ref h2, .ref h3, .ref hh, .ref hr, .ref hg, .ref hq, .ref hl, .int iS, .int eA, .int fA])), (hl, .inr (1, [.ref lb, .int 0, .int ml, .int (nI n)])), (lb, .inl (gB G, cap, .inl (fun j => nI (f j))))]) 1 6 := by
  refine CtX.ofI (cc := cX12_outputAt) (maxL := 2) (by decide) rfl ⟨by simp [Value.category], Nat.le_of_ble_eq_true rfl⟩ ?_
  intro K hl hC hSF hnm hQ hE
  subst hl
  have hgot := SFgoS (SFt.k G) hSF
  have hgo := SFgo.x hgot
  have hSFt := hSF
  replace hSF := hSF.1
  have q0_ : Cond.classLink RX12 145 "java/lang/IndexOutOfBoundsException" ∈ wsX12_outputAt := by decide +kernel
  have q1_ : Cond.initialized "java/lang/IndexOutOfBoundsException" ∈ wsX12_outputAt := by decide +kernel
  have q2_ : ∀ w ∈ (vx_atS RX12 149 "java/lang/IndexOutOfBoundsException" nm2).filter goodWord, w ∈ wsX12_outputAt := by decide +kernel
  have q3_ : ∀ w ∈ u_ws RX12 TX12 11, w ∈ wsX12_outputAt := by decide +kernel
  have q4_ : Cond.fieldLink RX12 58 "FeatherShares" "line" "Ljava/lang/StringBuilder;" ∈ wsX12_outputAt := by decide +kernel
  show V G K 2 0 0 0 [some (.ref fs), some (.int x)] [] [(fs, .inr (12, [.ref h, .ref h2, .ref h3, .ref hh, .ref hr, .ref hg, .ref hq, .ref hl, .int iS, .int eA, .int fA])), (hl, .inr (1, [.ref lb, .int 0, .int ml, .int (nI n)])), (lb, .inl (gB G, cap, .inl (fun j => nI (f j))))]
  refine V.iload_n hC (x := x) dX12_outputAt_0 rfl ?_
  refine V.if_lt hC 15 dX12_outputAt_1 rfl (fun c_1 => ?_) (fun c_1 => ?_)
  · exact V.throwSW hC hQ hst (text := "the line has no such index") () ⟨rfl, fun z => z.1 c_1⟩ rfl thr2_IO hSFt.2.1.1 hSFt.2.1.2.1 (hSFt.msg (293, "the line has no such index") (by decide)) (hSFt.ca _ (by decide)) hSFt.de q0_ q1_ q2_ dX12_outputAt_15 dX12_outputAt_18 dX12_outputAt_19 dX12_outputAt_22 dX12_outputAt_25 ⟨by decide, by decide, by decide, by decide, by decide, by decide⟩
  · refine V.iload_n hC (x := x) dX12_outputAt_4 rfl ?_
    refine V.aload_n hC (x := fs) dX12_outputAt_5 rfl ?_
    refine V.getf hC (T := TX12) q3_ 7 q4_ rfl (0) rfl rfl (by decide) (.ref hl) rfl dX12_outputAt_6 ?_
    refine V.callVr (n := 0) (As := []) (rest := [.int x]) hC (c_sbLength (kl K) G hl lb cap f n ml hcap hn hfb) SFk0 SFgo0 gX12_outputAt_J4_length_8abf5 rfl ⟨rfl, rfl⟩ (by decide +kernel) ⟨by decide, by decide, by decide, by decide⟩ [1, 2] rfl (by decide) rfl rfl rfl rfl (Nat.le_of_ble_eq_true rfl) dX12_outputAt_9 (fun r_9 u_9 hp_9 => ?_)
    subst hp_9
    show V G K 2 0 0 12 [some (.ref fs), some (.int x)] [.int (nI n), .int x] [(fs, .inr (12, [.ref h, .ref h2, .ref h3, .ref hh, .ref hr, .ref hg, .ref hq, .ref hl, .int iS, .int eA, .int fA])), (hl, .inr (1, [.ref lb, .int 0, .int ml, .int (nI n)])), (lb, .inl (gB G, cap, .inl (fun j => nI (f j))))]
    refine V.icmp_lt hC 26 dX12_outputAt_12 rfl (fun c_12 => ?_) (fun c_12 => ?_)
    · obtain ⟨j, hj, hxj⟩ := i32_nat (n := n) (by omega) ⟨c_1, c_12⟩
      have hjx : x.toNatClampNeg = j := by rw [hxj, nI_clamp (by omega)]
      refine V.aload_n hC (x := fs) dX12_outputAt_26 rfl ?_
      refine V.getf hC (T := TX12) q3_ 7 q4_ rfl (0) rfl rfl (by decide) (.ref hl) rfl dX12_outputAt_27 ?_
      refine V.iload_n hC (x := x) dX12_outputAt_30 rfl ?_
      refine V.topeq (nI (x.toNatClampNeg)) (by rw [hjx]; exact hxj) ?_
      refine V.callVr (n := 1) (As := [.int (nI (x.toNatClampNeg))]) (rest := []) hC (c_sbCharAt (kl K) G hl lb cap f n ml hcap hn hfb x.toNatClampNeg (by omega)) (SFx.k G) hgo gX12_outputAt_J4_charAt_5068e rfl ⟨rfl, rfl⟩ (by decide +kernel) ⟨by decide, by decide, by decide, by decide⟩ [1, 2] rfl (by decide) rfl rfl rfl rfl (Nat.le_of_ble_eq_true rfl) dX12_outputAt_31 (fun r_31 u_31 hp_31 => ?_)
      subst hp_31
      show V G K 2 0 0 34 [some (.ref fs), some (.int x)] [.int (nI (f x.toNatClampNeg))] [(fs, .inr (12, [.ref h, .ref h2, .ref h3, .ref hh, .ref hr, .ref hg, .ref hq, .ref hl, .int iS, .int eA, .int fA])), (hl, .inr (1, [.ref lb, .int 0, .int ml, .int (nI n)])), (lb, .inl (gB G, cap, .inl (fun j => nI (f j))))]
      refine V.widen (k := 1) (n := 6) (Nat.le_of_ble_eq_true rfl) (Nat.le_of_ble_eq_true rfl) ?_
      exact hE 34 _ (nI (f x.toNatClampNeg)) () dX12_outputAt_34 (asc_nar (hfb _)) ⟨⟨c_1, c_12⟩, rfl⟩
    · exact V.throwSW hC hQ hst (text := "the line has no such index") () ⟨rfl, fun z => c_12 z.2⟩ rfl thr2_IO hSFt.2.1.1 hSFt.2.1.2.1 (hSFt.msg (293, "the line has no such index") (by decide)) (hSFt.ca _ (by decide)) hSFt.de q0_ q1_ q2_ dX12_outputAt_15 dX12_outputAt_18 dX12_outputAt_19 dX12_outputAt_22 dX12_outputAt_25 ⟨by decide, by decide, by decide, by decide, by decide, by decide⟩
