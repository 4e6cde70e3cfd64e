/-! what the statement says of the start (printed by gen/s88c.py) -/
def prL : List Cond := flatC (Cond.and given_1 narrow_1)
theorem rng_in {α : Type} {L : List α} {f : Nat → α} (a n : Nat) (h : (List.range n).map f = (L.drop a).take n) : ∀ j, j < n → f j ∈ L := fun j hj => List.mem_of_mem_drop (List.mem_of_mem_take (h ▸ List.mem_map.mpr ⟨j, List.mem_range.mpr hj, rfl⟩))
set_option maxRecDepth 1000000 in
theorem pr_exD : ∀ i, i < 8 → Cond.exactly (.static "FeatherShares$Deed" (dNm.getD i "") "LFeatherShares$Deed;") "FeatherShares$Deed" ∈ prL := by
  intro i hi
  obtain rfl | rfl | rfl | rfl | rfl | rfl | rfl | rfl := lt8 hi
  · exact List.mem_of_getElem? (i := 4) (by decide +kernel)
  · exact List.mem_of_getElem? (i := 84) (by decide +kernel)
  · exact List.mem_of_getElem? (i := 96) (by decide +kernel)
  · exact List.mem_of_getElem? (i := 109) (by decide +kernel)
  · exact List.mem_of_getElem? (i := 46) (by decide +kernel)
  · exact List.mem_of_getElem? (i := 55) (by decide +kernel)
  · exact List.mem_of_getElem? (i := 123) (by decide +kernel)
  · exact List.mem_of_getElem? (i := 138) (by decide +kernel)
set_option maxRecDepth 1000000 in
theorem pr_orD : ∀ i, i < 8 → Cond.eq (.field (.static "FeatherShares$Deed" (dNm.getD i "") "LFeatherShares$Deed;") "java/lang/Enum" "ordinal" "I") (.int (oD.getD i 0)) ∈ prL := by
  intro i hi
  obtain rfl | rfl | rfl | rfl | rfl | rfl | rfl | rfl := lt8 hi
  · exact List.mem_of_getElem? (i := 5) (by decide +kernel)
  · exact List.mem_of_getElem? (i := 85) (by decide +kernel)
  · exact List.mem_of_getElem? (i := 97) (by decide +kernel)
  · exact List.mem_of_getElem? (i := 110) (by decide +kernel)
  · exact List.mem_of_getElem? (i := 47) (by decide +kernel)
  · exact List.mem_of_getElem? (i := 56) (by decide +kernel)
  · exact List.mem_of_getElem? (i := 124) (by decide +kernel)
  · exact List.mem_of_getElem? (i := 139) (by decide +kernel)
set_option maxRecDepth 1000000 in
theorem pr_neD0 : ∀ j, j < 8 → 0 ≠ j → Cond.not (.eq (.static "FeatherShares$Deed" (dNm.getD 0 "") "LFeatherShares$Deed;") (.static "FeatherShares$Deed" (dNm.getD j "") "LFeatherShares$Deed;")) ∈ prL ∨ Cond.not (.eq (.static "FeatherShares$Deed" (dNm.getD j "") "LFeatherShares$Deed;") (.static "FeatherShares$Deed" (dNm.getD 0 "") "LFeatherShares$Deed;")) ∈ prL := by
  intro i hi hne
  obtain rfl | rfl | rfl | rfl | rfl | rfl | rfl | rfl := lt8 hi
  · exact absurd rfl hne
  · exact Or.inl (List.mem_of_getElem? (i := 87) (by decide +kernel))
  · exact Or.inl (List.mem_of_getElem? (i := 99) (by decide +kernel))
  · exact Or.inl (List.mem_of_getElem? (i := 112) (by decide +kernel))
  · exact Or.inl (List.mem_of_getElem? (i := 49) (by decide +kernel))
  · exact Or.inl (List.mem_of_getElem? (i := 58) (by decide +kernel))
  · exact Or.inl (List.mem_of_getElem? (i := 126) (by decide +kernel))
  · exact Or.inl (List.mem_of_getElem? (i := 141) (by decide +kernel))
set_option maxRecDepth 1000000 in
theorem pr_neD1 : ∀ j, j < 8 → 1 ≠ j → Cond.not (.eq (.static "FeatherShares$Deed" (dNm.getD 1 "") "LFeatherShares$Deed;") (.static "FeatherShares$Deed" (dNm.getD j "") "LFeatherShares$Deed;")) ∈ prL ∨ Cond.not (.eq (.static "FeatherShares$Deed" (dNm.getD j "") "LFeatherShares$Deed;") (.static "FeatherShares$Deed" (dNm.getD 1 "") "LFeatherShares$Deed;")) ∈ prL := by
  intro i hi hne
  obtain rfl | rfl | rfl | rfl | rfl | rfl | rfl | rfl := lt8 hi
  · exact Or.inr (List.mem_of_getElem? (i := 87) (by decide +kernel))
  · exact absurd rfl hne
  · exact Or.inl (List.mem_of_getElem? (i := 108) (by decide +kernel))
  · exact Or.inl (List.mem_of_getElem? (i := 121) (by decide +kernel))
  · exact Or.inr (List.mem_of_getElem? (i := 93) (by decide +kernel))
  · exact Or.inr (List.mem_of_getElem? (i := 94) (by decide +kernel))
  · exact Or.inl (List.mem_of_getElem? (i := 135) (by decide +kernel))
  · exact Or.inl (List.mem_of_getElem? (i := 150) (by decide +kernel))
set_option maxRecDepth 1000000 in
theorem pr_neD2 : ∀ j, j < 8 → 2 ≠ j → Cond.not (.eq (.static "FeatherShares$Deed" (dNm.getD 2 "") "LFeatherShares$Deed;") (.static "FeatherShares$Deed" (dNm.getD j "") "LFeatherShares$Deed;")) ∈ prL ∨ Cond.not (.eq (.static "FeatherShares$Deed" (dNm.getD j "") "LFeatherShares$Deed;") (.static "FeatherShares$Deed" (dNm.getD 2 "") "LFeatherShares$Deed;")) ∈ prL := by
  intro i hi hne
  obtain rfl | rfl | rfl | rfl | rfl | rfl | rfl | rfl := lt8 hi
  · exact Or.inr (List.mem_of_getElem? (i := 99) (by decide +kernel))
  · exact Or.inr (List.mem_of_getElem? (i := 108) (by decide +kernel))
  · exact absurd rfl hne
  · exact Or.inl (List.mem_of_getElem? (i := 122) (by decide +kernel))
  · exact Or.inr (List.mem_of_getElem? (i := 105) (by decide +kernel))
  · exact Or.inr (List.mem_of_getElem? (i := 106) (by decide +kernel))
  · exact Or.inl (List.mem_of_getElem? (i := 136) (by decide +kernel))
  · exact Or.inl (List.mem_of_getElem? (i := 151) (by decide +kernel))
set_option maxRecDepth 1000000 in
theorem pr_neD3 : ∀ j, j < 8 → 3 ≠ j → Cond.not (.eq (.static "FeatherShares$Deed" (dNm.getD 3 "") "LFeatherShares$Deed;") (.static "FeatherShares$Deed" (dNm.getD j "") "LFeatherShares$Deed;")) ∈ prL ∨ Cond.not (.eq (.static "FeatherShares$Deed" (dNm.getD j "") "LFeatherShares$Deed;") (.static "FeatherShares$Deed" (dNm.getD 3 "") "LFeatherShares$Deed;")) ∈ prL := by
  intro i hi hne
  obtain rfl | rfl | rfl | rfl | rfl | rfl | rfl | rfl := lt8 hi
  · exact Or.inr (List.mem_of_getElem? (i := 112) (by decide +kernel))
  · exact Or.inr (List.mem_of_getElem? (i := 121) (by decide +kernel))
  · exact Or.inr (List.mem_of_getElem? (i := 122) (by decide +kernel))
  · exact absurd rfl hne
  · exact Or.inr (List.mem_of_getElem? (i := 118) (by decide +kernel))
  · exact Or.inr (List.mem_of_getElem? (i := 119) (by decide +kernel))
  · exact Or.inl (List.mem_of_getElem? (i := 137) (by decide +kernel))
  · exact Or.inl (List.mem_of_getElem? (i := 152) (by decide +kernel))
set_option maxRecDepth 1000000 in
theorem pr_neD4 : ∀ j, j < 8 → 4 ≠ j → Cond.not (.eq (.static "FeatherShares$Deed" (dNm.getD 4 "") "LFeatherShares$Deed;") (.static "FeatherShares$Deed" (dNm.getD j "") "LFeatherShares$Deed;")) ∈ prL ∨ Cond.not (.eq (.static "FeatherShares$Deed" (dNm.getD j "") "LFeatherShares$Deed;") (.static "FeatherShares$Deed" (dNm.getD 4 "") "LFeatherShares$Deed;")) ∈ prL := by
  intro i hi hne
  obtain rfl | rfl | rfl | rfl | rfl | rfl | rfl | rfl := lt8 hi
  · exact Or.inr (List.mem_of_getElem? (i := 49) (by decide +kernel))
  · exact Or.inl (List.mem_of_getElem? (i := 93) (by decide +kernel))
  · exact Or.inl (List.mem_of_getElem? (i := 105) (by decide +kernel))
  · exact Or.inl (List.mem_of_getElem? (i := 118) (by decide +kernel))
  · exact absurd rfl hne
  · exact Or.inl (List.mem_of_getElem? (i := 64) (by decide +kernel))
  · exact Or.inl (List.mem_of_getElem? (i := 132) (by decide +kernel))
  · exact Or.inl (List.mem_of_getElem? (i := 147) (by decide +kernel))
set_option maxRecDepth 1000000 in
theorem pr_neD5 : ∀ j, j < 8 → 5 ≠ j → Cond.not (.eq (.static "FeatherShares$Deed" (dNm.getD 5 "") "LFeatherShares$Deed;") (.static "FeatherShares$Deed" (dNm.getD j "") "LFeatherShares$Deed;")) ∈ prL ∨ Cond.not (.eq (.static "FeatherShares$Deed" (dNm.getD j "") "LFeatherShares$Deed;") (.static "FeatherShares$Deed" (dNm.getD 5 "") "LFeatherShares$Deed;")) ∈ prL := by
  intro i hi hne
  obtain rfl | rfl | rfl | rfl | rfl | rfl | rfl | rfl := lt8 hi
  · exact Or.inr (List.mem_of_getElem? (i := 58) (by decide +kernel))
  · exact Or.inl (List.mem_of_getElem? (i := 94) (by decide +kernel))
  · exact Or.inl (List.mem_of_getElem? (i := 106) (by decide +kernel))
  · exact Or.inl (List.mem_of_getElem? (i := 119) (by decide +kernel))
  · exact Or.inr (List.mem_of_getElem? (i := 64) (by decide +kernel))
  · exact absurd rfl hne
  · exact Or.inl (List.mem_of_getElem? (i := 133) (by decide +kernel))
  · exact Or.inl (List.mem_of_getElem? (i := 148) (by decide +kernel))
set_option maxRecDepth 1000000 in
theorem pr_neD6 : ∀ j, j < 8 → 6 ≠ j → Cond.not (.eq (.static "FeatherShares$Deed" (dNm.getD 6 "") "LFeatherShares$Deed;") (.static "FeatherShares$Deed" (dNm.getD j "") "LFeatherShares$Deed;")) ∈ prL ∨ Cond.not (.eq (.static "FeatherShares$Deed" (dNm.getD j "") "LFeatherShares$Deed;") (.static "FeatherShares$Deed" (dNm.getD 6 "") "LFeatherShares$Deed;")) ∈ prL := by
  intro i hi hne
  obtain rfl | rfl | rfl | rfl | rfl | rfl | rfl | rfl := lt8 hi
  · exact Or.inr (List.mem_of_getElem? (i := 126) (by decide +kernel))
  · exact Or.inr (List.mem_of_getElem? (i := 135) (by decide +kernel))
  · exact Or.inr (List.mem_of_getElem? (i := 136) (by decide +kernel))
  · exact Or.inr (List.mem_of_getElem? (i := 137) (by decide +kernel))
  · exact Or.inr (List.mem_of_getElem? (i := 132) (by decide +kernel))
  · exact Or.inr (List.mem_of_getElem? (i := 133) (by decide +kernel))
  · exact absurd rfl hne
  · exact Or.inl (List.mem_of_getElem? (i := 153) (by decide +kernel))
set_option maxRecDepth 1000000 in
theorem pr_neD7 : ∀ j, j < 8 → 7 ≠ j → Cond.not (.eq (.static "FeatherShares$Deed" (dNm.getD 7 "") "LFeatherShares$Deed;") (.static "FeatherShares$Deed" (dNm.getD j "") "LFeatherShares$Deed;")) ∈ prL ∨ Cond.not (.eq (.static "FeatherShares$Deed" (dNm.getD j "") "LFeatherShares$Deed;") (.static "FeatherShares$Deed" (dNm.getD 7 "") "LFeatherShares$Deed;")) ∈ prL := by
  intro i hi hne
  obtain rfl | rfl | rfl | rfl | rfl | rfl | rfl | rfl := lt8 hi
  · exact Or.inr (List.mem_of_getElem? (i := 141) (by decide +kernel))
  · exact Or.inr (List.mem_of_getElem? (i := 150) (by decide +kernel))
  · exact Or.inr (List.mem_of_getElem? (i := 151) (by decide +kernel))
  · exact Or.inr (List.mem_of_getElem? (i := 152) (by decide +kernel))
  · exact Or.inr (List.mem_of_getElem? (i := 147) (by decide +kernel))
  · exact Or.inr (List.mem_of_getElem? (i := 148) (by decide +kernel))
  · exact Or.inr (List.mem_of_getElem? (i := 153) (by decide +kernel))
  · exact absurd rfl hne
theorem pr_neD : ∀ i, i < 8 → ∀ j, j < 8 → i ≠ j → Cond.not (.eq (.static "FeatherShares$Deed" (dNm.getD i "") "LFeatherShares$Deed;") (.static "FeatherShares$Deed" (dNm.getD j "") "LFeatherShares$Deed;")) ∈ prL ∨ Cond.not (.eq (.static "FeatherShares$Deed" (dNm.getD j "") "LFeatherShares$Deed;") (.static "FeatherShares$Deed" (dNm.getD i "") "LFeatherShares$Deed;")) ∈ prL := by
  intro i hi
  obtain rfl | rfl | rfl | rfl | rfl | rfl | rfl | rfl := lt8 hi
  · exact pr_neD0
  · exact pr_neD1
  · exact pr_neD2
  · exact pr_neD3
  · exact pr_neD4
  · exact pr_neD5
  · exact pr_neD6
  · exact pr_neD7
set_option maxRecDepth 1000000 in
theorem tb_laD : ∀ i, i < 8 → Cond.laysStatic "FeatherShares$Deed" (dNm.getD i "") "LFeatherShares$Deed;" ∈ lw_tbl := by
  intro i hi
  obtain rfl | rfl | rfl | rfl | rfl | rfl | rfl | rfl := lt8 hi
  · exact List.mem_append_right _ (List.mem_of_getElem? (i := 192) (by decide +kernel))
  · exact List.mem_append_right _ (List.mem_of_getElem? (i := 696) (by decide +kernel))
  · exact List.mem_append_right _ (List.mem_of_getElem? (i := 702) (by decide +kernel))
  · exact List.mem_append_right _ (List.mem_of_getElem? (i := 708) (by decide +kernel))
  · exact List.mem_append_right _ (List.mem_of_getElem? (i := 471) (by decide +kernel))
  · exact List.mem_append_right _ (List.mem_of_getElem? (i := 477) (by decide +kernel))
  · exact List.mem_append_right _ (List.mem_of_getElem? (i := 724) (by decide +kernel))
  · exact List.mem_append_right _ (List.mem_of_getElem? (i := 730) (by decide +kernel))
set_option maxRecDepth 1000000 in
theorem tb_inD : Cond.initialized "FeatherShares$Deed" ∈ lw_tbl := List.mem_append_right _ (List.mem_of_getElem? (i := 11) (by decide +kernel))
set_option maxRecDepth 1000000 in
theorem pr_exP : ∀ i, i < 6 → Cond.exactly (.static "FeatherShares$Problem" (pNm.getD i "") "LFeatherShares$Problem;") "FeatherShares$Problem" ∈ prL := by
  intro i hi
  obtain rfl | rfl | rfl | rfl | rfl | rfl := lt6 hi
  · exact List.mem_of_getElem? (i := 28) (by decide +kernel)
  · exact List.mem_of_getElem? (i := 21) (by decide +kernel)
  · exact List.mem_of_getElem? (i := 33) (by decide +kernel)
  · exact List.mem_of_getElem? (i := 39) (by decide +kernel)
  · exact List.mem_of_getElem? (i := 24) (by decide +kernel)
  · exact List.mem_of_getElem? (i := 65) (by decide +kernel)
set_option maxRecDepth 1000000 in
theorem pr_orP : ∀ i, i < 6 → Cond.eq (.field (.static "FeatherShares$Problem" (pNm.getD i "") "LFeatherShares$Problem;") "java/lang/Enum" "ordinal" "I") (.int (oP.getD i 0)) ∈ prL := by
  intro i hi
  obtain rfl | rfl | rfl | rfl | rfl | rfl := lt6 hi
  · exact List.mem_of_getElem? (i := 29) (by decide +kernel)
  · exact List.mem_of_getElem? (i := 22) (by decide +kernel)
  · exact List.mem_of_getElem? (i := 34) (by decide +kernel)
  · exact List.mem_of_getElem? (i := 40) (by decide +kernel)
  · exact List.mem_of_getElem? (i := 25) (by decide +kernel)
  · exact List.mem_of_getElem? (i := 66) (by decide +kernel)
set_option maxRecDepth 1000000 in
theorem pr_neP0 : ∀ j, j < 6 → 0 ≠ j → Cond.not (.eq (.static "FeatherShares$Problem" (pNm.getD 0 "") "LFeatherShares$Problem;") (.static "FeatherShares$Problem" (pNm.getD j "") "LFeatherShares$Problem;")) ∈ prL ∨ Cond.not (.eq (.static "FeatherShares$Problem" (pNm.getD j "") "LFeatherShares$Problem;") (.static "FeatherShares$Problem" (pNm.getD 0 "") "LFeatherShares$Problem;")) ∈ prL := by
  intro i hi hne
  obtain rfl | rfl | rfl | rfl | rfl | rfl := lt6 hi
  · exact absurd rfl hne
  · exact Or.inr (List.mem_of_getElem? (i := 31) (by decide +kernel))
  · exact Or.inl (List.mem_of_getElem? (i := 38) (by decide +kernel))
  · exact Or.inl (List.mem_of_getElem? (i := 44) (by decide +kernel))
  · exact Or.inr (List.mem_of_getElem? (i := 32) (by decide +kernel))
  · exact Or.inl (List.mem_of_getElem? (i := 70) (by decide +kernel))
set_option maxRecDepth 1000000 in
theorem pr_neP1 : ∀ j, j < 6 → 1 ≠ j → Cond.not (.eq (.static "FeatherShares$Problem" (pNm.getD 1 "") "LFeatherShares$Problem;") (.static "FeatherShares$Problem" (pNm.getD j "") "LFeatherShares$Problem;")) ∈ prL ∨ Cond.not (.eq (.static "FeatherShares$Problem" (pNm.getD j "") "LFeatherShares$Problem;") (.static "FeatherShares$Problem" (pNm.getD 1 "") "LFeatherShares$Problem;")) ∈ prL := by
  intro i hi hne
  obtain rfl | rfl | rfl | rfl | rfl | rfl := lt6 hi
  · exact Or.inl (List.mem_of_getElem? (i := 31) (by decide +kernel))
  · exact absurd rfl hne
  · exact Or.inl (List.mem_of_getElem? (i := 36) (by decide +kernel))
  · exact Or.inl (List.mem_of_getElem? (i := 42) (by decide +kernel))
  · exact Or.inl (List.mem_of_getElem? (i := 27) (by decide +kernel))
  · exact Or.inl (List.mem_of_getElem? (i := 68) (by decide +kernel))
set_option maxRecDepth 1000000 in
theorem pr_neP2 : ∀ j, j < 6 → 2 ≠ j → Cond.not (.eq (.static "FeatherShares$Problem" (pNm.getD 2 "") "LFeatherShares$Problem;") (.static "FeatherShares$Problem" (pNm.getD j "") "LFeatherShares$Problem;")) ∈ prL ∨ Cond.not (.eq (.static "FeatherShares$Problem" (pNm.getD j "") "LFeatherShares$Problem;") (.static "FeatherShares$Problem" (pNm.getD 2 "") "LFeatherShares$Problem;")) ∈ prL := by
  intro i hi hne
  obtain rfl | rfl | rfl | rfl | rfl | rfl := lt6 hi
  · exact Or.inr (List.mem_of_getElem? (i := 38) (by decide +kernel))
  · exact Or.inr (List.mem_of_getElem? (i := 36) (by decide +kernel))
  · exact absurd rfl hne
  · exact Or.inl (List.mem_of_getElem? (i := 45) (by decide +kernel))
  · exact Or.inr (List.mem_of_getElem? (i := 37) (by decide +kernel))
  · exact Or.inl (List.mem_of_getElem? (i := 71) (by decide +kernel))
set_option maxRecDepth 1000000 in
theorem pr_neP3 : ∀ j, j < 6 → 3 ≠ j → Cond.not (.eq (.static "FeatherShares$Problem" (pNm.getD 3 "") "LFeatherShares$Problem;") (.static "FeatherShares$Problem" (pNm.getD j "") "LFeatherShares$Problem;")) ∈ prL ∨ Cond.not (.eq (.static "FeatherShares$Problem" (pNm.getD j "") "LFeatherShares$Problem;") (.static "FeatherShares$Problem" (pNm.getD 3 "") "LFeatherShares$Problem;")) ∈ prL := by
  intro i hi hne
  obtain rfl | rfl | rfl | rfl | rfl | rfl := lt6 hi
  · exact Or.inr (List.mem_of_getElem? (i := 44) (by decide +kernel))
  · exact Or.inr (List.mem_of_getElem? (i := 42) (by decide +kernel))
  · exact Or.inr (List.mem_of_getElem? (i := 45) (by decide +kernel))
  · exact absurd rfl hne
  · exact Or.inr (List.mem_of_getElem? (i := 43) (by decide +kernel))
  · exact Or.inl (List.mem_of_getElem? (i := 72) (by decide +kernel))
set_option maxRecDepth 1000000 in
theorem pr_neP4 : ∀ j, j < 6 → 4 ≠ j → Cond.not (.eq (.static "FeatherShares$Problem" (pNm.getD 4 "") "LFeatherShares$Problem;") (.static "FeatherShares$Problem" (pNm.getD j "") "LFeatherShares$Problem;")) ∈ prL ∨ Cond.not (.eq (.static "FeatherShares$Problem" (pNm.getD j "") "LFeatherShares$Problem;") (.static "FeatherShares$Problem" (pNm.getD 4 "") "LFeatherShares$Problem;")) ∈ prL := by
  intro i hi hne
  obtain rfl | rfl | rfl | rfl | rfl | rfl := lt6 hi
  · exact Or.inl (List.mem_of_getElem? (i := 32) (by decide +kernel))
  · exact Or.inr (List.mem_of_getElem? (i := 27) (by decide +kernel))
  · exact Or.inl (List.mem_of_getElem? (i := 37) (by decide +kernel))
  · exact Or.inl (List.mem_of_getElem? (i := 43) (by decide +kernel))
  · exact absurd rfl hne
  · exact Or.inl (List.mem_of_getElem? (i := 69) (by decide +kernel))
set_option maxRecDepth 1000000 in
theorem pr_neP5 : ∀ j, j < 6 → 5 ≠ j → Cond.not (.eq (.static "FeatherShares$Problem" (pNm.getD 5 "") "LFeatherShares$Problem;") (.static "FeatherShares$Problem" (pNm.getD j "") "LFeatherShares$Problem;")) ∈ prL ∨ Cond.not (.eq (.static "FeatherShares$Problem" (pNm.getD j "") "LFeatherShares$Problem;") (.static "FeatherShares$Problem" (pNm.getD 5 "") "LFeatherShares$Problem;")) ∈ prL := by
  intro i hi hne
  obtain rfl | rfl | rfl | rfl | rfl | rfl := lt6 hi
  · exact Or.inr (List.mem_of_getElem? (i := 70) (by decide +kernel))
  · exact Or.inr (List.mem_of_getElem? (i := 68) (by decide +kernel))
  · exact Or.inr (List.mem_of_getElem? (i := 71) (by decide +kernel))
  · exact Or.inr (List.mem_of_getElem? (i := 72) (by decide +kernel))
  · exact Or.inr (List.mem_of_getElem? (i := 69) (by decide +kernel))
  · exact absurd rfl hne
theorem pr_neP : ∀ i, i < 6 → ∀ j, j < 6 → i ≠ j → Cond.not (.eq (.static "FeatherShares$Problem" (pNm.getD i "") "LFeatherShares$Problem;") (.static "FeatherShares$Problem" (pNm.getD j "") "LFeatherShares$Problem;")) ∈ prL ∨ Cond.not (.eq (.static "FeatherShares$Problem" (pNm.getD j "") "LFeatherShares$Problem;") (.static "FeatherShares$Problem" (pNm.getD i "") "LFeatherShares$Problem;")) ∈ prL := by
  intro i hi
  obtain rfl | rfl | rfl | rfl | rfl | rfl := lt6 hi
  · exact pr_neP0
  · exact pr_neP1
  · exact pr_neP2
  · exact pr_neP3
  · exact pr_neP4
  · exact pr_neP5
set_option maxRecDepth 1000000 in
theorem tb_laP : ∀ i, i < 6 → Cond.laysStatic "FeatherShares$Problem" (pNm.getD i "") "LFeatherShares$Problem;" ∈ lw_tbl := by
  intro i hi
  obtain rfl | rfl | rfl | rfl | rfl | rfl := lt6 hi
  · exact List.mem_append_right _ (List.mem_of_getElem? (i := 426) (by decide +kernel))
  · exact List.mem_append_right _ (List.mem_of_getElem? (i := 421) (by decide +kernel))
  · exact List.mem_append_right _ (List.mem_of_getElem? (i := 436) (by decide +kernel))
  · exact List.mem_append_right _ (List.mem_of_getElem? (i := 465) (by decide +kernel))
  · exact List.mem_append_right _ (List.mem_of_getElem? (i := 424) (by decide +kernel))
  · exact List.mem_append_right _ (List.mem_of_getElem? (i := 497) (by decide +kernel))
set_option maxRecDepth 1000000 in
theorem tb_inP : Cond.initialized "FeatherShares$Problem" ∈ lw_tbl := List.mem_append_right _ (List.mem_of_getElem? (i := 29) (by decide +kernel))
set_option maxRecDepth 1000000 in
theorem pr_ar_smD : Cond.arrayOf (.static "FeatherShares$1" "$SwitchMap$FeatherShares$Deed" "[I") .int ∈ prL := List.mem_of_getElem? (i := 11) (by decide +kernel)
set_option maxRecDepth 1000000 in
theorem pr_le_smD : Cond.eq (.length (.static "FeatherShares$1" "$SwitchMap$FeatherShares$Deed" "[I")) (.int (Int32.ofNat 8)) ∈ prL := List.mem_of_getElem? (i := 12) (by decide +kernel)
set_option maxRecDepth 1000000 in
theorem pr_el_smD : ∀ j, j < 8 → Cond.eq (.elem (.static "FeatherShares$1" "$SwitchMap$FeatherShares$Deed" "[I") (.int (Int32.ofNat j))) (.int (smDv j)) ∈ prL := rng_in (f := fun j => Cond.eq (.elem (.static "FeatherShares$1" "$SwitchMap$FeatherShares$Deed" "[I") (.int (Int32.ofNat j))) (.int (smDv j))) 13 8 (by decide +kernel)
set_option maxRecDepth 1000000 in
theorem tb_la_smD : Cond.laysStatic "FeatherShares$1" "$SwitchMap$FeatherShares$Deed" "[I" ∈ lw_tbl := List.mem_append_right _ (List.mem_of_getElem? (i := 406) (by decide +kernel))
set_option maxRecDepth 1000000 in
theorem tb_in_smD : Cond.initialized "FeatherShares$1" ∈ lw_tbl := List.mem_append_right _ (List.mem_of_getElem? (i := 28) (by decide +kernel))
set_option maxRecDepth 1000000 in
theorem pr_ar_smP : Cond.arrayOf (.static "FeatherShares$1" "$SwitchMap$FeatherShares$Problem" "[I") .int ∈ prL := List.mem_of_getElem? (i := 76) (by decide +kernel)
set_option maxRecDepth 1000000 in
theorem pr_le_smP : Cond.eq (.length (.static "FeatherShares$1" "$SwitchMap$FeatherShares$Problem" "[I")) (.int (Int32.ofNat 6)) ∈ prL := List.mem_of_getElem? (i := 77) (by decide +kernel)
set_option maxRecDepth 1000000 in
theorem pr_el_smP : ∀ j, j < 6 → Cond.eq (.elem (.static "FeatherShares$1" "$SwitchMap$FeatherShares$Problem" "[I") (.int (Int32.ofNat j))) (.int (nI j)) ∈ prL := rng_in (f := fun j => Cond.eq (.elem (.static "FeatherShares$1" "$SwitchMap$FeatherShares$Problem" "[I") (.int (Int32.ofNat j))) (.int (nI j))) 78 6 (by decide +kernel)
set_option maxRecDepth 1000000 in
theorem tb_la_smP : Cond.laysStatic "FeatherShares$1" "$SwitchMap$FeatherShares$Problem" "[I" ∈ lw_tbl := List.mem_append_right _ (List.mem_of_getElem? (i := 502) (by decide +kernel))
set_option maxRecDepth 1000000 in
theorem tb_in_smP : Cond.initialized "FeatherShares$1" ∈ lw_tbl := List.mem_append_right _ (List.mem_of_getElem? (i := 28) (by decide +kernel))
set_option maxRecDepth 1000000 in
theorem pr_ar_dds : Cond.arrayOf (.static "FeatherShares" "DEEDS" "[LFeatherShares$Deed;") (.object "FeatherShares$Deed") ∈ prL := List.mem_of_getElem? (i := 156) (by decide +kernel)
set_option maxRecDepth 1000000 in
theorem pr_le_dds : Cond.eq (.length (.static "FeatherShares" "DEEDS" "[LFeatherShares$Deed;")) (.int (Int32.ofNat 8)) ∈ prL := List.mem_of_getElem? (i := 157) (by decide +kernel)
set_option maxRecDepth 1000000 in
theorem pr_el_dds : ∀ j, j < 8 → Cond.eq (.elem (.static "FeatherShares" "DEEDS" "[LFeatherShares$Deed;") (.int (Int32.ofNat j))) (.static "FeatherShares$Deed" (dNm.getD j "") "LFeatherShares$Deed;") ∈ prL := rng_in (f := fun j => Cond.eq (.elem (.static "FeatherShares" "DEEDS" "[LFeatherShares$Deed;") (.int (Int32.ofNat j))) (.static "FeatherShares$Deed" (dNm.getD j "") "LFeatherShares$Deed;")) 159 8 (by decide +kernel)
set_option maxRecDepth 1000000 in
theorem tb_la_dds : Cond.laysStatic "FeatherShares" "DEEDS" "[LFeatherShares$Deed;" ∈ lw_tbl := List.mem_append_right _ (List.mem_of_getElem? (i := 748) (by decide +kernel))
set_option maxRecDepth 1000000 in
theorem tb_in_dds : Cond.initialized "FeatherShares" ∈ lw_tbl := List.mem_append_right _ (List.mem_of_getElem? (i := 1) (by decide +kernel))
set_option maxRecDepth 1000000 in
theorem pr_ar_dgT : Cond.arrayOf (.static "java/lang/Integer" "DigitTens" "[B") .byte ∈ prL := List.mem_of_getElem? (i := 275) (by decide +kernel)
set_option maxRecDepth 1000000 in
theorem pr_le_dgT : Cond.eq (.length (.static "java/lang/Integer" "DigitTens" "[B")) (.int (Int32.ofNat 100)) ∈ prL := List.mem_of_getElem? (i := 276) (by decide +kernel)
set_option maxRecDepth 1000000 in
theorem pr_el_dgT : ∀ j, j < 100 → Cond.eq (.elem (.static "java/lang/Integer" "DigitTens" "[B") (.int (Int32.ofNat j))) (.int (nI (48 + j / 10))) ∈ prL := rng_in (f := fun j => Cond.eq (.elem (.static "java/lang/Integer" "DigitTens" "[B") (.int (Int32.ofNat j))) (.int (nI (48 + j / 10)))) 277 100 (by decide +kernel)
set_option maxRecDepth 1000000 in
theorem tb_la_dgT : Cond.laysStatic "java/lang/Integer" "DigitTens" "[B" ∈ lw_tbl := List.mem_append_right _ (List.mem_of_getElem? (i := 1133) (by decide +kernel))
set_option maxRecDepth 1000000 in
theorem tb_in_dgT : Cond.initialized "java/lang/Integer" ∈ lw_tbl := List.mem_append_right _ (List.mem_of_getElem? (i := 25) (by decide +kernel))
set_option maxRecDepth 1000000 in
theorem pr_ar_dgO : Cond.arrayOf (.static "java/lang/Integer" "DigitOnes" "[B") .byte ∈ prL := List.mem_of_getElem? (i := 172) (by decide +kernel)
set_option maxRecDepth 1000000 in
theorem pr_le_dgO : Cond.eq (.length (.static "java/lang/Integer" "DigitOnes" "[B")) (.int (Int32.ofNat 100)) ∈ prL := List.mem_of_getElem? (i := 173) (by decide +kernel)
set_option maxRecDepth 1000000 in
theorem pr_el_dgO : ∀ j, j < 100 → Cond.eq (.elem (.static "java/lang/Integer" "DigitOnes" "[B") (.int (Int32.ofNat j))) (.int (nI (48 + j % 10))) ∈ prL := rng_in (f := fun j => Cond.eq (.elem (.static "java/lang/Integer" "DigitOnes" "[B") (.int (Int32.ofNat j))) (.int (nI (48 + j % 10)))) 174 100 (by decide +kernel)
set_option maxRecDepth 1000000 in
theorem tb_la_dgO : Cond.laysStatic "java/lang/Integer" "DigitOnes" "[B" ∈ lw_tbl := List.mem_append_right _ (List.mem_of_getElem? (i := 1131) (by decide +kernel))
set_option maxRecDepth 1000000 in
theorem tb_in_dgO : Cond.initialized "java/lang/Integer" ∈ lw_tbl := List.mem_append_right _ (List.mem_of_getElem? (i := 25) (by decide +kernel))
def fmI : List Nat := [52, 58, 61, 64, 67, 70, 73, 76]
set_option maxRecDepth 1000000 in
theorem pr_form : ∀ i, i < 8 → Cond.eq (.field (.static "FeatherShares$Deed" (dNm.getD i "") "LFeatherShares$Deed;") "FeatherShares$Deed" "form" "Ljava/lang/String;") (.string "FeatherShares$Deed" (fmI.getD i 0)) ∈ prL := by
  intro i hi
  obtain rfl | rfl | rfl | rfl | rfl | rfl | rfl | rfl := lt8 hi
  · exact List.mem_of_getElem? (i := 6) (by decide +kernel)
  · exact List.mem_of_getElem? (i := 86) (by decide +kernel)
  · exact List.mem_of_getElem? (i := 98) (by decide +kernel)
  · exact List.mem_of_getElem? (i := 111) (by decide +kernel)
  · exact List.mem_of_getElem? (i := 48) (by decide +kernel)
  · exact List.mem_of_getElem? (i := 57) (by decide +kernel)
  · exact List.mem_of_getElem? (i := 125) (by decide +kernel)
  · exact List.mem_of_getElem? (i := 140) (by decide +kernel)
set_option maxRecDepth 1000000 in
theorem pr_fex : ∀ i, i < 8 → Cond.exactly (.string "FeatherShares$Deed" (fmI.getD i 0)) "java/lang/String" ∈ prL := by
  intro i hi
  obtain rfl | rfl | rfl | rfl | rfl | rfl | rfl | rfl := lt8 hi
  · exact List.mem_of_getElem? (i := 1226) (by decide +kernel)
  · exact List.mem_of_getElem? (i := 1264) (by decide +kernel)
  · exact List.mem_of_getElem? (i := 1276) (by decide +kernel)
  · exact List.mem_of_getElem? (i := 1291) (by decide +kernel)
  · exact List.mem_of_getElem? (i := 1236) (by decide +kernel)
  · exact List.mem_of_getElem? (i := 1251) (by decide +kernel)
  · exact List.mem_of_getElem? (i := 1303) (by decide +kernel)
  · exact List.mem_of_getElem? (i := 1318) (by decide +kernel)
set_option maxRecDepth 1000000 in
theorem pr_fco : ∀ i, i < 8 → Cond.eq (.field (.string "FeatherShares$Deed" (fmI.getD i 0)) "java/lang/String" "coder" "B") (.int 0) ∈ prL := by
  intro i hi
  obtain rfl | rfl | rfl | rfl | rfl | rfl | rfl | rfl := lt8 hi
  · exact List.mem_of_getElem? (i := 1227) (by decide +kernel)
  · exact List.mem_of_getElem? (i := 1265) (by decide +kernel)
  · exact List.mem_of_getElem? (i := 1277) (by decide +kernel)
  · exact List.mem_of_getElem? (i := 1292) (by decide +kernel)
  · exact List.mem_of_getElem? (i := 1237) (by decide +kernel)
  · exact List.mem_of_getElem? (i := 1252) (by decide +kernel)
  · exact List.mem_of_getElem? (i := 1304) (by decide +kernel)
  · exact List.mem_of_getElem? (i := 1319) (by decide +kernel)
set_option maxRecDepth 1000000 in
theorem pr_far : ∀ i, i < 8 → Cond.arrayOf (.field (.string "FeatherShares$Deed" (fmI.getD i 0)) "java/lang/String" "value" "[B") .byte ∈ prL := by
  intro i hi
  obtain rfl | rfl | rfl | rfl | rfl | rfl | rfl | rfl := lt8 hi
  · exact List.mem_of_getElem? (i := 1228) (by decide +kernel)
  · exact List.mem_of_getElem? (i := 1266) (by decide +kernel)
  · exact List.mem_of_getElem? (i := 1278) (by decide +kernel)
  · exact List.mem_of_getElem? (i := 1293) (by decide +kernel)
  · exact List.mem_of_getElem? (i := 1238) (by decide +kernel)
  · exact List.mem_of_getElem? (i := 1253) (by decide +kernel)
  · exact List.mem_of_getElem? (i := 1305) (by decide +kernel)
  · exact List.mem_of_getElem? (i := 1320) (by decide +kernel)
set_option maxRecDepth 1000000 in
theorem pr_fle : ∀ i, i < 8 → Cond.eq (.length (.field (.string "FeatherShares$Deed" (fmI.getD i 0)) "java/lang/String" "value" "[B")) (.int (Int32.ofNat (fmS.getD i []).length)) ∈ prL := by
  intro i hi
  obtain rfl | rfl | rfl | rfl | rfl | rfl | rfl | rfl := lt8 hi
  · exact List.mem_of_getElem? (i := 1229) (by decide +kernel)
  · exact List.mem_of_getElem? (i := 1267) (by decide +kernel)
  · exact List.mem_of_getElem? (i := 1279) (by decide +kernel)
  · exact List.mem_of_getElem? (i := 1294) (by decide +kernel)
  · exact List.mem_of_getElem? (i := 1239) (by decide +kernel)
  · exact List.mem_of_getElem? (i := 1254) (by decide +kernel)
  · exact List.mem_of_getElem? (i := 1306) (by decide +kernel)
  · exact List.mem_of_getElem? (i := 1321) (by decide +kernel)
set_option maxRecDepth 1000000 in
theorem pr_fel0 : ∀ j, j < (fmS.getD 0 []).length → Cond.eq (.elem (.field (.string "FeatherShares$Deed" (fmI.getD 0 0)) "java/lang/String" "value" "[B") (.int (Int32.ofNat j))) (.int (((fmS.getD 0 []).map nI).getD j 0)) ∈ prL := rng_in (f := fun j => Cond.eq (.elem (.field (.string "FeatherShares$Deed" (fmI.getD 0 0)) "java/lang/String" "value" "[B") (.int (Int32.ofNat j))) (.int (((fmS.getD 0 []).map nI).getD j 0))) 1230 _ (by decide +kernel)
set_option maxRecDepth 1000000 in
theorem pr_fel1 : ∀ j, j < (fmS.getD 1 []).length → Cond.eq (.elem (.field (.string "FeatherShares$Deed" (fmI.getD 1 0)) "java/lang/String" "value" "[B") (.int (Int32.ofNat j))) (.int (((fmS.getD 1 []).map nI).getD j 0)) ∈ prL := rng_in (f := fun j => Cond.eq (.elem (.field (.string "FeatherShares$Deed" (fmI.getD 1 0)) "java/lang/String" "value" "[B") (.int (Int32.ofNat j))) (.int (((fmS.getD 1 []).map nI).getD j 0))) 1268 _ (by decide +kernel)
set_option maxRecDepth 1000000 in
theorem pr_fel2 : ∀ j, j < (fmS.getD 2 []).length → Cond.eq (.elem (.field (.string "FeatherShares$Deed" (fmI.getD 2 0)) "java/lang/String" "value" "[B") (.int (Int32.ofNat j))) (.int (((fmS.getD 2 []).map nI).getD j 0)) ∈ prL := rng_in (f := fun j => Cond.eq (.elem (.field (.string "FeatherShares$Deed" (fmI.getD 2 0)) "java/lang/String" "value" "[B") (.int (Int32.ofNat j))) (.int (((fmS.getD 2 []).map nI).getD j 0))) 1280 _ (by decide +kernel)
set_option maxRecDepth 1000000 in
theorem pr_fel3 : ∀ j, j < (fmS.getD 3 []).length → Cond.eq (.elem (.field (.string "FeatherShares$Deed" (fmI.getD 3 0)) "java/lang/String" "value" "[B") (.int (Int32.ofNat j))) (.int (((fmS.getD 3 []).map nI).getD j 0)) ∈ prL := rng_in (f := fun j => Cond.eq (.elem (.field (.string "FeatherShares$Deed" (fmI.getD 3 0)) "java/lang/String" "value" "[B") (.int (Int32.ofNat j))) (.int (((fmS.getD 3 []).map nI).getD j 0))) 1295 _ (by decide +kernel)
set_option maxRecDepth 1000000 in
theorem pr_fel4 : ∀ j, j < (fmS.getD 4 []).length → Cond.eq (.elem (.field (.string "FeatherShares$Deed" (fmI.getD 4 0)) "java/lang/String" "value" "[B") (.int (Int32.ofNat j))) (.int (((fmS.getD 4 []).map nI).getD j 0)) ∈ prL := rng_in (f := fun j => Cond.eq (.elem (.field (.string "FeatherShares$Deed" (fmI.getD 4 0)) "java/lang/String" "value" "[B") (.int (Int32.ofNat j))) (.int (((fmS.getD 4 []).map nI).getD j 0))) 1240 _ (by decide +kernel)
set_option maxRecDepth 1000000 in
theorem pr_fel5 : ∀ j, j < (fmS.getD 5 []).length → Cond.eq (.elem (.field (.string "FeatherShares$Deed" (fmI.getD 5 0)) "java/lang/String" "value" "[B") (.int (Int32.ofNat j))) (.int (((fmS.getD 5 []).map nI).getD j 0)) ∈ prL := rng_in (f := fun j => Cond.eq (.elem (.field (.string "FeatherShares$Deed" (fmI.getD 5 0)) "java/lang/String" "value" "[B") (.int (Int32.ofNat j))) (.int (((fmS.getD 5 []).map nI).getD j 0))) 1255 _ (by decide +kernel)
set_option maxRecDepth 1000000 in
theorem pr_fel6 : ∀ j, j < (fmS.getD 6 []).length → Cond.eq (.elem (.field (.string "FeatherShares$Deed" (fmI.getD 6 0)) "java/lang/String" "value" "[B") (.int (Int32.ofNat j))) (.int (((fmS.getD 6 []).map nI).getD j 0)) ∈ prL := rng_in (f := fun j => Cond.eq (.elem (.field (.string "FeatherShares$Deed" (fmI.getD 6 0)) "java/lang/String" "value" "[B") (.int (Int32.ofNat j))) (.int (((fmS.getD 6 []).map nI).getD j 0))) 1307 _ (by decide +kernel)
set_option maxRecDepth 1000000 in
theorem pr_fel7 : ∀ j, j < (fmS.getD 7 []).length → Cond.eq (.elem (.field (.string "FeatherShares$Deed" (fmI.getD 7 0)) "java/lang/String" "value" "[B") (.int (Int32.ofNat j))) (.int (((fmS.getD 7 []).map nI).getD j 0)) ∈ prL := rng_in (f := fun j => Cond.eq (.elem (.field (.string "FeatherShares$Deed" (fmI.getD 7 0)) "java/lang/String" "value" "[B") (.int (Int32.ofNat j))) (.int (((fmS.getD 7 []).map nI).getD j 0))) 1322 _ (by decide +kernel)
theorem pr_fel : ∀ i, i < 8 → ∀ j, j < (fmS.getD i []).length → Cond.eq (.elem (.field (.string "FeatherShares$Deed" (fmI.getD i 0)) "java/lang/String" "value" "[B") (.int (Int32.ofNat j))) (.int (((fmS.getD i []).map nI).getD j 0)) ∈ prL := by
  intro i hi
  obtain rfl | rfl | rfl | rfl | rfl | rfl | rfl | rfl := lt8 hi
  · exact pr_fel0
  · exact pr_fel1
  · exact pr_fel2
  · exact pr_fel3
  · exact pr_fel4
  · exact pr_fel5
  · exact pr_fel6
  · exact pr_fel7
set_option maxRecDepth 1000000 in
theorem pr_nex : ∀ i, i < 6 → Cond.exactly (.string RL (sIx.getD i 0)) "java/lang/String" ∈ prL := by
  intro i hi
  obtain rfl | rfl | rfl | rfl | rfl | rfl := lt6 hi
  · exact List.mem_of_getElem? (i := 996) (by decide +kernel)
  · exact List.mem_of_getElem? (i := 1008) (by decide +kernel)
  · exact List.mem_of_getElem? (i := 1013) (by decide +kernel)
  · exact List.mem_of_getElem? (i := 1190) (by decide +kernel)
  · exact List.mem_of_getElem? (i := 1194) (by decide +kernel)
  · exact List.mem_of_getElem? (i := 1199) (by decide +kernel)
set_option maxRecDepth 1000000 in
theorem pr_nco : ∀ i, i < 6 → Cond.eq (.field (.string RL (sIx.getD i 0)) "java/lang/String" "coder" "B") (.int 0) ∈ prL := by
  intro i hi
  obtain rfl | rfl | rfl | rfl | rfl | rfl := lt6 hi
  · exact List.mem_of_getElem? (i := 997) (by decide +kernel)
  · exact List.mem_of_getElem? (i := 1009) (by decide +kernel)
  · exact List.mem_of_getElem? (i := 1014) (by decide +kernel)
  · exact List.mem_of_getElem? (i := 1191) (by decide +kernel)
  · exact List.mem_of_getElem? (i := 1195) (by decide +kernel)
  · exact List.mem_of_getElem? (i := 1200) (by decide +kernel)
set_option maxRecDepth 1000000 in
theorem pr_nar : ∀ i, i < 6 → Cond.arrayOf (.field (.string RL (sIx.getD i 0)) "java/lang/String" "value" "[B") .byte ∈ prL := by
  intro i hi
  obtain rfl | rfl | rfl | rfl | rfl | rfl := lt6 hi
  · exact List.mem_of_getElem? (i := 998) (by decide +kernel)
  · exact List.mem_of_getElem? (i := 1010) (by decide +kernel)
  · exact List.mem_of_getElem? (i := 1015) (by decide +kernel)
  · exact List.mem_of_getElem? (i := 1192) (by decide +kernel)
  · exact List.mem_of_getElem? (i := 1196) (by decide +kernel)
  · exact List.mem_of_getElem? (i := 1201) (by decide +kernel)
set_option maxRecDepth 1000000 in
theorem pr_nle : ∀ i, i < 6 → Cond.eq (.length (.field (.string RL (sIx.getD i 0)) "java/lang/String" "value" "[B")) (.int (Int32.ofNat (sCh.getD i []).length)) ∈ prL := by
  intro i hi
  obtain rfl | rfl | rfl | rfl | rfl | rfl := lt6 hi
  · exact List.mem_of_getElem? (i := 999) (by decide +kernel)
  · exact List.mem_of_getElem? (i := 1011) (by decide +kernel)
  · exact List.mem_of_getElem? (i := 1016) (by decide +kernel)
  · exact List.mem_of_getElem? (i := 1193) (by decide +kernel)
  · exact List.mem_of_getElem? (i := 1197) (by decide +kernel)
  · exact List.mem_of_getElem? (i := 1202) (by decide +kernel)
set_option maxRecDepth 1000000 in
theorem pr_nel0 : ∀ j, j < (sCh.getD 0 []).length → Cond.eq (.elem (.field (.string RL (sIx.getD 0 0)) "java/lang/String" "value" "[B") (.int (Int32.ofNat j))) (.int (((sCh.getD 0 []).map nI).getD j 0)) ∈ prL := rng_in (f := fun j => Cond.eq (.elem (.field (.string RL (sIx.getD 0 0)) "java/lang/String" "value" "[B") (.int (Int32.ofNat j))) (.int (((sCh.getD 0 []).map nI).getD j 0))) 1000 _ (by decide +kernel)
set_option maxRecDepth 1000000 in
theorem pr_nel1 : ∀ j, j < (sCh.getD 1 []).length → Cond.eq (.elem (.field (.string RL (sIx.getD 1 0)) "java/lang/String" "value" "[B") (.int (Int32.ofNat j))) (.int (((sCh.getD 1 []).map nI).getD j 0)) ∈ prL := rng_in (f := fun j => Cond.eq (.elem (.field (.string RL (sIx.getD 1 0)) "java/lang/String" "value" "[B") (.int (Int32.ofNat j))) (.int (((sCh.getD 1 []).map nI).getD j 0))) 1012 _ (by decide +kernel)
set_option maxRecDepth 1000000 in
theorem pr_nel2 : ∀ j, j < (sCh.getD 2 []).length → Cond.eq (.elem (.field (.string RL (sIx.getD 2 0)) "java/lang/String" "value" "[B") (.int (Int32.ofNat j))) (.int (((sCh.getD 2 []).map nI).getD j 0)) ∈ prL := rng_in (f := fun j => Cond.eq (.elem (.field (.string RL (sIx.getD 2 0)) "java/lang/String" "value" "[B") (.int (Int32.ofNat j))) (.int (((sCh.getD 2 []).map nI).getD j 0))) 1017 _ (by decide +kernel)
theorem pr_nel3 : ∀ j, j < (sCh.getD 3 []).length → Cond.eq (.elem (.field (.string RL (sIx.getD 3 0)) "java/lang/String" "value" "[B") (.int (Int32.ofNat j))) (.int (((sCh.getD 3 []).map nI).getD j 0)) ∈ prL := fun j hj => absurd (show j < 0 from hj) (Nat.not_lt_zero j)
set_option maxRecDepth 1000000 in
theorem pr_nel4 : ∀ j, j < (sCh.getD 4 []).length → Cond.eq (.elem (.field (.string RL (sIx.getD 4 0)) "java/lang/String" "value" "[B") (.int (Int32.ofNat j))) (.int (((sCh.getD 4 []).map nI).getD j 0)) ∈ prL := rng_in (f := fun j => Cond.eq (.elem (.field (.string RL (sIx.getD 4 0)) "java/lang/String" "value" "[B") (.int (Int32.ofNat j))) (.int (((sCh.getD 4 []).map nI).getD j 0))) 1198 _ (by decide +kernel)
set_option maxRecDepth 1000000 in
theorem pr_nel5 : ∀ j, j < (sCh.getD 5 []).length → Cond.eq (.elem (.field (.string RL (sIx.getD 5 0)) "java/lang/String" "value" "[B") (.int (Int32.ofNat j))) (.int (((sCh.getD 5 []).map nI).getD j 0)) ∈ prL := rng_in (f := fun j => Cond.eq (.elem (.field (.string RL (sIx.getD 5 0)) "java/lang/String" "value" "[B") (.int (Int32.ofNat j))) (.int (((sCh.getD 5 []).map nI).getD j 0))) 1203 _ (by decide +kernel)
theorem pr_nel : ∀ i, i < 6 → ∀ j, j < (sCh.getD i []).length → Cond.eq (.elem (.field (.string RL (sIx.getD i 0)) "java/lang/String" "value" "[B") (.int (Int32.ofNat j))) (.int (((sCh.getD i []).map nI).getD j 0)) ∈ prL := by
  intro i hi
  obtain rfl | rfl | rfl | rfl | rfl | rfl := lt6 hi
  · exact pr_nel0
  · exact pr_nel1
  · exact pr_nel2
  · exact pr_nel3
  · exact pr_nel4
  · exact pr_nel5
set_option maxRecDepth 1000000 in
theorem tb_sr : ∀ i, i < 6 → Cond.stringRef RL (sIx.getD i 0) (sTx.getD i "") ∈ lw_tbl := by
  intro i hi
  obtain rfl | rfl | rfl | rfl | rfl | rfl := lt6 hi
  · exact List.mem_append_right _ (List.mem_of_getElem? (i := 1154) (by decide +kernel))
  · exact List.mem_append_right _ (List.mem_of_getElem? (i := 1264) (by decide +kernel))
  · exact List.mem_append_right _ (List.mem_of_getElem? (i := 1265) (by decide +kernel))
  · exact List.mem_append_right _ (List.mem_of_getElem? (i := 1425) (by decide +kernel))
  · exact List.mem_append_right _ (List.mem_of_getElem? (i := 1426) (by decide +kernel))
  · exact List.mem_append_right _ (List.mem_of_getElem? (i := 1427) (by decide +kernel))
set_option maxRecDepth 1000000 in
theorem tb_cl : Cond.castable "[B" "java/lang/Cloneable" ∈ lw_tbl := List.mem_append_right _ (List.mem_of_getElem? (i := 1118) (by decide +kernel))
set_option maxRecDepth 1000000 in
theorem pr_ms0 : Cond.exactly (.string RX12 127) "java/lang/String" ∈ prL := List.mem_of_getElem? (i := 791) (by decide +kernel)
set_option maxRecDepth 1000000 in
theorem tb_ms0 : Cond.stringRef RX12 127 "no bird has this rank" ∈ lw_tbl := List.mem_append_right _ (List.mem_of_getElem? (i := 904) (by decide +kernel))
set_option maxRecDepth 1000000 in
theorem pr_ms1 : Cond.exactly (.string RX12 147) "java/lang/String" ∈ prL := List.mem_of_getElem? (i := 732) (by decide +kernel)
set_option maxRecDepth 1000000 in
theorem tb_ms1 : Cond.stringRef RX12 147 "no secret has this position" ∈ lw_tbl := List.mem_append_right _ (List.mem_of_getElem? (i := 863) (by decide +kernel))
set_option maxRecDepth 1000000 in
theorem pr_ms2 : Cond.exactly (.string RX12 167) "java/lang/String" ∈ prL := List.mem_of_getElem? (i := 816) (by decide +kernel)
set_option maxRecDepth 1000000 in
theorem tb_ms2 : Cond.stringRef RX12 167 "the bird does not hold a share of it" ∈ lw_tbl := List.mem_append_right _ (List.mem_of_getElem? (i := 932) (by decide +kernel))
set_option maxRecDepth 1000000 in
theorem pr_ms3 : Cond.exactly (.string RX12 211) "java/lang/String" ∈ prL := List.mem_of_getElem? (i := 902) (by decide +kernel)
set_option maxRecDepth 1000000 in
theorem tb_ms3 : Cond.stringRef RX12 211 "the number is out of range" ∈ lw_tbl := List.mem_append_right _ (List.mem_of_getElem? (i := 1045) (by decide +kernel))
set_option maxRecDepth 1000000 in
theorem pr_ms4 : Cond.exactly (.string RX12 228) "java/lang/String" ∈ prL := List.mem_of_getElem? (i := 1144) (by decide +kernel)
set_option maxRecDepth 1000000 in
theorem tb_ms4 : Cond.stringRef RX12 228 "there are no birds" ∈ lw_tbl := List.mem_append_right _ (List.mem_of_getElem? (i := 1405) (by decide +kernel))
set_option maxRecDepth 1000000 in
theorem pr_ms5 : Cond.exactly (.string RX12 231) "java/lang/String" ∈ prL := List.mem_of_getElem? (i := 1166) (by decide +kernel)
set_option maxRecDepth 1000000 in
theorem tb_ms5 : Cond.stringRef RX12 231 "there are no secrets" ∈ lw_tbl := List.mem_append_right _ (List.mem_of_getElem? (i := 1416) (by decide +kernel))
set_option maxRecDepth 1000000 in
theorem pr_ms6 : Cond.exactly (.string RX12 255) "java/lang/String" ∈ prL := List.mem_of_getElem? (i := 683) (by decide +kernel)
set_option maxRecDepth 1000000 in
theorem tb_ms6 : Cond.stringRef RX12 255 "the text is not a program" ∈ lw_tbl := List.mem_append_right _ (List.mem_of_getElem? (i := 826) (by decide +kernel))
set_option maxRecDepth 1000000 in
theorem pr_ms7 : Cond.exactly (.string RX12 270) "java/lang/String" ∈ prL := List.mem_of_getElem? (i := 712) (by decide +kernel)
set_option maxRecDepth 1000000 in
theorem tb_ms7 : Cond.stringRef RX12 270 "a command failed" ∈ lw_tbl := List.mem_append_right _ (List.mem_of_getElem? (i := 848) (by decide +kernel))
set_option maxRecDepth 1000000 in
theorem pr_ms8 : Cond.exactly (.string RX12 276) "java/lang/String" ∈ prL := List.mem_of_getElem? (i := 932) (by decide +kernel)
set_option maxRecDepth 1000000 in
theorem tb_ms8 : Cond.stringRef RX12 276 "no error position was stored" ∈ lw_tbl := List.mem_append_right _ (List.mem_of_getElem? (i := 1051) (by decide +kernel))
set_option maxRecDepth 1000000 in
theorem pr_ms9 : Cond.exactly (.string RX12 278) "java/lang/String" ∈ prL := List.mem_of_getElem? (i := 964) (by decide +kernel)
set_option maxRecDepth 1000000 in
theorem tb_ms9 : Cond.stringRef RX12 278 "no failed command was stored" ∈ lw_tbl := List.mem_append_right _ (List.mem_of_getElem? (i := 1056) (by decide +kernel))
set_option maxRecDepth 1000000 in
theorem pr_ms10 : Cond.exactly (.string RX12 293) "java/lang/String" ∈ prL := List.mem_of_getElem? (i := 1114) (by decide +kernel)
set_option maxRecDepth 1000000 in
theorem tb_ms10 : Cond.stringRef RX12 293 "the line has no such index" ∈ lw_tbl := List.mem_append_right _ (List.mem_of_getElem? (i := 1358) (by decide +kernel))
set_option maxRecDepth 1000000 in
theorem pr_ms11 : Cond.exactly (.string RX12 305) "java/lang/String" ∈ prL := List.mem_of_getElem? (i := 1204) (by decide +kernel)
set_option maxRecDepth 1000000 in
theorem tb_ms11 : Cond.stringRef RX12 305 "no state was saved" ∈ lw_tbl := List.mem_append_right _ (List.mem_of_getElem? (i := 1454) (by decide +kernel))
set_option maxRecDepth 1000000 in
theorem pr_ms12 : Cond.exactly (.string RX12 350) "java/lang/String" ∈ prL := List.mem_of_getElem? (i := 517) (by decide +kernel)
set_option maxRecDepth 1000000 in
theorem tb_ms12 : Cond.stringRef RX12 350 "an argument is out of range" ∈ lw_tbl := List.mem_append_right _ (List.mem_of_getElem? (i := 515) (by decide +kernel))
set_option maxRecDepth 1000000 in
theorem pr_ms13 : Cond.exactly (.string RX12 352) "java/lang/String" ∈ prL := List.mem_of_getElem? (i := 548) (by decide +kernel)
set_option maxRecDepth 1000000 in
theorem tb_ms13 : Cond.stringRef RX12 352 "there is no such bird" ∈ lw_tbl := List.mem_append_right _ (List.mem_of_getElem? (i := 531) (by decide +kernel))
set_option maxRecDepth 1000000 in
theorem pr_ms14 : Cond.exactly (.string RX12 354) "java/lang/String" ∈ prL := List.mem_of_getElem? (i := 573) (by decide +kernel)
set_option maxRecDepth 1000000 in
theorem tb_ms14 : Cond.stringRef RX12 354 "there is no such secret" ∈ lw_tbl := List.mem_append_right _ (List.mem_of_getElem? (i := 544) (by decide +kernel))
set_option maxRecDepth 1000000 in
theorem pr_ms15 : Cond.exactly (.string RX12 356) "java/lang/String" ∈ prL := List.mem_of_getElem? (i := 600) (by decide +kernel)
set_option maxRecDepth 1000000 in
theorem tb_ms15 : Cond.stringRef RX12 356 "the state does not allow the call" ∈ lw_tbl := List.mem_append_right _ (List.mem_of_getElem? (i := 560) (by decide +kernel))
set_option maxRecDepth 1000000 in
theorem pr_ms16 : Cond.exactly (.string RX12 358) "java/lang/String" ∈ prL := List.mem_of_getElem? (i := 637) (by decide +kernel)
set_option maxRecDepth 1000000 in
theorem tb_ms16 : Cond.stringRef RX12 358 "there are fewer holders than the threshold" ∈ lw_tbl := List.mem_append_right _ (List.mem_of_getElem? (i := 576) (by decide +kernel))
set_option maxRecDepth 1000000 in
theorem pr_ms17 : Cond.exactly (.string RX12 366) "java/lang/String" ∈ prL := List.mem_of_getElem? (i := 763) (by decide +kernel)
set_option maxRecDepth 1000000 in
theorem tb_ms17 : Cond.stringRef RX12 366 "the nest is out of range" ∈ lw_tbl := List.mem_append_right _ (List.mem_of_getElem? (i := 895) (by decide +kernel))
set_option maxRecDepth 1000000 in
theorem pr_ms18 : Cond.exactly (.string RX12 371) "java/lang/String" ∈ prL := List.mem_of_getElem? (i := 856) (by decide +kernel)
set_option maxRecDepth 1000000 in
theorem tb_ms18 : Cond.stringRef RX12 371 "the number of known shares is out of range" ∈ lw_tbl := List.mem_append_right _ (List.mem_of_getElem? (i := 1028) (by decide +kernel))
set_option maxRecDepth 1000000 in
theorem pr_ms : ∀ q ∈ tmsg, Cond.exactly (.string RX12 q.1) "java/lang/String" ∈ prL := (List.forall_mem_cons.mpr ⟨pr_ms0, (List.forall_mem_cons.mpr ⟨pr_ms1, (List.forall_mem_cons.mpr ⟨pr_ms2, (List.forall_mem_cons.mpr ⟨pr_ms3, (List.forall_mem_cons.mpr ⟨pr_ms4, (List.forall_mem_cons.mpr ⟨pr_ms5, (List.forall_mem_cons.mpr ⟨pr_ms6, (List.forall_mem_cons.mpr ⟨pr_ms7, (List.forall_mem_cons.mpr ⟨pr_ms8, (List.forall_mem_cons.mpr ⟨pr_ms9, (List.forall_mem_cons.mpr ⟨pr_ms10, (List.forall_mem_cons.mpr ⟨pr_ms11, (List.forall_mem_cons.mpr ⟨pr_ms12, (List.forall_mem_cons.mpr ⟨pr_ms13, (List.forall_mem_cons.mpr ⟨pr_ms14, (List.forall_mem_cons.mpr ⟨pr_ms15, (List.forall_mem_cons.mpr ⟨pr_ms16, (List.forall_mem_cons.mpr ⟨pr_ms17, (List.forall_mem_cons.mpr ⟨pr_ms18, (fun q h => absurd h List.not_mem_nil)⟩)⟩)⟩)⟩)⟩)⟩)⟩)⟩)⟩)⟩)⟩)⟩)⟩)⟩)⟩)⟩)⟩)⟩)⟩)
set_option maxRecDepth 1000000 in
theorem tb_ms : ∀ q ∈ tmsg, Cond.stringRef RX12 q.1 q.2 ∈ lw_tbl := (List.forall_mem_cons.mpr ⟨tb_ms0, (List.forall_mem_cons.mpr ⟨tb_ms1, (List.forall_mem_cons.mpr ⟨tb_ms2, (List.forall_mem_cons.mpr ⟨tb_ms3, (List.forall_mem_cons.mpr ⟨tb_ms4, (List.forall_mem_cons.mpr ⟨tb_ms5, (List.forall_mem_cons.mpr ⟨tb_ms6, (List.forall_mem_cons.mpr ⟨tb_ms7, (List.forall_mem_cons.mpr ⟨tb_ms8, (List.forall_mem_cons.mpr ⟨tb_ms9, (List.forall_mem_cons.mpr ⟨tb_ms10, (List.forall_mem_cons.mpr ⟨tb_ms11, (List.forall_mem_cons.mpr ⟨tb_ms12, (List.forall_mem_cons.mpr ⟨tb_ms13, (List.forall_mem_cons.mpr ⟨tb_ms14, (List.forall_mem_cons.mpr ⟨tb_ms15, (List.forall_mem_cons.mpr ⟨tb_ms16, (List.forall_mem_cons.mpr ⟨tb_ms17, (List.forall_mem_cons.mpr ⟨tb_ms18, (fun q h => absurd h List.not_mem_nil)⟩)⟩)⟩)⟩)⟩)⟩)⟩)⟩)⟩)⟩)⟩)⟩)⟩)⟩)⟩)⟩)⟩)⟩)⟩)
set_option maxRecDepth 1000000 in
theorem tb_ca0 : Cond.castable "java/lang/IllegalArgumentException" "java/lang/IllegalArgumentException" ∈ lw_tbl := List.mem_append_right _ (List.mem_of_getElem? (i := 508) (by decide +kernel))
set_option maxRecDepth 1000000 in
theorem tb_ca1 : Cond.castable "java/lang/IndexOutOfBoundsException" "java/lang/IndexOutOfBoundsException" ∈ lw_tbl := List.mem_append_right _ (List.mem_of_getElem? (i := 524) (by decide +kernel))
set_option maxRecDepth 1000000 in
theorem tb_ca2 : Cond.castable "java/util/NoSuchElementException" "java/util/NoSuchElementException" ∈ lw_tbl := List.mem_append_right _ (List.mem_of_getElem? (i := 537) (by decide +kernel))
set_option maxRecDepth 1000000 in
theorem tb_ca3 : Cond.castable "java/lang/IllegalStateException" "java/lang/IllegalStateException" ∈ lw_tbl := List.mem_append_right _ (List.mem_of_getElem? (i := 553) (by decide +kernel))
set_option maxRecDepth 1000000 in
theorem tb_ca4 : Cond.castable "java/lang/UnsupportedOperationException" "java/lang/UnsupportedOperationException" ∈ lw_tbl := List.mem_append_right _ (List.mem_of_getElem? (i := 569) (by decide +kernel))
set_option maxRecDepth 1000000 in
theorem tb_ca5 : Cond.castable "java/lang/ArithmeticException" "java/lang/ArithmeticException" ∈ lw_tbl := List.mem_append_right _ (List.mem_of_getElem? (i := 1398) (by decide +kernel))
set_option maxRecDepth 1000000 in
theorem tb_ca : ∀ E ∈ exN, Cond.castable E E ∈ lw_tbl := (List.forall_mem_cons.mpr ⟨tb_ca0, (List.forall_mem_cons.mpr ⟨tb_ca1, (List.forall_mem_cons.mpr ⟨tb_ca2, (List.forall_mem_cons.mpr ⟨tb_ca3, (List.forall_mem_cons.mpr ⟨tb_ca4, (List.forall_mem_cons.mpr ⟨tb_ca5, (fun q h => absurd h List.not_mem_nil)⟩)⟩)⟩)⟩)⟩)⟩)
set_option maxRecDepth 1000000 in
theorem pr_nc01 : Cond.not (.castable "java/lang/IllegalArgumentException" "java/lang/IndexOutOfBoundsException") ∈ prL := List.mem_of_getElem? (i := 388) (by decide +kernel)
set_option maxRecDepth 1000000 in
theorem pr_nc02 : Cond.not (.castable "java/lang/IllegalArgumentException" "java/util/NoSuchElementException") ∈ prL := List.mem_of_getElem? (i := 468) (by decide +kernel)
set_option maxRecDepth 1000000 in
theorem pr_nc03 : Cond.not (.castable "java/lang/IllegalArgumentException" "java/lang/IllegalStateException") ∈ prL := List.mem_of_getElem? (i := 428) (by decide +kernel)
set_option maxRecDepth 1000000 in
theorem pr_nc04 : Cond.not (.castable "java/lang/IllegalArgumentException" "java/lang/UnsupportedOperationException") ∈ prL := List.mem_of_getElem? (i := 448) (by decide +kernel)
set_option maxRecDepth 1000000 in
theorem pr_nc0 : ∀ F ∈ exH, ¬ "java/lang/IllegalArgumentException" = F → Cond.not (.castable "java/lang/IllegalArgumentException" F) ∈ prL := (List.forall_mem_cons.mpr ⟨(fun h => absurd rfl h), (List.forall_mem_cons.mpr ⟨(fun _ => pr_nc01), (List.forall_mem_cons.mpr ⟨(fun _ => pr_nc02), (List.forall_mem_cons.mpr ⟨(fun _ => pr_nc03), (List.forall_mem_cons.mpr ⟨(fun _ => pr_nc04), (fun q h => absurd h List.not_mem_nil)⟩)⟩)⟩)⟩)⟩)
set_option maxRecDepth 1000000 in
theorem pr_nc10 : Cond.not (.castable "java/lang/IndexOutOfBoundsException" "java/lang/IllegalArgumentException") ∈ prL := List.mem_of_getElem? (i := 407) (by decide +kernel)
set_option maxRecDepth 1000000 in
theorem pr_nc12 : Cond.not (.castable "java/lang/IndexOutOfBoundsException" "java/util/NoSuchElementException") ∈ prL := List.mem_of_getElem? (i := 467) (by decide +kernel)
set_option maxRecDepth 1000000 in
theorem pr_nc13 : Cond.not (.castable "java/lang/IndexOutOfBoundsException" "java/lang/IllegalStateException") ∈ prL := List.mem_of_getElem? (i := 427) (by decide +kernel)
set_option maxRecDepth 1000000 in
theorem pr_nc14 : Cond.not (.castable "java/lang/IndexOutOfBoundsException" "java/lang/UnsupportedOperationException") ∈ prL := List.mem_of_getElem? (i := 447) (by decide +kernel)
set_option maxRecDepth 1000000 in
theorem pr_nc1 : ∀ F ∈ exH, ¬ "java/lang/IndexOutOfBoundsException" = F → Cond.not (.castable "java/lang/IndexOutOfBoundsException" F) ∈ prL := (List.forall_mem_cons.mpr ⟨(fun _ => pr_nc10), (List.forall_mem_cons.mpr ⟨(fun h => absurd rfl h), (List.forall_mem_cons.mpr ⟨(fun _ => pr_nc12), (List.forall_mem_cons.mpr ⟨(fun _ => pr_nc13), (List.forall_mem_cons.mpr ⟨(fun _ => pr_nc14), (fun q h => absurd h List.not_mem_nil)⟩)⟩)⟩)⟩)⟩)
set_option maxRecDepth 1000000 in
theorem pr_nc20 : Cond.not (.castable "java/util/NoSuchElementException" "java/lang/IllegalArgumentException") ∈ prL := List.mem_of_getElem? (i := 408) (by decide +kernel)
set_option maxRecDepth 1000000 in
theorem pr_nc21 : Cond.not (.castable "java/util/NoSuchElementException" "java/lang/IndexOutOfBoundsException") ∈ prL := List.mem_of_getElem? (i := 389) (by decide +kernel)
set_option maxRecDepth 1000000 in
theorem pr_nc23 : Cond.not (.castable "java/util/NoSuchElementException" "java/lang/IllegalStateException") ∈ prL := List.mem_of_getElem? (i := 429) (by decide +kernel)
set_option maxRecDepth 1000000 in
theorem pr_nc24 : Cond.not (.castable "java/util/NoSuchElementException" "java/lang/UnsupportedOperationException") ∈ prL := List.mem_of_getElem? (i := 449) (by decide +kernel)
set_option maxRecDepth 1000000 in
theorem pr_nc2 : ∀ F ∈ exH, ¬ "java/util/NoSuchElementException" = F → Cond.not (.castable "java/util/NoSuchElementException" F) ∈ prL := (List.forall_mem_cons.mpr ⟨(fun _ => pr_nc20), (List.forall_mem_cons.mpr ⟨(fun _ => pr_nc21), (List.forall_mem_cons.mpr ⟨(fun h => absurd rfl h), (List.forall_mem_cons.mpr ⟨(fun _ => pr_nc23), (List.forall_mem_cons.mpr ⟨(fun _ => pr_nc24), (fun q h => absurd h List.not_mem_nil)⟩)⟩)⟩)⟩)⟩)
set_option maxRecDepth 1000000 in
theorem pr_nc30 : Cond.not (.castable "java/lang/IllegalStateException" "java/lang/IllegalArgumentException") ∈ prL := List.mem_of_getElem? (i := 409) (by decide +kernel)
set_option maxRecDepth 1000000 in
theorem pr_nc31 : Cond.not (.castable "java/lang/IllegalStateException" "java/lang/IndexOutOfBoundsException") ∈ prL := List.mem_of_getElem? (i := 390) (by decide +kernel)
set_option maxRecDepth 1000000 in
theorem pr_nc32 : Cond.not (.castable "java/lang/IllegalStateException" "java/util/NoSuchElementException") ∈ prL := List.mem_of_getElem? (i := 469) (by decide +kernel)
set_option maxRecDepth 1000000 in
theorem pr_nc34 : Cond.not (.castable "java/lang/IllegalStateException" "java/lang/UnsupportedOperationException") ∈ prL := List.mem_of_getElem? (i := 450) (by decide +kernel)
set_option maxRecDepth 1000000 in
theorem pr_nc3 : ∀ F ∈ exH, ¬ "java/lang/IllegalStateException" = F → Cond.not (.castable "java/lang/IllegalStateException" F) ∈ prL := (List.forall_mem_cons.mpr ⟨(fun _ => pr_nc30), (List.forall_mem_cons.mpr ⟨(fun _ => pr_nc31), (List.forall_mem_cons.mpr ⟨(fun _ => pr_nc32), (List.forall_mem_cons.mpr ⟨(fun h => absurd rfl h), (List.forall_mem_cons.mpr ⟨(fun _ => pr_nc34), (fun q h => absurd h List.not_mem_nil)⟩)⟩)⟩)⟩)⟩)
set_option maxRecDepth 1000000 in
theorem pr_nc40 : Cond.not (.castable "java/lang/UnsupportedOperationException" "java/lang/IllegalArgumentException") ∈ prL := List.mem_of_getElem? (i := 411) (by decide +kernel)
set_option maxRecDepth 1000000 in
theorem pr_nc41 : Cond.not (.castable "java/lang/UnsupportedOperationException" "java/lang/IndexOutOfBoundsException") ∈ prL := List.mem_of_getElem? (i := 392) (by decide +kernel)
set_option maxRecDepth 1000000 in
theorem pr_nc42 : Cond.not (.castable "java/lang/UnsupportedOperationException" "java/util/NoSuchElementException") ∈ prL := List.mem_of_getElem? (i := 471) (by decide +kernel)
set_option maxRecDepth 1000000 in
theorem pr_nc43 : Cond.not (.castable "java/lang/UnsupportedOperationException" "java/lang/IllegalStateException") ∈ prL := List.mem_of_getElem? (i := 431) (by decide +kernel)
set_option maxRecDepth 1000000 in
theorem pr_nc4 : ∀ F ∈ exH, ¬ "java/lang/UnsupportedOperationException" = F → Cond.not (.castable "java/lang/UnsupportedOperationException" F) ∈ prL := (List.forall_mem_cons.mpr ⟨(fun _ => pr_nc40), (List.forall_mem_cons.mpr ⟨(fun _ => pr_nc41), (List.forall_mem_cons.mpr ⟨(fun _ => pr_nc42), (List.forall_mem_cons.mpr ⟨(fun _ => pr_nc43), (List.forall_mem_cons.mpr ⟨(fun h => absurd rfl h), (fun q h => absurd h List.not_mem_nil)⟩)⟩)⟩)⟩)⟩)
set_option maxRecDepth 1000000 in
theorem pr_nc50 : Cond.not (.castable "java/lang/ArithmeticException" "java/lang/IllegalArgumentException") ∈ prL := List.mem_of_getElem? (i := 414) (by decide +kernel)
set_option maxRecDepth 1000000 in
theorem pr_nc51 : Cond.not (.castable "java/lang/ArithmeticException" "java/lang/IndexOutOfBoundsException") ∈ prL := List.mem_of_getElem? (i := 394) (by decide +kernel)
set_option maxRecDepth 1000000 in
theorem pr_nc52 : Cond.not (.castable "java/lang/ArithmeticException" "java/util/NoSuchElementException") ∈ prL := List.mem_of_getElem? (i := 474) (by decide +kernel)
set_option maxRecDepth 1000000 in
theorem pr_nc53 : Cond.not (.castable "java/lang/ArithmeticException" "java/lang/IllegalStateException") ∈ prL := List.mem_of_getElem? (i := 434) (by decide +kernel)
set_option maxRecDepth 1000000 in
theorem pr_nc54 : Cond.not (.castable "java/lang/ArithmeticException" "java/lang/UnsupportedOperationException") ∈ prL := List.mem_of_getElem? (i := 454) (by decide +kernel)
set_option maxRecDepth 1000000 in
theorem pr_nc5 : ∀ F ∈ exH, ¬ "java/lang/ArithmeticException" = F → Cond.not (.castable "java/lang/ArithmeticException" F) ∈ prL := (List.forall_mem_cons.mpr ⟨(fun _ => pr_nc50), (List.forall_mem_cons.mpr ⟨(fun _ => pr_nc51), (List.forall_mem_cons.mpr ⟨(fun _ => pr_nc52), (List.forall_mem_cons.mpr ⟨(fun _ => pr_nc53), (List.forall_mem_cons.mpr ⟨(fun _ => pr_nc54), (fun q h => absurd h List.not_mem_nil)⟩)⟩)⟩)⟩)⟩)
set_option maxRecDepth 1000000 in
theorem pr_nc : ∀ E ∈ exN, ∀ F ∈ exH, ¬ E = F → Cond.not (.castable E F) ∈ prL := (List.forall_mem_cons.mpr ⟨pr_nc0, (List.forall_mem_cons.mpr ⟨pr_nc1, (List.forall_mem_cons.mpr ⟨pr_nc2, (List.forall_mem_cons.mpr ⟨pr_nc3, (List.forall_mem_cons.mpr ⟨pr_nc4, (List.forall_mem_cons.mpr ⟨pr_nc5, (fun q h => absurd h List.not_mem_nil)⟩)⟩)⟩)⟩)⟩)⟩)
set_option maxRecDepth 1000000 in
theorem tb_ns0 : Cond.methodLinkNest RX11 21 yX10_init "FeatherShares" ∈ lw_tbl := List.mem_append_right _ (List.mem_of_getElem? (i := 61) (by decide +kernel))
set_option maxRecDepth 1000000 in
theorem tb_ns1 : Cond.methodLinkNest RX1 20 yX8_init "FeatherShares" ∈ lw_tbl := List.mem_append_right _ (List.mem_of_getElem? (i := 97) (by decide +kernel))
set_option maxRecDepth 1000000 in
theorem tb_ns2 : Cond.methodLinkNest RX8 11 yX5_init "FeatherShares" ∈ lw_tbl := List.mem_append_right _ (List.mem_of_getElem? (i := 103) (by decide +kernel))
set_option maxRecDepth 1000000 in
theorem tb_ns3 : Cond.methodLinkNest RX8 20 yX3_init "FeatherShares" ∈ lw_tbl := List.mem_append_right _ (List.mem_of_getElem? (i := 119) (by decide +kernel))
set_option maxRecDepth 1000000 in
theorem tb_ns4 : Cond.methodLinkNest RX12 50 yX7_init "FeatherShares" ∈ lw_tbl := List.mem_append_right _ (List.mem_of_getElem? (i := 187) (by decide +kernel))
set_option maxRecDepth 1000000 in
theorem tb_ns5 : Cond.methodLinkNest RX12 9 yX1_init "FeatherShares" ∈ lw_tbl := List.mem_append_right _ (List.mem_of_getElem? (i := 48) (by decide +kernel))
set_option maxRecDepth 1000000 in
theorem tb_ns : ∀ q ∈ nsL, Cond.methodLinkNest q.1 q.2.1 q.2.2 "FeatherShares" ∈ lw_tbl := (List.forall_mem_cons.mpr ⟨tb_ns0, (List.forall_mem_cons.mpr ⟨tb_ns1, (List.forall_mem_cons.mpr ⟨tb_ns2, (List.forall_mem_cons.mpr ⟨tb_ns3, (List.forall_mem_cons.mpr ⟨tb_ns4, (List.forall_mem_cons.mpr ⟨tb_ns5, (fun q h => absurd h List.not_mem_nil)⟩)⟩)⟩)⟩)⟩)⟩)
set_option maxRecDepth 1000000 in
theorem tb_dc0 : Cond.declares (Bundle.initS "java/lang/RuntimeException") ∈ lw_tbl := List.mem_append_right _ (List.mem_of_getElem? (i := 365) (by decide +kernel))
set_option maxRecDepth 1000000 in
theorem tb_dc1 : Cond.declares (Bundle.initS "java/lang/Exception") ∈ lw_tbl := List.mem_append_right _ (List.mem_of_getElem? (i := 367) (by decide +kernel))
set_option maxRecDepth 1000000 in
theorem tb_dc2 : Cond.declares (Bundle.initS "java/lang/Throwable") ∈ lw_tbl := List.mem_append_right _ (List.mem_of_getElem? (i := 369) (by decide +kernel))
set_option maxRecDepth 1000000 in
theorem tb_dc : ∀ x ∈ dcL, Cond.declares x ∈ lw_tbl := (List.forall_mem_cons.mpr ⟨tb_dc0, (List.forall_mem_cons.mpr ⟨tb_dc1, (List.forall_mem_cons.mpr ⟨tb_dc2, (fun q h => absurd h List.not_mem_nil)⟩)⟩)⟩)
set_option maxRecDepth 1000000 in
theorem tb_fn : Cond.fieldLinkNest "FeatherShares$Program" 55 "FeatherShares" "DEEDS" "[LFeatherShares$Deed;" "FeatherShares" ∈ lw_tbl := List.mem_append_right _ (List.mem_of_getElem? (i := 747) (by decide +kernel))
set_option maxRecDepth 1000000 in
theorem tb_ao10 : Cond.arrayOver (.object RX10) ∈ lw_tbl := List.mem_append_right _ (List.mem_of_getElem? (i := 59) (by decide +kernel))
set_option maxRecDepth 1000000 in
theorem tb_ao11 : Cond.arrayOver (.object RX11) ∈ lw_tbl := List.mem_append_right _ (List.mem_of_getElem? (i := 173) (by decide +kernel))
set_option maxRecDepth 1000000 in
theorem tb_aoI : Cond.arrayOver (.array .int) ∈ lw_tbl := List.mem_append_right _ (List.mem_of_getElem? (i := 124) (by decide +kernel))
set_option maxRecDepth 1000000 in
theorem tb_ac_int : Cond.arrayClass .int ∈ lw_tbl := List.mem_append_right _ (List.mem_of_getElem? (i := 75) (by decide +kernel))
set_option maxRecDepth 1000000 in
theorem tb_ac_boolean : Cond.arrayClass .boolean ∈ lw_tbl := List.mem_append_right _ (List.mem_of_getElem? (i := 141) (by decide +kernel))
set_option maxRecDepth 1000000 in
theorem tb_ac_char : Cond.arrayClass .char ∈ lw_tbl := List.mem_append_right _ (List.mem_of_getElem? (i := 215) (by decide +kernel))
set_option maxRecDepth 1000000 in
theorem tb_ac_byte : Cond.arrayClass .byte ∈ lw_tbl := List.mem_append_right _ (List.mem_of_getElem? (i := 248) (by decide +kernel))
set_option maxRecDepth 1000000 in
theorem pr_un : Cond.isRef (.static Bundle.tN "UNASSIGNED_STACK" Bundle.steD) ∈ prL := List.mem_of_getElem? (i := 8) (by decide +kernel)
set_option maxRecDepth 1000000 in
theorem tb_la_un : Cond.laysStatic Bundle.tN "UNASSIGNED_STACK" Bundle.steD ∈ lw_tbl := List.mem_append_right _ (List.mem_of_getElem? (i := 323) (by decide +kernel))
set_option maxRecDepth 1000000 in
theorem tb_in_un : Cond.initialized Bundle.tN ∈ lw_tbl := List.mem_append_right _ (List.mem_of_getElem? (i := 16) (by decide +kernel))
set_option maxRecDepth 1000000 in
theorem pr_su : Cond.isRef (.static Bundle.tN "SUPPRESSED_SENTINEL" Bundle.listD) ∈ prL := List.mem_of_getElem? (i := 9) (by decide +kernel)
set_option maxRecDepth 1000000 in
theorem tb_la_su : Cond.laysStatic Bundle.tN "SUPPRESSED_SENTINEL" Bundle.listD ∈ lw_tbl := List.mem_append_right _ (List.mem_of_getElem? (i := 325) (by decide +kernel))
set_option maxRecDepth 1000000 in
theorem tb_in_su : Cond.initialized Bundle.tN ∈ lw_tbl := List.mem_append_right _ (List.mem_of_getElem? (i := 16) (by decide +kernel))
set_option maxRecDepth 1000000 in
theorem pr_si : Cond.isRef (.static "jdk/internal/util/Preconditions" "SIOOBE_FORMATTER" "Ljava/util/function/BiFunction;") ∈ prL := List.mem_of_getElem? (i := 167) (by decide +kernel)
set_option maxRecDepth 1000000 in
theorem tb_la_si : Cond.laysStatic "jdk/internal/util/Preconditions" "SIOOBE_FORMATTER" "Ljava/util/function/BiFunction;" ∈ lw_tbl := List.mem_append_right _ (List.mem_of_getElem? (i := 781) (by decide +kernel))
set_option maxRecDepth 1000000 in
theorem tb_in_si : Cond.initialized "jdk/internal/util/Preconditions" ∈ lw_tbl := List.mem_append_right _ (List.mem_of_getElem? (i := 33) (by decide +kernel))
set_option maxRecDepth 1000000 in
theorem pr_cs : Cond.eq (.static "java/lang/String" "COMPACT_STRINGS" "Z") (.int 1) ∈ prL := List.mem_of_getElem? (i := 7) (by decide +kernel)
set_option maxRecDepth 1000000 in
theorem tb_la_cs : Cond.laysStatic "java/lang/String" "COMPACT_STRINGS" "Z" ∈ lw_tbl := List.mem_append_right _ (List.mem_of_getElem? (i := 226) (by decide +kernel))
set_option maxRecDepth 1000000 in
theorem tb_in_cs : Cond.initialized "java/lang/String" ∈ lw_tbl := List.mem_append_right _ (List.mem_of_getElem? (i := 14) (by decide +kernel))
set_option maxRecDepth 1000000 in
theorem tb_i_RJ0 : Cond.instantiable RJ0 4 ∈ lw_tbl := List.mem_append_right _ (List.mem_of_getElem? (i := 380) (by decide +kernel))
set_option maxRecDepth 1000000 in
theorem tb_i_RJ4 : Cond.instantiable RJ4 4 ∈ lw_tbl := List.mem_append_right _ (List.mem_of_getElem? (i := 217) (by decide +kernel))
set_option maxRecDepth 1000000 in
theorem tb_i_RJx00060 : Cond.instantiable RJx00060 6 ∈ lw_tbl := List.mem_append_right _ (List.mem_of_getElem? (i := 306) (by decide +kernel))
set_option maxRecDepth 1000000 in
theorem tb_i_RJx7c733 : Cond.instantiable RJx7c733 6 ∈ lw_tbl := List.mem_append_right _ (List.mem_of_getElem? (i := 1291) (by decide +kernel))
set_option maxRecDepth 1000000 in
theorem tb_i_RX1 : Cond.instantiable RX1 2 ∈ lw_tbl := List.mem_append_right _ (List.mem_of_getElem? (i := 47) (by decide +kernel))
set_option maxRecDepth 1000000 in
theorem tb_i_RX3 : Cond.instantiable RX3 5 ∈ lw_tbl := List.mem_append_right _ (List.mem_of_getElem? (i := 118) (by decide +kernel))
set_option maxRecDepth 1000000 in
theorem tb_i_RX4 : Cond.instantiable RX4 3 ∈ lw_tbl := List.mem_append_right _ (List.mem_of_getElem? (i := 167) (by decide +kernel))
set_option maxRecDepth 1000000 in
theorem tb_i_RX5 : Cond.instantiable RX5 3 ∈ lw_tbl := List.mem_append_right _ (List.mem_of_getElem? (i := 102) (by decide +kernel))
set_option maxRecDepth 1000000 in
theorem tb_i_RX7 : Cond.instantiable RX7 7 ∈ lw_tbl := List.mem_append_right _ (List.mem_of_getElem? (i := 186) (by decide +kernel))
set_option maxRecDepth 1000000 in
theorem tb_i_RX8 : Cond.instantiable RX8 2 ∈ lw_tbl := List.mem_append_right _ (List.mem_of_getElem? (i := 96) (by decide +kernel))
set_option maxRecDepth 1000000 in
theorem tb_i_RX10 : Cond.instantiable RX10 3 ∈ lw_tbl := List.mem_append_right _ (List.mem_of_getElem? (i := 60) (by decide +kernel))
set_option maxRecDepth 1000000 in
theorem tb_i_RX11 : Cond.instantiable RX11 6 ∈ lw_tbl := List.mem_append_right _ (List.mem_of_getElem? (i := 53) (by decide +kernel))
set_option maxRecDepth 1000000 in
theorem tb_i_RX12 : Cond.instantiable RX12 11 ∈ lw_tbl := List.mem_append_right _ (List.mem_of_getElem? (i := 39) (by decide +kernel))