/-! words of the law's calls, piece by piece (gen/s65big.py) -/
theorem goodIn_1 {big : List Cond} {c : Cond} (hm : c ∈ big) (h : goodWord c = true) : GoodIn big [c] := fun w hw => by
  obtain rfl := List.mem_singleton.mp hw
  exact ⟨hm, good_of_word h⟩
theorem mem_law_isSecretRight : Cond.code yL_isSecretRight cL_isSecretRight 14 (some .boolean) ∈ wsL_law := by
  unfold wsL_law
  refine List.mem_append_left _ ?_
  refine List.mem_append_left _ ?_
  refine List.mem_append_left _ ?_
  refine List.mem_append_left _ ?_
  refine List.mem_append_left _ ?_
  refine List.mem_append_left _ ?_
  refine List.mem_append_left _ ?_
  refine List.mem_append_left _ ?_
  unfold wsL_law0
  refine List.mem_append_left _ ?_
  refine List.mem_append_left _ ?_
  refine List.mem_append_left _ ?_
  refine List.mem_append_left _ ?_
  refine List.mem_append_left _ ?_
  refine List.mem_append_left _ ?_
  refine List.mem_append_left _ ?_
  refine List.mem_append_left _ ?_
  refine List.mem_append_left _ ?_
  refine List.mem_append_left _ ?_
  refine List.mem_append_left _ ?_
  refine List.mem_append_left _ ?_
  refine List.mem_append_left _ ?_
  refine List.mem_append_left _ ?_
  refine List.mem_append_right _ ?_
  refine List.mem_append_right _ ?_
  refine List.mem_append_right _ ?_
  refine List.mem_append_right _ ?_
  refine List.mem_append_right _ ?_
  refine List.mem_append_right _ ?_
  refine List.mem_append_right _ ?_
  refine List.mem_append_right _ ?_
  refine List.mem_append_right _ ?_
  refine List.mem_append_right _ ?_
  refine List.mem_append_right _ ?_
  refine List.mem_append_right _ ?_
  refine List.mem_append_right _ ?_
  refine List.mem_append_right _ ?_
  refine List.mem_append_right _ ?_
  refine List.mem_append_right _ ?_
  refine List.mem_append_right _ ?_
  refine List.mem_append_right _ ?_
  refine List.mem_append_right _ ?_
  refine List.mem_append_right _ ?_
  refine List.mem_append_right _ ?_
  refine List.mem_append_right _ ?_
  refine List.mem_append_right _ ?_
  refine List.mem_append_right _ ?_
  refine List.mem_append_right _ ?_
  refine List.mem_append_right _ ?_
  refine List.mem_append_right _ ?_
  refine List.mem_append_right _ ?_
  refine List.mem_append_right _ ?_
  refine List.mem_append_right _ ?_
  refine List.mem_append_right _ ?_
  refine List.mem_append_right _ ?_
  refine List.mem_append_left _ ?_
  unfold wsL_law0_r33
  exact List.mem_cons_of_mem _ List.mem_cons_self
theorem gq_L_law_L_areBirdsRight_r14y : GoodIn wsL_law [Cond.code yL_isSecretRight cL_isSecretRight 14 (some .boolean)] := goodIn_1 mem_law_isSecretRight rfl
theorem gq_L_law_L_areBirdsRight_r14 : GoodIn wsL_law wsL_areBirdsRight_r14 := goodIn_app (a := [Cond.instanceMethod yX12_exists, Cond.selects RX12 yX12_exists yX12_exists, Cond.code yX12_exists cX12_exists 2 (some .boolean), Cond.methodLink RL 188 yX12_holds, Cond.instanceMethod yX12_holds, Cond.selects RX12 yX12_holds yX12_holds]) (b := [Cond.code yX12_holds cX12_holds 3 (some .boolean), Cond.methodLink RL 215 yX12_sharesOf, Cond.instanceMethod yX12_sharesOf, Cond.selects RX12 yX12_sharesOf yX12_sharesOf, Cond.code yX12_sharesOf cX12_sharesOf 2 (some .int), Cond.methodLink RX12 122 yX11_loadOf, Cond.methodLink RL 199 yX12_spareShares, Cond.instanceMethod yX12_spareShares, Cond.selects RX12 yX12_spareShares yX12_spareShares, Cond.code yX12_spareShares cX12_spareShares 3 (some .int), Cond.methodLink RL 218 yL_isSecretRight, Cond.static yL_isSecretRight, Cond.code yL_isSecretRight cL_isSecretRight 14 (some .boolean), Cond.arrayClass .int, Cond.classLink RL 168 RJ4, Cond.instantiable RJ4 4, Cond.initialized RJ4, Cond.methodLink RL 145 yX12_threshold]) gq_L_law_L_areBirdsRight_r14a (goodIn_app (a := [Cond.code yX12_holds cX12_holds 3 (some .boolean), Cond.methodLink RL 215 yX12_sharesOf, Cond.instanceMethod yX12_sharesOf, Cond.selects RX12 yX12_sharesOf yX12_sharesOf, Cond.code yX12_sharesOf cX12_sharesOf 2 (some .int), Cond.methodLink RX12 122 yX11_loadOf]) (b := [Cond.methodLink RL 199 yX12_spareShares, Cond.instanceMethod yX12_spareShares, Cond.selects RX12 yX12_spareShares yX12_spareShares, Cond.code yX12_spareShares cX12_spareShares 3 (some .int), Cond.methodLink RL 218 yL_isSecretRight, Cond.static yL_isSecretRight, Cond.code yL_isSecretRight cL_isSecretRight 14 (some .boolean), Cond.arrayClass .int, Cond.classLink RL 168 RJ4, Cond.instantiable RJ4 4, Cond.initialized RJ4, Cond.methodLink RL 145 yX12_threshold]) gq_L_law_L_areBirdsRight_r14b (goodIn_app (a := [Cond.methodLink RL 199 yX12_spareShares, Cond.instanceMethod yX12_spareShares, Cond.selects RX12 yX12_spareShares yX12_spareShares, Cond.code yX12_spareShares cX12_spareShares 3 (some .int), Cond.methodLink RL 218 yL_isSecretRight, Cond.static yL_isSecretRight]) (b := [Cond.code yL_isSecretRight cL_isSecretRight 14 (some .boolean), Cond.arrayClass .int, Cond.classLink RL 168 RJ4, Cond.instantiable RJ4 4, Cond.initialized RJ4, Cond.methodLink RL 145 yX12_threshold]) gq_L_law_L_areBirdsRight_r14x (goodIn_app (a := [Cond.code yL_isSecretRight cL_isSecretRight 14 (some .boolean)]) (b := [Cond.arrayClass .int, Cond.classLink RL 168 RJ4, Cond.instantiable RJ4 4, Cond.initialized RJ4, Cond.methodLink RL 145 yX12_threshold]) gq_L_law_L_areBirdsRight_r14y gq_L_law_L_areBirdsRight_r14z)))
