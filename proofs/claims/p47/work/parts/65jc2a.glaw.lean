/-! words of the law's calls, piece by piece (gen/s65big.py) -/
theorem gq_L_law_L_areBirdsRight_r14z : GoodIn wsL_law [Cond.arrayClass .int, Cond.classLink RL 168 RJ4, Cond.instantiable RJ4 4, Cond.initialized RJ4, Cond.methodLink RL 145 yX12_threshold] := goodIn_r _ [52, 770, 33, 34, 771] (by decide +kernel) (by decide +kernel)
