set_option maxRecDepth 20000 in
theorem ggL_law_X13_meanShares : GoodIn wsL_law wsX13_meanShares := sorry
set_option maxRecDepth 20000 in
theorem gL_law_X13_meanShares : GoodIn wsL_law (wsV RL 253 RX13 yX13_meanShares wsX13_meanShares) := sorry
set_option maxRecDepth 20000 in
theorem ggL_law_L_rebuildableShare : GoodIn wsL_law wsL_rebuildableShare := sorry
set_option maxRecDepth 20000 in
theorem gL_law_L_rebuildableShare : GoodIn wsL_law (va_wsS RL 254 yL_rebuildableShare wsL_rebuildableShare) := sorry
set_option maxRecDepth 20000 in
theorem ggL_law_X13_rebuildableShare : GoodIn wsL_law wsX13_rebuildableShare := sorry
set_option maxRecDepth 20000 in
theorem gL_law_X13_rebuildableShare : GoodIn wsL_law (wsV RL 256 RX13 yX13_rebuildableShare wsX13_rebuildableShare) := sorry
set_option maxRecDepth 20000 in
theorem ggL_law_X12_isConsistent : GoodIn wsL_law wsX12_isConsistent := sorry
set_option maxRecDepth 20000 in
theorem gL_law_X12_isConsistent : GoodIn wsL_law (wsV RL 257 RX12 yX12_isConsistent wsX12_isConsistent) := sorry
set_option maxRecDepth 20000 in
theorem ggL_law_X13_isConsistent : GoodIn wsL_law wsX13_isConsistent := sorry
set_option maxRecDepth 20000 in
theorem gL_law_X13_isConsistent : GoodIn wsL_law (wsV RL 261 RX13 yX13_isConsistent wsX13_isConsistent) := sorry
set_option maxRecDepth 20000 in
theorem ggL_law_L_append : GoodIn wsL_law wsL_append := sorry
set_option maxRecDepth 20000 in
theorem gL_law_L_append : GoodIn wsL_law (va_wsS RL 262 yL_append wsL_append) := sorry
set_option maxRecDepth 20000 in
theorem ggL_law_X13_append : GoodIn wsL_law wsX13_append := sorry
set_option maxRecDepth 20000 in
theorem gL_law_X13_append : GoodIn wsL_law (wsV RL 265 RX13 yX13_append wsX13_append) := sorry
set_option maxRecDepth 20000 in
theorem gL_law_L_run : GoodIn wsL_law (va_wsS RL 266 yL_run wsL_run) := sorry
