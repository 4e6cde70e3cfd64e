set_option maxRecDepth 20000 in
theorem ggL_law_X13_possibleValues : GoodIn wsL_law wsX13_possibleValues := sorry
set_option maxRecDepth 20000 in
theorem gL_law_X13_possibleValues : GoodIn wsL_law (wsV RL 234 RX13 yX13_possibleValues wsX13_possibleValues) := sorry
set_option maxRecDepth 20000 in
theorem ggL_law_L_possibleValuesByTrying : GoodIn wsL_law wsL_possibleValuesByTrying := sorry
set_option maxRecDepth 20000 in
theorem gL_law_L_possibleValuesByTrying : GoodIn wsL_law (va_wsS RL 235 yL_possibleValuesByTrying wsL_possibleValuesByTrying) := sorry
set_option maxRecDepth 20000 in
theorem ggL_law_X13_possibleValuesByTrying : GoodIn wsL_law wsX13_possibleValuesByTrying := sorry
set_option maxRecDepth 20000 in
theorem gL_law_X13_possibleValuesByTrying : GoodIn wsL_law (wsV RL 237 RX13 yX13_possibleValuesByTrying wsX13_possibleValuesByTrying) := sorry
set_option maxRecDepth 20000 in
theorem ggL_law_L_inverse : GoodIn wsL_law wsL_inverse := sorry
set_option maxRecDepth 20000 in
theorem gL_law_L_inverse : GoodIn wsL_law (va_wsS RL 238 yL_inverse wsL_inverse) := sorry
set_option maxRecDepth 20000 in
theorem ggL_law_X13_inverse : GoodIn wsL_law wsX13_inverse := sorry
set_option maxRecDepth 20000 in
theorem gL_law_X13_inverse : GoodIn wsL_law (wsV RL 240 RX13 yX13_inverse wsX13_inverse) := sorry
set_option maxRecDepth 20000 in
theorem ggL_law_X12_shareTotal : GoodIn wsL_law wsX12_shareTotal := sorry
set_option maxRecDepth 20000 in
theorem gL_law_X12_shareTotal : GoodIn wsL_law (wsV RL 241 RX12 yX12_shareTotal wsX12_shareTotal) := sorry
set_option maxRecDepth 20000 in
theorem ggL_law_X13_shareTotal : GoodIn wsL_law wsX13_shareTotal := sorry
set_option maxRecDepth 20000 in
theorem gL_law_X13_shareTotal : GoodIn wsL_law (wsV RL 244 RX13 yX13_shareTotal wsX13_shareTotal) := sorry
set_option maxRecDepth 20000 in
theorem ggL_law_X12_lostTotal : GoodIn wsL_law wsX12_lostTotal := sorry
set_option maxRecDepth 20000 in
theorem gL_law_X12_lostTotal : GoodIn wsL_law (wsV RL 245 RX12 yX12_lostTotal wsX12_lostTotal) := sorry
set_option maxRecDepth 20000 in
theorem ggL_law_X13_lostTotal : GoodIn wsL_law wsX13_lostTotal := sorry
set_option maxRecDepth 20000 in
theorem gL_law_X13_lostTotal : GoodIn wsL_law (wsV RL 249 RX13 yX13_lostTotal wsX13_lostTotal) := sorry
set_option maxRecDepth 20000 in
theorem ggL_law_L_meanShares : GoodIn wsL_law wsL_meanShares := sorry
set_option maxRecDepth 20000 in
theorem gL_law_L_meanShares : GoodIn wsL_law (va_wsS RL 250 yL_meanShares wsL_meanShares) := sorry
