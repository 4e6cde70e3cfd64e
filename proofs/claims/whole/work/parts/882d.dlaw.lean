set_option maxRecDepth 20000 in
theorem ggL_law_X13_forget : GoodIn wsL_law wsX13_forget := sorry
set_option maxRecDepth 20000 in
theorem gL_law_X13_forget : GoodIn wsL_law (wsV RL 173 RX13 yX13_forget wsX13_forget) := sorry
set_option maxRecDepth 20000 in
theorem ggL_law_X12_birdCount : GoodIn wsL_law wsX12_birdCount := sorry
set_option maxRecDepth 20000 in
theorem gL_law_X12_birdCount : GoodIn wsL_law (wsV RL 174 RX12 yX12_birdCount wsX12_birdCount) := sorry
set_option maxRecDepth 20000 in
theorem ggL_law_X13_birdCount : GoodIn wsL_law wsX13_birdCount := sorry
set_option maxRecDepth 20000 in
theorem gL_law_X13_birdCount : GoodIn wsL_law (wsV RL 177 RX13 yX13_birdCount wsX13_birdCount) := sorry
set_option maxRecDepth 20000 in
theorem ggL_law_L_nestOf : GoodIn wsL_law wsL_nestOf := sorry
set_option maxRecDepth 20000 in
theorem gL_law_L_nestOf : GoodIn wsL_law (va_wsS RL 178 yL_nestOf wsL_nestOf) := sorry
set_option maxRecDepth 20000 in
theorem ggL_law_X13_nestOf : GoodIn wsL_law wsX13_nestOf := sorry
set_option maxRecDepth 20000 in
theorem gL_law_X13_nestOf : GoodIn wsL_law (wsV RL 180 RX13 yX13_nestOf wsX13_nestOf) := sorry
set_option maxRecDepth 20000 in
theorem ggL_law_L_birdsIn : GoodIn wsL_law wsL_birdsIn := sorry
set_option maxRecDepth 20000 in
theorem gL_law_L_birdsIn : GoodIn wsL_law (va_wsS RL 181 yL_birdsIn wsL_birdsIn) := sorry
set_option maxRecDepth 20000 in
theorem ggL_law_X13_birdsIn : GoodIn wsL_law wsX13_birdsIn := sorry
set_option maxRecDepth 20000 in
theorem gL_law_X13_birdsIn : GoodIn wsL_law (wsV RL 183 RX13 yX13_birdsIn wsX13_birdsIn) := sorry
set_option maxRecDepth 20000 in
theorem ggL_law_L_sharesOf : GoodIn wsL_law wsL_sharesOf := sorry
set_option maxRecDepth 20000 in
theorem gL_law_L_sharesOf : GoodIn wsL_law (va_wsS RL 184 yL_sharesOf wsL_sharesOf) := sorry
set_option maxRecDepth 20000 in
theorem ggL_law_X13_sharesOf : GoodIn wsL_law wsX13_sharesOf := sorry
set_option maxRecDepth 20000 in
theorem gL_law_X13_sharesOf : GoodIn wsL_law (wsV RL 186 RX13 yX13_sharesOf wsX13_sharesOf) := sorry
set_option maxRecDepth 20000 in
theorem ggL_law_L_birdAtRank : GoodIn wsL_law wsL_birdAtRank := sorry
set_option maxRecDepth 20000 in
theorem gL_law_L_birdAtRank : GoodIn wsL_law (va_wsS RL 187 yL_birdAtRank wsL_birdAtRank) := sorry
set_option maxRecDepth 20000 in
theorem ggL_law_X13_birdAtRank : GoodIn wsL_law wsX13_birdAtRank := sorry
set_option maxRecDepth 20000 in
theorem gL_law_X13_birdAtRank : GoodIn wsL_law (wsV RL 189 RX13 yX13_birdAtRank wsX13_birdAtRank) := sorry
set_option maxRecDepth 20000 in
theorem ggL_law_X12_secretCount : GoodIn wsL_law wsX12_secretCount := sorry
set_option maxRecDepth 20000 in
theorem gL_law_X12_secretCount : GoodIn wsL_law (wsV RL 190 RX12 yX12_secretCount wsX12_secretCount) := sorry
set_option maxRecDepth 20000 in
theorem ggL_law_X13_secretCount : GoodIn wsL_law wsX13_secretCount := sorry
set_option maxRecDepth 20000 in
theorem gL_law_X13_secretCount : GoodIn wsL_law (wsV RL 193 RX13 yX13_secretCount wsX13_secretCount) := sorry
set_option maxRecDepth 20000 in
theorem ggL_law_X12_exists : GoodIn wsL_law wsX12_exists := sorry
set_option maxRecDepth 20000 in
theorem gL_law_X12_exists : GoodIn wsL_law (wsV RL 194 RX12 yX12_exists wsX12_exists) := sorry
set_option maxRecDepth 20000 in
theorem ggL_law_X13_exists : GoodIn wsL_law wsX13_exists := sorry
set_option maxRecDepth 20000 in
theorem gL_law_X13_exists : GoodIn wsL_law (wsV RL 198 RX13 yX13_exists wsX13_exists) := sorry
set_option maxRecDepth 20000 in
theorem ggL_law_L_secretAt : GoodIn wsL_law wsL_secretAt := sorry
set_option maxRecDepth 20000 in
theorem gL_law_L_secretAt : GoodIn wsL_law (va_wsS RL 199 yL_secretAt wsL_secretAt) := sorry
set_option maxRecDepth 20000 in
theorem ggL_law_X13_secretAt : GoodIn wsL_law wsX13_secretAt := sorry
set_option maxRecDepth 20000 in
theorem gL_law_X13_secretAt : GoodIn wsL_law (wsV RL 201 RX13 yX13_secretAt wsX13_secretAt) := sorry
set_option maxRecDepth 20000 in
theorem ggL_law_L_threshold : GoodIn wsL_law wsL_threshold := sorry
set_option maxRecDepth 20000 in
theorem gL_law_L_threshold : GoodIn wsL_law (va_wsS RL 202 yL_threshold wsL_threshold) := sorry
set_option maxRecDepth 20000 in
theorem ggL_law_X13_threshold : GoodIn wsL_law wsX13_threshold := sorry
set_option maxRecDepth 20000 in
theorem gL_law_X13_threshold : GoodIn wsL_law (wsV RL 204 RX13 yX13_threshold wsX13_threshold) := sorry
set_option maxRecDepth 20000 in
theorem ggL_law_L_holds : GoodIn wsL_law wsL_holds := sorry
set_option maxRecDepth 20000 in
theorem gL_law_L_holds : GoodIn wsL_law (va_wsS RL 205 yL_holds wsL_holds) := sorry
set_option maxRecDepth 20000 in
theorem ggL_law_X13_holds : GoodIn wsL_law wsX13_holds := sorry
set_option maxRecDepth 20000 in
theorem gL_law_X13_holds : GoodIn wsL_law (wsV RL 207 RX13 yX13_holds wsX13_holds) := sorry
set_option maxRecDepth 20000 in
theorem ggL_law_L_share : GoodIn wsL_law wsL_share := sorry
set_option maxRecDepth 20000 in
theorem gL_law_L_share : GoodIn wsL_law (va_wsS RL 208 yL_share wsL_share) := sorry
set_option maxRecDepth 20000 in
theorem ggL_law_X13_share : GoodIn wsL_law wsX13_share := sorry
set_option maxRecDepth 20000 in
theorem gL_law_X13_share : GoodIn wsL_law (wsV RL 210 RX13 yX13_share wsX13_share) := sorry
set_option maxRecDepth 20000 in
theorem ggL_law_L_holders : GoodIn wsL_law wsL_holders := sorry
set_option maxRecDepth 20000 in
theorem gL_law_L_holders : GoodIn wsL_law (va_wsS RL 211 yL_holders wsL_holders) := sorry
set_option maxRecDepth 20000 in
theorem ggL_law_X13_holders : GoodIn wsL_law wsX13_holders := sorry
set_option maxRecDepth 20000 in
theorem gL_law_X13_holders : GoodIn wsL_law (wsV RL 213 RX13 yX13_holders wsX13_holders) := sorry
set_option maxRecDepth 20000 in
theorem ggL_law_L_spareShares : GoodIn wsL_law wsL_spareShares := sorry
set_option maxRecDepth 20000 in
theorem gL_law_L_spareShares : GoodIn wsL_law (va_wsS RL 214 yL_spareShares wsL_spareShares) := sorry
set_option maxRecDepth 20000 in
theorem ggL_law_X13_spareShares : GoodIn wsL_law wsX13_spareShares := sorry
set_option maxRecDepth 20000 in
theorem gL_law_X13_spareShares : GoodIn wsL_law (wsV RL 216 RX13 yX13_spareShares wsX13_spareShares) := sorry
set_option maxRecDepth 20000 in
theorem ggL_law_L_canNestRebuild : GoodIn wsL_law wsL_canNestRebuild := sorry
set_option maxRecDepth 20000 in
theorem gL_law_L_canNestRebuild : GoodIn wsL_law (va_wsS RL 217 yL_canNestRebuild wsL_canNestRebuild) := sorry
set_option maxRecDepth 20000 in
theorem ggL_law_X13_canNestRebuild : GoodIn wsL_law wsX13_canNestRebuild := sorry
set_option maxRecDepth 20000 in
theorem gL_law_X13_canNestRebuild : GoodIn wsL_law (wsV RL 219 RX13 yX13_canNestRebuild wsX13_canNestRebuild) := sorry
set_option maxRecDepth 20000 in
theorem ggL_law_L_rebuild : GoodIn wsL_law wsL_rebuild := sorry
set_option maxRecDepth 20000 in
theorem gL_law_L_rebuild : GoodIn wsL_law (va_wsS RL 220 yL_rebuild wsL_rebuild) := sorry
set_option maxRecDepth 20000 in
theorem ggL_law_X13_rebuild : GoodIn wsL_law wsX13_rebuild := sorry
set_option maxRecDepth 20000 in
theorem gL_law_X13_rebuild : GoodIn wsL_law (wsV RL 222 RX13 yX13_rebuild wsX13_rebuild) := sorry
set_option maxRecDepth 20000 in
theorem ggL_law_L_rebuildByElimination : GoodIn wsL_law wsL_rebuildByElimination := sorry
set_option maxRecDepth 20000 in
theorem gL_law_L_rebuildByElimination : GoodIn wsL_law (va_wsS RL 223 yL_rebuildByElimination wsL_rebuildByElimination) := sorry
set_option maxRecDepth 20000 in
theorem ggL_law_X13_rebuildByElimination : GoodIn wsL_law wsX13_rebuildByElimination := sorry
set_option maxRecDepth 20000 in
theorem gL_law_X13_rebuildByElimination : GoodIn wsL_law (wsV RL 225 RX13 yX13_rebuildByElimination wsX13_rebuildByElimination) := sorry
set_option maxRecDepth 20000 in
theorem ggL_law_L_unfitShares : GoodIn wsL_law wsL_unfitShares := sorry
set_option maxRecDepth 20000 in
theorem gL_law_L_unfitShares : GoodIn wsL_law (va_wsS RL 226 yL_unfitShares wsL_unfitShares) := sorry
set_option maxRecDepth 20000 in
theorem ggL_law_X13_unfitShares : GoodIn wsL_law wsX13_unfitShares := sorry
set_option maxRecDepth 20000 in
theorem gL_law_X13_unfitShares : GoodIn wsL_law (wsV RL 228 RX13 yX13_unfitShares wsX13_unfitShares) := sorry
set_option maxRecDepth 20000 in
theorem ggL_law_L_leastUnfitShares : GoodIn wsL_law wsL_leastUnfitShares := sorry
set_option maxRecDepth 20000 in
theorem gL_law_L_leastUnfitShares : GoodIn wsL_law (va_wsS RL 229 yL_leastUnfitShares wsL_leastUnfitShares) := sorry
set_option maxRecDepth 20000 in
theorem ggL_law_X13_leastUnfitShares : GoodIn wsL_law wsX13_leastUnfitShares := sorry
set_option maxRecDepth 20000 in
theorem gL_law_X13_leastUnfitShares : GoodIn wsL_law (wsV RL 231 RX13 yX13_leastUnfitShares wsX13_leastUnfitShares) := sorry
set_option maxRecDepth 20000 in
theorem ggL_law_L_possibleValues : GoodIn wsL_law wsL_possibleValues := sorry
set_option maxRecDepth 20000 in
theorem gL_law_L_possibleValues : GoodIn wsL_law (va_wsS RL 232 yL_possibleValues wsL_possibleValues) := sorry
