set_option maxRecDepth 20000 in
theorem ggL_move_X12_move : GoodIn wsL_move wsX12_move := sorry
set_option maxRecDepth 20000 in
theorem gL_move_X12_move : GoodIn wsL_move (wsV RL 17 RX12 yX12_move wsX12_move) := sorry
set_option maxRecDepth 20000 in
theorem ggL_split_X12_split : GoodIn wsL_split wsX12_split := sorry
set_option maxRecDepth 20000 in
theorem gL_split_X12_split : GoodIn wsL_split (wsV RL 23 RX12 yX12_split wsX12_split) := sorry
set_option maxRecDepth 20000 in
theorem ggL_lose_X12_lose : GoodIn wsL_lose wsX12_lose := sorry
set_option maxRecDepth 20000 in
theorem gL_lose_X12_lose : GoodIn wsL_lose (wsV RL 27 RX12 yX12_lose wsX12_lose) := sorry
set_option maxRecDepth 20000 in
theorem ggL_spoil_X12_spoil : GoodIn wsL_spoil wsX12_spoil := sorry
set_option maxRecDepth 20000 in
theorem gL_spoil_X12_spoil : GoodIn wsL_spoil (wsV RL 32 RX12 yX12_spoil wsX12_spoil) := sorry
set_option maxRecDepth 20000 in
theorem ggL_issue_X12_issue : GoodIn wsL_issue wsX12_issue := sorry
set_option maxRecDepth 20000 in
theorem gL_issue_X12_issue : GoodIn wsL_issue (wsV RL 35 RX12 yX12_issue wsX12_issue) := sorry
set_option maxRecDepth 20000 in
theorem ggL_refresh_X12_refresh : GoodIn wsL_refresh wsX12_refresh := sorry
set_option maxRecDepth 20000 in
theorem gL_refresh_X12_refresh : GoodIn wsL_refresh (wsV RL 40 RX12 yX12_refresh wsX12_refresh) := sorry
set_option maxRecDepth 20000 in
theorem ggL_forget_X12_forget : GoodIn wsL_forget wsX12_forget := sorry
set_option maxRecDepth 20000 in
theorem gL_forget_X12_forget : GoodIn wsL_forget (wsV RL 43 RX12 yX12_forget wsX12_forget) := sorry
set_option maxRecDepth 20000 in
theorem ggL_nestOf_X12_nestOf : GoodIn wsL_nestOf wsX12_nestOf := sorry
set_option maxRecDepth 20000 in
theorem gL_nestOf_X12_nestOf : GoodIn wsL_nestOf (wsV RL 46 RX12 yX12_nestOf wsX12_nestOf) := sorry
set_option maxRecDepth 20000 in
theorem ggL_birdsIn_X12_birdsIn : GoodIn wsL_birdsIn wsX12_birdsIn := sorry
set_option maxRecDepth 20000 in
theorem gL_birdsIn_X12_birdsIn : GoodIn wsL_birdsIn (wsV RL 49 RX12 yX12_birdsIn wsX12_birdsIn) := sorry
set_option maxRecDepth 20000 in
theorem ggL_sharesOf_X12_sharesOf : GoodIn wsL_sharesOf wsX12_sharesOf := sorry
set_option maxRecDepth 20000 in
theorem gL_sharesOf_X12_sharesOf : GoodIn wsL_sharesOf (wsV RL 52 RX12 yX12_sharesOf wsX12_sharesOf) := sorry
set_option maxRecDepth 20000 in
theorem ggL_birdAtRank_X12_birdAtRank : GoodIn wsL_birdAtRank wsX12_birdAtRank := sorry
set_option maxRecDepth 20000 in
theorem gL_birdAtRank_X12_birdAtRank : GoodIn wsL_birdAtRank (wsV RL 55 RX12 yX12_birdAtRank wsX12_birdAtRank) := sorry
set_option maxRecDepth 20000 in
theorem ggL_secretAt_X12_secretAt : GoodIn wsL_secretAt wsX12_secretAt := sorry
set_option maxRecDepth 20000 in
theorem gL_secretAt_X12_secretAt : GoodIn wsL_secretAt (wsV RL 58 RX12 yX12_secretAt wsX12_secretAt) := sorry
set_option maxRecDepth 20000 in
theorem ggL_threshold_X12_threshold : GoodIn wsL_threshold wsX12_threshold := sorry
set_option maxRecDepth 20000 in
theorem gL_threshold_X12_threshold : GoodIn wsL_threshold (wsV RL 61 RX12 yX12_threshold wsX12_threshold) := sorry
set_option maxRecDepth 20000 in
theorem ggL_holds_X12_holds : GoodIn wsL_holds wsX12_holds := sorry
set_option maxRecDepth 20000 in
theorem gL_holds_X12_holds : GoodIn wsL_holds (wsV RL 64 RX12 yX12_holds wsX12_holds) := sorry
set_option maxRecDepth 20000 in
theorem ggL_share_X12_share : GoodIn wsL_share wsX12_share := sorry
set_option maxRecDepth 20000 in
theorem gL_share_X12_share : GoodIn wsL_share (wsV RL 68 RX12 yX12_share wsX12_share) := sorry
set_option maxRecDepth 20000 in
theorem ggL_holders_X12_holders : GoodIn wsL_holders wsX12_holders := sorry
set_option maxRecDepth 20000 in
theorem gL_holders_X12_holders : GoodIn wsL_holders (wsV RL 71 RX12 yX12_holders wsX12_holders) := sorry
set_option maxRecDepth 20000 in
theorem ggL_spareShares_X12_spareShares : GoodIn wsL_spareShares wsX12_spareShares := sorry
set_option maxRecDepth 20000 in
theorem gL_spareShares_X12_spareShares : GoodIn wsL_spareShares (wsV RL 74 RX12 yX12_spareShares wsX12_spareShares) := sorry
set_option maxRecDepth 20000 in
theorem ggL_canNestRebuild_X12_canNestRebuild : GoodIn wsL_canNestRebuild wsX12_canNestRebuild := sorry
set_option maxRecDepth 20000 in
theorem gL_canNestRebuild_X12_canNestRebuild : GoodIn wsL_canNestRebuild (wsV RL 77 RX12 yX12_canNestRebuild wsX12_canNestRebuild) := sorry
set_option maxRecDepth 20000 in
theorem ggL_rebuild_X12_rebuild : GoodIn wsL_rebuild wsX12_rebuild := sorry
set_option maxRecDepth 20000 in
theorem gL_rebuild_X12_rebuild : GoodIn wsL_rebuild (wsV RL 80 RX12 yX12_rebuild wsX12_rebuild) := sorry
set_option maxRecDepth 20000 in
theorem ggL_rebuildByElimination_X12_rebuildByElimination : GoodIn wsL_rebuildByElimination wsX12_rebuildByElimination := sorry
set_option maxRecDepth 20000 in
theorem gL_rebuildByElimination_X12_rebuildByElimination : GoodIn wsL_rebuildByElimination (wsV RL 83 RX12 yX12_rebuildByElimination wsX12_rebuildByElimination) := sorry
set_option maxRecDepth 20000 in
theorem ggL_unfitShares_X12_unfitShares : GoodIn wsL_unfitShares wsX12_unfitShares := sorry
set_option maxRecDepth 20000 in
theorem gL_unfitShares_X12_unfitShares : GoodIn wsL_unfitShares (wsV RL 86 RX12 yX12_unfitShares wsX12_unfitShares) := sorry
set_option maxRecDepth 20000 in
theorem ggL_leastUnfitShares_X12_leastUnfitShares : GoodIn wsL_leastUnfitShares wsX12_leastUnfitShares := sorry
set_option maxRecDepth 20000 in
theorem gL_leastUnfitShares_X12_leastUnfitShares : GoodIn wsL_leastUnfitShares (wsV RL 89 RX12 yX12_leastUnfitShares wsX12_leastUnfitShares) := sorry
set_option maxRecDepth 20000 in
theorem ggL_possibleValues_X12_possibleValues : GoodIn wsL_possibleValues wsX12_possibleValues := sorry
set_option maxRecDepth 20000 in
theorem gL_possibleValues_X12_possibleValues : GoodIn wsL_possibleValues (wsV RL 92 RX12 yX12_possibleValues wsX12_possibleValues) := sorry
set_option maxRecDepth 20000 in
theorem ggL_possibleValuesByTrying_X12_possibleValuesByTrying : GoodIn wsL_possibleValuesByTrying wsX12_possibleValuesByTrying := sorry
set_option maxRecDepth 20000 in
theorem gL_possibleValuesByTrying_X12_possibleValuesByTrying : GoodIn wsL_possibleValuesByTrying (wsV RL 95 RX12 yX12_possibleValuesByTrying wsX12_possibleValuesByTrying) := sorry
set_option maxRecDepth 20000 in
theorem ggL_inverse_X12_inverse : GoodIn wsL_inverse wsX12_inverse := sorry
set_option maxRecDepth 20000 in
theorem gL_inverse_X12_inverse : GoodIn wsL_inverse (wsV RL 98 RX12 yX12_inverse wsX12_inverse) := sorry
set_option maxRecDepth 20000 in
theorem ggL_meanShares_X12_meanShares : GoodIn wsL_meanShares wsX12_meanShares := sorry
set_option maxRecDepth 20000 in
theorem gL_meanShares_X12_meanShares : GoodIn wsL_meanShares (wsV RL 101 RX12 yX12_meanShares wsX12_meanShares) := sorry
set_option maxRecDepth 20000 in
theorem ggL_rebuildableShare_X12_rebuildableShare : GoodIn wsL_rebuildableShare wsX12_rebuildableShare := sorry
set_option maxRecDepth 20000 in
theorem gL_rebuildableShare_X12_rebuildableShare : GoodIn wsL_rebuildableShare (wsV RL 107 RX12 yX12_rebuildableShare wsX12_rebuildableShare) := sorry
set_option maxRecDepth 20000 in
theorem ggL_append_X12_append : GoodIn wsL_append wsX12_append := sorry
set_option maxRecDepth 20000 in
theorem gL_append_X12_append : GoodIn wsL_append (wsV RL 111 RX12 yX12_append wsX12_append) := sorry
