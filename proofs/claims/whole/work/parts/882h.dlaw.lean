set_option maxRecDepth 20000 in
theorem ggL_law_X13_writeNests : GoodIn wsL_law wsX13_writeNests := sorry
set_option maxRecDepth 20000 in
theorem gL_law_X13_writeNests : GoodIn wsL_law (wsV RL 282 RX13 yX13_writeNests wsX13_writeNests) := sorry
set_option maxRecDepth 20000 in
theorem ggL_law_L_outputAt : GoodIn wsL_law wsL_outputAt := sorry
set_option maxRecDepth 20000 in
theorem gL_law_L_outputAt : GoodIn wsL_law (va_wsS RL 283 yL_outputAt wsL_outputAt) := sorry
set_option maxRecDepth 20000 in
theorem ggL_law_X13_outputAt : GoodIn wsL_law wsX13_outputAt := sorry
set_option maxRecDepth 20000 in
theorem gL_law_X13_outputAt : GoodIn wsL_law (wsV RL 285 RX13 yX13_outputAt wsX13_outputAt) := sorry
set_option maxRecDepth 20000 in
theorem ggL_law_L_undo : GoodIn wsL_law wsL_undo := sorry
set_option maxRecDepth 20000 in
theorem gL_law_L_undo : GoodIn wsL_law (va_wsS RL 286 yL_undo wsL_undo) := sorry
set_option maxRecDepth 20000 in
theorem ggL_law_X13_undo : GoodIn wsL_law wsX13_undo := sorry
set_option maxRecDepth 20000 in
theorem gL_law_X13_undo : GoodIn wsL_law (wsV RL 288 RX13 yX13_undo wsX13_undo) := sorry
set_option maxRecDepth 20000 in
theorem ggL_law_X12_save : GoodIn wsL_law wsX12_save := sorry
set_option maxRecDepth 20000 in
theorem gL_law_X12_save : GoodIn wsL_law (wsV RL 289 RX12 yX12_save wsX12_save) := sorry
set_option maxRecDepth 20000 in
theorem ggL_law_X13_save : GoodIn wsL_law wsX13_save := sorry
set_option maxRecDepth 20000 in
theorem gL_law_X13_save : GoodIn wsL_law (wsV RL 292 RX13 yX13_save wsX13_save) := sorry
set_option maxRecDepth 20000 in
theorem ggL_law_L_restore : GoodIn wsL_law wsL_restore := sorry
set_option maxRecDepth 20000 in
theorem gL_law_L_restore : GoodIn wsL_law (va_wsS RL 293 yL_restore wsL_restore) := sorry
set_option maxRecDepth 20000 in
theorem ggL_law_X13_restore : GoodIn wsL_law wsX13_restore := sorry
set_option maxRecDepth 20000 in
theorem gL_law_X13_restore : GoodIn wsL_law (wsV RL 296 RX13 yX13_restore wsX13_restore) := sorry
