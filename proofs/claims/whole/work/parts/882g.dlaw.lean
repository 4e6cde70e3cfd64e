set_option maxRecDepth 20000 in
theorem gL_law_X13_run : GoodIn wsL_law (wsV RL 269 RX13 yX13_run wsX13_run) := sorry
set_option maxRecDepth 20000 in
theorem ggL_law_L_errorPosition : GoodIn wsL_law wsL_errorPosition := sorry
set_option maxRecDepth 20000 in
theorem gL_law_L_errorPosition : GoodIn wsL_law (va_wsS RL 270 yL_errorPosition wsL_errorPosition) := sorry
set_option maxRecDepth 20000 in
theorem ggL_law_X13_errorPosition : GoodIn wsL_law wsX13_errorPosition := sorry
set_option maxRecDepth 20000 in
theorem gL_law_X13_errorPosition : GoodIn wsL_law (wsV RL 272 RX13 yX13_errorPosition wsX13_errorPosition) := sorry
set_option maxRecDepth 20000 in
theorem ggL_law_L_failedCommand : GoodIn wsL_law wsL_failedCommand := sorry
set_option maxRecDepth 20000 in
theorem gL_law_L_failedCommand : GoodIn wsL_law (va_wsS RL 273 yL_failedCommand wsL_failedCommand) := sorry
set_option maxRecDepth 20000 in
theorem ggL_law_X13_failedCommand : GoodIn wsL_law wsX13_failedCommand := sorry
set_option maxRecDepth 20000 in
theorem gL_law_X13_failedCommand : GoodIn wsL_law (wsV RL 275 RX13 yX13_failedCommand wsX13_failedCommand) := sorry
set_option maxRecDepth 20000 in
theorem ggL_law_L_writeSecret : GoodIn wsL_law wsL_writeSecret := sorry
set_option maxRecDepth 20000 in
theorem gL_law_L_writeSecret : GoodIn wsL_law (va_wsS RL 276 yL_writeSecret wsL_writeSecret) := sorry
set_option maxRecDepth 20000 in
theorem ggL_law_X13_writeSecret : GoodIn wsL_law wsX13_writeSecret := sorry
set_option maxRecDepth 20000 in
theorem gL_law_X13_writeSecret : GoodIn wsL_law (wsV RL 278 RX13 yX13_writeSecret wsX13_writeSecret) := sorry
set_option maxRecDepth 20000 in
theorem ggL_law_X12_writeNests : GoodIn wsL_law wsX12_writeNests := sorry
set_option maxRecDepth 20000 in
theorem gL_law_X12_writeNests : GoodIn wsL_law (wsV RL 279 RX12 yX12_writeNests wsX12_writeNests) := sorry
