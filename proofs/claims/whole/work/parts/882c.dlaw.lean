set_option maxRecDepth 20000 in
theorem ggL_run_X12_run : GoodIn wsL_run wsX12_run := sorry
set_option maxRecDepth 20000 in
theorem gL_run_X12_run : GoodIn wsL_run (wsV RL 115 RX12 yX12_run wsX12_run) := sorry
set_option maxRecDepth 20000 in
theorem ggL_errorPosition_X12_errorPosition : GoodIn wsL_errorPosition wsX12_errorPosition := sorry
set_option maxRecDepth 20000 in
theorem gL_errorPosition_X12_errorPosition : GoodIn wsL_errorPosition (wsV RL 119 RX12 yX12_errorPosition wsX12_errorPosition) := sorry
set_option maxRecDepth 20000 in
theorem ggL_failedCommand_X12_failedCommand : GoodIn wsL_failedCommand wsX12_failedCommand := sorry
set_option maxRecDepth 20000 in
theorem gL_failedCommand_X12_failedCommand : GoodIn wsL_failedCommand (wsV RL 122 RX12 yX12_failedCommand wsX12_failedCommand) := sorry
set_option maxRecDepth 20000 in
theorem ggL_writeSecret_X12_writeSecret : GoodIn wsL_writeSecret wsX12_writeSecret := sorry
set_option maxRecDepth 20000 in
theorem gL_writeSecret_X12_writeSecret : GoodIn wsL_writeSecret (wsV RL 125 RX12 yX12_writeSecret wsX12_writeSecret) := sorry
set_option maxRecDepth 20000 in
theorem ggL_outputAt_X12_outputAt : GoodIn wsL_outputAt wsX12_outputAt := sorry
set_option maxRecDepth 20000 in
theorem gL_outputAt_X12_outputAt : GoodIn wsL_outputAt (wsV RL 128 RX12 yX12_outputAt wsX12_outputAt) := sorry
set_option maxRecDepth 20000 in
theorem ggL_undo_X12_undo : GoodIn wsL_undo wsX12_undo := sorry
set_option maxRecDepth 20000 in
theorem gL_undo_X12_undo : GoodIn wsL_undo (wsV RL 132 RX12 yX12_undo wsX12_undo) := sorry
set_option maxRecDepth 20000 in
theorem ggL_restore_X12_restore : GoodIn wsL_restore wsX12_restore := sorry
set_option maxRecDepth 20000 in
theorem gL_restore_X12_restore : GoodIn wsL_restore (wsV RL 135 RX12 yX12_restore wsX12_restore) := sorry
set_option maxRecDepth 20000 in
theorem ggL_law_X12_init : GoodIn wsL_law wsX12_init := sorry
set_option maxRecDepth 20000 in
theorem gL_law_X12_init : GoodIn wsL_law (wsX12_init) := sorry
set_option maxRecDepth 20000 in
theorem ggL_law_X13_init : GoodIn wsL_law wsX13_init := sorry
set_option maxRecDepth 20000 in
theorem gL_law_X13_init : GoodIn wsL_law (wsX13_init) := sorry
set_option maxRecDepth 20000 in
theorem ggL_law_L_addBird : GoodIn wsL_law wsL_addBird := sorry
set_option maxRecDepth 20000 in
theorem gL_law_L_addBird : GoodIn wsL_law (va_wsS RL 142 yL_addBird wsL_addBird) := sorry
set_option maxRecDepth 20000 in
theorem ggL_law_X13_addBird : GoodIn wsL_law wsX13_addBird := sorry
set_option maxRecDepth 20000 in
theorem gL_law_X13_addBird : GoodIn wsL_law (wsV RL 147 RX13 yX13_addBird wsX13_addBird) := sorry
set_option maxRecDepth 20000 in
theorem ggL_law_X13_thrown : GoodIn wsL_law wsX13_thrown := sorry
set_option maxRecDepth 20000 in
theorem gL_law_X13_thrown : GoodIn wsL_law (wsV RL 148 RX13 yX13_thrown wsX13_thrown) := sorry
set_option maxRecDepth 20000 in
theorem ggL_law_L_move : GoodIn wsL_law wsL_move := sorry
set_option maxRecDepth 20000 in
theorem gL_law_L_move : GoodIn wsL_law (va_wsS RL 151 yL_move wsL_move) := sorry
set_option maxRecDepth 20000 in
theorem ggL_law_X13_move : GoodIn wsL_law wsX13_move := sorry
set_option maxRecDepth 20000 in
theorem gL_law_X13_move : GoodIn wsL_law (wsV RL 154 RX13 yX13_move wsX13_move) := sorry
set_option maxRecDepth 20000 in
theorem ggL_law_L_split : GoodIn wsL_law wsL_split := sorry
set_option maxRecDepth 20000 in
theorem gL_law_L_split : GoodIn wsL_law (va_wsS RL 155 yL_split wsL_split) := sorry
set_option maxRecDepth 20000 in
theorem ggL_law_X13_split : GoodIn wsL_law wsX13_split := sorry
set_option maxRecDepth 20000 in
theorem gL_law_X13_split : GoodIn wsL_law (wsV RL 158 RX13 yX13_split wsX13_split) := sorry
set_option maxRecDepth 20000 in
theorem ggL_law_L_lose : GoodIn wsL_law wsL_lose := sorry
set_option maxRecDepth 20000 in
theorem gL_law_L_lose : GoodIn wsL_law (va_wsS RL 159 yL_lose wsL_lose) := sorry
set_option maxRecDepth 20000 in
theorem ggL_law_X13_lose : GoodIn wsL_law wsX13_lose := sorry
set_option maxRecDepth 20000 in
theorem gL_law_X13_lose : GoodIn wsL_law (wsV RL 161 RX13 yX13_lose wsX13_lose) := sorry
set_option maxRecDepth 20000 in
theorem ggL_law_L_spoil : GoodIn wsL_law wsL_spoil := sorry
set_option maxRecDepth 20000 in
theorem gL_law_L_spoil : GoodIn wsL_law (va_wsS RL 162 yL_spoil wsL_spoil) := sorry
set_option maxRecDepth 20000 in
theorem ggL_law_X13_spoil : GoodIn wsL_law wsX13_spoil := sorry
set_option maxRecDepth 20000 in
theorem gL_law_X13_spoil : GoodIn wsL_law (wsV RL 164 RX13 yX13_spoil wsX13_spoil) := sorry
set_option maxRecDepth 20000 in
theorem ggL_law_L_issue : GoodIn wsL_law wsL_issue := sorry
set_option maxRecDepth 20000 in
theorem gL_law_L_issue : GoodIn wsL_law (va_wsS RL 165 yL_issue wsL_issue) := sorry
set_option maxRecDepth 20000 in
theorem ggL_law_X13_issue : GoodIn wsL_law wsX13_issue := sorry
set_option maxRecDepth 20000 in
theorem gL_law_X13_issue : GoodIn wsL_law (wsV RL 167 RX13 yX13_issue wsX13_issue) := sorry
set_option maxRecDepth 20000 in
theorem ggL_law_L_refresh : GoodIn wsL_law wsL_refresh := sorry
set_option maxRecDepth 20000 in
theorem gL_law_L_refresh : GoodIn wsL_law (va_wsS RL 168 yL_refresh wsL_refresh) := sorry
set_option maxRecDepth 20000 in
theorem ggL_law_X13_refresh : GoodIn wsL_law wsX13_refresh := sorry
set_option maxRecDepth 20000 in
theorem gL_law_X13_refresh : GoodIn wsL_law (wsV RL 170 RX13 yX13_refresh wsX13_refresh) := sorry
set_option maxRecDepth 20000 in
theorem ggL_law_L_forget : GoodIn wsL_law wsL_forget := sorry
set_option maxRecDepth 20000 in
theorem gL_law_L_forget : GoodIn wsL_law (va_wsS RL 171 yL_forget wsL_forget) := sorry
