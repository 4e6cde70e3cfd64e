/-! words of the law's calls (printed) -/
set_option maxRecDepth 20000 in
theorem ggL_pick_L_cell : GoodIn wsL_pick wsL_cell := goodIn_ca (goodIn_r _ [4, 5, 6] (by decide +kernel) (by decide +kernel)) (goodIn_sub (fun _ h => List.mem_cons_of_mem _ (List.mem_append_right _ h)) (by decide +kernel))
set_option maxRecDepth 20000 in
theorem gL_pick_L_cell : GoodIn wsL_pick (va_wsS RL 9 yL_cell wsL_cell) := goodIn_app (goodIn_of _ (by decide +kernel)) ggL_pick_L_cell
set_option maxRecDepth 20000 in
theorem ggL_valueAt_L_inverse : GoodIn wsL_valueAt wsL_inverse := goodIn_r _ [5] (by decide +kernel) (by decide +kernel)
set_option maxRecDepth 20000 in
theorem gL_valueAt_L_inverse : GoodIn wsL_valueAt (va_wsS RL 151 yL_inverse wsL_inverse) := goodIn_app (goodIn_of _ (by decide +kernel)) ggL_valueAt_L_inverse
set_option maxRecDepth 20000 in
theorem ggL_unfit_L_valueAt : GoodIn wsL_unfit wsL_valueAt := goodIn_ca (goodIn_r _ [4, 5, 6, 7, 3, 8] (by decide +kernel) (by decide +kernel)) (goodIn_sub (fun _ h => List.mem_cons_of_mem _ (List.mem_append_right _ h)) (by decide +kernel))
set_option maxRecDepth 20000 in
theorem gL_unfit_L_valueAt : GoodIn wsL_unfit (va_wsS RL 152 yL_valueAt wsL_valueAt) := goodIn_app (goodIn_of _ (by decide +kernel)) ggL_unfit_L_valueAt
set_option maxRecDepth 20000 in
theorem ggL_unfit_L_told : GoodIn wsL_unfit wsL_told := goodIn_r _ [11] (by decide +kernel) (by decide +kernel)
set_option maxRecDepth 20000 in
theorem gL_unfit_L_told : GoodIn wsL_unfit (va_wsS RL 84 yL_told wsL_told) := goodIn_app (goodIn_of _ (by decide +kernel)) ggL_unfit_L_told
set_option maxRecDepth 20000 in
theorem ggL_least_L_unfit : GoodIn wsL_least wsL_unfit := goodIn_ca (goodIn_r _ [9, 10, 11, 8, 12, 1, 13, 14, 15, 16, 17, 18] (by decide +kernel) (by decide +kernel)) (goodIn_sub (fun _ h => List.mem_cons_of_mem _ (List.mem_append_right _ h)) (by decide +kernel))
set_option maxRecDepth 20000 in
theorem gL_least_L_unfit : GoodIn wsL_least (va_wsS RL 195 yL_unfit wsL_unfit) := goodIn_app (goodIn_of _ (by decide +kernel)) ggL_least_L_unfit
set_option maxRecDepth 20000 in
theorem ggL_isLine_J0_length_8abf5 : GoodIn wsL_isLine wsJ0_length_8abf5 := goodIn_r _ [5, 6, 7, 8, 9, 4, 10, 11, 12, 86, 87, 88, 89] (by decide +kernel) (by decide +kernel)
set_option maxRecDepth 20000 in
theorem gL_isLine_J0_length_8abf5 : GoodIn wsL_isLine (wsV RL 156 RJ0 yJ0_length_8abf5 wsJ0_length_8abf5) := goodIn_app (goodIn_of _ (by decide +kernel)) ggL_isLine_J0_length_8abf5
set_option maxRecDepth 20000 in
theorem ggL_isLine_X12_outputAt : GoodIn wsL_isLine wsX12_outputAt := goodIn_ca (goodIn_r _ [17, 18, 19, 20, 21, 22, 23, 24, 25, 26, 27, 28, 29, 30, 31, 32, 33, 34, 35, 36, 37, 38, 39, 40, 41, 42, 43, 44, 45, 46, 47, 48, 4, 49, 50, 51, 52, 53, 54, 55, 56, 57, 58, 59, 60, 61, 62, 63, 64, 90, 91, 92, 93, 94, 95, 96, 97, 98, 99, 100, 101, 102, 103, 104] (by decide +kernel) (by decide +kernel)) (goodIn_sub (fun _ h => List.mem_cons_of_mem _ (List.mem_append_right _ h)) (by decide +kernel))
set_option maxRecDepth 20000 in
theorem gL_isLine_X12_outputAt : GoodIn wsL_isLine (wsV RL 161 RX12 yX12_outputAt wsX12_outputAt) := goodIn_app (goodIn_of _ (by decide +kernel)) ggL_isLine_X12_outputAt
set_option maxRecDepth 20000 in
theorem ggL_isLine_J0_charAt_5068e : GoodIn wsL_isLine wsJ0_charAt_5068e := goodIn_r _ [68, 6, 69, 70, 71, 4, 72, 11, 12, 73, 74, 75, 76, 77, 48, 49, 50, 51, 52, 53, 54, 78, 79, 57, 80, 81, 82, 83, 62, 63, 64, 84, 85, 56, 58, 59, 60, 61, 86, 87, 88, 89] (by decide +kernel) (by decide +kernel)
set_option maxRecDepth 20000 in
theorem gL_isLine_J0_charAt_5068e : GoodIn wsL_isLine (wsV RL 165 RJ0 yJ0_charAt_5068e wsJ0_charAt_5068e) := goodIn_app (goodIn_of _ (by decide +kernel)) ggL_isLine_J0_charAt_5068e
set_option maxRecDepth 20000 in
theorem ggL_secret_X12_secretCount : GoodIn wsL_secret wsX12_secretCount := goodIn_r _ [5, 6, 7, 8, 9, 10, 11, 12, 30, 31, 32, 33, 34, 35, 36, 37, 38, 39, 40, 41, 42, 43, 44, 45, 46] (by decide +kernel) (by decide +kernel)
set_option maxRecDepth 20000 in
theorem gL_secret_X12_secretCount : GoodIn wsL_secret (wsV RL 138 RX12 yX12_secretCount wsX12_secretCount) := goodIn_app (goodIn_of _ (by decide +kernel)) ggL_secret_X12_secretCount
set_option maxRecDepth 20000 in
theorem ggL_secret_X12_secretAt : GoodIn wsL_secret wsX12_secretAt := goodIn_ca (goodIn_r _ [16, 17, 18, 6, 19, 20, 21, 10, 22, 12, 23, 24, 25, 26, 27, 28, 29, 30, 31, 32, 33, 34, 35, 36, 37, 38, 39, 40, 41, 42, 43, 44, 45, 46, 47, 48, 49] (by decide +kernel) (by decide +kernel)) (goodIn_sub (fun _ h => List.mem_cons_of_mem _ (List.mem_append_right _ h)) (by decide +kernel))
set_option maxRecDepth 20000 in
theorem gL_secret_X12_secretAt : GoodIn wsL_secret (wsV RL 71 RX12 yX12_secretAt wsX12_secretAt) := goodIn_app (goodIn_of _ (by decide +kernel)) ggL_secret_X12_secretAt
