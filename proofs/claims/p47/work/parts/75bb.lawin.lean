theorem wl_r34 : ∀ w ∈ wsL_law0_r34, w ∈ lw_tbl2 := fun w h => (goodIn_p wsL_law0_r34 [1126, 1130, 1133, 1138, 1142] (by decide +kernel) (by decide +kernel) w h).1
theorem wl_r35 : ∀ w ∈ wsL_law0_r35, w ∈ lw_tbl := fun w h => (goodIn_p wsL_law0_r35 [1150, 1153, 1160, 1163, 1166] (by decide +kernel) (by decide +kernel) w h).1
theorem wl_r36 : ∀ w ∈ wsL_law0_r36, w ∈ lw_tbl2 := fun w h => (goodIn_p wsL_law0_r36 [1175, 1178, 1182, 1188, 1191, 1195] (by decide +kernel) (by decide +kernel) w h).1
theorem wl_r37 : ∀ w ∈ wsL_law0_r37, w ∈ lw_tbl2 := fun w h => (goodIn_p wsL_law0_r37 [1198, 1203, 1207, 1212, 1215] (by decide +kernel) (by decide +kernel) w h).1
theorem wl_r38 : ∀ w ∈ wsL_law0_r38, w ∈ lw_tbl := fun w h => (goodIn_p wsL_law0_r38 [1212, 1215, 1218, 1221, 1225, 1231] (by decide +kernel) (by decide +kernel) w h).1
theorem wl_r39 : ∀ w ∈ wsL_law0_r39, w ∈ lw_tbl := fun w h => (goodIn_p wsL_law0_r39 [1235, 1238, 1244, 1250, 1252] (by decide +kernel) (by decide +kernel) w h).1
theorem wl_r40 : ∀ w ∈ wsL_law0_r40, w ∈ lw_tbl := fun w h => (goodIn_p wsL_law0_r40 [1256, 1259, 1262, 1273, 1276, 1280, 1292, 1295] (by decide +kernel) (by decide +kernel) w h).1
theorem wl_r41 : ∀ w ∈ wsL_law0_r41, w ∈ lw_tbl := fun w h => (goodIn_p wsL_law0_r41 [1298, 1301, 1306, 1310, 1313] (by decide +kernel) (by decide +kernel) w h).1
theorem wl_r42 : ∀ w ∈ wsL_law0_r42, w ∈ lw_tbl := fun w h => (goodIn_p wsL_law0_r42 [1335, 1338, 1341, 1357, 1363, 1366] (by decide +kernel) (by decide +kernel) w h).1
