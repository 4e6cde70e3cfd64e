theorem wl_r27 : ∀ w ∈ wsL_law0_r27, w ∈ lw_tbl := fun w h => (goodIn_p wsL_law0_r27 [1186, 1192, 1802, 1199, 378] (by decide +kernel) (by decide +kernel) w h).1
theorem wl_r28 : ∀ w ∈ wsL_law0_r28, w ∈ lw_tbl := fun w h => (goodIn_p wsL_law0_r28 [1806, 1810, 1207, 1212, 1216] (by decide +kernel) (by decide +kernel) w h).1
theorem wl_r29 : ∀ w ∈ wsL_law0_r29, w ∈ lw_tbl := fun w h => (goodIn_p wsL_law0_r29 [1220, 1814, 346, 1818, 354] (by decide +kernel) (by decide +kernel) w h).1
theorem wl_r30 : ∀ w ∈ wsL_law0_r30, w ∈ lw_tbl := fun w h => (goodIn_p wsL_law0_r30 [1822, 1227, 1826, 1236] (by decide +kernel) (by decide +kernel) w h).1
theorem wl_r31 : ∀ w ∈ wsL_law0_r31, w ∈ lw_tbl := fun w h => (goodIn_p wsL_law0_r31 [1240, 1830, 1248, 1834] (by decide +kernel) (by decide +kernel) w h).1
theorem wl_r32 : ∀ w ∈ wsL_law0_r32, w ∈ lw_tbl := fun w h => (goodIn_p wsL_law0_r32 [1256, 1838, 1265, 1842] (by decide +kernel) (by decide +kernel) w h).1
theorem wl_r33 : ∀ w ∈ wsL_law0_r33, w ∈ lw_tbl := fun w h => (goodIn_p wsL_law0_r33 [1273, 1846, 1280, 1284, 1850] (by decide +kernel) (by decide +kernel) w h).1
theorem wl_r34 : ∀ w ∈ wsL_law0_r34, w ∈ lw_tbl := fun w h => (goodIn_p wsL_law0_r34 [1291, 1295, 1854, 1858] (by decide +kernel) (by decide +kernel) w h).1
theorem wl_r35 : ∀ w ∈ wsL_law0_r35, w ∈ lw_tbl := fun w h => (goodIn_p wsL_law0_r35 [1304, 448, 452, 462, 467] (by decide +kernel) (by decide +kernel) w h).1
theorem wl_r36 : ∀ w ∈ wsL_law0_r36, w ∈ lw_tbl := fun w h => (goodIn_p wsL_law0_r36 [471, 476, 481, 1862, 1312] (by decide +kernel) (by decide +kernel) w h).1
theorem wl_r37 : ∀ w ∈ wsL_law0_r37, w ∈ lw_tbl := fun w h => (goodIn_p wsL_law0_r37 [1316, 490, 1866, 1870, 1323] (by decide +kernel) (by decide +kernel) w h).1
theorem wl_r38 : ∀ w ∈ wsL_law0_r38, w ∈ lw_tbl := fun w h => (goodIn_p wsL_law0_r38 [1327, 1874, 1336, 1340, 486] (by decide +kernel) (by decide +kernel) w h).1
theorem wl_r39 : ∀ w ∈ wsL_law0_r39, w ∈ lw_tbl := fun w h => (goodIn_p wsL_law0_r39 [1879, 1883, 1349, 494, 1887] (by decide +kernel) (by decide +kernel) w h).1
theorem wl_r40 : ∀ w ∈ wsL_law0_r40, w ∈ lw_tbl := fun w h => (goodIn_p wsL_law0_r40 [1357, 1891, 370, 374, 1895] (by decide +kernel) (by decide +kernel) w h).1
theorem wl_r41 : ∀ w ∈ wsL_law0_r41, w ∈ lw_tbl := fun w h => (goodIn_p wsL_law0_r41 [1899, 386, 390, 1903, 1380] (by decide +kernel) (by decide +kernel) w h).1
theorem wl_r42 : ∀ w ∈ wsL_law0_r42, w ∈ lw_tbl := fun w h => (goodIn_p wsL_law0_r42 [1907, 1390, 1395, 1911, 394] (by decide +kernel) (by decide +kernel) w h).1
theorem wl_r43 : ∀ w ∈ wsL_law0_r43, w ∈ lw_tbl := fun w h => (goodIn_p wsL_law0_r43 [399, 1915, 1403] (by decide +kernel) (by decide +kernel) w h).1
theorem wl_r44 : ∀ w ∈ wsL_law0_r44, w ∈ lw_tbl := fun w h => (goodIn_p wsL_law0_r44 [1407, 1412, 1939, 1419, 1423] (by decide +kernel) (by decide +kernel) w h).1
theorem wl_r45 : ∀ w ∈ wsL_law0_r45, w ∈ lw_tbl := fun w h => (goodIn_p wsL_law0_r45 [1427, 1431, 1437, 1441] (by decide +kernel) (by decide +kernel) w h).1
theorem wl_r46 : ∀ w ∈ wsL_law0_r46, w ∈ lw_tbl := fun w h => (goodIn_p wsL_law0_r46 [590, 594, 1446, 1450, 1453, 860] (by decide +kernel) (by decide +kernel) w h).1
theorem wl_r47 : ∀ w ∈ wsL_law0_r47, w ∈ lw_tbl := fun w h => (goodIn_p wsL_law0_r47 [863, 1457, 857, 569, 776] (by decide +kernel) (by decide +kernel) w h).1
theorem wl_r48 : ∀ w ∈ wsL_law0_r48, w ∈ lw_tbl := fun w h => (goodIn_p wsL_law0_r48 [1461, 1465, 1468, 1473, 1477, 1482] (by decide +kernel) (by decide +kernel) w h).1
theorem wl_r49 : ∀ w ∈ wsL_law0_r49, w ∈ lw_tbl := fun w h => (goodIn_p wsL_law0_r49 [1487, 1492, 1496, 1943, 1947] (by decide +kernel) (by decide +kernel) w h).1
theorem wl_r50 : ∀ w ∈ wsL_law0_r50, w ∈ lw_tbl := fun w h => (goodIn_p wsL_law0_r50 [1951, 1955, 1958, 1964, 1968] (by decide +kernel) (by decide +kernel) w h).1
theorem wl_r51 : ∀ w ∈ wsL_law0_r51, w ∈ lw_tbl := fun w h => (goodIn_p wsL_law0_r51 [1972, 1976, 1980, 1984, 1506, 1988] (by decide +kernel) (by decide +kernel) w h).1
theorem wl_r52 : ∀ w ∈ wsL_law0_r52, w ∈ lw_tbl := fun w h => (goodIn_p wsL_law0_r52 [1514, 1992, 1522, 502] (by decide +kernel) (by decide +kernel) w h).1