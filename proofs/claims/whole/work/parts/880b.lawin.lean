theorem wl_r27 : ∀ w ∈ wsL_law0_r27, w ∈ lw_tbl := fun w h => (goodIn_p wsL_law0_r27 [1808, 1193, 1196, 1202, 1812] (by decide +kernel) (by decide +kernel) w h).1
theorem wl_r28 : ∀ w ∈ wsL_law0_r28, w ∈ lw_tbl := fun w h => (goodIn_p wsL_law0_r28 [1209, 388, 1816, 1820, 1217] (by decide +kernel) (by decide +kernel) w h).1
theorem wl_r29 : ∀ w ∈ wsL_law0_r29, w ∈ lw_tbl := fun w h => (goodIn_p wsL_law0_r29 [1222, 1226, 1230, 1824, 356] (by decide +kernel) (by decide +kernel) w h).1
theorem wl_r30 : ∀ w ∈ wsL_law0_r30, w ∈ lw_tbl := fun w h => (goodIn_p wsL_law0_r30 [1828, 364, 1832, 1237, 1836] (by decide +kernel) (by decide +kernel) w h).1
theorem wl_r31 : ∀ w ∈ wsL_law0_r31, w ∈ lw_tbl := fun w h => (goodIn_p wsL_law0_r31 [1246, 1250, 1840, 1258] (by decide +kernel) (by decide +kernel) w h).1
theorem wl_r32 : ∀ w ∈ wsL_law0_r32, w ∈ lw_tbl := fun w h => (goodIn_p wsL_law0_r32 [1844, 1266, 1848, 1275] (by decide +kernel) (by decide +kernel) w h).1
theorem wl_r33 : ∀ w ∈ wsL_law0_r33, w ∈ lw_tbl := fun w h => (goodIn_p wsL_law0_r33 [1852, 1283, 1856, 1290] (by decide +kernel) (by decide +kernel) w h).1
theorem wl_r34 : ∀ w ∈ wsL_law0_r34, w ∈ lw_tbl := fun w h => (goodIn_p wsL_law0_r34 [1294, 1860, 1301, 1305, 1864] (by decide +kernel) (by decide +kernel) w h).1
theorem wl_r35 : ∀ w ∈ wsL_law0_r35, w ∈ lw_tbl := fun w h => (goodIn_p wsL_law0_r35 [1868, 1314, 458, 462] (by decide +kernel) (by decide +kernel) w h).1
theorem wl_r36 : ∀ w ∈ wsL_law0_r36, w ∈ lw_tbl := fun w h => (goodIn_p wsL_law0_r36 [472, 477, 481, 486, 491, 1872] (by decide +kernel) (by decide +kernel) w h).1
theorem wl_r37 : ∀ w ∈ wsL_law0_r37, w ∈ lw_tbl := fun w h => (goodIn_p wsL_law0_r37 [1322, 1326, 500, 1876, 1880] (by decide +kernel) (by decide +kernel) w h).1
theorem wl_r38 : ∀ w ∈ wsL_law0_r38, w ∈ lw_tbl := fun w h => (goodIn_p wsL_law0_r38 [1333, 1337, 1884, 1346] (by decide +kernel) (by decide +kernel) w h).1
theorem wl_r39 : ∀ w ∈ wsL_law0_r39, w ∈ lw_tbl := fun w h => (goodIn_p wsL_law0_r39 [1350, 496, 1889, 1893, 1359] (by decide +kernel) (by decide +kernel) w h).1
theorem wl_r40 : ∀ w ∈ wsL_law0_r40, w ∈ lw_tbl := fun w h => (goodIn_p wsL_law0_r40 [504, 1897, 1367, 1901, 380] (by decide +kernel) (by decide +kernel) w h).1
theorem wl_r41 : ∀ w ∈ wsL_law0_r41, w ∈ lw_tbl := fun w h => (goodIn_p wsL_law0_r41 [384, 1905, 1909, 396, 400, 1913] (by decide +kernel) (by decide +kernel) w h).1
theorem wl_r42 : ∀ w ∈ wsL_law0_r42, w ∈ lw_tbl := fun w h => (goodIn_p wsL_law0_r42 [1390, 1917, 1400, 1405] (by decide +kernel) (by decide +kernel) w h).1
theorem wl_r43 : ∀ w ∈ wsL_law0_r43, w ∈ lw_tbl := fun w h => (goodIn_p wsL_law0_r43 [1921, 404, 409, 1925] (by decide +kernel) (by decide +kernel) w h).1
theorem wl_r44 : ∀ w ∈ wsL_law0_r44, w ∈ lw_tbl := fun w h => (goodIn_p wsL_law0_r44 [1413, 1417, 1422, 1949] (by decide +kernel) (by decide +kernel) w h).1
theorem wl_r45 : ∀ w ∈ wsL_law0_r45, w ∈ lw_tbl := fun w h => (goodIn_p wsL_law0_r45 [1429, 1433, 1437, 1441, 1447] (by decide +kernel) (by decide +kernel) w h).1
theorem wl_r46 : ∀ w ∈ wsL_law0_r46, w ∈ lw_tbl := fun w h => (goodIn_p wsL_law0_r46 [1451, 600, 604, 1456] (by decide +kernel) (by decide +kernel) w h).1
theorem wl_r47 : ∀ w ∈ wsL_law0_r47, w ∈ lw_tbl := fun w h => (goodIn_p wsL_law0_r47 [1460, 1463, 870, 873, 1467, 867, 579] (by decide +kernel) (by decide +kernel) w h).1
theorem wl_r48 : ∀ w ∈ wsL_law0_r48, w ∈ lw_tbl := fun w h => (goodIn_p wsL_law0_r48 [786, 1471, 1475, 1478, 1483] (by decide +kernel) (by decide +kernel) w h).1
theorem wl_r49 : ∀ w ∈ wsL_law0_r49, w ∈ lw_tbl := fun w h => (goodIn_p wsL_law0_r49 [1487, 1492, 1497, 1502, 1506] (by decide +kernel) (by decide +kernel) w h).1
theorem wl_r50 : ∀ w ∈ wsL_law0_r50, w ∈ lw_tbl := fun w h => (goodIn_p wsL_law0_r50 [1953, 1957, 1961, 1965, 1968] (by decide +kernel) (by decide +kernel) w h).1
theorem wl_r51 : ∀ w ∈ wsL_law0_r51, w ∈ lw_tbl := fun w h => (goodIn_p wsL_law0_r51 [1974, 1978, 1982, 1986, 1990, 1994] (by decide +kernel) (by decide +kernel) w h).1
theorem wl_r52 : ∀ w ∈ wsL_law0_r52, w ∈ lw_tbl := fun w h => (goodIn_p wsL_law0_r52 [1516, 1998, 1524, 2002] (by decide +kernel) (by decide +kernel) w h).1