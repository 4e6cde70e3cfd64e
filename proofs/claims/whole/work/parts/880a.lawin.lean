theorem wl_r1 : ∀ w ∈ wsL_law0_r1, w ∈ lw_tbl := fun w h => (goodIn_p wsL_law0_r1 [104, 107] (by decide +kernel) (by decide +kernel) w h).1
theorem wl_r2 : ∀ w ∈ wsL_law0_r2, w ∈ lw_tbl := fun w h => (goodIn_p wsL_law0_r2 [112] (by decide +kernel) (by decide +kernel) w h).1
theorem wl_r3 : ∀ w ∈ wsL_law0_r3, w ∈ lw_tbl := fun w h => (goodIn_p wsL_law0_r3 [119, 155, 174] (by decide +kernel) (by decide +kernel) w h).1
theorem wl_r4 : ∀ w ∈ wsL_law0_r4, w ∈ lw_tbl := fun w h => (goodIn_p wsL_law0_r4 [180, 196, 228] (by decide +kernel) (by decide +kernel) w h).1
theorem wl_r5 : ∀ w ∈ wsL_law0_r5, w ∈ lw_tbl := fun w h => (goodIn_p wsL_law0_r5 [241, 272, 275, 281] (by decide +kernel) (by decide +kernel) w h).1
theorem wl_r6 : ∀ w ∈ wsL_law0_r6, w ∈ lw_tbl := fun w h => (goodIn_p wsL_law0_r6 [284, 1573] (by decide +kernel) (by decide +kernel) w h).1
theorem wl_r7 : ∀ w ∈ wsL_law0_r7, w ∈ lw_tbl := fun w h => (goodIn_p wsL_law0_r7 [892, 897, 901, 909, 913] (by decide +kernel) (by decide +kernel) w h).1
theorem wl_r8 : ∀ w ∈ wsL_law0_r8, w ∈ lw_tbl := fun w h => (goodIn_p wsL_law0_r8 [916, 342, 927, 931, 937] (by decide +kernel) (by decide +kernel) w h).1
theorem wl_r9 : ∀ w ∈ wsL_law0_r9, w ∈ lw_tbl := fun w h => (goodIn_p wsL_law0_r9 [940, 350, 945, 358, 362, 366] (by decide +kernel) (by decide +kernel) w h).1
theorem wl_r10 : ∀ w ∈ wsL_law0_r10, w ∈ lw_tbl := fun w h => (goodIn_p wsL_law0_r10 [952, 382, 403, 407, 411] (by decide +kernel) (by decide +kernel) w h).1
theorem wl_r11 : ∀ w ∈ wsL_law0_r11, w ∈ lw_tbl := fun w h => (goodIn_p wsL_law0_r11 [414, 963] (by decide +kernel) (by decide +kernel) w h).1
theorem wl_r12 : ∀ w ∈ wsL_law0_r12, w ∈ lw_tbl := fun w h => (goodIn_p wsL_law0_r12 [1036, 458, 877, 882] (by decide +kernel) (by decide +kernel) w h).1
theorem wl_r13 : ∀ w ∈ wsL_law0_r13, w ∈ lw_tbl := fun w h => (goodIn_p wsL_law0_r13 [1042, 1046, 1050, 867, 1055] (by decide +kernel) (by decide +kernel) w h).1
theorem wl_r14 : ∀ w ∈ wsL_law0_r14, w ∈ lw_tbl := fun w h => (goodIn_p wsL_law0_r14 [1059, 1063, 1066, 1070, 1074, 1078] (by decide +kernel) (by decide +kernel) w h).1
theorem wl_r15 : ∀ w ∈ wsL_law0_r15, w ∈ lw_tbl := fun w h => (goodIn_p wsL_law0_r15 [1082, 1086, 1091, 1096, 434, 421] (by decide +kernel) (by decide +kernel) w h).1
theorem wl_r16 : ∀ w ∈ wsL_law0_r16, w ∈ lw_tbl := fun w h => (goodIn_p wsL_law0_r16 [425, 430, 438, 441, 444, 1660] (by decide +kernel) (by decide +kernel) w h).1
theorem wl_r17 : ∀ w ∈ wsL_law0_r17, w ∈ lw_tbl := fun w h => (goodIn_p wsL_law0_r17 [1664, 1648, 1668, 1671, 1674, 1645] (by decide +kernel) (by decide +kernel) w h).1
theorem wl_r18 : ∀ w ∈ wsL_law0_r18, w ∈ lw_tbl := fun w h => (goodIn_p wsL_law0_r18 [1678, 1682, 1633, 1108, 1686] (by decide +kernel) (by decide +kernel) w h).1
theorem wl_r19 : ∀ w ∈ wsL_law0_r19, w ∈ lw_tbl := fun w h => (goodIn_p wsL_law0_r19 [1690, 1694, 1117, 1698, 1702] (by decide +kernel) (by decide +kernel) w h).1
theorem wl_r20 : ∀ w ∈ wsL_law0_r20, w ∈ lw_tbl := fun w h => (goodIn_p wsL_law0_r20 [1705, 1708, 1127, 1712, 1716] (by decide +kernel) (by decide +kernel) w h).1
theorem wl_r21 : ∀ w ∈ wsL_law0_r21, w ∈ lw_tbl := fun w h => (goodIn_p wsL_law0_r21 [1720, 1724, 455, 1729, 1733] (by decide +kernel) (by decide +kernel) w h).1
theorem wl_r22 : ∀ w ∈ wsL_law0_r22, w ∈ lw_tbl := fun w h => (goodIn_p wsL_law0_r22 [1136, 1738, 1742, 1145, 1746] (by decide +kernel) (by decide +kernel) w h).1
theorem wl_r23 : ∀ w ∈ wsL_law0_r23, w ∈ lw_tbl := fun w h => (goodIn_p wsL_law0_r23 [1750, 1754, 1758, 1761, 1765, 1768, 1771] (by decide +kernel) (by decide +kernel) w h).1
theorem wl_r24 : ∀ w ∈ wsL_law0_r24, w ∈ lw_tbl := fun w h => (goodIn_p wsL_law0_r24 [1774, 1153, 1778, 1782] (by decide +kernel) (by decide +kernel) w h).1
theorem wl_r25 : ∀ w ∈ wsL_law0_r25, w ∈ lw_tbl := fun w h => (goodIn_p wsL_law0_r25 [1162, 1786, 1790, 1641, 338, 1794] (by decide +kernel) (by decide +kernel) w h).1
theorem wl_r26 : ∀ w ∈ wsL_law0_r26, w ∈ lw_tbl := fun w h => (goodIn_p wsL_law0_r26 [1171, 1175, 1798, 1183] (by decide +kernel) (by decide +kernel) w h).1