theorem wl_r1 : ∀ w ∈ wsL_law0_r1, w ∈ lw_tbl := fun w h => (goodIn_p wsL_law0_r1 [104, 107] (by decide +kernel) (by decide +kernel) w h).1
theorem wl_r2 : ∀ w ∈ wsL_law0_r2, w ∈ lw_tbl := fun w h => (goodIn_p wsL_law0_r2 [112] (by decide +kernel) (by decide +kernel) w h).1
theorem wl_r3 : ∀ w ∈ wsL_law0_r3, w ∈ lw_tbl := fun w h => (goodIn_p wsL_law0_r3 [118, 125, 161] (by decide +kernel) (by decide +kernel) w h).1
theorem wl_r4 : ∀ w ∈ wsL_law0_r4, w ∈ lw_tbl := fun w h => (goodIn_p wsL_law0_r4 [167, 183, 221, 225] (by decide +kernel) (by decide +kernel) w h).1
theorem wl_r5 : ∀ w ∈ wsL_law0_r5, w ∈ lw_tbl := fun w h => (goodIn_p wsL_law0_r5 [232, 251, 282, 285] (by decide +kernel) (by decide +kernel) w h).1
theorem wl_r6 : ∀ w ∈ wsL_law0_r6, w ∈ lw_tbl := fun w h => (goodIn_p wsL_law0_r6 [291, 294, 1583] (by decide +kernel) (by decide +kernel) w h).1
theorem wl_r7 : ∀ w ∈ wsL_law0_r7, w ∈ lw_tbl := fun w h => (goodIn_p wsL_law0_r7 [902, 907, 911] (by decide +kernel) (by decide +kernel) w h).1
theorem wl_r8 : ∀ w ∈ wsL_law0_r8, w ∈ lw_tbl := fun w h => (goodIn_p wsL_law0_r8 [919, 923, 926, 352, 937] (by decide +kernel) (by decide +kernel) w h).1
theorem wl_r9 : ∀ w ∈ wsL_law0_r9, w ∈ lw_tbl := fun w h => (goodIn_p wsL_law0_r9 [941, 947, 950, 360, 955, 368] (by decide +kernel) (by decide +kernel) w h).1
theorem wl_r10 : ∀ w ∈ wsL_law0_r10, w ∈ lw_tbl := fun w h => (goodIn_p wsL_law0_r10 [372, 376, 962, 392, 413] (by decide +kernel) (by decide +kernel) w h).1
theorem wl_r11 : ∀ w ∈ wsL_law0_r11, w ∈ lw_tbl := fun w h => (goodIn_p wsL_law0_r11 [417, 421, 424, 973] (by decide +kernel) (by decide +kernel) w h).1
theorem wl_r12 : ∀ w ∈ wsL_law0_r12, w ∈ lw_tbl := fun w h => (goodIn_p wsL_law0_r12 [1046, 468, 887] (by decide +kernel) (by decide +kernel) w h).1
theorem wl_r13 : ∀ w ∈ wsL_law0_r13, w ∈ lw_tbl := fun w h => (goodIn_p wsL_law0_r13 [892, 1052, 1056, 1060] (by decide +kernel) (by decide +kernel) w h).1
theorem wl_r14 : ∀ w ∈ wsL_law0_r14, w ∈ lw_tbl := fun w h => (goodIn_p wsL_law0_r14 [877, 1065, 1069, 1073, 1076, 1080] (by decide +kernel) (by decide +kernel) w h).1
theorem wl_r15 : ∀ w ∈ wsL_law0_r15, w ∈ lw_tbl := fun w h => (goodIn_p wsL_law0_r15 [1084, 1088, 1092, 1096, 1101, 1106] (by decide +kernel) (by decide +kernel) w h).1
theorem wl_r16 : ∀ w ∈ wsL_law0_r16, w ∈ lw_tbl := fun w h => (goodIn_p wsL_law0_r16 [444, 431, 435, 440, 448] (by decide +kernel) (by decide +kernel) w h).1
theorem wl_r17 : ∀ w ∈ wsL_law0_r17, w ∈ lw_tbl := fun w h => (goodIn_p wsL_law0_r17 [451, 454, 1670, 1674, 1658, 1678, 1681] (by decide +kernel) (by decide +kernel) w h).1
theorem wl_r18 : ∀ w ∈ wsL_law0_r18, w ∈ lw_tbl := fun w h => (goodIn_p wsL_law0_r18 [1684, 1655, 1688, 1692, 1643] (by decide +kernel) (by decide +kernel) w h).1
theorem wl_r19 : ∀ w ∈ wsL_law0_r19, w ∈ lw_tbl := fun w h => (goodIn_p wsL_law0_r19 [1118, 1696, 1700, 1704, 1127] (by decide +kernel) (by decide +kernel) w h).1
theorem wl_r20 : ∀ w ∈ wsL_law0_r20, w ∈ lw_tbl := fun w h => (goodIn_p wsL_law0_r20 [1708, 1712, 1715, 1718, 1137] (by decide +kernel) (by decide +kernel) w h).1
theorem wl_r21 : ∀ w ∈ wsL_law0_r21, w ∈ lw_tbl := fun w h => (goodIn_p wsL_law0_r21 [1722, 1726, 1730, 1734, 465, 1739] (by decide +kernel) (by decide +kernel) w h).1
theorem wl_r22 : ∀ w ∈ wsL_law0_r22, w ∈ lw_tbl := fun w h => (goodIn_p wsL_law0_r22 [1743, 1146, 1748, 1752] (by decide +kernel) (by decide +kernel) w h).1
theorem wl_r23 : ∀ w ∈ wsL_law0_r23, w ∈ lw_tbl := fun w h => (goodIn_p wsL_law0_r23 [1155, 1756, 1760, 1764, 1768, 1771] (by decide +kernel) (by decide +kernel) w h).1
theorem wl_r24 : ∀ w ∈ wsL_law0_r24, w ∈ lw_tbl := fun w h => (goodIn_p wsL_law0_r24 [1775, 1778, 1781, 1784, 1163, 1788] (by decide +kernel) (by decide +kernel) w h).1
theorem wl_r25 : ∀ w ∈ wsL_law0_r25, w ∈ lw_tbl := fun w h => (goodIn_p wsL_law0_r25 [1792, 1172, 1796, 1800, 1651] (by decide +kernel) (by decide +kernel) w h).1
theorem wl_r26 : ∀ w ∈ wsL_law0_r26, w ∈ lw_tbl := fun w h => (goodIn_p wsL_law0_r26 [348, 1804, 1181, 1185] (by decide +kernel) (by decide +kernel) w h).1