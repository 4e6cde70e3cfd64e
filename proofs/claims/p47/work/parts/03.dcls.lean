set_option maxRecDepth 20000 in
theorem ggX1_init_X11_init : GoodIn wsX1_init wsX11_init := goodIn_r _ [14, 15, 2, 3, 16, 17, 18, 19, 20, 21, 22, 23, 24, 25, 51, 52, 53, 54, 55, 56, 61, 62, 63] (by decide +kernel) (by decide +kernel)
set_option maxRecDepth 20000 in
theorem gX1_init_X11_init : GoodIn wsX1_init (wsX11_init) := ggX1_init_X11_init
set_option maxRecDepth 20000 in
theorem ggX1_init_X8_init : GoodIn wsX1_init wsX8_init := goodIn_r _ [27, 28, 2, 3, 29, 30, 31, 32, 33, 34, 35, 36, 37, 38, 39, 16, 40, 41, 42, 43, 44, 45, 46, 47, 48, 49, 50, 64, 65, 66, 59, 60, 67, 68, 69, 70, 71] (by decide +kernel) (by decide +kernel)
set_option maxRecDepth 20000 in
theorem gX1_init_X8_init_n20 : GoodIn wsX1_init (wsX8_init) := ggX1_init_X8_init
theorem dX1_init_0 : decode cX1_init 0 = .ok (.aload_n 0, 1) := by decide +kernel
theorem dX1_init_1 : decode cX1_init 1 = .ok (.invokespecial 3, 3) := by decide +kernel
theorem dX1_init_4 : decode cX1_init 4 = .ok (.aload_n 0, 1) := by decide +kernel
theorem dX1_init_5 : decode cX1_init 5 = .ok (.new 9, 3) := by decide +kernel
theorem dX1_init_8 : decode cX1_init 8 = .ok (.dup, 1) := by decide +kernel
theorem dX1_init_9 : decode cX1_init 9 = .ok (.invokespecial 11, 3) := by decide +kernel
theorem dX1_init_12 : decode cX1_init 12 = .ok (.putfield 12, 3) := by decide +kernel
theorem dX1_init_15 : decode cX1_init 15 = .ok (.aload_n 0, 1) := by decide +kernel
theorem dX1_init_16 : decode cX1_init 16 = .ok (.new 18, 3) := by decide +kernel
theorem dX1_init_19 : decode cX1_init 19 = .ok (.dup, 1) := by decide +kernel
theorem dX1_init_20 : decode cX1_init 20 = .ok (.invokespecial 20, 3) := by decide +kernel
theorem dX1_init_23 : decode cX1_init 23 = .ok (.putfield 21, 3) := by decide +kernel
theorem dX1_init_26 : decode cX1_init 26 = .ok (.return_, 1) := by decide +kernel
theorem dX1_ownState_0 : decode cX1_ownState 0 = .ok (.aload_n 0, 1) := by decide +kernel
theorem dX1_ownState_1 : decode cX1_ownState 1 = .ok (.getfield 12, 3) := by decide +kernel
theorem dX1_ownState_4 : decode cX1_ownState 4 = .ok (.areturn, 1) := by decide +kernel
theorem dX1_ownRebuilder_0 : decode cX1_ownRebuilder 0 = .ok (.aload_n 0, 1) := by decide +kernel
theorem dX1_ownRebuilder_1 : decode cX1_ownRebuilder 1 = .ok (.getfield 21, 3) := by decide +kernel
theorem dX1_ownRebuilder_4 : decode cX1_ownRebuilder 4 = .ok (.areturn, 1) := by decide +kernel
set_option maxRecDepth 20000 in
theorem ggX1_problemWith_Jx29ce0_ordinal_8abf5 : GoodIn wsX1_problemWith wsJx29ce0_ordinal_8abf5 := goodIn_r _ [10, 11] (by decide +kernel) (by decide +kernel)
set_option maxRecDepth 20000 in
theorem gX1_problemWith_Jx29ce0_ordinal_8abf5_u31X2 : GoodIn wsX1_problemWith (va_wsU RX1 31 RX2 "java/lang/Enum" ⟨"FeatherShares$Deed", "ordinal", "()I"⟩ yJx29ce0_ordinal_8abf5 wsJx29ce0_ordinal_8abf5) := goodIn_app (goodIn_of _ (by decide +kernel)) ggX1_problemWith_Jx29ce0_ordinal_8abf5
set_option maxRecDepth 20000 in
theorem ggX1_problemWith_X1_problemWithBird : GoodIn wsX1_problemWith wsX1_problemWithBird := goodIn_r _ [16, 17, 2, 18, 4, 19, 20, 21, 22, 23, 24, 25, 26, 27, 100, 101, 102, 103, 104, 105, 106, 107] (by decide +kernel) (by decide +kernel)
set_option maxRecDepth 20000 in
theorem gX1_problemWith_X1_problemWithBird : GoodIn wsX1_problemWith (wsV RX1 37 RX1 yX1_problemWithBird wsX1_problemWithBird) := goodIn_app (goodIn_of _ (by decide +kernel)) ggX1_problemWith_X1_problemWithBird
set_option maxRecDepth 20000 in
theorem ggX1_problemWith_X1_problemWithMove : GoodIn wsX1_problemWith wsX1_problemWithMove := goodIn_r _ [31, 2, 32, 4, 17, 33, 34, 35, 21, 36, 27, 19, 20, 22, 100, 101, 102, 103, 104, 105, 106, 107] (by decide +kernel) (by decide +kernel)
set_option maxRecDepth 20000 in
theorem gX1_problemWith_X1_problemWithMove : GoodIn wsX1_problemWith (wsV RX1 41 RX1 yX1_problemWithMove wsX1_problemWithMove) := goodIn_app (goodIn_of _ (by decide +kernel)) ggX1_problemWith_X1_problemWithMove
set_option maxRecDepth 20000 in
theorem ggX1_problemWith_X1_problemWithSplit : GoodIn wsX1_problemWith wsX1_problemWithSplit := goodIn_r _ [40, 17, 2, 18, 4, 41, 42, 15, 43, 44, 45, 46, 21, 47, 48, 23, 24, 25, 26, 27, 100, 101, 102, 103, 104, 105, 106, 107] (by decide +kernel) (by decide +kernel)
set_option maxRecDepth 20000 in
theorem gX1_problemWith_X1_problemWithSplit : GoodIn wsX1_problemWith (wsV RX1 45 RX1 yX1_problemWithSplit wsX1_problemWithSplit) := goodIn_app (goodIn_of _ (by decide +kernel)) ggX1_problemWith_X1_problemWithSplit
set_option maxRecDepth 20000 in
theorem ggX1_problemWith_X1_problemWithRefresh : GoodIn wsX1_problemWith wsX1_problemWithRefresh := goodIn_r _ [52, 2, 3, 4, 17, 53, 54, 55, 21, 56, 57, 58, 59, 60, 48, 61, 62, 63, 64, 65, 66, 67, 41, 42, 15, 43, 100, 101, 102, 103, 104, 105, 106, 107, 108, 109, 110] (by decide +kernel) (by decide +kernel)
set_option maxRecDepth 20000 in
theorem gX1_problemWith_X1_problemWithRefresh : GoodIn wsX1_problemWith (wsV RX1 49 RX1 yX1_problemWithRefresh wsX1_problemWithRefresh) := goodIn_app (goodIn_of _ (by decide +kernel)) ggX1_problemWith_X1_problemWithRefresh
set_option maxRecDepth 20000 in
theorem ggX1_problemWith_X11_find : GoodIn wsX1_problemWith wsX11_find := goodIn_r _ [56, 57, 58, 59, 21, 60, 48, 61, 62, 63, 64, 65, 66, 67, 102, 103, 104, 105, 106, 107, 108, 109, 110] (by decide +kernel) (by decide +kernel)
set_option maxRecDepth 20000 in
theorem gX1_problemWith_X11_find : GoodIn wsX1_problemWith (wsV RX1 52 RX11 yX11_find wsX11_find) := goodIn_app (goodIn_of _ (by decide +kernel)) ggX1_problemWith_X11_find
set_option maxRecDepth 20000 in
theorem ggX1_problemWith_X1_problemWithShare : GoodIn wsX1_problemWith wsX1_problemWithShare := goodIn_ca (goodIn_r _ [71, 2, 32, 3, 72, 17, 73, 18, 74, 4, 33, 34, 35, 21, 36, 27, 41, 42, 15, 43, 75, 76, 77, 65, 78, 79, 80, 81, 82, 83, 84, 85, 86, 87, 88, 89, 90, 91, 92, 93, 94, 95, 96, 97, 98, 99, 100, 101, 102, 103, 104, 105, 106, 107, 108, 109, 110] (by decide +kernel) (by decide +kernel)) (goodIn_sub (fun _ h => List.mem_cons_of_mem _ (List.mem_append_right _ h)) (by decide +kernel))
set_option maxRecDepth 20000 in
theorem gX1_problemWith_X1_problemWithShare : GoodIn wsX1_problemWith (wsV RX1 65 RX1 yX1_problemWithShare wsX1_problemWithShare) := goodIn_app (goodIn_of _ (by decide +kernel)) ggX1_problemWith_X1_problemWithShare
theorem dX1_problemWith_0 : decode cX1_problemWith 0 = .ok (.getstatic 25, 3) := by decide +kernel
theorem dX1_problemWith_3 : decode cX1_problemWith 3 = .ok (.aload_n 1, 1) := by decide +kernel
theorem dX1_problemWith_4 : decode cX1_problemWith 4 = .ok (.invokevirtual 31, 3) := by decide +kernel
theorem dX1_problemWith_7 : decode cX1_problemWith 7 = .ok (.iaload, 1) := by decide +kernel
theorem dX1_problemWith_8 : decode cX1_problemWith 8 = .ok (.tableswitch 86 1 5 #[36, 42, 49, 58, 65], 36) := by decide +kernel
theorem dX1_problemWith_44 : decode cX1_problemWith 44 = .ok (.aload_n 0, 1) := by decide +kernel
theorem dX1_problemWith_45 : decode cX1_problemWith 45 = .ok (.iload_n 2, 1) := by decide +kernel
theorem dX1_problemWith_46 : decode cX1_problemWith 46 = .ok (.invokevirtual 37, 3) := by decide +kernel
theorem dX1_problemWith_49 : decode cX1_problemWith 49 = .ok (.areturn, 1) := by decide +kernel
theorem dX1_problemWith_50 : decode cX1_problemWith 50 = .ok (.aload_n 0, 1) := by decide +kernel
theorem dX1_problemWith_51 : decode cX1_problemWith 51 = .ok (.iload_n 2, 1) := by decide +kernel
theorem dX1_problemWith_52 : decode cX1_problemWith 52 = .ok (.iload_n 3, 1) := by decide +kernel
theorem dX1_problemWith_53 : decode cX1_problemWith 53 = .ok (.invokevirtual 41, 3) := by decide +kernel
theorem dX1_problemWith_56 : decode cX1_problemWith 56 = .ok (.areturn, 1) := by decide +kernel
theorem dX1_problemWith_57 : decode cX1_problemWith 57 = .ok (.aload_n 0, 1) := by decide +kernel
theorem dX1_problemWith_58 : decode cX1_problemWith 58 = .ok (.iload_n 2, 1) := by decide +kernel
theorem dX1_problemWith_59 : decode cX1_problemWith 59 = .ok (.iload_n 3, 1) := by decide +kernel
theorem dX1_problemWith_60 : decode cX1_problemWith 60 = .ok (.iload 4, 2) := by decide +kernel
theorem dX1_problemWith_62 : decode cX1_problemWith 62 = .ok (.invokevirtual 45, 3) := by decide +kernel
theorem dX1_problemWith_65 : decode cX1_problemWith 65 = .ok (.areturn, 1) := by decide +kernel
theorem dX1_problemWith_66 : decode cX1_problemWith 66 = .ok (.aload_n 0, 1) := by decide +kernel
theorem dX1_problemWith_67 : decode cX1_problemWith 67 = .ok (.iload_n 2, 1) := by decide +kernel
theorem dX1_problemWith_68 : decode cX1_problemWith 68 = .ok (.iload_n 3, 1) := by decide +kernel
theorem dX1_problemWith_69 : decode cX1_problemWith 69 = .ok (.invokevirtual 49, 3) := by decide +kernel
theorem dX1_problemWith_72 : decode cX1_problemWith 72 = .ok (.areturn, 1) := by decide +kernel
theorem dX1_problemWith_73 : decode cX1_problemWith 73 = .ok (.aload_n 0, 1) := by decide +kernel
theorem dX1_problemWith_74 : decode cX1_problemWith 74 = .ok (.getfield 12, 3) := by decide +kernel
theorem dX1_problemWith_77 : decode cX1_problemWith 77 = .ok (.iload_n 2, 1) := by decide +kernel
theorem dX1_problemWith_78 : decode cX1_problemWith 78 = .ok (.invokevirtual 52, 3) := by decide +kernel
theorem dX1_problemWith_81 : decode cX1_problemWith 81 = .ok (.ifnonnull 9, 3) := by decide +kernel
theorem dX1_problemWith_84 : decode cX1_problemWith 84 = .ok (.getstatic 56, 3) := by decide +kernel
theorem dX1_problemWith_87 : decode cX1_problemWith 87 = .ok (.goto 6, 3) := by decide +kernel
theorem dX1_problemWith_90 : decode cX1_problemWith 90 = .ok (.getstatic 62, 3) := by decide +kernel
theorem dX1_problemWith_93 : decode cX1_problemWith 93 = .ok (.areturn, 1) := by decide +kernel
theorem dX1_problemWith_94 : decode cX1_problemWith 94 = .ok (.aload_n 0, 1) := by decide +kernel
theorem dX1_problemWith_95 : decode cX1_problemWith 95 = .ok (.aload_n 1, 1) := by decide +kernel
theorem dX1_problemWith_96 : decode cX1_problemWith 96 = .ok (.iload_n 2, 1) := by decide +kernel
theorem dX1_problemWith_97 : decode cX1_problemWith 97 = .ok (.aload_n 0, 1) := by decide +kernel
theorem dX1_problemWith_98 : decode cX1_problemWith 98 = .ok (.getfield 12, 3) := by decide +kernel
theorem dX1_problemWith_101 : decode cX1_problemWith 101 = .ok (.iload_n 3, 1) := by decide +kernel
theorem dX1_problemWith_102 : decode cX1_problemWith 102 = .ok (.invokevirtual 52, 3) := by decide +kernel
theorem dX1_problemWith_105 : decode cX1_problemWith 105 = .ok (.iload 4, 2) := by decide +kernel
theorem dX1_problemWith_107 : decode cX1_problemWith 107 = .ok (.invokevirtual 65, 3) := by decide +kernel
theorem dX1_problemWith_110 : decode cX1_problemWith 110 = .ok (.areturn, 1) := by decide +kernel
set_option maxRecDepth 20000 in
theorem ggX1_problemWithBird_X11_isNest : GoodIn wsX1_problemWithBird wsX11_isNest := goodIn_r _ [8] (by decide +kernel) (by decide +kernel)
set_option maxRecDepth 20000 in
theorem gX1_problemWithBird_X11_isNest : GoodIn wsX1_problemWithBird (va_wsS RX1 69 yX11_isNest wsX11_isNest) := goodIn_app (goodIn_of _ (by decide +kernel)) ggX1_problemWithBird_X11_isNest
set_option maxRecDepth 20000 in
theorem ggX1_problemWithBird_X11_birdTally : GoodIn wsX1_problemWithBird wsX11_birdTally := goodIn_r _ [12, 13, 16, 17, 18, 19, 20, 21] (by decide +kernel) (by decide +kernel)
set_option maxRecDepth 20000 in
theorem gX1_problemWithBird_X11_birdTally : GoodIn wsX1_problemWithBird (wsV RX1 76 RX11 yX11_birdTally wsX11_birdTally) := goodIn_app (goodIn_of _ (by decide +kernel)) ggX1_problemWithBird_X11_birdTally
theorem dX1_problemWithBird_0 : decode cX1_problemWithBird 0 = .ok (.iload_n 1, 1) := by decide +kernel
theorem dX1_problemWithBird_1 : decode cX1_problemWithBird 1 = .ok (.invokestatic 69, 3) := by decide +kernel
theorem dX1_problemWithBird_4 : decode cX1_problemWithBird 4 = .ok (.ifCond .ne 7, 3) := by decide +kernel
theorem dX1_problemWithBird_7 : decode cX1_problemWithBird 7 = .ok (.getstatic 73, 3) := by decide +kernel
theorem dX1_problemWithBird_10 : decode cX1_problemWithBird 10 = .ok (.areturn, 1) := by decide +kernel
theorem dX1_problemWithBird_11 : decode cX1_problemWithBird 11 = .ok (.aload_n 0, 1) := by decide +kernel
theorem dX1_problemWithBird_12 : decode cX1_problemWithBird 12 = .ok (.getfield 12, 3) := by decide +kernel
theorem dX1_problemWithBird_15 : decode cX1_problemWithBird 15 = .ok (.invokevirtual 76, 3) := by decide +kernel
theorem dX1_problemWithBird_18 : decode cX1_problemWithBird 18 = .ok (.bipush 8, 2) := by decide +kernel
theorem dX1_problemWithBird_20 : decode cX1_problemWithBird 20 = .ok (.if_icmp .lt 9, 3) := by decide +kernel
theorem dX1_problemWithBird_23 : decode cX1_problemWithBird 23 = .ok (.getstatic 79, 3) := by decide +kernel
theorem dX1_problemWithBird_26 : decode cX1_problemWithBird 26 = .ok (.goto 6, 3) := by decide +kernel
theorem dX1_problemWithBird_29 : decode cX1_problemWithBird 29 = .ok (.getstatic 62, 3) := by decide +kernel
theorem dX1_problemWithBird_32 : decode cX1_problemWithBird 32 = .ok (.areturn, 1) := by decide +kernel
set_option maxRecDepth 20000 in
theorem ggX1_problemWithMove_X11_hasBird : GoodIn wsX1_problemWithMove wsX11_hasBird := goodIn_r _ [9, 10, 16, 17, 18, 19, 20, 21] (by decide +kernel) (by decide +kernel)
set_option maxRecDepth 20000 in
theorem gX1_problemWithMove_X11_hasBird : GoodIn wsX1_problemWithMove (wsV RX1 82 RX11 yX11_hasBird wsX11_hasBird) := goodIn_app (goodIn_of _ (by decide +kernel)) ggX1_problemWithMove_X11_hasBird
set_option maxRecDepth 20000 in
theorem ggX1_problemWithMove_X11_isNest : GoodIn wsX1_problemWithMove wsX11_isNest := goodIn_r _ [13] (by decide +kernel) (by decide +kernel)
set_option maxRecDepth 20000 in
theorem gX1_problemWithMove_X11_isNest : GoodIn wsX1_problemWithMove (va_wsS RX1 69 yX11_isNest wsX11_isNest) := goodIn_app (goodIn_of _ (by decide +kernel)) ggX1_problemWithMove_X11_isNest
theorem dX1_problemWithMove_0 : decode cX1_problemWithMove 0 = .ok (.aload_n 0, 1) := by decide +kernel
theorem dX1_problemWithMove_1 : decode cX1_problemWithMove 1 = .ok (.getfield 12, 3) := by decide +kernel
theorem dX1_problemWithMove_4 : decode cX1_problemWithMove 4 = .ok (.iload_n 1, 1) := by decide +kernel
theorem dX1_problemWithMove_5 : decode cX1_problemWithMove 5 = .ok (.invokevirtual 82, 3) := by decide +kernel
theorem dX1_problemWithMove_8 : decode cX1_problemWithMove 8 = .ok (.ifCond .ne 7, 3) := by decide +kernel
theorem dX1_problemWithMove_11 : decode cX1_problemWithMove 11 = .ok (.getstatic 85, 3) := by decide +kernel
theorem dX1_problemWithMove_14 : decode cX1_problemWithMove 14 = .ok (.areturn, 1) := by decide +kernel
theorem dX1_problemWithMove_15 : decode cX1_problemWithMove 15 = .ok (.iload_n 2, 1) := by decide +kernel
theorem dX1_problemWithMove_16 : decode cX1_problemWithMove 16 = .ok (.invokestatic 69, 3) := by decide +kernel
theorem dX1_problemWithMove_19 : decode cX1_problemWithMove 19 = .ok (.ifCond .eq 9, 3) := by decide +kernel
theorem dX1_problemWithMove_22 : decode cX1_problemWithMove 22 = .ok (.getstatic 62, 3) := by decide +kernel
theorem dX1_problemWithMove_25 : decode cX1_problemWithMove 25 = .ok (.goto 6, 3) := by decide +kernel
theorem dX1_problemWithMove_28 : decode cX1_problemWithMove 28 = .ok (.getstatic 73, 3) := by decide +kernel
theorem dX1_problemWithMove_31 : decode cX1_problemWithMove 31 = .ok (.areturn, 1) := by decide +kernel
set_option maxRecDepth 20000 in
theorem ggX1_problemWithSplit_X1_isResidue : GoodIn wsX1_problemWithSplit wsX1_isResidue := goodIn_r _ [8] (by decide +kernel) (by decide +kernel)
set_option maxRecDepth 20000 in
theorem gX1_problemWithSplit_X1_isResidue : GoodIn wsX1_problemWithSplit (va_wsS RX1 88 yX1_isResidue wsX1_isResidue) := goodIn_app (goodIn_of _ (by decide +kernel)) ggX1_problemWithSplit_X1_isResidue
set_option maxRecDepth 20000 in
theorem ggX1_problemWithSplit_X11_secretTally : GoodIn wsX1_problemWithSplit wsX11_secretTally := goodIn_r _ [13, 14, 22, 23, 24, 25, 26, 27] (by decide +kernel) (by decide +kernel)
set_option maxRecDepth 20000 in
theorem gX1_problemWithSplit_X11_secretTally : GoodIn wsX1_problemWithSplit (wsV RX1 91 RX11 yX11_secretTally wsX11_secretTally) := goodIn_app (goodIn_of _ (by decide +kernel)) ggX1_problemWithSplit_X11_secretTally
set_option maxRecDepth 20000 in
theorem ggX1_problemWithSplit_X11_birdTally : GoodIn wsX1_problemWithSplit wsX11_birdTally := goodIn_r _ [18, 19, 22, 23, 24, 25, 26, 27] (by decide +kernel) (by decide +kernel)
set_option maxRecDepth 20000 in
theorem gX1_problemWithSplit_X11_birdTally : GoodIn wsX1_problemWithSplit (wsV RX1 76 RX11 yX11_birdTally wsX11_birdTally) := goodIn_app (goodIn_of _ (by decide +kernel)) ggX1_problemWithSplit_X11_birdTally
theorem dX1_problemWithSplit_0 : decode cX1_problemWithSplit 0 = .ok (.iload_n 1, 1) := by decide +kernel
theorem dX1_problemWithSplit_1 : decode cX1_problemWithSplit 1 = .ok (.invokestatic 88, 3) := by decide +kernel
theorem dX1_problemWithSplit_4 : decode cX1_problemWithSplit 4 = .ok (.ifCond .eq 20, 3) := by decide +kernel
theorem dX1_problemWithSplit_7 : decode cX1_problemWithSplit 7 = .ok (.iload_n 2, 1) := by decide +kernel
theorem dX1_problemWithSplit_8 : decode cX1_problemWithSplit 8 = .ok (.iconst 1, 1) := by decide +kernel
theorem dX1_problemWithSplit_9 : decode cX1_problemWithSplit 9 = .ok (.if_icmp .lt 15, 3) := by decide +kernel
theorem dX1_problemWithSplit_12 : decode cX1_problemWithSplit 12 = .ok (.iload_n 2, 1) := by decide +kernel
theorem dX1_problemWithSplit_13 : decode cX1_problemWithSplit 13 = .ok (.iconst 4, 1) := by decide +kernel
theorem dX1_problemWithSplit_14 : decode cX1_problemWithSplit 14 = .ok (.if_icmp .gt 10, 3) := by decide +kernel
theorem dX1_problemWithSplit_17 : decode cX1_problemWithSplit 17 = .ok (.iload_n 3, 1) := by decide +kernel
theorem dX1_problemWithSplit_18 : decode cX1_problemWithSplit 18 = .ok (.invokestatic 88, 3) := by decide +kernel
theorem dX1_problemWithSplit_21 : decode cX1_problemWithSplit 21 = .ok (.ifCond .ne 7, 3) := by decide +kernel
theorem dX1_problemWithSplit_24 : decode cX1_problemWithSplit 24 = .ok (.getstatic 73, 3) := by decide +kernel
theorem dX1_problemWithSplit_27 : decode cX1_problemWithSplit 27 = .ok (.areturn, 1) := by decide +kernel
theorem dX1_problemWithSplit_28 : decode cX1_problemWithSplit 28 = .ok (.aload_n 0, 1) := by decide +kernel
theorem dX1_problemWithSplit_29 : decode cX1_problemWithSplit 29 = .ok (.getfield 12, 3) := by decide +kernel
theorem dX1_problemWithSplit_32 : decode cX1_problemWithSplit 32 = .ok (.invokevirtual 91, 3) := by decide +kernel
theorem dX1_problemWithSplit_35 : decode cX1_problemWithSplit 35 = .ok (.bipush 6, 2) := by decide +kernel
theorem dX1_problemWithSplit_37 : decode cX1_problemWithSplit 37 = .ok (.if_icmp .ge 14, 3) := by decide +kernel
theorem dX1_problemWithSplit_40 : decode cX1_problemWithSplit 40 = .ok (.aload_n 0, 1) := by decide +kernel
theorem dX1_problemWithSplit_41 : decode cX1_problemWithSplit 41 = .ok (.getfield 12, 3) := by decide +kernel
theorem dX1_problemWithSplit_44 : decode cX1_problemWithSplit 44 = .ok (.invokevirtual 76, 3) := by decide +kernel
theorem dX1_problemWithSplit_47 : decode cX1_problemWithSplit 47 = .ok (.iload_n 2, 1) := by decide +kernel
theorem dX1_problemWithSplit_48 : decode cX1_problemWithSplit 48 = .ok (.if_icmp .ge 7, 3) := by decide +kernel
theorem dX1_problemWithSplit_51 : decode cX1_problemWithSplit 51 = .ok (.getstatic 79, 3) := by decide +kernel
theorem dX1_problemWithSplit_54 : decode cX1_problemWithSplit 54 = .ok (.areturn, 1) := by decide +kernel
theorem dX1_problemWithSplit_55 : decode cX1_problemWithSplit 55 = .ok (.getstatic 62, 3) := by decide +kernel
theorem dX1_problemWithSplit_58 : decode cX1_problemWithSplit 58 = .ok (.areturn, 1) := by decide +kernel
set_option maxRecDepth 20000 in
theorem ggX1_problemWithRefresh_X11_find : GoodIn wsX1_problemWithRefresh wsX11_find := goodIn_r _ [9, 10, 11, 12, 8, 13, 14, 15, 16, 17, 18, 19, 20, 21, 28, 29, 30, 31, 32, 33, 34, 35, 36] (by decide +kernel) (by decide +kernel)
set_option maxRecDepth 20000 in
theorem gX1_problemWithRefresh_X11_find : GoodIn wsX1_problemWithRefresh (wsV RX1 52 RX11 yX11_find wsX11_find) := goodIn_app (goodIn_of _ (by decide +kernel)) ggX1_problemWithRefresh_X11_find
set_option maxRecDepth 20000 in
theorem ggX1_problemWithRefresh_X1_isResidue : GoodIn wsX1_problemWithRefresh wsX1_isResidue := goodIn_r _ [25] (by decide +kernel) (by decide +kernel)
set_option maxRecDepth 20000 in
theorem gX1_problemWithRefresh_X1_isResidue : GoodIn wsX1_problemWithRefresh (va_wsS RX1 88 yX1_isResidue wsX1_isResidue) := goodIn_app (goodIn_of _ (by decide +kernel)) ggX1_problemWithRefresh_X1_isResidue
theorem dX1_problemWithRefresh_0 : decode cX1_problemWithRefresh 0 = .ok (.aload_n 0, 1) := by decide +kernel
theorem dX1_problemWithRefresh_1 : decode cX1_problemWithRefresh 1 = .ok (.getfield 12, 3) := by decide +kernel
theorem dX1_problemWithRefresh_4 : decode cX1_problemWithRefresh 4 = .ok (.iload_n 1, 1) := by decide +kernel
theorem dX1_problemWithRefresh_5 : decode cX1_problemWithRefresh 5 = .ok (.invokevirtual 52, 3) := by decide +kernel
theorem dX1_problemWithRefresh_8 : decode cX1_problemWithRefresh 8 = .ok (.ifnonnull 7, 3) := by decide +kernel
theorem dX1_problemWithRefresh_11 : decode cX1_problemWithRefresh 11 = .ok (.getstatic 56, 3) := by decide +kernel
theorem dX1_problemWithRefresh_14 : decode cX1_problemWithRefresh 14 = .ok (.areturn, 1) := by decide +kernel
theorem dX1_problemWithRefresh_15 : decode cX1_problemWithRefresh 15 = .ok (.iload_n 2, 1) := by decide +kernel
theorem dX1_problemWithRefresh_16 : decode cX1_problemWithRefresh 16 = .ok (.invokestatic 88, 3) := by decide +kernel
theorem dX1_problemWithRefresh_19 : decode cX1_problemWithRefresh 19 = .ok (.ifCond .eq 9, 3) := by decide +kernel
theorem dX1_problemWithRefresh_22 : decode cX1_problemWithRefresh 22 = .ok (.getstatic 62, 3) := by decide +kernel
theorem dX1_problemWithRefresh_25 : decode cX1_problemWithRefresh 25 = .ok (.goto 6, 3) := by decide +kernel
theorem dX1_problemWithRefresh_28 : decode cX1_problemWithRefresh 28 = .ok (.getstatic 73, 3) := by decide +kernel
theorem dX1_problemWithRefresh_31 : decode cX1_problemWithRefresh 31 = .ok (.areturn, 1) := by decide +kernel
set_option maxRecDepth 20000 in
theorem ggX1_problemWithShare_X11_hasBird : GoodIn wsX1_problemWithShare wsX11_hasBird := goodIn_r _ [14, 15, 48, 49, 50, 51, 52, 53] (by decide +kernel) (by decide +kernel)
set_option maxRecDepth 20000 in
theorem gX1_problemWithShare_X11_hasBird : GoodIn wsX1_problemWithShare (wsV RX1 82 RX11 yX11_hasBird wsX11_hasBird) := goodIn_app (goodIn_of _ (by decide +kernel)) ggX1_problemWithShare_X11_hasBird
set_option maxRecDepth 20000 in
theorem ggX1_problemWithShare_X1_isResidue : GoodIn wsX1_problemWithShare wsX1_isResidue := goodIn_r _ [19] (by decide +kernel) (by decide +kernel)
set_option maxRecDepth 20000 in
theorem gX1_problemWithShare_X1_isResidue : GoodIn wsX1_problemWithShare (va_wsS RX1 88 yX1_isResidue wsX1_isResidue) := goodIn_app (goodIn_of _ (by decide +kernel)) ggX1_problemWithShare_X1_isResidue
set_option maxRecDepth 20000 in
theorem ggX1_problemWithShare_X10_isHeldBy : GoodIn wsX1_problemWithShare wsX10_isHeldBy := goodIn_ca (goodIn_r _ [24, 25, 54, 55, 56] (by decide +kernel) (by decide +kernel)) (goodIn_sub (fun _ h => List.mem_cons_of_mem _ (List.mem_append_right _ h)) (by decide +kernel))
set_option maxRecDepth 20000 in
theorem gX1_problemWithShare_X10_isHeldBy : GoodIn wsX1_problemWithShare (wsV RX1 98 RX10 yX10_isHeldBy wsX10_isHeldBy) := goodIn_app (goodIn_of _ (by decide +kernel)) ggX1_problemWithShare_X10_isHeldBy
set_option maxRecDepth 20000 in
theorem ggX1_problemWithShare_X10_isRebuildable : GoodIn wsX1_problemWithShare wsX10_isRebuildable := goodIn_ca (goodIn_r _ [29, 30, 31, 32, 33, 23, 34, 35, 36, 37, 38, 25, 39, 40, 41, 42, 43, 44, 45, 54, 55, 56] (by decide +kernel) (by decide +kernel)) (goodIn_sub (fun _ h => List.mem_cons_of_mem _ (List.mem_append_right _ h)) (by decide +kernel))
set_option maxRecDepth 20000 in
theorem gX1_problemWithShare_X10_isRebuildable : GoodIn wsX1_problemWithShare (wsV RX1 106 RX10 yX10_isRebuildable wsX10_isRebuildable) := goodIn_app (goodIn_of _ (by decide +kernel)) ggX1_problemWithShare_X10_isRebuildable
theorem dX1_problemWithShare_0 : decode cX1_problemWithShare 0 = .ok (.aload_n 0, 1) := by decide +kernel
theorem dX1_problemWithShare_1 : decode cX1_problemWithShare 1 = .ok (.getfield 12, 3) := by decide +kernel
theorem dX1_problemWithShare_4 : decode cX1_problemWithShare 4 = .ok (.iload_n 2, 1) := by decide +kernel
theorem dX1_problemWithShare_5 : decode cX1_problemWithShare 5 = .ok (.invokevirtual 82, 3) := by decide +kernel
theorem dX1_problemWithShare_8 : decode cX1_problemWithShare 8 = .ok (.ifCond .ne 7, 3) := by decide +kernel
theorem dX1_problemWithShare_11 : decode cX1_problemWithShare 11 = .ok (.getstatic 85, 3) := by decide +kernel
theorem dX1_problemWithShare_14 : decode cX1_problemWithShare 14 = .ok (.areturn, 1) := by decide +kernel
theorem dX1_problemWithShare_15 : decode cX1_problemWithShare 15 = .ok (.aload_n 3, 1) := by decide +kernel
theorem dX1_problemWithShare_16 : decode cX1_problemWithShare 16 = .ok (.ifnonnull 7, 3) := by decide +kernel
theorem dX1_problemWithShare_19 : decode cX1_problemWithShare 19 = .ok (.getstatic 56, 3) := by decide +kernel
theorem dX1_problemWithShare_22 : decode cX1_problemWithShare 22 = .ok (.areturn, 1) := by decide +kernel
theorem dX1_problemWithShare_23 : decode cX1_problemWithShare 23 = .ok (.aload_n 1, 1) := by decide +kernel
theorem dX1_problemWithShare_24 : decode cX1_problemWithShare 24 = .ok (.getstatic 94, 3) := by decide +kernel
theorem dX1_problemWithShare_27 : decode cX1_problemWithShare 27 = .ok (.if_acmp .ne 20, 3) := by decide +kernel
theorem dX1_problemWithShare_30 : decode cX1_problemWithShare 30 = .ok (.iload 4, 2) := by decide +kernel
theorem dX1_problemWithShare_32 : decode cX1_problemWithShare 32 = .ok (.ifCond .eq 11, 3) := by decide +kernel
theorem dX1_problemWithShare_35 : decode cX1_problemWithShare 35 = .ok (.iload 4, 2) := by decide +kernel
theorem dX1_problemWithShare_37 : decode cX1_problemWithShare 37 = .ok (.invokestatic 88, 3) := by decide +kernel
theorem dX1_problemWithShare_40 : decode cX1_problemWithShare 40 = .ok (.ifCond .ne 7, 3) := by decide +kernel
theorem dX1_problemWithShare_43 : decode cX1_problemWithShare 43 = .ok (.getstatic 73, 3) := by decide +kernel
theorem dX1_problemWithShare_46 : decode cX1_problemWithShare 46 = .ok (.areturn, 1) := by decide +kernel
theorem dX1_problemWithShare_47 : decode cX1_problemWithShare 47 = .ok (.aload_n 3, 1) := by decide +kernel
theorem dX1_problemWithShare_48 : decode cX1_problemWithShare 48 = .ok (.iload_n 2, 1) := by decide +kernel
theorem dX1_problemWithShare_49 : decode cX1_problemWithShare 49 = .ok (.invokevirtual 98, 3) := by decide +kernel
theorem dX1_problemWithShare_52 : decode cX1_problemWithShare 52 = .ok (.aload_n 1, 1) := by decide +kernel
theorem dX1_problemWithShare_53 : decode cX1_problemWithShare 53 = .ok (.getstatic 103, 3) := by decide +kernel
theorem dX1_problemWithShare_56 : decode cX1_problemWithShare 56 = .ok (.if_acmp .ne 7, 3) := by decide +kernel
theorem dX1_problemWithShare_59 : decode cX1_problemWithShare 59 = .ok (.iconst 1, 1) := by decide +kernel
theorem dX1_problemWithShare_60 : decode cX1_problemWithShare 60 = .ok (.goto 4, 3) := by decide +kernel
theorem dX1_problemWithShare_63 : decode cX1_problemWithShare 63 = .ok (.iconst 0, 1) := by decide +kernel
theorem dX1_problemWithShare_64 : decode cX1_problemWithShare 64 = .ok (.if_icmp .ne 7, 3) := by decide +kernel
theorem dX1_problemWithShare_67 : decode cX1_problemWithShare 67 = .ok (.getstatic 79, 3) := by decide +kernel
theorem dX1_problemWithShare_70 : decode cX1_problemWithShare 70 = .ok (.areturn, 1) := by decide +kernel
theorem dX1_problemWithShare_71 : decode cX1_problemWithShare 71 = .ok (.aload_n 1, 1) := by decide +kernel
theorem dX1_problemWithShare_72 : decode cX1_problemWithShare 72 = .ok (.getstatic 103, 3) := by decide +kernel
theorem dX1_problemWithShare_75 : decode cX1_problemWithShare 75 = .ok (.if_acmp .ne 16, 3) := by decide +kernel
theorem dX1_problemWithShare_78 : decode cX1_problemWithShare 78 = .ok (.aload_n 3, 1) := by decide +kernel
theorem dX1_problemWithShare_79 : decode cX1_problemWithShare 79 = .ok (.invokevirtual 106, 3) := by decide +kernel
theorem dX1_problemWithShare_82 : decode cX1_problemWithShare 82 = .ok (.ifCond .ne 9, 3) := by decide +kernel
theorem dX1_problemWithShare_85 : decode cX1_problemWithShare 85 = .ok (.getstatic 110, 3) := by decide +kernel
theorem dX1_problemWithShare_88 : decode cX1_problemWithShare 88 = .ok (.goto 6, 3) := by decide +kernel
theorem dX1_problemWithShare_91 : decode cX1_problemWithShare 91 = .ok (.getstatic 62, 3) := by decide +kernel
theorem dX1_problemWithShare_94 : decode cX1_problemWithShare 94 = .ok (.areturn, 1) := by decide +kernel
theorem dX1_isResidue_0 : decode cX1_isResidue 0 = .ok (.iload_n 0, 1) := by decide +kernel
theorem dX1_isResidue_1 : decode cX1_isResidue 1 = .ok (.ifCond .lt 13, 3) := by decide +kernel
theorem dX1_isResidue_4 : decode cX1_isResidue 4 = .ok (.iload_n 0, 1) := by decide +kernel
theorem dX1_isResidue_5 : decode cX1_isResidue 5 = .ok (.bipush 97, 2) := by decide +kernel
theorem dX1_isResidue_7 : decode cX1_isResidue 7 = .ok (.if_icmp .ge 7, 3) := by decide +kernel
theorem dX1_isResidue_10 : decode cX1_isResidue 10 = .ok (.iconst 1, 1) := by decide +kernel
theorem dX1_isResidue_11 : decode cX1_isResidue 11 = .ok (.goto 4, 3) := by decide +kernel
theorem dX1_isResidue_14 : decode cX1_isResidue 14 = .ok (.iconst 0, 1) := by decide +kernel
theorem dX1_isResidue_15 : decode cX1_isResidue 15 = .ok (.ireturn, 1) := by decide +kernel
set_option maxRecDepth 20000 in
theorem ggX1_carryOut_Jx29ce0_ordinal_8abf5 : GoodIn wsX1_carryOut wsJx29ce0_ordinal_8abf5 := goodIn_r _ [8, 9] (by decide +kernel) (by decide +kernel)
set_option maxRecDepth 20000 in
theorem gX1_carryOut_Jx29ce0_ordinal_8abf5_u31X2 : GoodIn wsX1_carryOut (va_wsU RX1 31 RX2 "java/lang/Enum" ⟨"FeatherShares$Deed", "ordinal", "()I"⟩ yJx29ce0_ordinal_8abf5 wsJx29ce0_ordinal_8abf5) := goodIn_app (goodIn_of _ (by decide +kernel)) ggX1_carryOut_Jx29ce0_ordinal_8abf5
set_option maxRecDepth 20000 in
theorem ggX1_carryOut_X11_settle : GoodIn wsX1_carryOut wsX11_settle := goodIn_ca (goodIn_r _ [14, 15, 16, 143, 144, 145, 146, 147, 148] (by decide +kernel) (by decide +kernel)) (goodIn_sub (fun _ h => List.mem_cons_of_mem _ (List.mem_append_right _ h)) (by decide +kernel))
set_option maxRecDepth 20000 in
theorem gX1_carryOut_X11_settle : GoodIn wsX1_carryOut (wsV RX1 113 RX11 yX11_settle wsX11_settle) := goodIn_app (goodIn_of _ (by decide +kernel)) ggX1_carryOut_X11_settle
set_option maxRecDepth 20000 in
theorem ggX1_carryOut_X11_resettle : GoodIn wsX1_carryOut wsX11_resettle := goodIn_ca (goodIn_r _ [20, 16, 21, 22, 23, 13, 24, 143, 144, 145, 146, 147, 148] (by decide +kernel) (by decide +kernel)) (goodIn_sub (fun _ h => List.mem_cons_of_mem _ (List.mem_append_right _ h)) (by decide +kernel))
set_option maxRecDepth 20000 in
theorem gX1_carryOut_X11_resettle : GoodIn wsX1_carryOut (wsV RX1 117 RX11 yX11_resettle wsX11_resettle) := goodIn_app (goodIn_of _ (by decide +kernel)) ggX1_carryOut_X11_resettle
set_option maxRecDepth 20000 in
theorem ggX1_carryOut_X11_open : GoodIn wsX1_carryOut wsX11_open := goodIn_ca (goodIn_r _ [28, 29, 30, 31, 15, 32, 33, 34, 35, 36, 37, 38, 39, 40, 41, 42, 43, 44, 45, 46, 47, 48, 49, 50, 51, 143, 144, 145, 146, 147, 148, 149, 150, 151] (by decide +kernel) (by decide +kernel)) (goodIn_sub (fun _ h => List.mem_cons_of_mem _ (List.mem_append_right _ h)) (by decide +kernel))
set_option maxRecDepth 20000 in
theorem gX1_carryOut_X11_open : GoodIn wsX1_carryOut (wsV RX1 121 RX11 yX11_open wsX11_open) := goodIn_app (goodIn_of _ (by decide +kernel)) ggX1_carryOut_X11_open
set_option maxRecDepth 20000 in
theorem ggX1_carryOut_X11_find : GoodIn wsX1_carryOut wsX11_find := goodIn_r _ [55, 56, 57, 58, 13, 59, 29, 31, 60, 61, 62, 35, 63, 37, 143, 144, 145, 146, 147, 148, 149, 150, 151] (by decide +kernel) (by decide +kernel)
set_option maxRecDepth 20000 in
theorem gX1_carryOut_X11_find : GoodIn wsX1_carryOut (wsV RX1 52 RX11 yX11_find wsX11_find) := goodIn_app (goodIn_of _ (by decide +kernel)) ggX1_carryOut_X11_find
set_option maxRecDepth 20000 in
theorem ggX1_carryOut_X1_refreshed : GoodIn wsX1_carryOut wsX1_refreshed := goodIn_ca (goodIn_r _ [68, 69, 70, 71, 35, 72, 38, 39, 44, 45, 46, 47, 149, 150, 151] (by decide +kernel) (by decide +kernel)) (goodIn_sub (fun _ h => List.mem_cons_of_mem _ (List.mem_append_right _ h)) (by decide +kernel))
set_option maxRecDepth 20000 in
theorem gX1_carryOut_X1_refreshed : GoodIn wsX1_carryOut (wsV RX1 125 RX1 yX1_refreshed wsX1_refreshed) := goodIn_app (goodIn_of _ (by decide +kernel)) ggX1_carryOut_X1_refreshed
set_option maxRecDepth 20000 in
theorem ggX1_carryOut_X1_forgotten : GoodIn wsX1_carryOut wsX1_forgotten := goodIn_ca (goodIn_r _ [76, 2, 77, 78, 79, 13, 80, 29, 31, 81, 82, 83, 35, 84, 85, 86, 87, 88, 39, 89, 90, 91, 92, 93, 94, 95, 141, 142, 143, 144, 145, 146, 147, 148, 149, 150, 151] (by decide +kernel) (by decide +kernel)) (goodIn_sub (fun _ h => List.mem_cons_of_mem _ (List.mem_append_right _ h)) (by decide +kernel))
set_option maxRecDepth 20000 in
theorem gX1_carryOut_X1_forgotten : GoodIn wsX1_carryOut (wsV RX1 129 RX1 yX1_forgotten wsX1_forgotten) := goodIn_app (goodIn_of _ (by decide +kernel)) ggX1_carryOut_X1_forgotten
set_option maxRecDepth 20000 in
theorem ggX1_carryOut_X1_shareChanged : GoodIn wsX1_carryOut wsX1_shareChanged := goodIn_ca (goodIn_r _ [99, 1, 2, 100, 3, 4, 5, 6, 7, 8, 9, 101, 49, 50, 35, 51, 39, 102, 103, 104, 13, 105, 106, 81, 82, 83, 84, 85, 86, 87, 88, 89, 90, 91, 92, 93, 94, 95, 107, 108, 109, 110, 111, 112, 113, 114, 115, 116, 117, 118, 119, 120, 38, 121, 122, 123, 124, 125, 126, 127, 128, 129, 130, 131, 132, 133, 134, 135, 136, 46, 137, 138, 139, 140, 141, 142, 149, 150, 151, 143, 144, 145, 146, 147, 148, 152, 153, 154, 155, 156] (by decide +kernel) (by decide +kernel)) (goodIn_sub (fun _ h => List.mem_cons_of_mem _ (List.mem_append_right _ h)) (by decide +kernel))
set_option maxRecDepth 20000 in
theorem gX1_carryOut_X1_shareChanged : GoodIn wsX1_carryOut (wsV RX1 133 RX1 yX1_shareChanged wsX1_shareChanged) := goodIn_app (goodIn_of _ (by decide +kernel)) ggX1_carryOut_X1_shareChanged
theorem dX1_carryOut_0 : decode cX1_carryOut 0 = .ok (.getstatic 25, 3) := by decide +kernel
theorem dX1_carryOut_3 : decode cX1_carryOut 3 = .ok (.aload_n 1, 1) := by decide +kernel
theorem dX1_carryOut_4 : decode cX1_carryOut 4 = .ok (.invokevirtual 31, 3) := by decide +kernel
theorem dX1_carryOut_7 : decode cX1_carryOut 7 = .ok (.iaload, 1) := by decide +kernel
theorem dX1_carryOut_8 : decode cX1_carryOut 8 = .ok (.tableswitch 94 1 5 #[36, 45, 55, 67, 81], 36) := by decide +kernel
theorem dX1_carryOut_44 : decode cX1_carryOut 44 = .ok (.aload_n 0, 1) := by decide +kernel
theorem dX1_carryOut_45 : decode cX1_carryOut 45 = .ok (.getfield 12, 3) := by decide +kernel
theorem dX1_carryOut_48 : decode cX1_carryOut 48 = .ok (.iload_n 2, 1) := by decide +kernel
theorem dX1_carryOut_49 : decode cX1_carryOut 49 = .ok (.invokevirtual 113, 3) := by decide +kernel
theorem dX1_carryOut_52 : decode cX1_carryOut 52 = .ok (.ireturn, 1) := by decide +kernel
theorem dX1_carryOut_53 : decode cX1_carryOut 53 = .ok (.aload_n 0, 1) := by decide +kernel
theorem dX1_carryOut_54 : decode cX1_carryOut 54 = .ok (.getfield 12, 3) := by decide +kernel
theorem dX1_carryOut_57 : decode cX1_carryOut 57 = .ok (.iload_n 2, 1) := by decide +kernel
theorem dX1_carryOut_58 : decode cX1_carryOut 58 = .ok (.iload_n 3, 1) := by decide +kernel
theorem dX1_carryOut_59 : decode cX1_carryOut 59 = .ok (.invokevirtual 117, 3) := by decide +kernel
theorem dX1_carryOut_62 : decode cX1_carryOut 62 = .ok (.ireturn, 1) := by decide +kernel
theorem dX1_carryOut_63 : decode cX1_carryOut 63 = .ok (.aload_n 0, 1) := by decide +kernel
theorem dX1_carryOut_64 : decode cX1_carryOut 64 = .ok (.getfield 12, 3) := by decide +kernel
theorem dX1_carryOut_67 : decode cX1_carryOut 67 = .ok (.iload_n 2, 1) := by decide +kernel
theorem dX1_carryOut_68 : decode cX1_carryOut 68 = .ok (.iload_n 3, 1) := by decide +kernel
theorem dX1_carryOut_69 : decode cX1_carryOut 69 = .ok (.iload 4, 2) := by decide +kernel
theorem dX1_carryOut_71 : decode cX1_carryOut 71 = .ok (.invokevirtual 121, 3) := by decide +kernel
theorem dX1_carryOut_74 : decode cX1_carryOut 74 = .ok (.ireturn, 1) := by decide +kernel
theorem dX1_carryOut_75 : decode cX1_carryOut 75 = .ok (.aload_n 0, 1) := by decide +kernel
theorem dX1_carryOut_76 : decode cX1_carryOut 76 = .ok (.aload_n 0, 1) := by decide +kernel
theorem dX1_carryOut_77 : decode cX1_carryOut 77 = .ok (.getfield 12, 3) := by decide +kernel
theorem dX1_carryOut_80 : decode cX1_carryOut 80 = .ok (.iload_n 2, 1) := by decide +kernel
theorem dX1_carryOut_81 : decode cX1_carryOut 81 = .ok (.invokevirtual 52, 3) := by decide +kernel
theorem dX1_carryOut_84 : decode cX1_carryOut 84 = .ok (.iload_n 3, 1) := by decide +kernel
theorem dX1_carryOut_85 : decode cX1_carryOut 85 = .ok (.invokevirtual 125, 3) := by decide +kernel
theorem dX1_carryOut_88 : decode cX1_carryOut 88 = .ok (.ireturn, 1) := by decide +kernel
theorem dX1_carryOut_89 : decode cX1_carryOut 89 = .ok (.aload_n 0, 1) := by decide +kernel
theorem dX1_carryOut_90 : decode cX1_carryOut 90 = .ok (.aload_n 0, 1) := by decide +kernel
theorem dX1_carryOut_91 : decode cX1_carryOut 91 = .ok (.getfield 12, 3) := by decide +kernel
theorem dX1_carryOut_94 : decode cX1_carryOut 94 = .ok (.iload_n 2, 1) := by decide +kernel
theorem dX1_carryOut_95 : decode cX1_carryOut 95 = .ok (.invokevirtual 52, 3) := by decide +kernel
theorem dX1_carryOut_98 : decode cX1_carryOut 98 = .ok (.invokevirtual 129, 3) := by decide +kernel
theorem dX1_carryOut_101 : decode cX1_carryOut 101 = .ok (.ireturn, 1) := by decide +kernel
theorem dX1_carryOut_102 : decode cX1_carryOut 102 = .ok (.aload_n 0, 1) := by decide +kernel
theorem dX1_carryOut_103 : decode cX1_carryOut 103 = .ok (.aload_n 1, 1) := by decide +kernel
theorem dX1_carryOut_104 : decode cX1_carryOut 104 = .ok (.iload_n 2, 1) := by decide +kernel
theorem dX1_carryOut_105 : decode cX1_carryOut 105 = .ok (.aload_n 0, 1) := by decide +kernel
theorem dX1_carryOut_106 : decode cX1_carryOut 106 = .ok (.getfield 12, 3) := by decide +kernel
theorem dX1_carryOut_109 : decode cX1_carryOut 109 = .ok (.iload_n 3, 1) := by decide +kernel
theorem dX1_carryOut_110 : decode cX1_carryOut 110 = .ok (.invokevirtual 52, 3) := by decide +kernel
theorem dX1_carryOut_113 : decode cX1_carryOut 113 = .ok (.iload 4, 2) := by decide +kernel
theorem dX1_carryOut_115 : decode cX1_carryOut 115 = .ok (.invokevirtual 133, 3) := by decide +kernel
theorem dX1_carryOut_118 : decode cX1_carryOut 118 = .ok (.ireturn, 1) := by decide +kernel
set_option maxRecDepth 20000 in
theorem ggX1_refreshed_X10_addRefreshing : GoodIn wsX1_refreshed wsX10_addRefreshing := goodIn_ca (goodIn_r _ [5, 6, 7, 8, 9, 10, 11, 12, 13, 14] (by decide +kernel) (by decide +kernel)) (goodIn_sub (fun _ h => List.mem_cons_of_mem _ (List.mem_append_right _ h)) (by decide +kernel))
set_option maxRecDepth 20000 in
theorem gX1_refreshed_X10_addRefreshing : GoodIn wsX1_refreshed (wsV RX1 137 RX10 yX10_addRefreshing wsX10_addRefreshing) := goodIn_app (goodIn_of _ (by decide +kernel)) ggX1_refreshed_X10_addRefreshing
theorem dX1_refreshed_0 : decode cX1_refreshed 0 = .ok (.aload_n 1, 1) := by decide +kernel
theorem dX1_refreshed_1 : decode cX1_refreshed 1 = .ok (.ifnonnull 7, 3) := by decide +kernel
theorem dX1_refreshed_4 : decode cX1_refreshed 4 = .ok (.iconst 0, 1) := by decide +kernel
theorem dX1_refreshed_5 : decode cX1_refreshed 5 = .ok (.goto 8, 3) := by decide +kernel
theorem dX1_refreshed_8 : decode cX1_refreshed 8 = .ok (.aload_n 1, 1) := by decide +kernel
theorem dX1_refreshed_9 : decode cX1_refreshed 9 = .ok (.iload_n 2, 1) := by decide +kernel
theorem dX1_refreshed_10 : decode cX1_refreshed 10 = .ok (.invokevirtual 137, 3) := by decide +kernel
theorem dX1_refreshed_13 : decode cX1_refreshed 13 = .ok (.ireturn, 1) := by decide +kernel
set_option maxRecDepth 20000 in
theorem ggX1_forgotten_X11_close : GoodIn wsX1_forgotten wsX11_close := goodIn_r _ [6, 7, 8, 28, 29, 30, 31, 32, 33] (by decide +kernel) (by decide +kernel)
set_option maxRecDepth 20000 in
theorem gX1_forgotten_X11_close : GoodIn wsX1_forgotten (wsV RX1 140 RX11 yX11_close wsX11_close) := goodIn_app (goodIn_of _ (by decide +kernel)) ggX1_forgotten_X11_close
set_option maxRecDepth 20000 in
theorem ggX1_forgotten_X10_holderTally : GoodIn wsX1_forgotten wsX10_holderTally := goodIn_ca (goodIn_r _ [13, 14, 15, 16, 12, 17, 18, 19, 20, 21, 22, 23, 24, 25, 34, 35, 36] (by decide +kernel) (by decide +kernel)) (goodIn_sub (fun _ h => List.mem_cons_of_mem _ (List.mem_append_right _ h)) (by decide +kernel))
set_option maxRecDepth 20000 in
theorem gX1_forgotten_X10_holderTally : GoodIn wsX1_forgotten (wsV RX1 144 RX10 yX10_holderTally wsX10_holderTally) := goodIn_app (goodIn_of _ (by decide +kernel)) ggX1_forgotten_X10_holderTally
theorem dX1_forgotten_0 : decode cX1_forgotten 0 = .ok (.aload_n 1, 1) := by decide +kernel
theorem dX1_forgotten_1 : decode cX1_forgotten 1 = .ok (.ifnonnull 5, 3) := by decide +kernel
theorem dX1_forgotten_4 : decode cX1_forgotten 4 = .ok (.iconst 0, 1) := by decide +kernel
theorem dX1_forgotten_5 : decode cX1_forgotten 5 = .ok (.ireturn, 1) := by decide +kernel
theorem dX1_forgotten_6 : decode cX1_forgotten 6 = .ok (.aload_n 0, 1) := by decide +kernel
theorem dX1_forgotten_7 : decode cX1_forgotten 7 = .ok (.getfield 12, 3) := by decide +kernel
theorem dX1_forgotten_10 : decode cX1_forgotten 10 = .ok (.aload_n 1, 1) := by decide +kernel
theorem dX1_forgotten_11 : decode cX1_forgotten 11 = .ok (.invokevirtual 140, 3) := by decide +kernel
theorem dX1_forgotten_14 : decode cX1_forgotten 14 = .ok (.aload_n 1, 1) := by decide +kernel
theorem dX1_forgotten_15 : decode cX1_forgotten 15 = .ok (.invokevirtual 144, 3) := by decide +kernel
theorem dX1_forgotten_18 : decode cX1_forgotten 18 = .ok (.ireturn, 1) := by decide +kernel
set_option maxRecDepth 20000 in
theorem ggX1_shareChanged_Jx29ce0_ordinal_8abf5 : GoodIn wsX1_shareChanged wsJx29ce0_ordinal_8abf5 := goodIn_r _ [9, 10] (by decide +kernel) (by decide +kernel)
set_option maxRecDepth 20000 in
theorem gX1_shareChanged_Jx29ce0_ordinal_8abf5_u31X2 : GoodIn wsX1_shareChanged (va_wsU RX1 31 RX2 "java/lang/Enum" ⟨"FeatherShares$Deed", "ordinal", "()I"⟩ yJx29ce0_ordinal_8abf5 wsJx29ce0_ordinal_8abf5) := goodIn_app (goodIn_of _ (by decide +kernel)) ggX1_shareChanged_Jx29ce0_ordinal_8abf5
set_option maxRecDepth 20000 in
theorem ggX1_shareChanged_X10_give : GoodIn wsX1_shareChanged wsX10_give := goodIn_ca (goodIn_r _ [15, 16, 76, 77, 78] (by decide +kernel) (by decide +kernel)) (goodIn_sub (fun _ h => List.mem_cons_of_mem _ (List.mem_append_right _ h)) (by decide +kernel))
set_option maxRecDepth 20000 in
theorem gX1_shareChanged_X10_give : GoodIn wsX1_shareChanged (wsV RX1 147 RX10 yX10_give wsX10_give) := goodIn_app (goodIn_of _ (by decide +kernel)) ggX1_shareChanged_X10_give
set_option maxRecDepth 20000 in
theorem ggX1_shareChanged_X11_countLoss : GoodIn wsX1_shareChanged wsX11_countLoss := goodIn_r _ [21, 22, 79, 80, 81, 82, 83, 84] (by decide +kernel) (by decide +kernel)
set_option maxRecDepth 20000 in
theorem gX1_shareChanged_X11_countLoss : GoodIn wsX1_shareChanged (wsV RX1 151 RX11 yX11_countLoss wsX11_countLoss) := goodIn_app (goodIn_of _ (by decide +kernel)) ggX1_shareChanged_X11_countLoss
set_option maxRecDepth 20000 in
theorem ggX1_shareChanged_X10_holderTally : GoodIn wsX1_shareChanged wsX10_holderTally := goodIn_ca (goodIn_r _ [26, 27, 28, 29, 14, 30, 16, 31, 32, 33, 34, 35, 36, 37, 76, 77, 78] (by decide +kernel) (by decide +kernel)) (goodIn_sub (fun _ h => List.mem_cons_of_mem _ (List.mem_append_right _ h)) (by decide +kernel))
set_option maxRecDepth 20000 in
theorem gX1_shareChanged_X10_holderTally : GoodIn wsX1_shareChanged (wsV RX1 144 RX10 yX10_holderTally wsX10_holderTally) := goodIn_app (goodIn_of _ (by decide +kernel)) ggX1_shareChanged_X10_holderTally
set_option maxRecDepth 20000 in
theorem ggX1_shareChanged_X10_shareWith : GoodIn wsX1_shareChanged wsX10_shareWith := goodIn_ca (goodIn_r _ [41, 16, 76, 77, 78] (by decide +kernel) (by decide +kernel)) (goodIn_sub (fun _ h => List.mem_cons_of_mem _ (List.mem_append_right _ h)) (by decide +kernel))
set_option maxRecDepth 20000 in
theorem gX1_shareChanged_X10_shareWith : GoodIn wsX1_shareChanged (wsV RX1 154 RX10 yX10_shareWith wsX10_shareWith) := goodIn_app (goodIn_of _ (by decide +kernel)) ggX1_shareChanged_X10_shareWith
set_option maxRecDepth 20000 in
theorem ggX1_shareChanged_X8_valueAt : GoodIn wsX1_shareChanged wsX8_valueAt := goodIn_ca (goodIn_r _ [46, 47, 48, 49, 50, 14, 51, 52, 53, 28, 29, 30, 16, 54, 55, 56, 57, 58, 59, 60, 61, 62, 39, 40, 41, 63, 64, 65, 66, 67, 68, 69, 70, 71, 72, 73, 85, 86, 76, 77, 78, 87, 88, 89] (by decide +kernel) (by decide +kernel)) (goodIn_sub (fun _ h => List.mem_cons_of_mem _ (List.mem_append_right _ h)) (by decide +kernel))
set_option maxRecDepth 20000 in
theorem gX1_shareChanged_X8_valueAt : GoodIn wsX1_shareChanged (wsV RX1 157 RX8 yX8_valueAt wsX8_valueAt) := goodIn_app (goodIn_of _ (by decide +kernel)) ggX1_shareChanged_X8_valueAt
theorem dX1_shareChanged_0 : decode cX1_shareChanged 0 = .ok (.aload_n 3, 1) := by decide +kernel
theorem dX1_shareChanged_1 : decode cX1_shareChanged 1 = .ok (.ifnonnull 5, 3) := by decide +kernel
theorem dX1_shareChanged_4 : decode cX1_shareChanged 4 = .ok (.iconst 0, 1) := by decide +kernel
theorem dX1_shareChanged_5 : decode cX1_shareChanged 5 = .ok (.ireturn, 1) := by decide +kernel
theorem dX1_shareChanged_6 : decode cX1_shareChanged 6 = .ok (.getstatic 25, 3) := by decide +kernel
theorem dX1_shareChanged_9 : decode cX1_shareChanged 9 = .ok (.aload_n 1, 1) := by decide +kernel
theorem dX1_shareChanged_10 : decode cX1_shareChanged 10 = .ok (.invokevirtual 31, 3) := by decide +kernel
theorem dX1_shareChanged_13 : decode cX1_shareChanged 13 = .ok (.iaload, 1) := by decide +kernel
theorem dX1_shareChanged_14 : decode cX1_shareChanged 14 = .ok (.lookupswitch 66 #[(6, 26), (7, 44)], 26) := by decide +kernel
theorem dX1_shareChanged_40 : decode cX1_shareChanged 40 = .ok (.aload_n 3, 1) := by decide +kernel
theorem dX1_shareChanged_41 : decode cX1_shareChanged 41 = .ok (.iload_n 2, 1) := by decide +kernel
theorem dX1_shareChanged_42 : decode cX1_shareChanged 42 = .ok (.iconst (-1), 1) := by decide +kernel
theorem dX1_shareChanged_43 : decode cX1_shareChanged 43 = .ok (.invokevirtual 147, 3) := by decide +kernel
theorem dX1_shareChanged_46 : decode cX1_shareChanged 46 = .ok (.aload_n 0, 1) := by decide +kernel
theorem dX1_shareChanged_47 : decode cX1_shareChanged 47 = .ok (.getfield 12, 3) := by decide +kernel
theorem dX1_shareChanged_50 : decode cX1_shareChanged 50 = .ok (.invokevirtual 151, 3) := by decide +kernel
theorem dX1_shareChanged_53 : decode cX1_shareChanged 53 = .ok (.aload_n 3, 1) := by decide +kernel
theorem dX1_shareChanged_54 : decode cX1_shareChanged 54 = .ok (.invokevirtual 144, 3) := by decide +kernel
theorem dX1_shareChanged_57 : decode cX1_shareChanged 57 = .ok (.ireturn, 1) := by decide +kernel
theorem dX1_shareChanged_58 : decode cX1_shareChanged 58 = .ok (.aload_n 3, 1) := by decide +kernel
theorem dX1_shareChanged_59 : decode cX1_shareChanged 59 = .ok (.iload_n 2, 1) := by decide +kernel
theorem dX1_shareChanged_60 : decode cX1_shareChanged 60 = .ok (.aload_n 3, 1) := by decide +kernel
theorem dX1_shareChanged_61 : decode cX1_shareChanged 61 = .ok (.iload_n 2, 1) := by decide +kernel
theorem dX1_shareChanged_62 : decode cX1_shareChanged 62 = .ok (.invokevirtual 154, 3) := by decide +kernel
theorem dX1_shareChanged_65 : decode cX1_shareChanged 65 = .ok (.iload 4, 2) := by decide +kernel
theorem dX1_shareChanged_67 : decode cX1_shareChanged 67 = .ok (.iadd, 1) := by decide +kernel
theorem dX1_shareChanged_68 : decode cX1_shareChanged 68 = .ok (.bipush 97, 2) := by decide +kernel
theorem dX1_shareChanged_70 : decode cX1_shareChanged 70 = .ok (.irem, 1) := by decide +kernel
theorem dX1_shareChanged_71 : decode cX1_shareChanged 71 = .ok (.invokevirtual 147, 3) := by decide +kernel
theorem dX1_shareChanged_74 : decode cX1_shareChanged 74 = .ok (.aload_n 3, 1) := by decide +kernel
theorem dX1_shareChanged_75 : decode cX1_shareChanged 75 = .ok (.iload_n 2, 1) := by decide +kernel
theorem dX1_shareChanged_76 : decode cX1_shareChanged 76 = .ok (.invokevirtual 154, 3) := by decide +kernel
theorem dX1_shareChanged_79 : decode cX1_shareChanged 79 = .ok (.ireturn, 1) := by decide +kernel
theorem dX1_shareChanged_80 : decode cX1_shareChanged 80 = .ok (.aload_n 3, 1) := by decide +kernel
theorem dX1_shareChanged_81 : decode cX1_shareChanged 81 = .ok (.iload_n 2, 1) := by decide +kernel
theorem dX1_shareChanged_82 : decode cX1_shareChanged 82 = .ok (.aload_n 0, 1) := by decide +kernel
theorem dX1_shareChanged_83 : decode cX1_shareChanged 83 = .ok (.getfield 21, 3) := by decide +kernel
theorem dX1_shareChanged_86 : decode cX1_shareChanged 86 = .ok (.aload_n 3, 1) := by decide +kernel
theorem dX1_shareChanged_87 : decode cX1_shareChanged 87 = .ok (.iload_n 2, 1) := by decide +kernel
theorem dX1_shareChanged_88 : decode cX1_shareChanged 88 = .ok (.iconst 1, 1) := by decide +kernel
theorem dX1_shareChanged_89 : decode cX1_shareChanged 89 = .ok (.iadd, 1) := by decide +kernel
theorem dX1_shareChanged_90 : decode cX1_shareChanged 90 = .ok (.invokevirtual 157, 3) := by decide +kernel
theorem dX1_shareChanged_93 : decode cX1_shareChanged 93 = .ok (.invokevirtual 147, 3) := by decide +kernel
theorem dX1_shareChanged_96 : decode cX1_shareChanged 96 = .ok (.aload_n 3, 1) := by decide +kernel
theorem dX1_shareChanged_97 : decode cX1_shareChanged 97 = .ok (.iload_n 2, 1) := by decide +kernel
theorem dX1_shareChanged_98 : decode cX1_shareChanged 98 = .ok (.invokevirtual 154, 3) := by decide +kernel
theorem dX1_shareChanged_101 : decode cX1_shareChanged 101 = .ok (.ireturn, 1) := by decide +kernel
theorem dX2_commandForm_0 : decode cX2_commandForm 0 = .ok (.aload_n 0, 1) := by decide +kernel
theorem dX2_commandForm_1 : decode cX2_commandForm 1 = .ok (.getfield 47, 3) := by decide +kernel
theorem dX2_commandForm_4 : decode cX2_commandForm 4 = .ok (.areturn, 1) := by decide +kernel
theorem dX3_init_0 : decode cX3_init 0 = .ok (.aload_n 0, 1) := by decide +kernel
theorem dX3_init_1 : decode cX3_init 1 = .ok (.invokespecial 3, 3) := by decide +kernel
theorem dX3_init_4 : decode cX3_init 4 = .ok (.aload_n 0, 1) := by decide +kernel
theorem dX3_init_5 : decode cX3_init 5 = .ok (.iconst 4, 1) := by decide +kernel
theorem dX3_init_6 : decode cX3_init 6 = .ok (.iconst 5, 1) := by decide +kernel
theorem dX3_init_7 : decode cX3_init 7 = .ok (.multianewarray 9 2, 4) := by decide +kernel
theorem dX3_init_11 : decode cX3_init 11 = .ok (.putfield 11, 3) := by decide +kernel
theorem dX3_init_14 : decode cX3_init 14 = .ok (.aload_n 0, 1) := by decide +kernel
theorem dX3_init_15 : decode cX3_init 15 = .ok (.iconst 4, 1) := by decide +kernel
theorem dX3_init_16 : decode cX3_init 16 = .ok (.newarray .boolean, 2) := by decide +kernel
theorem dX3_init_18 : decode cX3_init 18 = .ok (.putfield 16, 3) := by decide +kernel
theorem dX3_init_21 : decode cX3_init 21 = .ok (.aload_n 0, 1) := by decide +kernel
theorem dX3_init_22 : decode cX3_init 22 = .ok (.iconst 5, 1) := by decide +kernel
theorem dX3_init_23 : decode cX3_init 23 = .ok (.newarray .int, 2) := by decide +kernel
theorem dX3_init_25 : decode cX3_init 25 = .ok (.putfield 20, 3) := by decide +kernel
theorem dX3_init_28 : decode cX3_init 28 = .ok (.aload_n 0, 1) := by decide +kernel
theorem dX3_init_29 : decode cX3_init 29 = .ok (.iconst 4, 1) := by decide +kernel
theorem dX3_init_30 : decode cX3_init 30 = .ok (.newarray .int, 2) := by decide +kernel
theorem dX3_init_32 : decode cX3_init 32 = .ok (.putfield 24, 3) := by decide +kernel
theorem dX3_init_35 : decode cX3_init 35 = .ok (.return_, 1) := by decide +kernel
theorem dX3_begin_0 : decode cX3_begin 0 = .ok (.aload_n 0, 1) := by decide +kernel
theorem dX3_begin_1 : decode cX3_begin 1 = .ok (.iload_n 1, 1) := by decide +kernel
theorem dX3_begin_2 : decode cX3_begin 2 = .ok (.iconst 0, 1) := by decide +kernel
theorem dX3_begin_3 : decode cX3_begin 3 = .ok (.invokestatic 27, 3) := by decide +kernel
theorem dX3_begin_6 : decode cX3_begin 6 = .ok (.iconst 4, 1) := by decide +kernel
theorem dX3_begin_7 : decode cX3_begin 7 = .ok (.invokestatic 33, 3) := by decide +kernel
theorem dX3_begin_10 : decode cX3_begin 10 = .ok (.putfield 36, 3) := by decide +kernel
theorem dX3_begin_13 : decode cX3_begin 13 = .ok (.iconst 0, 1) := by decide +kernel
theorem dX3_begin_14 : decode cX3_begin 14 = .ok (.istore_n 2, 1) := by decide +kernel
theorem dX3_begin_15 : decode cX3_begin 15 = .ok (.iload_n 2, 1) := by decide +kernel
theorem dX3_begin_16 : decode cX3_begin 16 = .ok (.iconst 4, 1) := by decide +kernel
theorem dX3_begin_17 : decode cX3_begin 17 = .ok (.if_icmp .ge 16, 3) := by decide +kernel
theorem dX3_begin_20 : decode cX3_begin 20 = .ok (.aload_n 0, 1) := by decide +kernel
theorem dX3_begin_21 : decode cX3_begin 21 = .ok (.getfield 16, 3) := by decide +kernel
theorem dX3_begin_24 : decode cX3_begin 24 = .ok (.iload_n 2, 1) := by decide +kernel
theorem dX3_begin_25 : decode cX3_begin 25 = .ok (.iconst 0, 1) := by decide +kernel
theorem dX3_begin_26 : decode cX3_begin 26 = .ok (.bastore, 1) := by decide +kernel
theorem dX3_begin_27 : decode cX3_begin 27 = .ok (.iinc 2 1, 3) := by decide +kernel
theorem dX3_begin_30 : decode cX3_begin 30 = .ok (.goto (-15), 3) := by decide +kernel
theorem dX3_begin_33 : decode cX3_begin 33 = .ok (.return_, 1) := by decide +kernel
set_option maxRecDepth 20000 in
theorem ggX3_take_X3_leadWithFresh : GoodIn wsX3_take wsX3_leadWithFresh := goodIn_ca (goodIn_r _ [8, 2, 1, 9, 3, 10, 11, 12, 13, 21, 22, 23, 24, 25] (by decide +kernel) (by decide +kernel)) (goodIn_sub (fun _ h => List.mem_cons_of_mem _ (List.mem_append_right _ h)) (by decide +kernel))
set_option maxRecDepth 20000 in
theorem gX3_take_X3_leadWithFresh : GoodIn wsX3_take (wsV RX3 40 RX3 yX3_leadWithFresh wsX3_leadWithFresh) := goodIn_app (goodIn_of _ (by decide +kernel)) ggX3_take_X3_leadWithFresh
set_option maxRecDepth 20000 in
theorem ggX3_take_X3_clearFresh : GoodIn wsX3_take wsX3_clearFresh := goodIn_ca (goodIn_r _ [17, 2, 1, 9, 18, 19, 12, 20, 21, 22, 23, 24, 25] (by decide +kernel) (by decide +kernel)) (goodIn_sub (fun _ h => List.mem_cons_of_mem _ (List.mem_append_right _ h)) (by decide +kernel))
set_option maxRecDepth 20000 in
theorem gX3_take_X3_clearFresh : GoodIn wsX3_take (wsV RX3 44 RX3 yX3_clearFresh wsX3_clearFresh) := goodIn_app (goodIn_of _ (by decide +kernel)) ggX3_take_X3_clearFresh
theorem dX3_take_0 : decode cX3_take 0 = .ok (.iconst 1, 1) := by decide +kernel
theorem dX3_take_1 : decode cX3_take 1 = .ok (.istore_n 3, 1) := by decide +kernel
theorem dX3_take_2 : decode cX3_take 2 = .ok (.iconst 0, 1) := by decide +kernel
theorem dX3_take_3 : decode cX3_take 3 = .ok (.istore 4, 2) := by decide +kernel
theorem dX3_take_5 : decode cX3_take 5 = .ok (.iload 4, 2) := by decide +kernel
theorem dX3_take_7 : decode cX3_take 7 = .ok (.aload_n 0, 1) := by decide +kernel
theorem dX3_take_8 : decode cX3_take 8 = .ok (.getfield 36, 3) := by decide +kernel
theorem dX3_take_11 : decode cX3_take 11 = .ok (.if_icmp .ge 24, 3) := by decide +kernel
theorem dX3_take_14 : decode cX3_take 14 = .ok (.aload_n 0, 1) := by decide +kernel
theorem dX3_take_15 : decode cX3_take 15 = .ok (.getfield 20, 3) := by decide +kernel
theorem dX3_take_18 : decode cX3_take 18 = .ok (.iload 4, 2) := by decide +kernel
theorem dX3_take_20 : decode cX3_take 20 = .ok (.iload_n 3, 1) := by decide +kernel
theorem dX3_take_21 : decode cX3_take 21 = .ok (.iastore, 1) := by decide +kernel
theorem dX3_take_22 : decode cX3_take 22 = .ok (.iload_n 3, 1) := by decide +kernel
theorem dX3_take_23 : decode cX3_take 23 = .ok (.iload_n 1, 1) := by decide +kernel
theorem dX3_take_24 : decode cX3_take 24 = .ok (.imul, 1) := by decide +kernel
theorem dX3_take_25 : decode cX3_take 25 = .ok (.bipush 97, 2) := by decide +kernel
theorem dX3_take_27 : decode cX3_take 27 = .ok (.irem, 1) := by decide +kernel
theorem dX3_take_28 : decode cX3_take 28 = .ok (.istore_n 3, 1) := by decide +kernel
theorem dX3_take_29 : decode cX3_take 29 = .ok (.iinc 4 1, 3) := by decide +kernel
theorem dX3_take_32 : decode cX3_take 32 = .ok (.goto (-27), 3) := by decide +kernel
theorem dX3_take_35 : decode cX3_take 35 = .ok (.aload_n 0, 1) := by decide +kernel
theorem dX3_take_36 : decode cX3_take 36 = .ok (.getfield 20, 3) := by decide +kernel
theorem dX3_take_39 : decode cX3_take 39 = .ok (.aload_n 0, 1) := by decide +kernel
theorem dX3_take_40 : decode cX3_take 40 = .ok (.getfield 36, 3) := by decide +kernel
theorem dX3_take_43 : decode cX3_take 43 = .ok (.iload_n 2, 1) := by decide +kernel
theorem dX3_take_44 : decode cX3_take 44 = .ok (.iastore, 1) := by decide +kernel
theorem dX3_take_45 : decode cX3_take 45 = .ok (.iconst 0, 1) := by decide +kernel
theorem dX3_take_46 : decode cX3_take 46 = .ok (.istore 4, 2) := by decide +kernel
theorem dX3_take_48 : decode cX3_take 48 = .ok (.iload 4, 2) := by decide +kernel
theorem dX3_take_50 : decode cX3_take 50 = .ok (.aload_n 0, 1) := by decide +kernel
theorem dX3_take_51 : decode cX3_take 51 = .ok (.getfield 36, 3) := by decide +kernel
theorem dX3_take_54 : decode cX3_take 54 = .ok (.if_icmp .ge 43, 3) := by decide +kernel
theorem dX3_take_57 : decode cX3_take 57 = .ok (.aload_n 0, 1) := by decide +kernel
theorem dX3_take_58 : decode cX3_take 58 = .ok (.getfield 20, 3) := by decide +kernel
theorem dX3_take_61 : decode cX3_take 61 = .ok (.iload 4, 2) := by decide +kernel
theorem dX3_take_63 : decode cX3_take 63 = .ok (.iaload, 1) := by decide +kernel
theorem dX3_take_64 : decode cX3_take 64 = .ok (.ifCond .eq 27, 3) := by decide +kernel
theorem dX3_take_67 : decode cX3_take 67 = .ok (.aload_n 0, 1) := by decide +kernel
theorem dX3_take_68 : decode cX3_take 68 = .ok (.getfield 16, 3) := by decide +kernel
theorem dX3_take_71 : decode cX3_take 71 = .ok (.iload 4, 2) := by decide +kernel
theorem dX3_take_73 : decode cX3_take 73 = .ok (.baload, 1) := by decide +kernel
theorem dX3_take_74 : decode cX3_take 74 = .ok (.ifCond .ne 11, 3) := by decide +kernel
theorem dX3_take_77 : decode cX3_take 77 = .ok (.aload_n 0, 1) := by decide +kernel
theorem dX3_take_78 : decode cX3_take 78 = .ok (.iload 4, 2) := by decide +kernel
theorem dX3_take_80 : decode cX3_take 80 = .ok (.invokevirtual 40, 3) := by decide +kernel
theorem dX3_take_83 : decode cX3_take 83 = .ok (.iconst 1, 1) := by decide +kernel
theorem dX3_take_84 : decode cX3_take 84 = .ok (.ireturn, 1) := by decide +kernel
theorem dX3_take_85 : decode cX3_take 85 = .ok (.aload_n 0, 1) := by decide +kernel
theorem dX3_take_86 : decode cX3_take 86 = .ok (.iload 4, 2) := by decide +kernel
theorem dX3_take_88 : decode cX3_take 88 = .ok (.invokevirtual 44, 3) := by decide +kernel
theorem dX3_take_91 : decode cX3_take 91 = .ok (.iinc 4 1, 3) := by decide +kernel
theorem dX3_take_94 : decode cX3_take 94 = .ok (.goto (-46), 3) := by decide +kernel
theorem dX3_take_97 : decode cX3_take 97 = .ok (.aload_n 0, 1) := by decide +kernel
theorem dX3_take_98 : decode cX3_take 98 = .ok (.getfield 20, 3) := by decide +kernel
theorem dX3_take_101 : decode cX3_take 101 = .ok (.aload_n 0, 1) := by decide +kernel
theorem dX3_take_102 : decode cX3_take 102 = .ok (.getfield 36, 3) := by decide +kernel
theorem dX3_take_105 : decode cX3_take 105 = .ok (.iaload, 1) := by decide +kernel
theorem dX3_take_106 : decode cX3_take 106 = .ok (.ifCond .ne 7, 3) := by decide +kernel
theorem dX3_take_109 : decode cX3_take 109 = .ok (.iconst 1, 1) := by decide +kernel
theorem dX3_take_110 : decode cX3_take 110 = .ok (.goto 4, 3) := by decide +kernel
theorem dX3_take_113 : decode cX3_take 113 = .ok (.iconst 0, 1) := by decide +kernel
theorem dX3_take_114 : decode cX3_take 114 = .ok (.ireturn, 1) := by decide +kernel
set_option maxRecDepth 20000 in
theorem ggX3_leadWithFresh_X9_inverseOf : GoodIn wsX3_leadWithFresh wsX9_inverseOf := goodIn_r _ [8] (by decide +kernel) (by decide +kernel)
set_option maxRecDepth 20000 in
theorem gX3_leadWithFresh_X9_inverseOf : GoodIn wsX3_leadWithFresh (va_wsS RX3 47 yX9_inverseOf wsX9_inverseOf) := goodIn_app (goodIn_of _ (by decide +kernel)) ggX3_leadWithFresh_X9_inverseOf
theorem dX3_leadWithFresh_0 : decode cX3_leadWithFresh 0 = .ok (.aload_n 0, 1) := by decide +kernel
theorem dX3_leadWithFresh_1 : decode cX3_leadWithFresh 1 = .ok (.getfield 20, 3) := by decide +kernel
theorem dX3_leadWithFresh_4 : decode cX3_leadWithFresh 4 = .ok (.iload_n 1, 1) := by decide +kernel
theorem dX3_leadWithFresh_5 : decode cX3_leadWithFresh 5 = .ok (.iaload, 1) := by decide +kernel
theorem dX3_leadWithFresh_6 : decode cX3_leadWithFresh 6 = .ok (.invokestatic 47, 3) := by decide +kernel
theorem dX3_leadWithFresh_9 : decode cX3_leadWithFresh 9 = .ok (.istore_n 2, 1) := by decide +kernel
theorem dX3_leadWithFresh_10 : decode cX3_leadWithFresh 10 = .ok (.iconst 0, 1) := by decide +kernel
theorem dX3_leadWithFresh_11 : decode cX3_leadWithFresh 11 = .ok (.istore_n 3, 1) := by decide +kernel
theorem dX3_leadWithFresh_12 : decode cX3_leadWithFresh 12 = .ok (.iload_n 3, 1) := by decide +kernel
theorem dX3_leadWithFresh_13 : decode cX3_leadWithFresh 13 = .ok (.aload_n 0, 1) := by decide +kernel
theorem dX3_leadWithFresh_14 : decode cX3_leadWithFresh 14 = .ok (.getfield 36, 3) := by decide +kernel
theorem dX3_leadWithFresh_17 : decode cX3_leadWithFresh 17 = .ok (.if_icmp .gt 28, 3) := by decide +kernel
theorem dX3_leadWithFresh_20 : decode cX3_leadWithFresh 20 = .ok (.aload_n 0, 1) := by decide +kernel
theorem dX3_leadWithFresh_21 : decode cX3_leadWithFresh 21 = .ok (.getfield 11, 3) := by decide +kernel
theorem dX3_leadWithFresh_24 : decode cX3_leadWithFresh 24 = .ok (.iload_n 1, 1) := by decide +kernel
theorem dX3_leadWithFresh_25 : decode cX3_leadWithFresh 25 = .ok (.aaload, 1) := by decide +kernel
theorem dX3_leadWithFresh_26 : decode cX3_leadWithFresh 26 = .ok (.iload_n 3, 1) := by decide +kernel
theorem dX3_leadWithFresh_27 : decode cX3_leadWithFresh 27 = .ok (.aload_n 0, 1) := by decide +kernel
theorem dX3_leadWithFresh_28 : decode cX3_leadWithFresh 28 = .ok (.getfield 20, 3) := by decide +kernel
theorem dX3_leadWithFresh_31 : decode cX3_leadWithFresh 31 = .ok (.iload_n 3, 1) := by decide +kernel
theorem dX3_leadWithFresh_32 : decode cX3_leadWithFresh 32 = .ok (.iaload, 1) := by decide +kernel
theorem dX3_leadWithFresh_33 : decode cX3_leadWithFresh 33 = .ok (.iload_n 2, 1) := by decide +kernel
theorem dX3_leadWithFresh_34 : decode cX3_leadWithFresh 34 = .ok (.imul, 1) := by decide +kernel
theorem dX3_leadWithFresh_35 : decode cX3_leadWithFresh 35 = .ok (.bipush 97, 2) := by decide +kernel
theorem dX3_leadWithFresh_37 : decode cX3_leadWithFresh 37 = .ok (.irem, 1) := by decide +kernel
theorem dX3_leadWithFresh_38 : decode cX3_leadWithFresh 38 = .ok (.iastore, 1) := by decide +kernel
theorem dX3_leadWithFresh_39 : decode cX3_leadWithFresh 39 = .ok (.iinc 3 1, 3) := by decide +kernel
theorem dX3_leadWithFresh_42 : decode cX3_leadWithFresh 42 = .ok (.goto (-30), 3) := by decide +kernel
theorem dX3_leadWithFresh_45 : decode cX3_leadWithFresh 45 = .ok (.aload_n 0, 1) := by decide +kernel
theorem dX3_leadWithFresh_46 : decode cX3_leadWithFresh 46 = .ok (.getfield 16, 3) := by decide +kernel
theorem dX3_leadWithFresh_49 : decode cX3_leadWithFresh 49 = .ok (.iload_n 1, 1) := by decide +kernel
theorem dX3_leadWithFresh_50 : decode cX3_leadWithFresh 50 = .ok (.iconst 1, 1) := by decide +kernel
theorem dX3_leadWithFresh_51 : decode cX3_leadWithFresh 51 = .ok (.bastore, 1) := by decide +kernel
theorem dX3_leadWithFresh_52 : decode cX3_leadWithFresh 52 = .ok (.return_, 1) := by decide +kernel
set_option maxRecDepth 20000 in
theorem ggX3_clearFresh_X9_difference : GoodIn wsX3_clearFresh wsX9_difference := goodIn_r _ [7] (by decide +kernel) (by decide +kernel)
set_option maxRecDepth 20000 in
theorem gX3_clearFresh_X9_difference : GoodIn wsX3_clearFresh (va_wsS RX3 53 yX9_difference wsX9_difference) := goodIn_app (goodIn_of _ (by decide +kernel)) ggX3_clearFresh_X9_difference
theorem dX3_clearFresh_0 : decode cX3_clearFresh 0 = .ok (.aload_n 0, 1) := by decide +kernel
theorem dX3_clearFresh_1 : decode cX3_clearFresh 1 = .ok (.getfield 20, 3) := by decide +kernel
theorem dX3_clearFresh_4 : decode cX3_clearFresh 4 = .ok (.iload_n 1, 1) := by decide +kernel
theorem dX3_clearFresh_5 : decode cX3_clearFresh 5 = .ok (.iaload, 1) := by decide +kernel
theorem dX3_clearFresh_6 : decode cX3_clearFresh 6 = .ok (.istore_n 2, 1) := by decide +kernel
theorem dX3_clearFresh_7 : decode cX3_clearFresh 7 = .ok (.iload_n 1, 1) := by decide +kernel
theorem dX3_clearFresh_8 : decode cX3_clearFresh 8 = .ok (.istore_n 3, 1) := by decide +kernel
theorem dX3_clearFresh_9 : decode cX3_clearFresh 9 = .ok (.iload_n 3, 1) := by decide +kernel
theorem dX3_clearFresh_10 : decode cX3_clearFresh 10 = .ok (.aload_n 0, 1) := by decide +kernel
theorem dX3_clearFresh_11 : decode cX3_clearFresh 11 = .ok (.getfield 36, 3) := by decide +kernel
theorem dX3_clearFresh_14 : decode cX3_clearFresh 14 = .ok (.if_icmp .gt 34, 3) := by decide +kernel
theorem dX3_clearFresh_17 : decode cX3_clearFresh 17 = .ok (.aload_n 0, 1) := by decide +kernel
theorem dX3_clearFresh_18 : decode cX3_clearFresh 18 = .ok (.getfield 20, 3) := by decide +kernel
theorem dX3_clearFresh_21 : decode cX3_clearFresh 21 = .ok (.iload_n 3, 1) := by decide +kernel
theorem dX3_clearFresh_22 : decode cX3_clearFresh 22 = .ok (.aload_n 0, 1) := by decide +kernel
theorem dX3_clearFresh_23 : decode cX3_clearFresh 23 = .ok (.getfield 20, 3) := by decide +kernel
theorem dX3_clearFresh_26 : decode cX3_clearFresh 26 = .ok (.iload_n 3, 1) := by decide +kernel
theorem dX3_clearFresh_27 : decode cX3_clearFresh 27 = .ok (.iaload, 1) := by decide +kernel
theorem dX3_clearFresh_28 : decode cX3_clearFresh 28 = .ok (.iload_n 2, 1) := by decide +kernel
theorem dX3_clearFresh_29 : decode cX3_clearFresh 29 = .ok (.aload_n 0, 1) := by decide +kernel
theorem dX3_clearFresh_30 : decode cX3_clearFresh 30 = .ok (.getfield 11, 3) := by decide +kernel
theorem dX3_clearFresh_33 : decode cX3_clearFresh 33 = .ok (.iload_n 1, 1) := by decide +kernel
theorem dX3_clearFresh_34 : decode cX3_clearFresh 34 = .ok (.aaload, 1) := by decide +kernel
theorem dX3_clearFresh_35 : decode cX3_clearFresh 35 = .ok (.iload_n 3, 1) := by decide +kernel
theorem dX3_clearFresh_36 : decode cX3_clearFresh 36 = .ok (.iaload, 1) := by decide +kernel
theorem dX3_clearFresh_37 : decode cX3_clearFresh 37 = .ok (.imul, 1) := by decide +kernel
theorem dX3_clearFresh_38 : decode cX3_clearFresh 38 = .ok (.invokestatic 53, 3) := by decide +kernel
theorem dX3_clearFresh_41 : decode cX3_clearFresh 41 = .ok (.iastore, 1) := by decide +kernel
theorem dX3_clearFresh_42 : decode cX3_clearFresh 42 = .ok (.iinc 3 1, 3) := by decide +kernel
theorem dX3_clearFresh_45 : decode cX3_clearFresh 45 = .ok (.goto (-36), 3) := by decide +kernel
theorem dX3_clearFresh_48 : decode cX3_clearFresh 48 = .ok (.return_, 1) := by decide +kernel
set_option maxRecDepth 20000 in
theorem ggX3_constant_X9_difference : GoodIn wsX3_constant wsX9_difference := goodIn_r _ [7] (by decide +kernel) (by decide +kernel)
set_option maxRecDepth 20000 in
theorem gX3_constant_X9_difference : GoodIn wsX3_constant (va_wsS RX3 53 yX9_difference wsX9_difference) := goodIn_app (goodIn_of _ (by decide +kernel)) ggX3_constant_X9_difference
theorem dX3_constant_0 : decode cX3_constant 0 = .ok (.aload_n 0, 1) := by decide +kernel
theorem dX3_constant_1 : decode cX3_constant 1 = .ok (.getfield 36, 3) := by decide +kernel
theorem dX3_constant_4 : decode cX3_constant 4 = .ok (.iconst 1, 1) := by decide +kernel
theorem dX3_constant_5 : decode cX3_constant 5 = .ok (.isub, 1) := by decide +kernel
theorem dX3_constant_6 : decode cX3_constant 6 = .ok (.istore_n 1, 1) := by decide +kernel
theorem dX3_constant_7 : decode cX3_constant 7 = .ok (.iload_n 1, 1) := by decide +kernel
theorem dX3_constant_8 : decode cX3_constant 8 = .ok (.ifCond .lt 66, 3) := by decide +kernel
theorem dX3_constant_11 : decode cX3_constant 11 = .ok (.aload_n 0, 1) := by decide +kernel
theorem dX3_constant_12 : decode cX3_constant 12 = .ok (.getfield 11, 3) := by decide +kernel
theorem dX3_constant_15 : decode cX3_constant 15 = .ok (.iload_n 1, 1) := by decide +kernel
theorem dX3_constant_16 : decode cX3_constant 16 = .ok (.aaload, 1) := by decide +kernel
theorem dX3_constant_17 : decode cX3_constant 17 = .ok (.aload_n 0, 1) := by decide +kernel
theorem dX3_constant_18 : decode cX3_constant 18 = .ok (.getfield 36, 3) := by decide +kernel
theorem dX3_constant_21 : decode cX3_constant 21 = .ok (.iaload, 1) := by decide +kernel
theorem dX3_constant_22 : decode cX3_constant 22 = .ok (.istore_n 2, 1) := by decide +kernel
theorem dX3_constant_23 : decode cX3_constant 23 = .ok (.iload_n 1, 1) := by decide +kernel
theorem dX3_constant_24 : decode cX3_constant 24 = .ok (.iconst 1, 1) := by decide +kernel
theorem dX3_constant_25 : decode cX3_constant 25 = .ok (.iadd, 1) := by decide +kernel
theorem dX3_constant_26 : decode cX3_constant 26 = .ok (.istore_n 3, 1) := by decide +kernel
theorem dX3_constant_27 : decode cX3_constant 27 = .ok (.iload_n 3, 1) := by decide +kernel
theorem dX3_constant_28 : decode cX3_constant 28 = .ok (.aload_n 0, 1) := by decide +kernel
theorem dX3_constant_29 : decode cX3_constant 29 = .ok (.getfield 36, 3) := by decide +kernel
theorem dX3_constant_32 : decode cX3_constant 32 = .ok (.if_icmp .ge 29, 3) := by decide +kernel
theorem dX3_constant_35 : decode cX3_constant 35 = .ok (.iload_n 2, 1) := by decide +kernel
theorem dX3_constant_36 : decode cX3_constant 36 = .ok (.aload_n 0, 1) := by decide +kernel
theorem dX3_constant_37 : decode cX3_constant 37 = .ok (.getfield 11, 3) := by decide +kernel
theorem dX3_constant_40 : decode cX3_constant 40 = .ok (.iload_n 1, 1) := by decide +kernel
theorem dX3_constant_41 : decode cX3_constant 41 = .ok (.aaload, 1) := by decide +kernel
theorem dX3_constant_42 : decode cX3_constant 42 = .ok (.iload_n 3, 1) := by decide +kernel
theorem dX3_constant_43 : decode cX3_constant 43 = .ok (.iaload, 1) := by decide +kernel
theorem dX3_constant_44 : decode cX3_constant 44 = .ok (.aload_n 0, 1) := by decide +kernel
theorem dX3_constant_45 : decode cX3_constant 45 = .ok (.getfield 24, 3) := by decide +kernel
theorem dX3_constant_48 : decode cX3_constant 48 = .ok (.iload_n 3, 1) := by decide +kernel
theorem dX3_constant_49 : decode cX3_constant 49 = .ok (.iaload, 1) := by decide +kernel
theorem dX3_constant_50 : decode cX3_constant 50 = .ok (.imul, 1) := by decide +kernel
theorem dX3_constant_51 : decode cX3_constant 51 = .ok (.invokestatic 53, 3) := by decide +kernel
theorem dX3_constant_54 : decode cX3_constant 54 = .ok (.istore_n 2, 1) := by decide +kernel
theorem dX3_constant_55 : decode cX3_constant 55 = .ok (.iinc 3 1, 3) := by decide +kernel
theorem dX3_constant_58 : decode cX3_constant 58 = .ok (.goto (-31), 3) := by decide +kernel
theorem dX3_constant_61 : decode cX3_constant 61 = .ok (.aload_n 0, 1) := by decide +kernel
theorem dX3_constant_62 : decode cX3_constant 62 = .ok (.getfield 24, 3) := by decide +kernel
theorem dX3_constant_65 : decode cX3_constant 65 = .ok (.iload_n 1, 1) := by decide +kernel
theorem dX3_constant_66 : decode cX3_constant 66 = .ok (.iload_n 2, 1) := by decide +kernel
theorem dX3_constant_67 : decode cX3_constant 67 = .ok (.iastore, 1) := by decide +kernel
theorem dX3_constant_68 : decode cX3_constant 68 = .ok (.iinc 1 (-1), 3) := by decide +kernel
theorem dX3_constant_71 : decode cX3_constant 71 = .ok (.goto (-64), 3) := by decide +kernel
theorem dX3_constant_74 : decode cX3_constant 74 = .ok (.aload_n 0, 1) := by decide +kernel
theorem dX3_constant_75 : decode cX3_constant 75 = .ok (.getfield 24, 3) := by decide +kernel
theorem dX3_constant_78 : decode cX3_constant 78 = .ok (.iconst 0, 1) := by decide +kernel
theorem dX3_constant_79 : decode cX3_constant 79 = .ok (.iaload, 1) := by decide +kernel
theorem dX3_constant_80 : decode cX3_constant 80 = .ok (.ireturn, 1) := by decide +kernel
set_option maxRecDepth 20000 in
theorem ggX4_init_X11_init : GoodIn wsX4_init wsX11_init := goodIn_r _ [10, 11, 2, 3, 12, 13, 14, 15, 16, 17, 18, 19, 20, 21, 25, 26, 27, 28, 29, 30, 31, 32, 33] (by decide +kernel) (by decide +kernel)
set_option maxRecDepth 20000 in
theorem gX4_init_X11_init : GoodIn wsX4_init (wsX11_init) := ggX4_init_X11_init
theorem dX4_init_0 : decode cX4_init 0 = .ok (.aload_n 0, 1) := by decide +kernel
theorem dX4_init_1 : decode cX4_init 1 = .ok (.invokespecial 3, 3) := by decide +kernel
theorem dX4_init_4 : decode cX4_init 4 = .ok (.aload_n 0, 1) := by decide +kernel
theorem dX4_init_5 : decode cX4_init 5 = .ok (.bipush 8, 2) := by decide +kernel
theorem dX4_init_7 : decode cX4_init 7 = .ok (.anewarray 9, 3) := by decide +kernel
theorem dX4_init_10 : decode cX4_init 10 = .ok (.putfield 11, 3) := by decide +kernel
theorem dX4_init_13 : decode cX4_init 13 = .ok (.iconst 0, 1) := by decide +kernel
theorem dX4_init_14 : decode cX4_init 14 = .ok (.istore_n 1, 1) := by decide +kernel
theorem dX4_init_15 : decode cX4_init 15 = .ok (.iload_n 1, 1) := by decide +kernel
theorem dX4_init_16 : decode cX4_init 16 = .ok (.bipush 8, 2) := by decide +kernel
theorem dX4_init_18 : decode cX4_init 18 = .ok (.if_icmp .ge 22, 3) := by decide +kernel
theorem dX4_init_21 : decode cX4_init 21 = .ok (.aload_n 0, 1) := by decide +kernel
theorem dX4_init_22 : decode cX4_init 22 = .ok (.getfield 11, 3) := by decide +kernel
theorem dX4_init_25 : decode cX4_init 25 = .ok (.iload_n 1, 1) := by decide +kernel
theorem dX4_init_26 : decode cX4_init 26 = .ok (.new 9, 3) := by decide +kernel
theorem dX4_init_29 : decode cX4_init 29 = .ok (.dup, 1) := by decide +kernel
theorem dX4_init_30 : decode cX4_init 30 = .ok (.invokespecial 17, 3) := by decide +kernel
theorem dX4_init_33 : decode cX4_init 33 = .ok (.aastore, 1) := by decide +kernel
theorem dX4_init_34 : decode cX4_init 34 = .ok (.iinc 1 1, 3) := by decide +kernel
theorem dX4_init_37 : decode cX4_init 37 = .ok (.goto (-22), 3) := by decide +kernel
theorem dX4_init_40 : decode cX4_init 40 = .ok (.return_, 1) := by decide +kernel
set_option maxRecDepth 20000 in
theorem ggX4_remember_X11_copyFrom : GoodIn wsX4_remember wsX11_copyFrom := goodIn_r _ [12, 13, 14, 15, 16, 17, 18, 19, 20, 21, 22, 23, 24, 25, 26, 27, 28, 29, 30, 31, 35, 36, 37, 38, 39, 40, 41, 42, 43] (by decide +kernel) (by decide +kernel)
set_option maxRecDepth 20000 in
theorem gX4_remember_X11_copyFrom : GoodIn wsX4_remember (wsV RX4 25 RX11 yX11_copyFrom wsX11_copyFrom) := goodIn_app (goodIn_of _ (by decide +kernel)) ggX4_remember_X11_copyFrom
theorem dX4_remember_0 : decode cX4_remember 0 = .ok (.aload_n 0, 1) := by decide +kernel
theorem dX4_remember_1 : decode cX4_remember 1 = .ok (.getfield 11, 3) := by decide +kernel
theorem dX4_remember_4 : decode cX4_remember 4 = .ok (.aload_n 0, 1) := by decide +kernel
theorem dX4_remember_5 : decode cX4_remember 5 = .ok (.getfield 22, 3) := by decide +kernel
theorem dX4_remember_8 : decode cX4_remember 8 = .ok (.aaload, 1) := by decide +kernel
theorem dX4_remember_9 : decode cX4_remember 9 = .ok (.aload_n 1, 1) := by decide +kernel
theorem dX4_remember_10 : decode cX4_remember 10 = .ok (.invokevirtual 25, 3) := by decide +kernel
theorem dX4_remember_13 : decode cX4_remember 13 = .ok (.aload_n 0, 1) := by decide +kernel
theorem dX4_remember_14 : decode cX4_remember 14 = .ok (.aload_n 0, 1) := by decide +kernel
theorem dX4_remember_15 : decode cX4_remember 15 = .ok (.getfield 22, 3) := by decide +kernel
theorem dX4_remember_18 : decode cX4_remember 18 = .ok (.iconst 1, 1) := by decide +kernel
theorem dX4_remember_19 : decode cX4_remember 19 = .ok (.iadd, 1) := by decide +kernel
theorem dX4_remember_20 : decode cX4_remember 20 = .ok (.bipush 8, 2) := by decide +kernel
theorem dX4_remember_22 : decode cX4_remember 22 = .ok (.irem, 1) := by decide +kernel
theorem dX4_remember_23 : decode cX4_remember 23 = .ok (.putfield 22, 3) := by decide +kernel
theorem dX4_remember_26 : decode cX4_remember 26 = .ok (.aload_n 0, 1) := by decide +kernel
theorem dX4_remember_27 : decode cX4_remember 27 = .ok (.aload_n 0, 1) := by decide +kernel
theorem dX4_remember_28 : decode cX4_remember 28 = .ok (.getfield 18, 3) := by decide +kernel
theorem dX4_remember_31 : decode cX4_remember 31 = .ok (.iconst 1, 1) := by decide +kernel
theorem dX4_remember_32 : decode cX4_remember 32 = .ok (.iadd, 1) := by decide +kernel
theorem dX4_remember_33 : decode cX4_remember 33 = .ok (.bipush 8, 2) := by decide +kernel
theorem dX4_remember_35 : decode cX4_remember 35 = .ok (.invokestatic 29, 3) := by decide +kernel
theorem dX4_remember_38 : decode cX4_remember 38 = .ok (.putfield 18, 3) := by decide +kernel
theorem dX4_remember_41 : decode cX4_remember 41 = .ok (.return_, 1) := by decide +kernel
theorem dX4_empty_0 : decode cX4_empty 0 = .ok (.aload_n 0, 1) := by decide +kernel
theorem dX4_empty_1 : decode cX4_empty 1 = .ok (.iconst 0, 1) := by decide +kernel
theorem dX4_empty_2 : decode cX4_empty 2 = .ok (.putfield 18, 3) := by decide +kernel
theorem dX4_empty_5 : decode cX4_empty 5 = .ok (.return_, 1) := by decide +kernel
theorem dX5_init_0 : decode cX5_init 0 = .ok (.aload_n 0, 1) := by decide +kernel
theorem dX5_init_1 : decode cX5_init 1 = .ok (.invokespecial 3, 3) := by decide +kernel
theorem dX5_init_4 : decode cX5_init 4 = .ok (.aload_n 0, 1) := by decide +kernel
theorem dX5_init_5 : decode cX5_init 5 = .ok (.bipush 8, 2) := by decide +kernel
theorem dX5_init_7 : decode cX5_init 7 = .ok (.newarray .int, 2) := by decide +kernel
theorem dX5_init_9 : decode cX5_init 9 = .ok (.putfield 9, 3) := by decide +kernel
theorem dX5_init_12 : decode cX5_init 12 = .ok (.aload_n 0, 1) := by decide +kernel
theorem dX5_init_13 : decode cX5_init 13 = .ok (.bipush 8, 2) := by decide +kernel
theorem dX5_init_15 : decode cX5_init 15 = .ok (.newarray .int, 2) := by decide +kernel
theorem dX5_init_17 : decode cX5_init 17 = .ok (.putfield 15, 3) := by decide +kernel
theorem dX5_init_20 : decode cX5_init 20 = .ok (.return_, 1) := by decide +kernel
set_option maxRecDepth 20000 in
theorem ggX5_takeFrom_X10_shareWith : GoodIn wsX5_takeFrom wsX10_shareWith := goodIn_ca (goodIn_r _ [8, 9, 13, 14, 15] (by decide +kernel) (by decide +kernel)) (goodIn_sub (fun _ h => List.mem_cons_of_mem _ (List.mem_append_right _ h)) (by decide +kernel))
set_option maxRecDepth 20000 in
theorem gX5_takeFrom_X10_shareWith : GoodIn wsX5_takeFrom (wsV RX5 22 RX10 yX10_shareWith wsX10_shareWith) := goodIn_app (goodIn_of _ (by decide +kernel)) ggX5_takeFrom_X10_shareWith
theorem dX5_takeFrom_0 : decode cX5_takeFrom 0 = .ok (.aload_n 0, 1) := by decide +kernel
theorem dX5_takeFrom_1 : decode cX5_takeFrom 1 = .ok (.iconst 0, 1) := by decide +kernel
theorem dX5_takeFrom_2 : decode cX5_takeFrom 2 = .ok (.putfield 18, 3) := by decide +kernel
theorem dX5_takeFrom_5 : decode cX5_takeFrom 5 = .ok (.iconst 0, 1) := by decide +kernel
theorem dX5_takeFrom_6 : decode cX5_takeFrom 6 = .ok (.istore_n 3, 1) := by decide +kernel
theorem dX5_takeFrom_7 : decode cX5_takeFrom 7 = .ok (.iload_n 3, 1) := by decide +kernel
theorem dX5_takeFrom_8 : decode cX5_takeFrom 8 = .ok (.bipush 8, 2) := by decide +kernel
theorem dX5_takeFrom_10 : decode cX5_takeFrom 10 = .ok (.if_icmp .ge 54, 3) := by decide +kernel
theorem dX5_takeFrom_13 : decode cX5_takeFrom 13 = .ok (.iload_n 2, 1) := by decide +kernel
theorem dX5_takeFrom_14 : decode cX5_takeFrom 14 = .ok (.iload_n 3, 1) := by decide +kernel
theorem dX5_takeFrom_15 : decode cX5_takeFrom 15 = .ok (.ishr, 1) := by decide +kernel
theorem dX5_takeFrom_16 : decode cX5_takeFrom 16 = .ok (.iconst 1, 1) := by decide +kernel
theorem dX5_takeFrom_17 : decode cX5_takeFrom 17 = .ok (.iand, 1) := by decide +kernel
theorem dX5_takeFrom_18 : decode cX5_takeFrom 18 = .ok (.iconst 1, 1) := by decide +kernel
theorem dX5_takeFrom_19 : decode cX5_takeFrom 19 = .ok (.if_icmp .ne 39, 3) := by decide +kernel
theorem dX5_takeFrom_22 : decode cX5_takeFrom 22 = .ok (.aload_n 0, 1) := by decide +kernel
theorem dX5_takeFrom_23 : decode cX5_takeFrom 23 = .ok (.getfield 9, 3) := by decide +kernel
theorem dX5_takeFrom_26 : decode cX5_takeFrom 26 = .ok (.aload_n 0, 1) := by decide +kernel
theorem dX5_takeFrom_27 : decode cX5_takeFrom 27 = .ok (.getfield 18, 3) := by decide +kernel
theorem dX5_takeFrom_30 : decode cX5_takeFrom 30 = .ok (.iload_n 3, 1) := by decide +kernel
theorem dX5_takeFrom_31 : decode cX5_takeFrom 31 = .ok (.iconst 1, 1) := by decide +kernel
theorem dX5_takeFrom_32 : decode cX5_takeFrom 32 = .ok (.iadd, 1) := by decide +kernel
theorem dX5_takeFrom_33 : decode cX5_takeFrom 33 = .ok (.iastore, 1) := by decide +kernel
theorem dX5_takeFrom_34 : decode cX5_takeFrom 34 = .ok (.aload_n 0, 1) := by decide +kernel
theorem dX5_takeFrom_35 : decode cX5_takeFrom 35 = .ok (.getfield 15, 3) := by decide +kernel
theorem dX5_takeFrom_38 : decode cX5_takeFrom 38 = .ok (.aload_n 0, 1) := by decide +kernel
theorem dX5_takeFrom_39 : decode cX5_takeFrom 39 = .ok (.getfield 18, 3) := by decide +kernel
theorem dX5_takeFrom_42 : decode cX5_takeFrom 42 = .ok (.aload_n 1, 1) := by decide +kernel
theorem dX5_takeFrom_43 : decode cX5_takeFrom 43 = .ok (.iload_n 3, 1) := by decide +kernel
theorem dX5_takeFrom_44 : decode cX5_takeFrom 44 = .ok (.invokevirtual 22, 3) := by decide +kernel
theorem dX5_takeFrom_47 : decode cX5_takeFrom 47 = .ok (.iastore, 1) := by decide +kernel
theorem dX5_takeFrom_48 : decode cX5_takeFrom 48 = .ok (.aload_n 0, 1) := by decide +kernel
theorem dX5_takeFrom_49 : decode cX5_takeFrom 49 = .ok (.dup, 1) := by decide +kernel
theorem dX5_takeFrom_50 : decode cX5_takeFrom 50 = .ok (.getfield 18, 3) := by decide +kernel
theorem dX5_takeFrom_53 : decode cX5_takeFrom 53 = .ok (.iconst 1, 1) := by decide +kernel
theorem dX5_takeFrom_54 : decode cX5_takeFrom 54 = .ok (.iadd, 1) := by decide +kernel
theorem dX5_takeFrom_55 : decode cX5_takeFrom 55 = .ok (.putfield 18, 3) := by decide +kernel
theorem dX5_takeFrom_58 : decode cX5_takeFrom 58 = .ok (.iinc 3 1, 3) := by decide +kernel
theorem dX5_takeFrom_61 : decode cX5_takeFrom 61 = .ok (.goto (-54), 3) := by decide +kernel
theorem dX5_takeFrom_64 : decode cX5_takeFrom 64 = .ok (.return_, 1) := by decide +kernel
set_option maxRecDepth 20000 in
theorem ggX5_valueAt_X9_difference : GoodIn wsX5_valueAt wsX9_difference := goodIn_r _ [7] (by decide +kernel) (by decide +kernel)
set_option maxRecDepth 20000 in
theorem gX5_valueAt_X9_difference : GoodIn wsX5_valueAt (va_wsS RX5 28 yX9_difference wsX9_difference) := goodIn_app (goodIn_of _ (by decide +kernel)) ggX5_valueAt_X9_difference
set_option maxRecDepth 20000 in
theorem ggX5_valueAt_X9_inverseOf : GoodIn wsX5_valueAt wsX9_inverseOf := goodIn_r _ [10] (by decide +kernel) (by decide +kernel)
set_option maxRecDepth 20000 in
theorem gX5_valueAt_X9_inverseOf : GoodIn wsX5_valueAt (va_wsS RX5 34 yX9_inverseOf wsX9_inverseOf) := goodIn_app (goodIn_of _ (by decide +kernel)) ggX5_valueAt_X9_inverseOf
theorem dX5_valueAt_0 : decode cX5_valueAt 0 = .ok (.iconst 0, 1) := by decide +kernel
theorem dX5_valueAt_1 : decode cX5_valueAt 1 = .ok (.istore_n 2, 1) := by decide +kernel
theorem dX5_valueAt_2 : decode cX5_valueAt 2 = .ok (.iconst 0, 1) := by decide +kernel
theorem dX5_valueAt_3 : decode cX5_valueAt 3 = .ok (.istore_n 3, 1) := by decide +kernel
theorem dX5_valueAt_4 : decode cX5_valueAt 4 = .ok (.iload_n 3, 1) := by decide +kernel
theorem dX5_valueAt_5 : decode cX5_valueAt 5 = .ok (.aload_n 0, 1) := by decide +kernel
theorem dX5_valueAt_6 : decode cX5_valueAt 6 = .ok (.getfield 18, 3) := by decide +kernel
theorem dX5_valueAt_9 : decode cX5_valueAt 9 = .ok (.if_icmp .ge 106, 3) := by decide +kernel
theorem dX5_valueAt_12 : decode cX5_valueAt 12 = .ok (.iconst 1, 1) := by decide +kernel
theorem dX5_valueAt_13 : decode cX5_valueAt 13 = .ok (.istore 4, 2) := by decide +kernel
theorem dX5_valueAt_15 : decode cX5_valueAt 15 = .ok (.iconst 1, 1) := by decide +kernel
theorem dX5_valueAt_16 : decode cX5_valueAt 16 = .ok (.istore 5, 2) := by decide +kernel
theorem dX5_valueAt_18 : decode cX5_valueAt 18 = .ok (.iconst 0, 1) := by decide +kernel
theorem dX5_valueAt_19 : decode cX5_valueAt 19 = .ok (.istore 6, 2) := by decide +kernel
theorem dX5_valueAt_21 : decode cX5_valueAt 21 = .ok (.iload 6, 2) := by decide +kernel
theorem dX5_valueAt_23 : decode cX5_valueAt 23 = .ok (.aload_n 0, 1) := by decide +kernel
theorem dX5_valueAt_24 : decode cX5_valueAt 24 = .ok (.getfield 18, 3) := by decide +kernel
theorem dX5_valueAt_27 : decode cX5_valueAt 27 = .ok (.if_icmp .ge 58, 3) := by decide +kernel
theorem dX5_valueAt_30 : decode cX5_valueAt 30 = .ok (.iload 6, 2) := by decide +kernel
theorem dX5_valueAt_32 : decode cX5_valueAt 32 = .ok (.iload_n 3, 1) := by decide +kernel
theorem dX5_valueAt_33 : decode cX5_valueAt 33 = .ok (.if_icmp .eq 46, 3) := by decide +kernel
theorem dX5_valueAt_36 : decode cX5_valueAt 36 = .ok (.iload 4, 2) := by decide +kernel
theorem dX5_valueAt_38 : decode cX5_valueAt 38 = .ok (.iload_n 1, 1) := by decide +kernel
theorem dX5_valueAt_39 : decode cX5_valueAt 39 = .ok (.aload_n 0, 1) := by decide +kernel
theorem dX5_valueAt_40 : decode cX5_valueAt 40 = .ok (.getfield 9, 3) := by decide +kernel
theorem dX5_valueAt_43 : decode cX5_valueAt 43 = .ok (.iload 6, 2) := by decide +kernel
theorem dX5_valueAt_45 : decode cX5_valueAt 45 = .ok (.iaload, 1) := by decide +kernel
theorem dX5_valueAt_46 : decode cX5_valueAt 46 = .ok (.invokestatic 28, 3) := by decide +kernel
theorem dX5_valueAt_49 : decode cX5_valueAt 49 = .ok (.imul, 1) := by decide +kernel
theorem dX5_valueAt_50 : decode cX5_valueAt 50 = .ok (.bipush 97, 2) := by decide +kernel
theorem dX5_valueAt_52 : decode cX5_valueAt 52 = .ok (.irem, 1) := by decide +kernel
theorem dX5_valueAt_53 : decode cX5_valueAt 53 = .ok (.istore 4, 2) := by decide +kernel
theorem dX5_valueAt_55 : decode cX5_valueAt 55 = .ok (.iload 5, 2) := by decide +kernel
theorem dX5_valueAt_57 : decode cX5_valueAt 57 = .ok (.aload_n 0, 1) := by decide +kernel
theorem dX5_valueAt_58 : decode cX5_valueAt 58 = .ok (.getfield 9, 3) := by decide +kernel
theorem dX5_valueAt_61 : decode cX5_valueAt 61 = .ok (.iload_n 3, 1) := by decide +kernel
theorem dX5_valueAt_62 : decode cX5_valueAt 62 = .ok (.iaload, 1) := by decide +kernel
theorem dX5_valueAt_63 : decode cX5_valueAt 63 = .ok (.aload_n 0, 1) := by decide +kernel
theorem dX5_valueAt_64 : decode cX5_valueAt 64 = .ok (.getfield 9, 3) := by decide +kernel
theorem dX5_valueAt_67 : decode cX5_valueAt 67 = .ok (.iload 6, 2) := by decide +kernel
theorem dX5_valueAt_69 : decode cX5_valueAt 69 = .ok (.iaload, 1) := by decide +kernel
theorem dX5_valueAt_70 : decode cX5_valueAt 70 = .ok (.invokestatic 28, 3) := by decide +kernel
theorem dX5_valueAt_73 : decode cX5_valueAt 73 = .ok (.imul, 1) := by decide +kernel
theorem dX5_valueAt_74 : decode cX5_valueAt 74 = .ok (.bipush 97, 2) := by decide +kernel
theorem dX5_valueAt_76 : decode cX5_valueAt 76 = .ok (.irem, 1) := by decide +kernel
theorem dX5_valueAt_77 : decode cX5_valueAt 77 = .ok (.istore 5, 2) := by decide +kernel
theorem dX5_valueAt_79 : decode cX5_valueAt 79 = .ok (.iinc 6 1, 3) := by decide +kernel
theorem dX5_valueAt_82 : decode cX5_valueAt 82 = .ok (.goto (-61), 3) := by decide +kernel
theorem dX5_valueAt_85 : decode cX5_valueAt 85 = .ok (.iload_n 2, 1) := by decide +kernel
theorem dX5_valueAt_86 : decode cX5_valueAt 86 = .ok (.aload_n 0, 1) := by decide +kernel
theorem dX5_valueAt_87 : decode cX5_valueAt 87 = .ok (.getfield 15, 3) := by decide +kernel
theorem dX5_valueAt_90 : decode cX5_valueAt 90 = .ok (.iload_n 3, 1) := by decide +kernel
theorem dX5_valueAt_91 : decode cX5_valueAt 91 = .ok (.iaload, 1) := by decide +kernel
theorem dX5_valueAt_92 : decode cX5_valueAt 92 = .ok (.iload 4, 2) := by decide +kernel
theorem dX5_valueAt_94 : decode cX5_valueAt 94 = .ok (.imul, 1) := by decide +kernel
theorem dX5_valueAt_95 : decode cX5_valueAt 95 = .ok (.bipush 97, 2) := by decide +kernel
theorem dX5_valueAt_97 : decode cX5_valueAt 97 = .ok (.irem, 1) := by decide +kernel
theorem dX5_valueAt_98 : decode cX5_valueAt 98 = .ok (.iload 5, 2) := by decide +kernel
theorem dX5_valueAt_100 : decode cX5_valueAt 100 = .ok (.invokestatic 34, 3) := by decide +kernel
theorem dX5_valueAt_103 : decode cX5_valueAt 103 = .ok (.imul, 1) := by decide +kernel
theorem dX5_valueAt_104 : decode cX5_valueAt 104 = .ok (.iadd, 1) := by decide +kernel
theorem dX5_valueAt_105 : decode cX5_valueAt 105 = .ok (.bipush 97, 2) := by decide +kernel
theorem dX5_valueAt_107 : decode cX5_valueAt 107 = .ok (.irem, 1) := by decide +kernel
theorem dX5_valueAt_108 : decode cX5_valueAt 108 = .ok (.istore_n 2, 1) := by decide +kernel
theorem dX5_valueAt_109 : decode cX5_valueAt 109 = .ok (.iinc 3 1, 3) := by decide +kernel
theorem dX5_valueAt_112 : decode cX5_valueAt 112 = .ok (.goto (-108), 3) := by decide +kernel
theorem dX5_valueAt_115 : decode cX5_valueAt 115 = .ok (.iload_n 2, 1) := by decide +kernel
theorem dX5_valueAt_116 : decode cX5_valueAt 116 = .ok (.ireturn, 1) := by decide +kernel
theorem dX7_init_0 : decode cX7_init 0 = .ok (.aload_n 0, 1) := by decide +kernel
theorem dX7_init_1 : decode cX7_init 1 = .ok (.invokespecial 3, 3) := by decide +kernel
theorem dX7_init_4 : decode cX7_init 4 = .ok (.aload_n 0, 1) := by decide +kernel
theorem dX7_init_5 : decode cX7_init 5 = .ok (.bipush 60, 2) := by decide +kernel
theorem dX7_init_7 : decode cX7_init 7 = .ok (.newarray .char, 2) := by decide +kernel
theorem dX7_init_9 : decode cX7_init 9 = .ok (.putfield 9, 3) := by decide +kernel
theorem dX7_init_12 : decode cX7_init 12 = .ok (.aload_n 0, 1) := by decide +kernel
theorem dX7_init_13 : decode cX7_init 13 = .ok (.iconst 3, 1) := by decide +kernel
theorem dX7_init_14 : decode cX7_init 14 = .ok (.newarray .int, 2) := by decide +kernel
theorem dX7_init_16 : decode cX7_init 16 = .ok (.putfield 15, 3) := by decide +kernel
theorem dX7_init_19 : decode cX7_init 19 = .ok (.aload_n 0, 1) := by decide +kernel
theorem dX7_init_20 : decode cX7_init 20 = .ok (.getstatic 19, 3) := by decide +kernel
theorem dX7_init_23 : decode cX7_init 23 = .ok (.putfield 25, 3) := by decide +kernel
theorem dX7_init_26 : decode cX7_init 26 = .ok (.return_, 1) := by decide +kernel
theorem dX7_empty_0 : decode cX7_empty 0 = .ok (.aload_n 0, 1) := by decide +kernel
theorem dX7_empty_1 : decode cX7_empty 1 = .ok (.iconst 0, 1) := by decide +kernel
theorem dX7_empty_2 : decode cX7_empty 2 = .ok (.putfield 28, 3) := by decide +kernel
theorem dX7_empty_5 : decode cX7_empty 5 = .ok (.return_, 1) := by decide +kernel
theorem dX7_rewind_0 : decode cX7_rewind 0 = .ok (.aload_n 0, 1) := by decide +kernel
theorem dX7_rewind_1 : decode cX7_rewind 1 = .ok (.iconst 0, 1) := by decide +kernel
theorem dX7_rewind_2 : decode cX7_rewind 2 = .ok (.putfield 32, 3) := by decide +kernel
theorem dX7_rewind_5 : decode cX7_rewind 5 = .ok (.return_, 1) := by decide +kernel
theorem dX7_isAtEnd_0 : decode cX7_isAtEnd 0 = .ok (.aload_n 0, 1) := by decide +kernel
theorem dX7_isAtEnd_1 : decode cX7_isAtEnd 1 = .ok (.getfield 32, 3) := by decide +kernel
theorem dX7_isAtEnd_4 : decode cX7_isAtEnd 4 = .ok (.aload_n 0, 1) := by decide +kernel
theorem dX7_isAtEnd_5 : decode cX7_isAtEnd 5 = .ok (.getfield 28, 3) := by decide +kernel
theorem dX7_isAtEnd_8 : decode cX7_isAtEnd 8 = .ok (.if_icmp .lt 7, 3) := by decide +kernel
theorem dX7_isAtEnd_11 : decode cX7_isAtEnd 11 = .ok (.iconst 1, 1) := by decide +kernel
theorem dX7_isAtEnd_12 : decode cX7_isAtEnd 12 = .ok (.goto 4, 3) := by decide +kernel
theorem dX7_isAtEnd_15 : decode cX7_isAtEnd 15 = .ok (.iconst 0, 1) := by decide +kernel
theorem dX7_isAtEnd_16 : decode cX7_isAtEnd 16 = .ok (.ireturn, 1) := by decide +kernel
theorem dX7_deed_0 : decode cX7_deed 0 = .ok (.aload_n 0, 1) := by decide +kernel
theorem dX7_deed_1 : decode cX7_deed 1 = .ok (.getfield 25, 3) := by decide +kernel
theorem dX7_deed_4 : decode cX7_deed 4 = .ok (.areturn, 1) := by decide +kernel
theorem dX7_argument_0 : decode cX7_argument 0 = .ok (.iload_n 1, 1) := by decide +kernel
theorem dX7_argument_1 : decode cX7_argument 1 = .ok (.ifCond .lt 25, 3) := by decide +kernel
theorem dX7_argument_4 : decode cX7_argument 4 = .ok (.iload_n 1, 1) := by decide +kernel
theorem dX7_argument_5 : decode cX7_argument 5 = .ok (.aload_n 0, 1) := by decide +kernel
theorem dX7_argument_6 : decode cX7_argument 6 = .ok (.getfield 35, 3) := by decide +kernel
theorem dX7_argument_9 : decode cX7_argument 9 = .ok (.if_icmp .ge 17, 3) := by decide +kernel
theorem dX7_argument_12 : decode cX7_argument 12 = .ok (.iload_n 1, 1) := by decide +kernel
theorem dX7_argument_13 : decode cX7_argument 13 = .ok (.iconst 3, 1) := by decide +kernel
theorem dX7_argument_14 : decode cX7_argument 14 = .ok (.if_icmp .ge 12, 3) := by decide +kernel
theorem dX7_argument_17 : decode cX7_argument 17 = .ok (.aload_n 0, 1) := by decide +kernel
theorem dX7_argument_18 : decode cX7_argument 18 = .ok (.getfield 15, 3) := by decide +kernel
theorem dX7_argument_21 : decode cX7_argument 21 = .ok (.iload_n 1, 1) := by decide +kernel
theorem dX7_argument_22 : decode cX7_argument 22 = .ok (.iaload, 1) := by decide +kernel
theorem dX7_argument_23 : decode cX7_argument 23 = .ok (.goto 4, 3) := by decide +kernel
theorem dX7_argument_26 : decode cX7_argument 26 = .ok (.iconst 0, 1) := by decide +kernel
theorem dX7_argument_27 : decode cX7_argument 27 = .ok (.ireturn, 1) := by decide +kernel
set_option maxRecDepth 20000 in
theorem ggX7_findError_X7_rewind : GoodIn wsX7_findError wsX7_rewind := goodIn_r _ [7, 8, 95, 96, 97, 98, 99, 100, 101] (by decide +kernel) (by decide +kernel)
set_option maxRecDepth 20000 in
theorem gX7_findError_X7_rewind : GoodIn wsX7_findError (wsV RX7 38 RX7 yX7_rewind wsX7_rewind) := goodIn_app (goodIn_of _ (by decide +kernel)) ggX7_findError_X7_rewind
set_option maxRecDepth 20000 in
theorem ggX7_findError_X7_readCommand : GoodIn wsX7_findError wsX7_readCommand := goodIn_ca (goodIn_r _ [12, 8, 13, 1, 14, 15, 16, 17, 18, 19, 20, 21, 22, 23, 24, 25, 26, 6, 27, 28, 29, 30, 31, 32, 33, 34, 35, 36, 37, 38, 39, 40, 41, 42, 43, 44, 45, 46, 47, 48, 49, 50, 51, 52, 53, 54, 55, 56, 57, 58, 59, 60, 61, 62, 63, 64, 65, 66, 67, 68, 69, 70, 71, 72, 73, 74, 75, 76, 77, 78, 79, 80, 81, 82, 83, 84, 85, 86, 2, 87, 88, 89, 90, 95, 96, 97, 98, 99, 100, 101, 102, 103, 104, 105] (by decide +kernel) (by decide +kernel)) (goodIn_sub (fun _ h => List.mem_cons_of_mem _ (List.mem_append_right _ h)) (by decide +kernel))
set_option maxRecDepth 20000 in
theorem gX7_findError_X7_readCommand : GoodIn wsX7_findError (wsV RX7 41 RX7 yX7_readCommand wsX7_readCommand) := goodIn_app (goodIn_of _ (by decide +kernel)) ggX7_findError_X7_readCommand
set_option maxRecDepth 20000 in
theorem ggX7_findError_X7_signAt : GoodIn wsX7_findError wsX7_signAt := goodIn_ca (goodIn_r _ [86, 2, 87, 95, 96, 97, 98, 99, 100, 101] (by decide +kernel) (by decide +kernel)) (goodIn_sub (fun _ h => List.mem_cons_of_mem _ (List.mem_append_right _ h)) (by decide +kernel))
set_option maxRecDepth 20000 in
theorem gX7_findError_X7_signAt : GoodIn wsX7_findError (wsV RX7 48 RX7 yX7_signAt wsX7_signAt) := goodIn_app (goodIn_of _ (by decide +kernel)) ggX7_findError_X7_signAt
set_option maxRecDepth 20000 in
theorem ggX7_findError_X7_passCommand : GoodIn wsX7_findError wsX7_passCommand := goodIn_r _ [94, 1, 8, 95, 96, 97, 98, 99, 100, 101] (by decide +kernel) (by decide +kernel)
set_option maxRecDepth 20000 in
theorem gX7_findError_X7_passCommand : GoodIn wsX7_findError (wsV RX7 52 RX7 yX7_passCommand wsX7_passCommand) := goodIn_app (goodIn_of _ (by decide +kernel)) ggX7_findError_X7_passCommand
theorem dX7_findError_0 : decode cX7_findError 0 = .ok (.aload_n 0, 1) := by decide +kernel
theorem dX7_findError_1 : decode cX7_findError 1 = .ok (.invokevirtual 38, 3) := by decide +kernel
theorem dX7_findError_4 : decode cX7_findError 4 = .ok (.iconst 0, 1) := by decide +kernel
theorem dX7_findError_5 : decode cX7_findError 5 = .ok (.istore_n 1, 1) := by decide +kernel
theorem dX7_findError_6 : decode cX7_findError 6 = .ok (.iload_n 1, 1) := by decide +kernel
theorem dX7_findError_7 : decode cX7_findError 7 = .ok (.bipush 60, 2) := by decide +kernel
theorem dX7_findError_9 : decode cX7_findError 9 = .ok (.if_icmp .gt 56, 3) := by decide +kernel
theorem dX7_findError_12 : decode cX7_findError 12 = .ok (.aload_n 0, 1) := by decide +kernel
theorem dX7_findError_13 : decode cX7_findError 13 = .ok (.invokevirtual 41, 3) := by decide +kernel
theorem dX7_findError_16 : decode cX7_findError 16 = .ok (.ifCond .ne 8, 3) := by decide +kernel
theorem dX7_findError_19 : decode cX7_findError 19 = .ok (.aload_n 0, 1) := by decide +kernel
theorem dX7_findError_20 : decode cX7_findError 20 = .ok (.getfield 45, 3) := by decide +kernel
theorem dX7_findError_23 : decode cX7_findError 23 = .ok (.ireturn, 1) := by decide +kernel
theorem dX7_findError_24 : decode cX7_findError 24 = .ok (.aload_n 0, 1) := by decide +kernel
theorem dX7_findError_25 : decode cX7_findError 25 = .ok (.getfield 45, 3) := by decide +kernel
theorem dX7_findError_28 : decode cX7_findError 28 = .ok (.aload_n 0, 1) := by decide +kernel
theorem dX7_findError_29 : decode cX7_findError 29 = .ok (.getfield 28, 3) := by decide +kernel
theorem dX7_findError_32 : decode cX7_findError 32 = .ok (.if_icmp .lt 5, 3) := by decide +kernel
theorem dX7_findError_35 : decode cX7_findError 35 = .ok (.iconst (-1), 1) := by decide +kernel
theorem dX7_findError_36 : decode cX7_findError 36 = .ok (.ireturn, 1) := by decide +kernel
theorem dX7_findError_37 : decode cX7_findError 37 = .ok (.aload_n 0, 1) := by decide +kernel
theorem dX7_findError_38 : decode cX7_findError 38 = .ok (.aload_n 0, 1) := by decide +kernel
theorem dX7_findError_39 : decode cX7_findError 39 = .ok (.getfield 45, 3) := by decide +kernel
theorem dX7_findError_42 : decode cX7_findError 42 = .ok (.invokevirtual 48, 3) := by decide +kernel
theorem dX7_findError_45 : decode cX7_findError 45 = .ok (.bipush 59, 2) := by decide +kernel
theorem dX7_findError_47 : decode cX7_findError 47 = .ok (.if_icmp .eq 8, 3) := by decide +kernel
theorem dX7_findError_50 : decode cX7_findError 50 = .ok (.aload_n 0, 1) := by decide +kernel
theorem dX7_findError_51 : decode cX7_findError 51 = .ok (.getfield 45, 3) := by decide +kernel
theorem dX7_findError_54 : decode cX7_findError 54 = .ok (.ireturn, 1) := by decide +kernel
theorem dX7_findError_55 : decode cX7_findError 55 = .ok (.aload_n 0, 1) := by decide +kernel
theorem dX7_findError_56 : decode cX7_findError 56 = .ok (.invokevirtual 52, 3) := by decide +kernel
theorem dX7_findError_59 : decode cX7_findError 59 = .ok (.iinc 1 1, 3) := by decide +kernel
theorem dX7_findError_62 : decode cX7_findError 62 = .ok (.goto (-56), 3) := by decide +kernel
theorem dX7_findError_65 : decode cX7_findError 65 = .ok (.aload_n 0, 1) := by decide +kernel
theorem dX7_findError_66 : decode cX7_findError 66 = .ok (.getfield 28, 3) := by decide +kernel
theorem dX7_findError_69 : decode cX7_findError 69 = .ok (.ireturn, 1) := by decide +kernel
theorem dX7_passCommand_0 : decode cX7_passCommand 0 = .ok (.aload_n 0, 1) := by decide +kernel
theorem dX7_passCommand_1 : decode cX7_passCommand 1 = .ok (.aload_n 0, 1) := by decide +kernel
theorem dX7_passCommand_2 : decode cX7_passCommand 2 = .ok (.getfield 45, 3) := by decide +kernel
theorem dX7_passCommand_5 : decode cX7_passCommand 5 = .ok (.iconst 1, 1) := by decide +kernel
theorem dX7_passCommand_6 : decode cX7_passCommand 6 = .ok (.iadd, 1) := by decide +kernel
theorem dX7_passCommand_7 : decode cX7_passCommand 7 = .ok (.putfield 32, 3) := by decide +kernel
theorem dX7_passCommand_10 : decode cX7_passCommand 10 = .ok (.return_, 1) := by decide +kernel
set_option maxRecDepth 20000 in
theorem ggX7_readCommand_X2_commandForm : GoodIn wsX7_readCommand wsX2_commandForm := goodIn_r _ [12, 13] (by decide +kernel) (by decide +kernel)
set_option maxRecDepth 20000 in
theorem gX7_readCommand_X2_commandForm : GoodIn wsX7_readCommand (wsV RX7 59 RX2 yX2_commandForm wsX2_commandForm) := goodIn_app (goodIn_of _ (by decide +kernel)) ggX7_readCommand_X2_commandForm
set_option maxRecDepth 20000 in
theorem ggX7_readCommand_X7_hasForm : GoodIn wsX7_readCommand wsX7_hasForm := goodIn_ca (goodIn_r _ [18, 1, 3, 19, 20, 21, 22, 23, 24, 25, 26, 27, 28, 29, 30, 31, 32, 33, 34, 35, 36, 37, 38, 39, 40, 41, 42, 43, 44, 45, 46, 47, 48, 49, 50, 51, 52, 53, 54, 55, 56, 57, 58, 59, 60, 61, 62, 63, 64, 65, 66, 67, 68, 69, 70, 71, 17, 72, 73, 74, 75, 76, 77, 78, 79, 80, 81, 82, 83, 84, 85, 86, 87, 88, 89, 90, 91, 92, 93] (by decide +kernel) (by decide +kernel)) (goodIn_sub (fun _ h => List.mem_cons_of_mem _ (List.mem_append_right _ h)) (by decide +kernel))
set_option maxRecDepth 20000 in
theorem gX7_readCommand_X7_hasForm : GoodIn wsX7_readCommand (wsV RX7 63 RX7 yX7_hasForm wsX7_hasForm) := goodIn_app (goodIn_of _ (by decide +kernel)) ggX7_readCommand_X7_hasForm
theorem dX7_readCommand_0 : decode cX7_readCommand 0 = .ok (.aload_n 0, 1) := by decide +kernel
theorem dX7_readCommand_1 : decode cX7_readCommand 1 = .ok (.getfield 32, 3) := by decide +kernel
theorem dX7_readCommand_4 : decode cX7_readCommand 4 = .ok (.istore_n 1, 1) := by decide +kernel
theorem dX7_readCommand_5 : decode cX7_readCommand 5 = .ok (.iconst 0, 1) := by decide +kernel
theorem dX7_readCommand_6 : decode cX7_readCommand 6 = .ok (.istore_n 2, 1) := by decide +kernel
theorem dX7_readCommand_7 : decode cX7_readCommand 7 = .ok (.iload_n 2, 1) := by decide +kernel
theorem dX7_readCommand_8 : decode cX7_readCommand 8 = .ok (.getstatic 55, 3) := by decide +kernel
theorem dX7_readCommand_11 : decode cX7_readCommand 11 = .ok (.arraylength, 1) := by decide +kernel
theorem dX7_readCommand_12 : decode cX7_readCommand 12 = .ok (.if_icmp .ge 44, 3) := by decide +kernel
theorem dX7_readCommand_15 : decode cX7_readCommand 15 = .ok (.aload_n 0, 1) := by decide +kernel
theorem dX7_readCommand_16 : decode cX7_readCommand 16 = .ok (.getstatic 55, 3) := by decide +kernel
theorem dX7_readCommand_19 : decode cX7_readCommand 19 = .ok (.iload_n 2, 1) := by decide +kernel
theorem dX7_readCommand_20 : decode cX7_readCommand 20 = .ok (.aaload, 1) := by decide +kernel
theorem dX7_readCommand_21 : decode cX7_readCommand 21 = .ok (.invokevirtual 59, 3) := by decide +kernel
theorem dX7_readCommand_24 : decode cX7_readCommand 24 = .ok (.invokevirtual 63, 3) := by decide +kernel
theorem dX7_readCommand_27 : decode cX7_readCommand 27 = .ok (.ifCond .eq 14, 3) := by decide +kernel
theorem dX7_readCommand_30 : decode cX7_readCommand 30 = .ok (.aload_n 0, 1) := by decide +kernel
theorem dX7_readCommand_31 : decode cX7_readCommand 31 = .ok (.getstatic 55, 3) := by decide +kernel
theorem dX7_readCommand_34 : decode cX7_readCommand 34 = .ok (.iload_n 2, 1) := by decide +kernel
theorem dX7_readCommand_35 : decode cX7_readCommand 35 = .ok (.aaload, 1) := by decide +kernel
theorem dX7_readCommand_36 : decode cX7_readCommand 36 = .ok (.putfield 25, 3) := by decide +kernel
theorem dX7_readCommand_39 : decode cX7_readCommand 39 = .ok (.iconst 1, 1) := by decide +kernel
theorem dX7_readCommand_40 : decode cX7_readCommand 40 = .ok (.ireturn, 1) := by decide +kernel
theorem dX7_readCommand_41 : decode cX7_readCommand 41 = .ok (.iload_n 1, 1) := by decide +kernel
theorem dX7_readCommand_42 : decode cX7_readCommand 42 = .ok (.aload_n 0, 1) := by decide +kernel
theorem dX7_readCommand_43 : decode cX7_readCommand 43 = .ok (.getfield 45, 3) := by decide +kernel
theorem dX7_readCommand_46 : decode cX7_readCommand 46 = .ok (.invokestatic 67, 3) := by decide +kernel
theorem dX7_readCommand_49 : decode cX7_readCommand 49 = .ok (.istore_n 1, 1) := by decide +kernel
theorem dX7_readCommand_50 : decode cX7_readCommand 50 = .ok (.iinc 2 1, 3) := by decide +kernel
theorem dX7_readCommand_53 : decode cX7_readCommand 53 = .ok (.goto (-46), 3) := by decide +kernel
theorem dX7_readCommand_56 : decode cX7_readCommand 56 = .ok (.aload_n 0, 1) := by decide +kernel
theorem dX7_readCommand_57 : decode cX7_readCommand 57 = .ok (.iload_n 1, 1) := by decide +kernel
theorem dX7_readCommand_58 : decode cX7_readCommand 58 = .ok (.putfield 45, 3) := by decide +kernel
theorem dX7_readCommand_61 : decode cX7_readCommand 61 = .ok (.iconst 0, 1) := by decide +kernel
theorem dX7_readCommand_62 : decode cX7_readCommand 62 = .ok (.ireturn, 1) := by decide +kernel
set_option maxRecDepth 20000 in
theorem ggX7_hasForm_J0_length_8abf5 : GoodIn wsX7_hasForm wsJ0_length_8abf5 := goodIn_r _ [8, 9, 10, 11, 12, 7, 13, 14, 15, 75, 76, 77, 78] (by decide +kernel) (by decide +kernel)
set_option maxRecDepth 20000 in
theorem gX7_hasForm_J0_length_8abf5 : GoodIn wsX7_hasForm (wsV RX7 73 RJ0 yJ0_length_8abf5 wsJ0_length_8abf5) := goodIn_app (goodIn_of _ (by decide +kernel)) ggX7_hasForm_J0_length_8abf5
set_option maxRecDepth 20000 in
theorem ggX7_hasForm_J0_charAt_5068e : GoodIn wsX7_hasForm wsJ0_charAt_5068e := goodIn_r _ [19, 9, 20, 21, 22, 7, 23, 14, 15, 24, 25, 26, 27, 28, 29, 30, 31, 32, 33, 34, 35, 36, 37, 38, 39, 40, 41, 42, 43, 44, 45, 46, 47, 48, 49, 50, 51, 52, 75, 76, 77, 78] (by decide +kernel) (by decide +kernel)
set_option maxRecDepth 20000 in
theorem gX7_hasForm_J0_charAt_5068e : GoodIn wsX7_hasForm (wsV RX7 78 RJ0 yJ0_charAt_5068e wsJ0_charAt_5068e) := goodIn_app (goodIn_of _ (by decide +kernel)) ggX7_hasForm_J0_charAt_5068e
set_option maxRecDepth 20000 in
theorem ggX7_hasForm_X7_readNumber : GoodIn wsX7_hasForm wsX7_readNumber := goodIn_ca (goodIn_r _ [57, 2, 3, 58, 59, 60, 61, 56, 62, 63, 64, 65, 66, 67, 68, 69, 70, 71, 72, 73, 74] (by decide +kernel) (by decide +kernel)) (goodIn_sub (fun _ h => List.mem_cons_of_mem _ (List.mem_append_right _ h)) (by decide +kernel))
set_option maxRecDepth 20000 in
theorem gX7_hasForm_X7_readNumber : GoodIn wsX7_hasForm (wsV RX7 82 RX7 yX7_readNumber wsX7_readNumber) := goodIn_app (goodIn_of _ (by decide +kernel)) ggX7_hasForm_X7_readNumber
set_option maxRecDepth 20000 in
theorem ggX7_hasForm_X7_signAt : GoodIn wsX7_hasForm wsX7_signAt := goodIn_ca (goodIn_r _ [62, 63, 64, 68, 69, 70, 71, 72, 73, 74] (by decide +kernel) (by decide +kernel)) (goodIn_sub (fun _ h => List.mem_cons_of_mem _ (List.mem_append_right _ h)) (by decide +kernel))
set_option maxRecDepth 20000 in
theorem gX7_hasForm_X7_signAt : GoodIn wsX7_hasForm (wsV RX7 48 RX7 yX7_signAt wsX7_signAt) := goodIn_app (goodIn_of _ (by decide +kernel)) ggX7_hasForm_X7_signAt
theorem dX7_hasForm_0 : decode cX7_hasForm 0 = .ok (.aload_n 0, 1) := by decide +kernel
theorem dX7_hasForm_1 : decode cX7_hasForm 1 = .ok (.aload_n 0, 1) := by decide +kernel
theorem dX7_hasForm_2 : decode cX7_hasForm 2 = .ok (.getfield 32, 3) := by decide +kernel
theorem dX7_hasForm_5 : decode cX7_hasForm 5 = .ok (.putfield 45, 3) := by decide +kernel
theorem dX7_hasForm_8 : decode cX7_hasForm 8 = .ok (.aload_n 0, 1) := by decide +kernel
theorem dX7_hasForm_9 : decode cX7_hasForm 9 = .ok (.iconst 0, 1) := by decide +kernel
theorem dX7_hasForm_10 : decode cX7_hasForm 10 = .ok (.putfield 35, 3) := by decide +kernel
theorem dX7_hasForm_13 : decode cX7_hasForm 13 = .ok (.iconst 0, 1) := by decide +kernel
theorem dX7_hasForm_14 : decode cX7_hasForm 14 = .ok (.istore_n 2, 1) := by decide +kernel
theorem dX7_hasForm_15 : decode cX7_hasForm 15 = .ok (.iload_n 2, 1) := by decide +kernel
theorem dX7_hasForm_16 : decode cX7_hasForm 16 = .ok (.aload_n 1, 1) := by decide +kernel
theorem dX7_hasForm_17 : decode cX7_hasForm 17 = .ok (.invokevirtual 73, 3) := by decide +kernel
theorem dX7_hasForm_20 : decode cX7_hasForm 20 = .ok (.if_icmp .ge 84, 3) := by decide +kernel
theorem dX7_hasForm_23 : decode cX7_hasForm 23 = .ok (.aload_n 0, 1) := by decide +kernel
theorem dX7_hasForm_24 : decode cX7_hasForm 24 = .ok (.getfield 45, 3) := by decide +kernel
theorem dX7_hasForm_27 : decode cX7_hasForm 27 = .ok (.istore_n 3, 1) := by decide +kernel
theorem dX7_hasForm_28 : decode cX7_hasForm 28 = .ok (.aload_n 1, 1) := by decide +kernel
theorem dX7_hasForm_29 : decode cX7_hasForm 29 = .ok (.iload_n 2, 1) := by decide +kernel
theorem dX7_hasForm_30 : decode cX7_hasForm 30 = .ok (.invokevirtual 78, 3) := by decide +kernel
theorem dX7_hasForm_33 : decode cX7_hasForm 33 = .ok (.istore 4, 2) := by decide +kernel
theorem dX7_hasForm_35 : decode cX7_hasForm 35 = .ok (.iload 4, 2) := by decide +kernel
theorem dX7_hasForm_37 : decode cX7_hasForm 37 = .ok (.bipush 35, 2) := by decide +kernel
theorem dX7_hasForm_39 : decode cX7_hasForm 39 = .ok (.if_icmp .ne 11, 3) := by decide +kernel
theorem dX7_hasForm_42 : decode cX7_hasForm 42 = .ok (.aload_n 0, 1) := by decide +kernel
theorem dX7_hasForm_43 : decode cX7_hasForm 43 = .ok (.iconst 1, 1) := by decide +kernel
theorem dX7_hasForm_44 : decode cX7_hasForm 44 = .ok (.invokevirtual 82, 3) := by decide +kernel
theorem dX7_hasForm_47 : decode cX7_hasForm 47 = .ok (.goto 41, 3) := by decide +kernel
theorem dX7_hasForm_50 : decode cX7_hasForm 50 = .ok (.iload 4, 2) := by decide +kernel
theorem dX7_hasForm_52 : decode cX7_hasForm 52 = .ok (.bipush 37, 2) := by decide +kernel
theorem dX7_hasForm_54 : decode cX7_hasForm 54 = .ok (.if_icmp .ne 11, 3) := by decide +kernel
theorem dX7_hasForm_57 : decode cX7_hasForm 57 = .ok (.aload_n 0, 1) := by decide +kernel
theorem dX7_hasForm_58 : decode cX7_hasForm 58 = .ok (.iconst 2, 1) := by decide +kernel
theorem dX7_hasForm_59 : decode cX7_hasForm 59 = .ok (.invokevirtual 82, 3) := by decide +kernel
theorem dX7_hasForm_62 : decode cX7_hasForm 62 = .ok (.goto 26, 3) := by decide +kernel
theorem dX7_hasForm_65 : decode cX7_hasForm 65 = .ok (.aload_n 0, 1) := by decide +kernel
theorem dX7_hasForm_66 : decode cX7_hasForm 66 = .ok (.aload_n 0, 1) := by decide +kernel
theorem dX7_hasForm_67 : decode cX7_hasForm 67 = .ok (.getfield 45, 3) := by decide +kernel
theorem dX7_hasForm_70 : decode cX7_hasForm 70 = .ok (.invokevirtual 48, 3) := by decide +kernel
theorem dX7_hasForm_73 : decode cX7_hasForm 73 = .ok (.iload 4, 2) := by decide +kernel
theorem dX7_hasForm_75 : decode cX7_hasForm 75 = .ok (.if_icmp .ne 13, 3) := by decide +kernel
theorem dX7_hasForm_78 : decode cX7_hasForm 78 = .ok (.aload_n 0, 1) := by decide +kernel
theorem dX7_hasForm_79 : decode cX7_hasForm 79 = .ok (.dup, 1) := by decide +kernel
theorem dX7_hasForm_80 : decode cX7_hasForm 80 = .ok (.getfield 45, 3) := by decide +kernel
theorem dX7_hasForm_83 : decode cX7_hasForm 83 = .ok (.iconst 1, 1) := by decide +kernel
theorem dX7_hasForm_84 : decode cX7_hasForm 84 = .ok (.iadd, 1) := by decide +kernel
theorem dX7_hasForm_85 : decode cX7_hasForm 85 = .ok (.putfield 45, 3) := by decide +kernel
theorem dX7_hasForm_88 : decode cX7_hasForm 88 = .ok (.aload_n 0, 1) := by decide +kernel
theorem dX7_hasForm_89 : decode cX7_hasForm 89 = .ok (.getfield 45, 3) := by decide +kernel
theorem dX7_hasForm_92 : decode cX7_hasForm 92 = .ok (.iload_n 3, 1) := by decide +kernel
theorem dX7_hasForm_93 : decode cX7_hasForm 93 = .ok (.if_icmp .ne 5, 3) := by decide +kernel
theorem dX7_hasForm_96 : decode cX7_hasForm 96 = .ok (.iconst 0, 1) := by decide +kernel
theorem dX7_hasForm_97 : decode cX7_hasForm 97 = .ok (.ireturn, 1) := by decide +kernel
theorem dX7_hasForm_98 : decode cX7_hasForm 98 = .ok (.iinc 2 1, 3) := by decide +kernel
theorem dX7_hasForm_101 : decode cX7_hasForm 101 = .ok (.goto (-86), 3) := by decide +kernel
theorem dX7_hasForm_104 : decode cX7_hasForm 104 = .ok (.iconst 1, 1) := by decide +kernel
theorem dX7_hasForm_105 : decode cX7_hasForm 105 = .ok (.ireturn, 1) := by decide +kernel
set_option maxRecDepth 20000 in
theorem ggX7_readNumber_X7_signAt : GoodIn wsX7_readNumber wsX7_signAt := goodIn_ca (goodIn_r _ [8, 9, 10, 14, 15, 16, 17, 18, 19, 20] (by decide +kernel) (by decide +kernel)) (goodIn_sub (fun _ h => List.mem_cons_of_mem _ (List.mem_append_right _ h)) (by decide +kernel))
set_option maxRecDepth 20000 in
theorem gX7_readNumber_X7_signAt : GoodIn wsX7_readNumber (wsV RX7 48 RX7 yX7_signAt wsX7_signAt) := goodIn_app (goodIn_of _ (by decide +kernel)) ggX7_readNumber_X7_signAt
set_option maxRecDepth 20000 in
theorem ggX7_readNumber_X7_isDigit : GoodIn wsX7_readNumber wsX7_isDigit := goodIn_r _ [13] (by decide +kernel) (by decide +kernel)
set_option maxRecDepth 20000 in
theorem gX7_readNumber_X7_isDigit : GoodIn wsX7_readNumber (va_wsS RX7 86 yX7_isDigit wsX7_isDigit) := goodIn_app (goodIn_of _ (by decide +kernel)) ggX7_readNumber_X7_isDigit
theorem dX7_readNumber_0 : decode cX7_readNumber 0 = .ok (.iconst 0, 1) := by decide +kernel
theorem dX7_readNumber_1 : decode cX7_readNumber 1 = .ok (.istore_n 2, 1) := by decide +kernel
theorem dX7_readNumber_2 : decode cX7_readNumber 2 = .ok (.iconst 0, 1) := by decide +kernel
theorem dX7_readNumber_3 : decode cX7_readNumber 3 = .ok (.istore_n 3, 1) := by decide +kernel
theorem dX7_readNumber_4 : decode cX7_readNumber 4 = .ok (.iload_n 3, 1) := by decide +kernel
theorem dX7_readNumber_5 : decode cX7_readNumber 5 = .ok (.iload_n 1, 1) := by decide +kernel
theorem dX7_readNumber_6 : decode cX7_readNumber 6 = .ok (.if_icmp .ge 50, 3) := by decide +kernel
theorem dX7_readNumber_9 : decode cX7_readNumber 9 = .ok (.aload_n 0, 1) := by decide +kernel
theorem dX7_readNumber_10 : decode cX7_readNumber 10 = .ok (.aload_n 0, 1) := by decide +kernel
theorem dX7_readNumber_11 : decode cX7_readNumber 11 = .ok (.getfield 45, 3) := by decide +kernel
theorem dX7_readNumber_14 : decode cX7_readNumber 14 = .ok (.invokevirtual 48, 3) := by decide +kernel
theorem dX7_readNumber_17 : decode cX7_readNumber 17 = .ok (.invokestatic 86, 3) := by decide +kernel
theorem dX7_readNumber_20 : decode cX7_readNumber 20 = .ok (.ifCond .eq 36, 3) := by decide +kernel
theorem dX7_readNumber_23 : decode cX7_readNumber 23 = .ok (.iload_n 2, 1) := by decide +kernel
theorem dX7_readNumber_24 : decode cX7_readNumber 24 = .ok (.bipush 10, 2) := by decide +kernel
theorem dX7_readNumber_26 : decode cX7_readNumber 26 = .ok (.imul, 1) := by decide +kernel
theorem dX7_readNumber_27 : decode cX7_readNumber 27 = .ok (.aload_n 0, 1) := by decide +kernel
theorem dX7_readNumber_28 : decode cX7_readNumber 28 = .ok (.aload_n 0, 1) := by decide +kernel
theorem dX7_readNumber_29 : decode cX7_readNumber 29 = .ok (.getfield 45, 3) := by decide +kernel
theorem dX7_readNumber_32 : decode cX7_readNumber 32 = .ok (.invokevirtual 48, 3) := by decide +kernel
theorem dX7_readNumber_35 : decode cX7_readNumber 35 = .ok (.iadd, 1) := by decide +kernel
theorem dX7_readNumber_36 : decode cX7_readNumber 36 = .ok (.bipush 48, 2) := by decide +kernel
theorem dX7_readNumber_38 : decode cX7_readNumber 38 = .ok (.isub, 1) := by decide +kernel
theorem dX7_readNumber_39 : decode cX7_readNumber 39 = .ok (.istore_n 2, 1) := by decide +kernel
theorem dX7_readNumber_40 : decode cX7_readNumber 40 = .ok (.aload_n 0, 1) := by decide +kernel
theorem dX7_readNumber_41 : decode cX7_readNumber 41 = .ok (.dup, 1) := by decide +kernel
theorem dX7_readNumber_42 : decode cX7_readNumber 42 = .ok (.getfield 45, 3) := by decide +kernel
theorem dX7_readNumber_45 : decode cX7_readNumber 45 = .ok (.iconst 1, 1) := by decide +kernel
theorem dX7_readNumber_46 : decode cX7_readNumber 46 = .ok (.iadd, 1) := by decide +kernel
theorem dX7_readNumber_47 : decode cX7_readNumber 47 = .ok (.putfield 45, 3) := by decide +kernel
theorem dX7_readNumber_50 : decode cX7_readNumber 50 = .ok (.iinc 3 1, 3) := by decide +kernel
theorem dX7_readNumber_53 : decode cX7_readNumber 53 = .ok (.goto (-49), 3) := by decide +kernel
theorem dX7_readNumber_56 : decode cX7_readNumber 56 = .ok (.aload_n 0, 1) := by decide +kernel
theorem dX7_readNumber_57 : decode cX7_readNumber 57 = .ok (.getfield 35, 3) := by decide +kernel
theorem dX7_readNumber_60 : decode cX7_readNumber 60 = .ok (.iconst 3, 1) := by decide +kernel
theorem dX7_readNumber_61 : decode cX7_readNumber 61 = .ok (.if_icmp .ge 23, 3) := by decide +kernel
theorem dX7_readNumber_64 : decode cX7_readNumber 64 = .ok (.aload_n 0, 1) := by decide +kernel
theorem dX7_readNumber_65 : decode cX7_readNumber 65 = .ok (.getfield 15, 3) := by decide +kernel
theorem dX7_readNumber_68 : decode cX7_readNumber 68 = .ok (.aload_n 0, 1) := by decide +kernel
theorem dX7_readNumber_69 : decode cX7_readNumber 69 = .ok (.getfield 35, 3) := by decide +kernel
theorem dX7_readNumber_72 : decode cX7_readNumber 72 = .ok (.iload_n 2, 1) := by decide +kernel
theorem dX7_readNumber_73 : decode cX7_readNumber 73 = .ok (.iastore, 1) := by decide +kernel
theorem dX7_readNumber_74 : decode cX7_readNumber 74 = .ok (.aload_n 0, 1) := by decide +kernel
theorem dX7_readNumber_75 : decode cX7_readNumber 75 = .ok (.dup, 1) := by decide +kernel
theorem dX7_readNumber_76 : decode cX7_readNumber 76 = .ok (.getfield 35, 3) := by decide +kernel
theorem dX7_readNumber_79 : decode cX7_readNumber 79 = .ok (.iconst 1, 1) := by decide +kernel
theorem dX7_readNumber_80 : decode cX7_readNumber 80 = .ok (.iadd, 1) := by decide +kernel
theorem dX7_readNumber_81 : decode cX7_readNumber 81 = .ok (.putfield 35, 3) := by decide +kernel
theorem dX7_readNumber_84 : decode cX7_readNumber 84 = .ok (.return_, 1) := by decide +kernel
theorem dX7_signAt_0 : decode cX7_signAt 0 = .ok (.iload_n 1, 1) := by decide +kernel
theorem dX7_signAt_1 : decode cX7_signAt 1 = .ok (.ifCond .lt 20, 3) := by decide +kernel
theorem dX7_signAt_4 : decode cX7_signAt 4 = .ok (.iload_n 1, 1) := by decide +kernel
theorem dX7_signAt_5 : decode cX7_signAt 5 = .ok (.aload_n 0, 1) := by decide +kernel
theorem dX7_signAt_6 : decode cX7_signAt 6 = .ok (.getfield 28, 3) := by decide +kernel
theorem dX7_signAt_9 : decode cX7_signAt 9 = .ok (.if_icmp .ge 12, 3) := by decide +kernel
theorem dX7_signAt_12 : decode cX7_signAt 12 = .ok (.aload_n 0, 1) := by decide +kernel
theorem dX7_signAt_13 : decode cX7_signAt 13 = .ok (.getfield 9, 3) := by decide +kernel
theorem dX7_signAt_16 : decode cX7_signAt 16 = .ok (.iload_n 1, 1) := by decide +kernel
theorem dX7_signAt_17 : decode cX7_signAt 17 = .ok (.caload, 1) := by decide +kernel
theorem dX7_signAt_18 : decode cX7_signAt 18 = .ok (.goto 4, 3) := by decide +kernel
theorem dX7_signAt_21 : decode cX7_signAt 21 = .ok (.iconst (-1), 1) := by decide +kernel
theorem dX7_signAt_22 : decode cX7_signAt 22 = .ok (.ireturn, 1) := by decide +kernel
theorem dX7_isDigit_0 : decode cX7_isDigit 0 = .ok (.iload_n 0, 1) := by decide +kernel
theorem dX7_isDigit_1 : decode cX7_isDigit 1 = .ok (.bipush 48, 2) := by decide +kernel
theorem dX7_isDigit_3 : decode cX7_isDigit 3 = .ok (.if_icmp .lt 13, 3) := by decide +kernel
theorem dX7_isDigit_6 : decode cX7_isDigit 6 = .ok (.iload_n 0, 1) := by decide +kernel
theorem dX7_isDigit_7 : decode cX7_isDigit 7 = .ok (.bipush 57, 2) := by decide +kernel
theorem dX7_isDigit_9 : decode cX7_isDigit 9 = .ok (.if_icmp .gt 7, 3) := by decide +kernel
theorem dX7_isDigit_12 : decode cX7_isDigit 12 = .ok (.iconst 1, 1) := by decide +kernel
theorem dX7_isDigit_13 : decode cX7_isDigit 13 = .ok (.goto 4, 3) := by decide +kernel
theorem dX7_isDigit_16 : decode cX7_isDigit 16 = .ok (.iconst 0, 1) := by decide +kernel
theorem dX7_isDigit_17 : decode cX7_isDigit 17 = .ok (.ireturn, 1) := by decide +kernel
set_option maxRecDepth 20000 in
theorem ggX8_init_X5_init : GoodIn wsX8_init wsX5_init := goodIn_r _ [13, 14, 2, 3, 15, 16, 17, 27, 28, 29] (by decide +kernel) (by decide +kernel)
set_option maxRecDepth 20000 in
theorem gX8_init_X5_init_n11 : GoodIn wsX8_init (wsX5_init) := ggX8_init_X5_init
set_option maxRecDepth 20000 in
theorem ggX8_init_X3_init : GoodIn wsX8_init wsX3_init := goodIn_r _ [19, 20, 2, 3, 21, 15, 22, 23, 24, 25, 26, 32, 33, 34, 35, 36] (by decide +kernel) (by decide +kernel)
set_option maxRecDepth 20000 in
theorem gX8_init_X3_init_n20 : GoodIn wsX8_init (wsX3_init) := ggX8_init_X3_init
theorem dX8_init_0 : decode cX8_init 0 = .ok (.aload_n 0, 1) := by decide +kernel
theorem dX8_init_1 : decode cX8_init 1 = .ok (.invokespecial 3, 3) := by decide +kernel
theorem dX8_init_4 : decode cX8_init 4 = .ok (.aload_n 0, 1) := by decide +kernel
theorem dX8_init_5 : decode cX8_init 5 = .ok (.new 9, 3) := by decide +kernel
theorem dX8_init_8 : decode cX8_init 8 = .ok (.dup, 1) := by decide +kernel
theorem dX8_init_9 : decode cX8_init 9 = .ok (.invokespecial 11, 3) := by decide +kernel
theorem dX8_init_12 : decode cX8_init 12 = .ok (.putfield 12, 3) := by decide +kernel
theorem dX8_init_15 : decode cX8_init 15 = .ok (.aload_n 0, 1) := by decide +kernel
theorem dX8_init_16 : decode cX8_init 16 = .ok (.new 18, 3) := by decide +kernel
theorem dX8_init_19 : decode cX8_init 19 = .ok (.dup, 1) := by decide +kernel
theorem dX8_init_20 : decode cX8_init 20 = .ok (.invokespecial 20, 3) := by decide +kernel
theorem dX8_init_23 : decode cX8_init 23 = .ok (.putfield 21, 3) := by decide +kernel
theorem dX8_init_26 : decode cX8_init 26 = .ok (.return_, 1) := by decide +kernel
set_option maxRecDepth 20000 in
theorem ggX8_valueAt_X10_need : GoodIn wsX8_valueAt wsX10_need := goodIn_r _ [6, 7, 38, 39, 40] (by decide +kernel) (by decide +kernel)
set_option maxRecDepth 20000 in
theorem gX8_valueAt_X10_need : GoodIn wsX8_valueAt (wsV RX8 25 RX10 yX10_need wsX10_need) := goodIn_app (goodIn_of _ (by decide +kernel)) ggX8_valueAt_X10_need
set_option maxRecDepth 20000 in
theorem ggX8_valueAt_X10_firstHolders : GoodIn wsX8_valueAt wsX10_firstHolders := goodIn_ca (goodIn_r _ [11, 12, 38, 39, 40] (by decide +kernel) (by decide +kernel)) (goodIn_sub (fun _ h => List.mem_cons_of_mem _ (List.mem_append_right _ h)) (by decide +kernel))
set_option maxRecDepth 20000 in
theorem gX8_valueAt_X10_firstHolders : GoodIn wsX8_valueAt (wsV RX8 31 RX10 yX10_firstHolders wsX10_firstHolders) := goodIn_app (goodIn_of _ (by decide +kernel)) ggX8_valueAt_X10_firstHolders
set_option maxRecDepth 20000 in
theorem ggX8_valueAt_X5_takeFrom : GoodIn wsX8_valueAt wsX5_takeFrom := goodIn_ca (goodIn_r _ [17, 18, 19, 20, 21, 22, 23, 5, 24, 12, 41, 42, 43, 38, 39, 40] (by decide +kernel) (by decide +kernel)) (goodIn_sub (fun _ h => List.mem_cons_of_mem _ (List.mem_append_right _ h)) (by decide +kernel))
set_option maxRecDepth 20000 in
theorem gX8_valueAt_X5_takeFrom : GoodIn wsX8_valueAt (wsV RX8 35 RX5 yX5_takeFrom wsX5_takeFrom) := goodIn_app (goodIn_of _ (by decide +kernel)) ggX8_valueAt_X5_takeFrom
set_option maxRecDepth 20000 in
theorem ggX8_valueAt_X5_valueAt : GoodIn wsX8_valueAt wsX5_valueAt := goodIn_ca (goodIn_r _ [28, 18, 19, 20, 29, 30, 31, 32, 33, 34, 35, 41, 42, 43] (by decide +kernel) (by decide +kernel)) (goodIn_sub (fun _ h => List.mem_cons_of_mem _ (List.mem_append_right _ h)) (by decide +kernel))
set_option maxRecDepth 20000 in
theorem gX8_valueAt_X5_valueAt : GoodIn wsX8_valueAt (wsV RX8 39 RX5 yX5_valueAt wsX5_valueAt) := goodIn_app (goodIn_of _ (by decide +kernel)) ggX8_valueAt_X5_valueAt
theorem dX8_valueAt_0 : decode cX8_valueAt 0 = .ok (.aload_n 0, 1) := by decide +kernel
theorem dX8_valueAt_1 : decode cX8_valueAt 1 = .ok (.getfield 12, 3) := by decide +kernel
theorem dX8_valueAt_4 : decode cX8_valueAt 4 = .ok (.aload_n 1, 1) := by decide +kernel
theorem dX8_valueAt_5 : decode cX8_valueAt 5 = .ok (.aload_n 1, 1) := by decide +kernel
theorem dX8_valueAt_6 : decode cX8_valueAt 6 = .ok (.aload_n 1, 1) := by decide +kernel
theorem dX8_valueAt_7 : decode cX8_valueAt 7 = .ok (.invokevirtual 25, 3) := by decide +kernel
theorem dX8_valueAt_10 : decode cX8_valueAt 10 = .ok (.invokevirtual 31, 3) := by decide +kernel
theorem dX8_valueAt_13 : decode cX8_valueAt 13 = .ok (.invokevirtual 35, 3) := by decide +kernel
theorem dX8_valueAt_16 : decode cX8_valueAt 16 = .ok (.aload_n 0, 1) := by decide +kernel
theorem dX8_valueAt_17 : decode cX8_valueAt 17 = .ok (.getfield 12, 3) := by decide +kernel
theorem dX8_valueAt_20 : decode cX8_valueAt 20 = .ok (.iload_n 2, 1) := by decide +kernel
theorem dX8_valueAt_21 : decode cX8_valueAt 21 = .ok (.invokevirtual 39, 3) := by decide +kernel
theorem dX8_valueAt_24 : decode cX8_valueAt 24 = .ok (.ireturn, 1) := by decide +kernel
set_option maxRecDepth 20000 in
theorem ggX8_valueByElimination_X10_need : GoodIn wsX8_valueByElimination wsX10_need := goodIn_r _ [6, 7, 64, 65, 66] (by decide +kernel) (by decide +kernel)
set_option maxRecDepth 20000 in
theorem gX8_valueByElimination_X10_need : GoodIn wsX8_valueByElimination (wsV RX8 25 RX10 yX10_need wsX10_need) := goodIn_app (goodIn_of _ (by decide +kernel)) ggX8_valueByElimination_X10_need
set_option maxRecDepth 20000 in
theorem ggX8_valueByElimination_X3_begin : GoodIn wsX8_valueByElimination wsX3_begin := goodIn_ca (goodIn_r _ [12, 13, 14, 15, 16, 17, 18, 19, 20, 21, 67, 68, 69, 70, 71] (by decide +kernel) (by decide +kernel)) (goodIn_sub (fun _ h => List.mem_cons_of_mem _ (List.mem_append_right _ h)) (by decide +kernel))
set_option maxRecDepth 20000 in
theorem gX8_valueByElimination_X3_begin : GoodIn wsX8_valueByElimination (wsV RX8 42 RX3 yX3_begin wsX3_begin) := goodIn_app (goodIn_of _ (by decide +kernel)) ggX8_valueByElimination_X3_begin
set_option maxRecDepth 20000 in
theorem ggX8_valueByElimination_X10_firstHolders : GoodIn wsX8_valueByElimination wsX10_firstHolders := goodIn_ca (goodIn_r _ [25, 26, 64, 65, 66] (by decide +kernel) (by decide +kernel)) (goodIn_sub (fun _ h => List.mem_cons_of_mem _ (List.mem_append_right _ h)) (by decide +kernel))
set_option maxRecDepth 20000 in
theorem gX8_valueByElimination_X10_firstHolders : GoodIn wsX8_valueByElimination (wsV RX8 31 RX10 yX10_firstHolders wsX10_firstHolders) := goodIn_app (goodIn_of _ (by decide +kernel)) ggX8_valueByElimination_X10_firstHolders
set_option maxRecDepth 20000 in
theorem ggX8_valueByElimination_X8_canTakeAll : GoodIn wsX8_valueByElimination wsX8_canTakeAll := goodIn_ca (goodIn_r _ [31, 1, 32, 33, 34, 5, 35, 26, 36, 37, 38, 11, 39, 20, 40, 21, 41, 42, 43, 44, 45, 46, 47, 48, 49, 50, 51, 52, 53, 54, 55, 56, 62, 63, 64, 65, 66, 67, 68, 69, 70, 71] (by decide +kernel) (by decide +kernel)) (goodIn_sub (fun _ h => List.mem_cons_of_mem _ (List.mem_append_right _ h)) (by decide +kernel))
set_option maxRecDepth 20000 in
theorem gX8_valueByElimination_X8_canTakeAll : GoodIn wsX8_valueByElimination (wsV RX8 46 RX8 yX8_canTakeAll wsX8_canTakeAll) := goodIn_app (goodIn_of _ (by decide +kernel)) ggX8_valueByElimination_X8_canTakeAll
set_option maxRecDepth 20000 in
theorem ggX8_valueByElimination_X3_constant : GoodIn wsX8_valueByElimination wsX3_constant := goodIn_ca (goodIn_r _ [60, 20, 45, 61, 54, 55, 48, 56, 67, 68, 69, 70, 71] (by decide +kernel) (by decide +kernel)) (goodIn_sub (fun _ h => List.mem_cons_of_mem _ (List.mem_append_right _ h)) (by decide +kernel))
set_option maxRecDepth 20000 in
theorem gX8_valueByElimination_X3_constant : GoodIn wsX8_valueByElimination (wsV RX8 50 RX3 yX3_constant wsX3_constant) := goodIn_app (goodIn_of _ (by decide +kernel)) ggX8_valueByElimination_X3_constant
theorem dX8_valueByElimination_0 : decode cX8_valueByElimination 0 = .ok (.aload_n 0, 1) := by decide +kernel
theorem dX8_valueByElimination_1 : decode cX8_valueByElimination 1 = .ok (.getfield 21, 3) := by decide +kernel
theorem dX8_valueByElimination_4 : decode cX8_valueByElimination 4 = .ok (.aload_n 1, 1) := by decide +kernel
theorem dX8_valueByElimination_5 : decode cX8_valueByElimination 5 = .ok (.invokevirtual 25, 3) := by decide +kernel
theorem dX8_valueByElimination_8 : decode cX8_valueByElimination 8 = .ok (.invokevirtual 42, 3) := by decide +kernel
theorem dX8_valueByElimination_11 : decode cX8_valueByElimination 11 = .ok (.aload_n 0, 1) := by decide +kernel
theorem dX8_valueByElimination_12 : decode cX8_valueByElimination 12 = .ok (.aload_n 1, 1) := by decide +kernel
theorem dX8_valueByElimination_13 : decode cX8_valueByElimination 13 = .ok (.aload_n 1, 1) := by decide +kernel
theorem dX8_valueByElimination_14 : decode cX8_valueByElimination 14 = .ok (.aload_n 1, 1) := by decide +kernel
theorem dX8_valueByElimination_15 : decode cX8_valueByElimination 15 = .ok (.invokevirtual 25, 3) := by decide +kernel
theorem dX8_valueByElimination_18 : decode cX8_valueByElimination 18 = .ok (.invokevirtual 31, 3) := by decide +kernel
theorem dX8_valueByElimination_21 : decode cX8_valueByElimination 21 = .ok (.invokevirtual 46, 3) := by decide +kernel
theorem dX8_valueByElimination_24 : decode cX8_valueByElimination 24 = .ok (.pop, 1) := by decide +kernel
theorem dX8_valueByElimination_25 : decode cX8_valueByElimination 25 = .ok (.aload_n 0, 1) := by decide +kernel
theorem dX8_valueByElimination_26 : decode cX8_valueByElimination 26 = .ok (.getfield 21, 3) := by decide +kernel
theorem dX8_valueByElimination_29 : decode cX8_valueByElimination 29 = .ok (.invokevirtual 50, 3) := by decide +kernel
theorem dX8_valueByElimination_32 : decode cX8_valueByElimination 32 = .ok (.ireturn, 1) := by decide +kernel
set_option maxRecDepth 20000 in
theorem ggX8_canTakeAll_X10_shareWith : GoodIn wsX8_canTakeAll wsX10_shareWith := goodIn_ca (goodIn_r _ [6, 7, 34, 35, 36] (by decide +kernel) (by decide +kernel)) (goodIn_sub (fun _ h => List.mem_cons_of_mem _ (List.mem_append_right _ h)) (by decide +kernel))
set_option maxRecDepth 20000 in
theorem gX8_canTakeAll_X10_shareWith : GoodIn wsX8_canTakeAll (wsV RX8 53 RX10 yX10_shareWith wsX10_shareWith) := goodIn_app (goodIn_of _ (by decide +kernel)) ggX8_canTakeAll_X10_shareWith
set_option maxRecDepth 20000 in
theorem ggX8_canTakeAll_X3_take : GoodIn wsX8_canTakeAll wsX3_take := goodIn_ca (goodIn_r _ [12, 13, 14, 15, 16, 17, 18, 11, 19, 20, 21, 22, 23, 24, 25, 26, 27, 28, 29, 30, 31, 37, 38, 39, 40, 41] (by decide +kernel) (by decide +kernel)) (goodIn_sub (fun _ h => List.mem_cons_of_mem _ (List.mem_append_right _ h)) (by decide +kernel))
set_option maxRecDepth 20000 in
theorem gX8_canTakeAll_X3_take : GoodIn wsX8_canTakeAll (wsV RX8 56 RX3 yX3_take wsX3_take) := goodIn_app (goodIn_of _ (by decide +kernel)) ggX8_canTakeAll_X3_take
theorem dX8_canTakeAll_0 : decode cX8_canTakeAll 0 = .ok (.iconst 0, 1) := by decide +kernel
theorem dX8_canTakeAll_1 : decode cX8_canTakeAll 1 = .ok (.istore_n 3, 1) := by decide +kernel
theorem dX8_canTakeAll_2 : decode cX8_canTakeAll 2 = .ok (.iload_n 3, 1) := by decide +kernel
theorem dX8_canTakeAll_3 : decode cX8_canTakeAll 3 = .ok (.bipush 8, 2) := by decide +kernel
theorem dX8_canTakeAll_5 : decode cX8_canTakeAll 5 = .ok (.if_icmp .ge 38, 3) := by decide +kernel
theorem dX8_canTakeAll_8 : decode cX8_canTakeAll 8 = .ok (.iload_n 2, 1) := by decide +kernel
theorem dX8_canTakeAll_9 : decode cX8_canTakeAll 9 = .ok (.iload_n 3, 1) := by decide +kernel
theorem dX8_canTakeAll_10 : decode cX8_canTakeAll 10 = .ok (.ishr, 1) := by decide +kernel
theorem dX8_canTakeAll_11 : decode cX8_canTakeAll 11 = .ok (.iconst 1, 1) := by decide +kernel
theorem dX8_canTakeAll_12 : decode cX8_canTakeAll 12 = .ok (.iand, 1) := by decide +kernel
theorem dX8_canTakeAll_13 : decode cX8_canTakeAll 13 = .ok (.iconst 1, 1) := by decide +kernel
theorem dX8_canTakeAll_14 : decode cX8_canTakeAll 14 = .ok (.if_icmp .ne 23, 3) := by decide +kernel
theorem dX8_canTakeAll_17 : decode cX8_canTakeAll 17 = .ok (.aload_n 0, 1) := by decide +kernel
theorem dX8_canTakeAll_18 : decode cX8_canTakeAll 18 = .ok (.getfield 21, 3) := by decide +kernel
theorem dX8_canTakeAll_21 : decode cX8_canTakeAll 21 = .ok (.iload_n 3, 1) := by decide +kernel
theorem dX8_canTakeAll_22 : decode cX8_canTakeAll 22 = .ok (.iconst 1, 1) := by decide +kernel
theorem dX8_canTakeAll_23 : decode cX8_canTakeAll 23 = .ok (.iadd, 1) := by decide +kernel
theorem dX8_canTakeAll_24 : decode cX8_canTakeAll 24 = .ok (.aload_n 1, 1) := by decide +kernel
theorem dX8_canTakeAll_25 : decode cX8_canTakeAll 25 = .ok (.iload_n 3, 1) := by decide +kernel
theorem dX8_canTakeAll_26 : decode cX8_canTakeAll 26 = .ok (.invokevirtual 53, 3) := by decide +kernel
theorem dX8_canTakeAll_29 : decode cX8_canTakeAll 29 = .ok (.invokevirtual 56, 3) := by decide +kernel
theorem dX8_canTakeAll_32 : decode cX8_canTakeAll 32 = .ok (.ifCond .ne 5, 3) := by decide +kernel
theorem dX8_canTakeAll_35 : decode cX8_canTakeAll 35 = .ok (.iconst 0, 1) := by decide +kernel
theorem dX8_canTakeAll_36 : decode cX8_canTakeAll 36 = .ok (.ireturn, 1) := by decide +kernel
theorem dX8_canTakeAll_37 : decode cX8_canTakeAll 37 = .ok (.iinc 3 1, 3) := by decide +kernel
theorem dX8_canTakeAll_40 : decode cX8_canTakeAll 40 = .ok (.goto (-38), 3) := by decide +kernel
theorem dX8_canTakeAll_43 : decode cX8_canTakeAll 43 = .ok (.iconst 1, 1) := by decide +kernel
theorem dX8_canTakeAll_44 : decode cX8_canTakeAll 44 = .ok (.ireturn, 1) := by decide +kernel
set_option maxRecDepth 20000 in
theorem ggX8_unfitWithLeading_X10_need : GoodIn wsX8_unfitWithLeading wsX10_need := goodIn_r _ [5, 6, 42, 43, 44] (by decide +kernel) (by decide +kernel)
set_option maxRecDepth 20000 in
theorem gX8_unfitWithLeading_X10_need : GoodIn wsX8_unfitWithLeading (wsV RX8 25 RX10 yX10_need wsX10_need) := goodIn_app (goodIn_of _ (by decide +kernel)) ggX8_unfitWithLeading_X10_need
set_option maxRecDepth 20000 in
theorem ggX8_unfitWithLeading_X10_firstHolders : GoodIn wsX8_unfitWithLeading wsX10_firstHolders := goodIn_ca (goodIn_r _ [10, 11, 42, 43, 44] (by decide +kernel) (by decide +kernel)) (goodIn_sub (fun _ h => List.mem_cons_of_mem _ (List.mem_append_right _ h)) (by decide +kernel))
set_option maxRecDepth 20000 in
theorem gX8_unfitWithLeading_X10_firstHolders : GoodIn wsX8_unfitWithLeading (wsV RX8 31 RX10 yX10_firstHolders wsX10_firstHolders) := goodIn_app (goodIn_of _ (by decide +kernel)) ggX8_unfitWithLeading_X10_firstHolders
set_option maxRecDepth 20000 in
theorem ggX8_unfitWithLeading_X8_unfit : GoodIn wsX8_unfitWithLeading wsX8_unfit := goodIn_ca (goodIn_r _ [16, 17, 18, 19, 20, 21, 22, 23, 24, 25, 26, 27, 28, 4, 29, 11, 30, 31, 32, 33, 34, 35, 36, 37, 38, 39, 40, 41, 45, 46, 47, 48, 49, 42, 43, 44] (by decide +kernel) (by decide +kernel)) (goodIn_sub (fun _ h => List.mem_cons_of_mem _ (List.mem_append_right _ h)) (by decide +kernel))
set_option maxRecDepth 20000 in
theorem gX8_unfitWithLeading_X8_unfit : GoodIn wsX8_unfitWithLeading (wsV RX8 60 RX8 yX8_unfit wsX8_unfit) := goodIn_app (goodIn_of _ (by decide +kernel)) ggX8_unfitWithLeading_X8_unfit
theorem dX8_unfitWithLeading_0 : decode cX8_unfitWithLeading 0 = .ok (.aload_n 0, 1) := by decide +kernel
theorem dX8_unfitWithLeading_1 : decode cX8_unfitWithLeading 1 = .ok (.aload_n 1, 1) := by decide +kernel
theorem dX8_unfitWithLeading_2 : decode cX8_unfitWithLeading 2 = .ok (.aload_n 1, 1) := by decide +kernel
theorem dX8_unfitWithLeading_3 : decode cX8_unfitWithLeading 3 = .ok (.aload_n 1, 1) := by decide +kernel
theorem dX8_unfitWithLeading_4 : decode cX8_unfitWithLeading 4 = .ok (.invokevirtual 25, 3) := by decide +kernel
theorem dX8_unfitWithLeading_7 : decode cX8_unfitWithLeading 7 = .ok (.invokevirtual 31, 3) := by decide +kernel
theorem dX8_unfitWithLeading_10 : decode cX8_unfitWithLeading 10 = .ok (.aload_n 1, 1) := by decide +kernel
theorem dX8_unfitWithLeading_11 : decode cX8_unfitWithLeading 11 = .ok (.bipush 8, 2) := by decide +kernel
theorem dX8_unfitWithLeading_13 : decode cX8_unfitWithLeading 13 = .ok (.invokevirtual 31, 3) := by decide +kernel
theorem dX8_unfitWithLeading_16 : decode cX8_unfitWithLeading 16 = .ok (.invokevirtual 60, 3) := by decide +kernel
theorem dX8_unfitWithLeading_19 : decode cX8_unfitWithLeading 19 = .ok (.ireturn, 1) := by decide +kernel
set_option maxRecDepth 20000 in
theorem ggX8_unfit_X5_takeFrom : GoodIn wsX8_unfit wsX5_takeFrom := goodIn_ca (goodIn_r _ [6, 7, 8, 9, 10, 11, 12, 13, 14, 15, 30, 31, 32, 33, 34, 35] (by decide +kernel) (by decide +kernel)) (goodIn_sub (fun _ h => List.mem_cons_of_mem _ (List.mem_append_right _ h)) (by decide +kernel))
set_option maxRecDepth 20000 in
theorem gX8_unfit_X5_takeFrom : GoodIn wsX8_unfit (wsV RX8 35 RX5 yX5_takeFrom wsX5_takeFrom) := goodIn_app (goodIn_of _ (by decide +kernel)) ggX8_unfit_X5_takeFrom
set_option maxRecDepth 20000 in
theorem ggX8_unfit_X5_valueAt : GoodIn wsX8_unfit wsX5_valueAt := goodIn_ca (goodIn_r _ [19, 7, 8, 9, 20, 21, 22, 23, 24, 25, 26, 30, 31, 32] (by decide +kernel) (by decide +kernel)) (goodIn_sub (fun _ h => List.mem_cons_of_mem _ (List.mem_append_right _ h)) (by decide +kernel))
set_option maxRecDepth 20000 in
theorem gX8_unfit_X5_valueAt : GoodIn wsX8_unfit (wsV RX8 39 RX5 yX5_valueAt wsX5_valueAt) := goodIn_app (goodIn_of _ (by decide +kernel)) ggX8_unfit_X5_valueAt
set_option maxRecDepth 20000 in
theorem ggX8_unfit_X10_shareWith : GoodIn wsX8_unfit wsX10_shareWith := goodIn_ca (goodIn_r _ [14, 15, 33, 34, 35] (by decide +kernel) (by decide +kernel)) (goodIn_sub (fun _ h => List.mem_cons_of_mem _ (List.mem_append_right _ h)) (by decide +kernel))
set_option maxRecDepth 20000 in
theorem gX8_unfit_X10_shareWith : GoodIn wsX8_unfit (wsV RX8 53 RX10 yX10_shareWith wsX10_shareWith) := goodIn_app (goodIn_of _ (by decide +kernel)) ggX8_unfit_X10_shareWith
theorem dX8_unfit_0 : decode cX8_unfit 0 = .ok (.iconst 0, 1) := by decide +kernel
theorem dX8_unfit_1 : decode cX8_unfit 1 = .ok (.istore 4, 2) := by decide +kernel
theorem dX8_unfit_3 : decode cX8_unfit 3 = .ok (.aload_n 0, 1) := by decide +kernel
theorem dX8_unfit_4 : decode cX8_unfit 4 = .ok (.getfield 12, 3) := by decide +kernel
theorem dX8_unfit_7 : decode cX8_unfit 7 = .ok (.aload_n 1, 1) := by decide +kernel
theorem dX8_unfit_8 : decode cX8_unfit 8 = .ok (.iload_n 2, 1) := by decide +kernel
theorem dX8_unfit_9 : decode cX8_unfit 9 = .ok (.invokevirtual 35, 3) := by decide +kernel
theorem dX8_unfit_12 : decode cX8_unfit 12 = .ok (.iconst 0, 1) := by decide +kernel
theorem dX8_unfit_13 : decode cX8_unfit 13 = .ok (.istore 5, 2) := by decide +kernel
theorem dX8_unfit_15 : decode cX8_unfit 15 = .ok (.iload 5, 2) := by decide +kernel
theorem dX8_unfit_17 : decode cX8_unfit 17 = .ok (.bipush 8, 2) := by decide +kernel
theorem dX8_unfit_19 : decode cX8_unfit 19 = .ok (.if_icmp .ge 42, 3) := by decide +kernel
theorem dX8_unfit_22 : decode cX8_unfit 22 = .ok (.iload_n 3, 1) := by decide +kernel
theorem dX8_unfit_23 : decode cX8_unfit 23 = .ok (.iload 5, 2) := by decide +kernel
theorem dX8_unfit_25 : decode cX8_unfit 25 = .ok (.ishr, 1) := by decide +kernel
theorem dX8_unfit_26 : decode cX8_unfit 26 = .ok (.iconst 1, 1) := by decide +kernel
theorem dX8_unfit_27 : decode cX8_unfit 27 = .ok (.iand, 1) := by decide +kernel
theorem dX8_unfit_28 : decode cX8_unfit 28 = .ok (.iconst 1, 1) := by decide +kernel
theorem dX8_unfit_29 : decode cX8_unfit 29 = .ok (.if_icmp .ne 26, 3) := by decide +kernel
theorem dX8_unfit_32 : decode cX8_unfit 32 = .ok (.aload_n 0, 1) := by decide +kernel
theorem dX8_unfit_33 : decode cX8_unfit 33 = .ok (.getfield 12, 3) := by decide +kernel
theorem dX8_unfit_36 : decode cX8_unfit 36 = .ok (.iload 5, 2) := by decide +kernel
theorem dX8_unfit_38 : decode cX8_unfit 38 = .ok (.iconst 1, 1) := by decide +kernel
theorem dX8_unfit_39 : decode cX8_unfit 39 = .ok (.iadd, 1) := by decide +kernel
theorem dX8_unfit_40 : decode cX8_unfit 40 = .ok (.invokevirtual 39, 3) := by decide +kernel
theorem dX8_unfit_43 : decode cX8_unfit 43 = .ok (.aload_n 1, 1) := by decide +kernel
theorem dX8_unfit_44 : decode cX8_unfit 44 = .ok (.iload 5, 2) := by decide +kernel
theorem dX8_unfit_46 : decode cX8_unfit 46 = .ok (.invokevirtual 53, 3) := by decide +kernel
theorem dX8_unfit_49 : decode cX8_unfit 49 = .ok (.if_icmp .eq 6, 3) := by decide +kernel
theorem dX8_unfit_52 : decode cX8_unfit 52 = .ok (.iinc 4 1, 3) := by decide +kernel
theorem dX8_unfit_55 : decode cX8_unfit 55 = .ok (.iinc 5 1, 3) := by decide +kernel
theorem dX8_unfit_58 : decode cX8_unfit 58 = .ok (.goto (-43), 3) := by decide +kernel
theorem dX8_unfit_61 : decode cX8_unfit 61 = .ok (.iload 4, 2) := by decide +kernel
theorem dX8_unfit_63 : decode cX8_unfit 63 = .ok (.ireturn, 1) := by decide +kernel
set_option maxRecDepth 20000 in
theorem ggX8_leastUnfit_X10_firstHolders : GoodIn wsX8_leastUnfit wsX10_firstHolders := goodIn_ca (goodIn_r _ [9, 10, 53, 54, 55] (by decide +kernel) (by decide +kernel)) (goodIn_sub (fun _ h => List.mem_cons_of_mem _ (List.mem_append_right _ h)) (by decide +kernel))
set_option maxRecDepth 20000 in
theorem gX8_leastUnfit_X10_firstHolders : GoodIn wsX8_leastUnfit (wsV RX8 31 RX10 yX10_firstHolders wsX10_firstHolders) := goodIn_app (goodIn_of _ (by decide +kernel)) ggX8_leastUnfit_X10_firstHolders
set_option maxRecDepth 20000 in
theorem ggX8_leastUnfit_J6_bitCount_0f7a4 : GoodIn wsX8_leastUnfit wsJ6_bitCount_0f7a4 := goodIn_r _ [14, 15, 16, 17] (by decide +kernel) (by decide +kernel)
set_option maxRecDepth 20000 in
theorem gX8_leastUnfit_J6_bitCount_0f7a4 : GoodIn wsX8_leastUnfit (va_wsS RX8 64 yJ6_bitCount_0f7a4 wsJ6_bitCount_0f7a4) := goodIn_app (goodIn_of _ (by decide +kernel)) ggX8_leastUnfit_J6_bitCount_0f7a4
set_option maxRecDepth 20000 in
theorem ggX8_leastUnfit_X10_need : GoodIn wsX8_leastUnfit wsX10_need := goodIn_r _ [21, 22, 53, 54, 55] (by decide +kernel) (by decide +kernel)
set_option maxRecDepth 20000 in
theorem gX8_leastUnfit_X10_need : GoodIn wsX8_leastUnfit (wsV RX8 25 RX10 yX10_need wsX10_need) := goodIn_app (goodIn_of _ (by decide +kernel)) ggX8_leastUnfit_X10_need
set_option maxRecDepth 20000 in
theorem ggX8_leastUnfit_X8_unfit : GoodIn wsX8_leastUnfit wsX8_unfit := goodIn_ca (goodIn_r _ [27, 28, 29, 30, 31, 32, 33, 34, 35, 36, 37, 38, 39, 8, 40, 10, 41, 42, 43, 44, 45, 46, 47, 48, 49, 50, 51, 52, 56, 57, 58, 59, 60, 53, 54, 55] (by decide +kernel) (by decide +kernel)) (goodIn_sub (fun _ h => List.mem_cons_of_mem _ (List.mem_append_right _ h)) (by decide +kernel))
set_option maxRecDepth 20000 in
theorem gX8_leastUnfit_X8_unfit : GoodIn wsX8_leastUnfit (wsV RX8 60 RX8 yX8_unfit wsX8_unfit) := goodIn_app (goodIn_of _ (by decide +kernel)) ggX8_leastUnfit_X8_unfit
theorem dX8_leastUnfit_0 : decode cX8_leastUnfit 0 = .ok (.aload_n 1, 1) := by decide +kernel
theorem dX8_leastUnfit_1 : decode cX8_leastUnfit 1 = .ok (.bipush 8, 2) := by decide +kernel
theorem dX8_leastUnfit_3 : decode cX8_leastUnfit 3 = .ok (.invokevirtual 31, 3) := by decide +kernel
theorem dX8_leastUnfit_6 : decode cX8_leastUnfit 6 = .ok (.istore_n 2, 1) := by decide +kernel
theorem dX8_leastUnfit_7 : decode cX8_leastUnfit 7 = .ok (.bipush 8, 2) := by decide +kernel
theorem dX8_leastUnfit_9 : decode cX8_leastUnfit 9 = .ok (.istore_n 3, 1) := by decide +kernel
theorem dX8_leastUnfit_10 : decode cX8_leastUnfit 10 = .ok (.iconst 0, 1) := by decide +kernel
theorem dX8_leastUnfit_11 : decode cX8_leastUnfit 11 = .ok (.istore 4, 2) := by decide +kernel
theorem dX8_leastUnfit_13 : decode cX8_leastUnfit 13 = .ok (.iload 4, 2) := by decide +kernel
theorem dX8_leastUnfit_15 : decode cX8_leastUnfit 15 = .ok (.sipush 256, 3) := by decide +kernel
theorem dX8_leastUnfit_18 : decode cX8_leastUnfit 18 = .ok (.if_icmp .ge 48, 3) := by decide +kernel
theorem dX8_leastUnfit_21 : decode cX8_leastUnfit 21 = .ok (.iload 4, 2) := by decide +kernel
theorem dX8_leastUnfit_23 : decode cX8_leastUnfit 23 = .ok (.iload_n 2, 1) := by decide +kernel
theorem dX8_leastUnfit_24 : decode cX8_leastUnfit 24 = .ok (.iconst (-1), 1) := by decide +kernel
theorem dX8_leastUnfit_25 : decode cX8_leastUnfit 25 = .ok (.ixor, 1) := by decide +kernel
theorem dX8_leastUnfit_26 : decode cX8_leastUnfit 26 = .ok (.iand, 1) := by decide +kernel
theorem dX8_leastUnfit_27 : decode cX8_leastUnfit 27 = .ok (.ifCond .ne 33, 3) := by decide +kernel
theorem dX8_leastUnfit_30 : decode cX8_leastUnfit 30 = .ok (.iload 4, 2) := by decide +kernel
theorem dX8_leastUnfit_32 : decode cX8_leastUnfit 32 = .ok (.invokestatic 64, 3) := by decide +kernel
theorem dX8_leastUnfit_35 : decode cX8_leastUnfit 35 = .ok (.aload_n 1, 1) := by decide +kernel
theorem dX8_leastUnfit_36 : decode cX8_leastUnfit 36 = .ok (.invokevirtual 25, 3) := by decide +kernel
theorem dX8_leastUnfit_39 : decode cX8_leastUnfit 39 = .ok (.if_icmp .ne 21, 3) := by decide +kernel
theorem dX8_leastUnfit_42 : decode cX8_leastUnfit 42 = .ok (.iload_n 3, 1) := by decide +kernel
theorem dX8_leastUnfit_43 : decode cX8_leastUnfit 43 = .ok (.aload_n 0, 1) := by decide +kernel
theorem dX8_leastUnfit_44 : decode cX8_leastUnfit 44 = .ok (.aload_n 1, 1) := by decide +kernel
theorem dX8_leastUnfit_45 : decode cX8_leastUnfit 45 = .ok (.iload 4, 2) := by decide +kernel
theorem dX8_leastUnfit_47 : decode cX8_leastUnfit 47 = .ok (.iload_n 2, 1) := by decide +kernel
theorem dX8_leastUnfit_48 : decode cX8_leastUnfit 48 = .ok (.iload 4, 2) := by decide +kernel
theorem dX8_leastUnfit_50 : decode cX8_leastUnfit 50 = .ok (.iconst (-1), 1) := by decide +kernel
theorem dX8_leastUnfit_51 : decode cX8_leastUnfit 51 = .ok (.ixor, 1) := by decide +kernel
theorem dX8_leastUnfit_52 : decode cX8_leastUnfit 52 = .ok (.iand, 1) := by decide +kernel
theorem dX8_leastUnfit_53 : decode cX8_leastUnfit 53 = .ok (.invokevirtual 60, 3) := by decide +kernel
theorem dX8_leastUnfit_56 : decode cX8_leastUnfit 56 = .ok (.invokestatic 69, 3) := by decide +kernel
theorem dX8_leastUnfit_59 : decode cX8_leastUnfit 59 = .ok (.istore_n 3, 1) := by decide +kernel
theorem dX8_leastUnfit_60 : decode cX8_leastUnfit 60 = .ok (.iinc 4 1, 3) := by decide +kernel
theorem dX8_leastUnfit_63 : decode cX8_leastUnfit 63 = .ok (.goto (-50), 3) := by decide +kernel
theorem dX8_leastUnfit_66 : decode cX8_leastUnfit 66 = .ok (.iload_n 3, 1) := by decide +kernel
theorem dX8_leastUnfit_67 : decode cX8_leastUnfit 67 = .ok (.ireturn, 1) := by decide +kernel
set_option maxRecDepth 20000 in
theorem ggX8_valuesByFit_X10_need : GoodIn wsX8_valuesByFit wsX10_need := goodIn_r _ [5, 6, 42, 43, 44] (by decide +kernel) (by decide +kernel)
set_option maxRecDepth 20000 in
theorem gX8_valuesByFit_X10_need : GoodIn wsX8_valuesByFit (wsV RX8 25 RX10 yX10_need wsX10_need) := goodIn_app (goodIn_of _ (by decide +kernel)) ggX8_valuesByFit_X10_need
set_option maxRecDepth 20000 in
theorem ggX8_valuesByFit_X10_firstHolders : GoodIn wsX8_valuesByFit wsX10_firstHolders := goodIn_ca (goodIn_r _ [10, 11, 42, 43, 44] (by decide +kernel) (by decide +kernel)) (goodIn_sub (fun _ h => List.mem_cons_of_mem _ (List.mem_append_right _ h)) (by decide +kernel))
set_option maxRecDepth 20000 in
theorem gX8_valuesByFit_X10_firstHolders : GoodIn wsX8_valuesByFit (wsV RX8 31 RX10 yX10_firstHolders wsX10_firstHolders) := goodIn_app (goodIn_of _ (by decide +kernel)) ggX8_valuesByFit_X10_firstHolders
set_option maxRecDepth 20000 in
theorem ggX8_valuesByFit_X8_unfit : GoodIn wsX8_valuesByFit wsX8_unfit := goodIn_ca (goodIn_r _ [16, 17, 18, 19, 20, 21, 22, 23, 24, 25, 26, 27, 28, 4, 29, 11, 30, 31, 32, 33, 34, 35, 36, 37, 38, 39, 40, 41, 45, 46, 47, 48, 49, 42, 43, 44] (by decide +kernel) (by decide +kernel)) (goodIn_sub (fun _ h => List.mem_cons_of_mem _ (List.mem_append_right _ h)) (by decide +kernel))
set_option maxRecDepth 20000 in
theorem gX8_valuesByFit_X8_unfit : GoodIn wsX8_valuesByFit (wsV RX8 60 RX8 yX8_unfit wsX8_unfit) := goodIn_app (goodIn_of _ (by decide +kernel)) ggX8_valuesByFit_X8_unfit
theorem dX8_valuesByFit_0 : decode cX8_valuesByFit 0 = .ok (.iload_n 2, 1) := by decide +kernel
theorem dX8_valuesByFit_1 : decode cX8_valuesByFit 1 = .ok (.aload_n 1, 1) := by decide +kernel
theorem dX8_valuesByFit_2 : decode cX8_valuesByFit 2 = .ok (.invokevirtual 25, 3) := by decide +kernel
theorem dX8_valuesByFit_5 : decode cX8_valuesByFit 5 = .ok (.if_icmp .ge 6, 3) := by decide +kernel
theorem dX8_valuesByFit_8 : decode cX8_valuesByFit 8 = .ok (.bipush 97, 2) := by decide +kernel
theorem dX8_valuesByFit_10 : decode cX8_valuesByFit 10 = .ok (.ireturn, 1) := by decide +kernel
theorem dX8_valuesByFit_11 : decode cX8_valuesByFit 11 = .ok (.aload_n 1, 1) := by decide +kernel
theorem dX8_valuesByFit_12 : decode cX8_valuesByFit 12 = .ok (.aload_n 1, 1) := by decide +kernel
theorem dX8_valuesByFit_13 : decode cX8_valuesByFit 13 = .ok (.invokevirtual 25, 3) := by decide +kernel
theorem dX8_valuesByFit_16 : decode cX8_valuesByFit 16 = .ok (.invokevirtual 31, 3) := by decide +kernel
theorem dX8_valuesByFit_19 : decode cX8_valuesByFit 19 = .ok (.istore_n 3, 1) := by decide +kernel
theorem dX8_valuesByFit_20 : decode cX8_valuesByFit 20 = .ok (.aload_n 0, 1) := by decide +kernel
theorem dX8_valuesByFit_21 : decode cX8_valuesByFit 21 = .ok (.aload_n 1, 1) := by decide +kernel
theorem dX8_valuesByFit_22 : decode cX8_valuesByFit 22 = .ok (.iload_n 3, 1) := by decide +kernel
theorem dX8_valuesByFit_23 : decode cX8_valuesByFit 23 = .ok (.aload_n 1, 1) := by decide +kernel
theorem dX8_valuesByFit_24 : decode cX8_valuesByFit 24 = .ok (.iload_n 2, 1) := by decide +kernel
theorem dX8_valuesByFit_25 : decode cX8_valuesByFit 25 = .ok (.invokevirtual 31, 3) := by decide +kernel
theorem dX8_valuesByFit_28 : decode cX8_valuesByFit 28 = .ok (.invokevirtual 60, 3) := by decide +kernel
theorem dX8_valuesByFit_31 : decode cX8_valuesByFit 31 = .ok (.ifCond .ne 7, 3) := by decide +kernel
theorem dX8_valuesByFit_34 : decode cX8_valuesByFit 34 = .ok (.iconst 1, 1) := by decide +kernel
theorem dX8_valuesByFit_35 : decode cX8_valuesByFit 35 = .ok (.goto 4, 3) := by decide +kernel
theorem dX8_valuesByFit_38 : decode cX8_valuesByFit 38 = .ok (.iconst 0, 1) := by decide +kernel
theorem dX8_valuesByFit_39 : decode cX8_valuesByFit 39 = .ok (.ireturn, 1) := by decide +kernel
set_option maxRecDepth 20000 in
theorem ggX8_valuesByTrial_X10_firstHolders : GoodIn wsX8_valuesByTrial wsX10_firstHolders := goodIn_ca (goodIn_r _ [6, 7, 59, 60, 61] (by decide +kernel) (by decide +kernel)) (goodIn_sub (fun _ h => List.mem_cons_of_mem _ (List.mem_append_right _ h)) (by decide +kernel))
set_option maxRecDepth 20000 in
theorem gX8_valuesByTrial_X10_firstHolders : GoodIn wsX8_valuesByTrial (wsV RX8 31 RX10 yX10_firstHolders wsX10_firstHolders) := goodIn_app (goodIn_of _ (by decide +kernel)) ggX8_valuesByTrial_X10_firstHolders
set_option maxRecDepth 20000 in
theorem ggX8_valuesByTrial_X10_need : GoodIn wsX8_valuesByTrial wsX10_need := goodIn_r _ [11, 12, 59, 60, 61] (by decide +kernel) (by decide +kernel)
set_option maxRecDepth 20000 in
theorem gX8_valuesByTrial_X10_need : GoodIn wsX8_valuesByTrial (wsV RX8 25 RX10 yX10_need wsX10_need) := goodIn_app (goodIn_of _ (by decide +kernel)) ggX8_valuesByTrial_X10_need
set_option maxRecDepth 20000 in
theorem ggX8_valuesByTrial_X3_begin : GoodIn wsX8_valuesByTrial wsX3_begin := goodIn_ca (goodIn_r _ [17, 18, 19, 20, 21, 22, 23, 24, 25, 26, 62, 63, 64, 65, 66] (by decide +kernel) (by decide +kernel)) (goodIn_sub (fun _ h => List.mem_cons_of_mem _ (List.mem_append_right _ h)) (by decide +kernel))
set_option maxRecDepth 20000 in
theorem gX8_valuesByTrial_X3_begin : GoodIn wsX8_valuesByTrial (wsV RX8 42 RX3 yX3_begin wsX3_begin) := goodIn_app (goodIn_of _ (by decide +kernel)) ggX8_valuesByTrial_X3_begin
set_option maxRecDepth 20000 in
theorem ggX8_valuesByTrial_X3_take : GoodIn wsX8_valuesByTrial wsX3_take := goodIn_ca (goodIn_r _ [30, 25, 31, 26, 32, 33, 34, 16, 35, 36, 37, 38, 39, 40, 41, 42, 43, 44, 45, 46, 47, 62, 63, 64, 65, 66] (by decide +kernel) (by decide +kernel)) (goodIn_sub (fun _ h => List.mem_cons_of_mem _ (List.mem_append_right _ h)) (by decide +kernel))
set_option maxRecDepth 20000 in
theorem gX8_valuesByTrial_X3_take : GoodIn wsX8_valuesByTrial (wsV RX8 56 RX3 yX3_take wsX3_take) := goodIn_app (goodIn_of _ (by decide +kernel)) ggX8_valuesByTrial_X3_take
set_option maxRecDepth 20000 in
theorem ggX8_valuesByTrial_X8_canTakeAll : GoodIn wsX8_valuesByTrial wsX8_canTakeAll := goodIn_ca (goodIn_r _ [52, 1, 53, 54, 55, 5, 56, 7, 27, 28, 29, 16, 30, 25, 31, 26, 32, 33, 34, 35, 36, 37, 38, 39, 40, 41, 42, 43, 44, 45, 46, 47, 57, 58, 59, 60, 61, 62, 63, 64, 65, 66] (by decide +kernel) (by decide +kernel)) (goodIn_sub (fun _ h => List.mem_cons_of_mem _ (List.mem_append_right _ h)) (by decide +kernel))
set_option maxRecDepth 20000 in
theorem gX8_valuesByTrial_X8_canTakeAll : GoodIn wsX8_valuesByTrial (wsV RX8 46 RX8 yX8_canTakeAll wsX8_canTakeAll) := goodIn_app (goodIn_of _ (by decide +kernel)) ggX8_valuesByTrial_X8_canTakeAll
theorem dX8_valuesByTrial_0 : decode cX8_valuesByTrial 0 = .ok (.aload_n 1, 1) := by decide +kernel
theorem dX8_valuesByTrial_1 : decode cX8_valuesByTrial 1 = .ok (.iload_n 2, 1) := by decide +kernel
theorem dX8_valuesByTrial_2 : decode cX8_valuesByTrial 2 = .ok (.invokevirtual 31, 3) := by decide +kernel
theorem dX8_valuesByTrial_5 : decode cX8_valuesByTrial 5 = .ok (.istore_n 3, 1) := by decide +kernel
theorem dX8_valuesByTrial_6 : decode cX8_valuesByTrial 6 = .ok (.iconst 0, 1) := by decide +kernel
theorem dX8_valuesByTrial_7 : decode cX8_valuesByTrial 7 = .ok (.istore 4, 2) := by decide +kernel
theorem dX8_valuesByTrial_9 : decode cX8_valuesByTrial 9 = .ok (.iconst 0, 1) := by decide +kernel
theorem dX8_valuesByTrial_10 : decode cX8_valuesByTrial 10 = .ok (.istore 5, 2) := by decide +kernel
theorem dX8_valuesByTrial_12 : decode cX8_valuesByTrial 12 = .ok (.iload 5, 2) := by decide +kernel
theorem dX8_valuesByTrial_14 : decode cX8_valuesByTrial 14 = .ok (.bipush 97, 2) := by decide +kernel
theorem dX8_valuesByTrial_16 : decode cX8_valuesByTrial 16 = .ok (.if_icmp .ge 45, 3) := by decide +kernel
theorem dX8_valuesByTrial_19 : decode cX8_valuesByTrial 19 = .ok (.aload_n 0, 1) := by decide +kernel
theorem dX8_valuesByTrial_20 : decode cX8_valuesByTrial 20 = .ok (.getfield 21, 3) := by decide +kernel
theorem dX8_valuesByTrial_23 : decode cX8_valuesByTrial 23 = .ok (.aload_n 1, 1) := by decide +kernel
theorem dX8_valuesByTrial_24 : decode cX8_valuesByTrial 24 = .ok (.invokevirtual 25, 3) := by decide +kernel
theorem dX8_valuesByTrial_27 : decode cX8_valuesByTrial 27 = .ok (.invokevirtual 42, 3) := by decide +kernel
theorem dX8_valuesByTrial_30 : decode cX8_valuesByTrial 30 = .ok (.aload_n 0, 1) := by decide +kernel
theorem dX8_valuesByTrial_31 : decode cX8_valuesByTrial 31 = .ok (.getfield 21, 3) := by decide +kernel
theorem dX8_valuesByTrial_34 : decode cX8_valuesByTrial 34 = .ok (.iconst 0, 1) := by decide +kernel
theorem dX8_valuesByTrial_35 : decode cX8_valuesByTrial 35 = .ok (.iload 5, 2) := by decide +kernel
theorem dX8_valuesByTrial_37 : decode cX8_valuesByTrial 37 = .ok (.invokevirtual 56, 3) := by decide +kernel
theorem dX8_valuesByTrial_40 : decode cX8_valuesByTrial 40 = .ok (.ifCond .eq 15, 3) := by decide +kernel
theorem dX8_valuesByTrial_43 : decode cX8_valuesByTrial 43 = .ok (.aload_n 0, 1) := by decide +kernel
theorem dX8_valuesByTrial_44 : decode cX8_valuesByTrial 44 = .ok (.aload_n 1, 1) := by decide +kernel
theorem dX8_valuesByTrial_45 : decode cX8_valuesByTrial 45 = .ok (.iload_n 3, 1) := by decide +kernel
theorem dX8_valuesByTrial_46 : decode cX8_valuesByTrial 46 = .ok (.invokevirtual 46, 3) := by decide +kernel
theorem dX8_valuesByTrial_49 : decode cX8_valuesByTrial 49 = .ok (.ifCond .eq 6, 3) := by decide +kernel
theorem dX8_valuesByTrial_52 : decode cX8_valuesByTrial 52 = .ok (.iinc 4 1, 3) := by decide +kernel
theorem dX8_valuesByTrial_55 : decode cX8_valuesByTrial 55 = .ok (.iinc 5 1, 3) := by decide +kernel
theorem dX8_valuesByTrial_58 : decode cX8_valuesByTrial 58 = .ok (.goto (-46), 3) := by decide +kernel
theorem dX8_valuesByTrial_61 : decode cX8_valuesByTrial 61 = .ok (.iload 4, 2) := by decide +kernel
theorem dX8_valuesByTrial_63 : decode cX8_valuesByTrial 63 = .ok (.ireturn, 1) := by decide +kernel
set_option maxRecDepth 20000 in
theorem ggX8_agreesOn_X10_isRebuildable : GoodIn wsX8_agreesOn wsX10_isRebuildable := goodIn_ca (goodIn_r _ [5, 6, 7, 8, 9, 4, 10, 11, 12, 13, 14, 15, 16, 17, 18, 19, 20, 21, 22, 115, 116, 117] (by decide +kernel) (by decide +kernel)) (goodIn_sub (fun _ h => List.mem_cons_of_mem _ (List.mem_append_right _ h)) (by decide +kernel))
set_option maxRecDepth 20000 in
theorem gX8_agreesOn_X10_isRebuildable : GoodIn wsX8_agreesOn (wsV RX8 75 RX10 yX10_isRebuildable wsX10_isRebuildable) := goodIn_app (goodIn_of _ (by decide +kernel)) ggX8_agreesOn_X10_isRebuildable
set_option maxRecDepth 20000 in
theorem ggX8_agreesOn_X8_valueAt : GoodIn wsX8_agreesOn wsX8_valueAt := goodIn_ca (goodIn_r _ [27, 28, 29, 30, 31, 4, 32, 6, 33, 12, 13, 14, 15, 34, 35, 36, 37, 38, 39, 40, 41, 42, 43, 44, 45, 46, 47, 48, 49, 50, 51, 52, 53, 54, 55, 56, 118, 119, 115, 116, 117, 120, 121, 122] (by decide +kernel) (by decide +kernel)) (goodIn_sub (fun _ h => List.mem_cons_of_mem _ (List.mem_append_right _ h)) (by decide +kernel))
set_option maxRecDepth 20000 in
theorem gX8_agreesOn_X8_valueAt : GoodIn wsX8_agreesOn (wsV RX8 79 RX8 yX8_valueAt wsX8_valueAt) := goodIn_app (goodIn_of _ (by decide +kernel)) ggX8_agreesOn_X8_valueAt
set_option maxRecDepth 20000 in
theorem ggX8_agreesOn_X8_valueByElimination : GoodIn wsX8_agreesOn wsX8_valueByElimination := goodIn_ca (goodIn_r _ [60, 61, 29, 30, 31, 4, 32, 6, 62, 63, 64, 65, 66, 67, 68, 69, 70, 71, 72, 73, 74, 75, 33, 12, 13, 14, 15, 76, 77, 78, 26, 79, 80, 43, 44, 45, 81, 82, 83, 84, 85, 86, 87, 88, 89, 90, 91, 55, 52, 56, 92, 93, 94, 95, 96, 51, 53, 97, 98, 99, 100, 101, 118, 119, 115, 116, 117, 123, 124, 125, 126, 127] (by decide +kernel) (by decide +kernel)) (goodIn_sub (fun _ h => List.mem_cons_of_mem _ (List.mem_append_right _ h)) (by decide +kernel))
set_option maxRecDepth 20000 in
theorem gX8_agreesOn_X8_valueByElimination : GoodIn wsX8_agreesOn (wsV RX8 82 RX8 yX8_valueByElimination wsX8_valueByElimination) := goodIn_app (goodIn_of _ (by decide +kernel)) ggX8_agreesOn_X8_valueByElimination
set_option maxRecDepth 20000 in
theorem ggX8_agreesOn_X10_holderTally : GoodIn wsX8_agreesOn wsX10_holderTally := goodIn_ca (goodIn_r _ [10, 11, 12, 13, 4, 14, 15, 16, 17, 18, 19, 20, 21, 22, 115, 116, 117] (by decide +kernel) (by decide +kernel)) (goodIn_sub (fun _ h => List.mem_cons_of_mem _ (List.mem_append_right _ h)) (by decide +kernel))
set_option maxRecDepth 20000 in
theorem gX8_agreesOn_X10_holderTally : GoodIn wsX8_agreesOn (wsV RX8 86 RX10 yX10_holderTally wsX10_holderTally) := goodIn_app (goodIn_of _ (by decide +kernel)) ggX8_agreesOn_X10_holderTally
set_option maxRecDepth 20000 in
theorem ggX8_agreesOn_X8_valuesByFit : GoodIn wsX8_agreesOn wsX8_valuesByFit := goodIn_ca (goodIn_r _ [106, 29, 30, 31, 4, 32, 6, 33, 12, 13, 14, 15, 107, 108, 109, 26, 110, 28, 34, 35, 36, 37, 38, 39, 40, 41, 42, 43, 44, 45, 46, 47, 48, 49, 50, 51, 52, 53, 54, 55, 56, 80, 115, 116, 117, 118, 119, 120, 121, 122] (by decide +kernel) (by decide +kernel)) (goodIn_sub (fun _ h => List.mem_cons_of_mem _ (List.mem_append_right _ h)) (by decide +kernel))
set_option maxRecDepth 20000 in
theorem gX8_agreesOn_X8_valuesByFit : GoodIn wsX8_agreesOn (wsV RX8 89 RX8 yX8_valuesByFit wsX8_valuesByFit) := goodIn_app (goodIn_of _ (by decide +kernel)) ggX8_agreesOn_X8_valuesByFit
set_option maxRecDepth 20000 in
theorem ggX8_agreesOn_X8_valuesByTrial : GoodIn wsX8_agreesOn wsX8_valuesByTrial := goodIn_ca (goodIn_r _ [114, 61, 33, 12, 13, 4, 14, 15, 29, 30, 31, 32, 6, 62, 63, 64, 65, 66, 67, 68, 69, 70, 71, 72, 73, 74, 75, 81, 82, 83, 84, 85, 86, 87, 88, 89, 90, 91, 55, 52, 56, 92, 93, 94, 95, 96, 51, 53, 76, 77, 78, 26, 79, 80, 43, 44, 45, 118, 119, 115, 116, 117, 123, 124, 125, 126, 127] (by decide +kernel) (by decide +kernel)) (goodIn_sub (fun _ h => List.mem_cons_of_mem _ (List.mem_append_right _ h)) (by decide +kernel))
set_option maxRecDepth 20000 in
theorem gX8_agreesOn_X8_valuesByTrial : GoodIn wsX8_agreesOn (wsV RX8 92 RX8 yX8_valuesByTrial wsX8_valuesByTrial) := goodIn_app (goodIn_of _ (by decide +kernel)) ggX8_agreesOn_X8_valuesByTrial
theorem dX8_agreesOn_0 : decode cX8_agreesOn 0 = .ok (.aload_n 1, 1) := by decide +kernel
theorem dX8_agreesOn_1 : decode cX8_agreesOn 1 = .ok (.invokevirtual 75, 3) := by decide +kernel
theorem dX8_agreesOn_4 : decode cX8_agreesOn 4 = .ok (.ifCond .eq 19, 3) := by decide +kernel
theorem dX8_agreesOn_7 : decode cX8_agreesOn 7 = .ok (.aload_n 0, 1) := by decide +kernel
theorem dX8_agreesOn_8 : decode cX8_agreesOn 8 = .ok (.aload_n 1, 1) := by decide +kernel
theorem dX8_agreesOn_9 : decode cX8_agreesOn 9 = .ok (.iconst 0, 1) := by decide +kernel
theorem dX8_agreesOn_10 : decode cX8_agreesOn 10 = .ok (.invokevirtual 79, 3) := by decide +kernel
theorem dX8_agreesOn_13 : decode cX8_agreesOn 13 = .ok (.aload_n 0, 1) := by decide +kernel
theorem dX8_agreesOn_14 : decode cX8_agreesOn 14 = .ok (.aload_n 1, 1) := by decide +kernel
theorem dX8_agreesOn_15 : decode cX8_agreesOn 15 = .ok (.invokevirtual 82, 3) := by decide +kernel
theorem dX8_agreesOn_18 : decode cX8_agreesOn 18 = .ok (.if_icmp .eq 5, 3) := by decide +kernel
theorem dX8_agreesOn_21 : decode cX8_agreesOn 21 = .ok (.iconst 0, 1) := by decide +kernel
theorem dX8_agreesOn_22 : decode cX8_agreesOn 22 = .ok (.ireturn, 1) := by decide +kernel
theorem dX8_agreesOn_23 : decode cX8_agreesOn 23 = .ok (.aload_n 1, 1) := by decide +kernel
theorem dX8_agreesOn_24 : decode cX8_agreesOn 24 = .ok (.invokevirtual 86, 3) := by decide +kernel
theorem dX8_agreesOn_27 : decode cX8_agreesOn 27 = .ok (.istore_n 2, 1) := by decide +kernel
theorem dX8_agreesOn_28 : decode cX8_agreesOn 28 = .ok (.aload_n 0, 1) := by decide +kernel
theorem dX8_agreesOn_29 : decode cX8_agreesOn 29 = .ok (.aload_n 1, 1) := by decide +kernel
theorem dX8_agreesOn_30 : decode cX8_agreesOn 30 = .ok (.iload_n 2, 1) := by decide +kernel
theorem dX8_agreesOn_31 : decode cX8_agreesOn 31 = .ok (.invokevirtual 89, 3) := by decide +kernel
theorem dX8_agreesOn_34 : decode cX8_agreesOn 34 = .ok (.aload_n 0, 1) := by decide +kernel
theorem dX8_agreesOn_35 : decode cX8_agreesOn 35 = .ok (.aload_n 1, 1) := by decide +kernel
theorem dX8_agreesOn_36 : decode cX8_agreesOn 36 = .ok (.iload_n 2, 1) := by decide +kernel
theorem dX8_agreesOn_37 : decode cX8_agreesOn 37 = .ok (.invokevirtual 92, 3) := by decide +kernel
theorem dX8_agreesOn_40 : decode cX8_agreesOn 40 = .ok (.if_icmp .ne 7, 3) := by decide +kernel
theorem dX8_agreesOn_43 : decode cX8_agreesOn 43 = .ok (.iconst 1, 1) := by decide +kernel
theorem dX8_agreesOn_44 : decode cX8_agreesOn 44 = .ok (.goto 4, 3) := by decide +kernel
theorem dX8_agreesOn_47 : decode cX8_agreesOn 47 = .ok (.iconst 0, 1) := by decide +kernel
theorem dX8_agreesOn_48 : decode cX8_agreesOn 48 = .ok (.ireturn, 1) := by decide +kernel
theorem dX9_inverseOf_0 : decode cX9_inverseOf 0 = .ok (.iload_n 0, 1) := by decide +kernel
theorem dX9_inverseOf_1 : decode cX9_inverseOf 1 = .ok (.bipush 97, 2) := by decide +kernel
theorem dX9_inverseOf_3 : decode cX9_inverseOf 3 = .ok (.irem, 1) := by decide +kernel
theorem dX9_inverseOf_4 : decode cX9_inverseOf 4 = .ok (.istore_n 1, 1) := by decide +kernel
theorem dX9_inverseOf_5 : decode cX9_inverseOf 5 = .ok (.iconst 1, 1) := by decide +kernel
theorem dX9_inverseOf_6 : decode cX9_inverseOf 6 = .ok (.istore_n 2, 1) := by decide +kernel
theorem dX9_inverseOf_7 : decode cX9_inverseOf 7 = .ok (.iconst 0, 1) := by decide +kernel
theorem dX9_inverseOf_8 : decode cX9_inverseOf 8 = .ok (.istore_n 3, 1) := by decide +kernel
theorem dX9_inverseOf_9 : decode cX9_inverseOf 9 = .ok (.iload_n 3, 1) := by decide +kernel
theorem dX9_inverseOf_10 : decode cX9_inverseOf 10 = .ok (.bipush 7, 2) := by decide +kernel
theorem dX9_inverseOf_12 : decode cX9_inverseOf 12 = .ok (.if_icmp .ge 33, 3) := by decide +kernel
theorem dX9_inverseOf_15 : decode cX9_inverseOf 15 = .ok (.bipush 95, 2) := by decide +kernel
theorem dX9_inverseOf_17 : decode cX9_inverseOf 17 = .ok (.iload_n 3, 1) := by decide +kernel
theorem dX9_inverseOf_18 : decode cX9_inverseOf 18 = .ok (.ishr, 1) := by decide +kernel
theorem dX9_inverseOf_19 : decode cX9_inverseOf 19 = .ok (.iconst 1, 1) := by decide +kernel
theorem dX9_inverseOf_20 : decode cX9_inverseOf 20 = .ok (.iand, 1) := by decide +kernel
theorem dX9_inverseOf_21 : decode cX9_inverseOf 21 = .ok (.iconst 1, 1) := by decide +kernel
theorem dX9_inverseOf_22 : decode cX9_inverseOf 22 = .ok (.if_icmp .ne 10, 3) := by decide +kernel
theorem dX9_inverseOf_25 : decode cX9_inverseOf 25 = .ok (.iload_n 2, 1) := by decide +kernel
theorem dX9_inverseOf_26 : decode cX9_inverseOf 26 = .ok (.iload_n 1, 1) := by decide +kernel
theorem dX9_inverseOf_27 : decode cX9_inverseOf 27 = .ok (.imul, 1) := by decide +kernel
theorem dX9_inverseOf_28 : decode cX9_inverseOf 28 = .ok (.bipush 97, 2) := by decide +kernel
theorem dX9_inverseOf_30 : decode cX9_inverseOf 30 = .ok (.irem, 1) := by decide +kernel
theorem dX9_inverseOf_31 : decode cX9_inverseOf 31 = .ok (.istore_n 2, 1) := by decide +kernel
theorem dX9_inverseOf_32 : decode cX9_inverseOf 32 = .ok (.iload_n 1, 1) := by decide +kernel
theorem dX9_inverseOf_33 : decode cX9_inverseOf 33 = .ok (.iload_n 1, 1) := by decide +kernel
theorem dX9_inverseOf_34 : decode cX9_inverseOf 34 = .ok (.imul, 1) := by decide +kernel
theorem dX9_inverseOf_35 : decode cX9_inverseOf 35 = .ok (.bipush 97, 2) := by decide +kernel
theorem dX9_inverseOf_37 : decode cX9_inverseOf 37 = .ok (.irem, 1) := by decide +kernel
theorem dX9_inverseOf_38 : decode cX9_inverseOf 38 = .ok (.istore_n 1, 1) := by decide +kernel
theorem dX9_inverseOf_39 : decode cX9_inverseOf 39 = .ok (.iinc 3 1, 3) := by decide +kernel
theorem dX9_inverseOf_42 : decode cX9_inverseOf 42 = .ok (.goto (-33), 3) := by decide +kernel
theorem dX9_inverseOf_45 : decode cX9_inverseOf 45 = .ok (.iload_n 2, 1) := by decide +kernel
theorem dX9_inverseOf_46 : decode cX9_inverseOf 46 = .ok (.ireturn, 1) := by decide +kernel
theorem dX9_difference_0 : decode cX9_difference 0 = .ok (.iload_n 0, 1) := by decide +kernel
theorem dX9_difference_1 : decode cX9_difference 1 = .ok (.bipush 97, 2) := by decide +kernel
theorem dX9_difference_3 : decode cX9_difference 3 = .ok (.iadd, 1) := by decide +kernel
theorem dX9_difference_4 : decode cX9_difference 4 = .ok (.iload_n 1, 1) := by decide +kernel
theorem dX9_difference_5 : decode cX9_difference 5 = .ok (.bipush 97, 2) := by decide +kernel
theorem dX9_difference_7 : decode cX9_difference 7 = .ok (.irem, 1) := by decide +kernel
theorem dX9_difference_8 : decode cX9_difference 8 = .ok (.isub, 1) := by decide +kernel
theorem dX9_difference_9 : decode cX9_difference 9 = .ok (.bipush 97, 2) := by decide +kernel
theorem dX9_difference_11 : decode cX9_difference 11 = .ok (.irem, 1) := by decide +kernel
theorem dX9_difference_12 : decode cX9_difference 12 = .ok (.ireturn, 1) := by decide +kernel
theorem dX9_seededValue_0 : decode cX9_seededValue 0 = .ok (.iload_n 0, 1) := by decide +kernel
theorem dX9_seededValue_1 : decode cX9_seededValue 1 = .ok (.istore 5, 2) := by decide +kernel
theorem dX9_seededValue_3 : decode cX9_seededValue 3 = .ok (.iconst 1, 1) := by decide +kernel
theorem dX9_seededValue_4 : decode cX9_seededValue 4 = .ok (.istore 6, 2) := by decide +kernel
theorem dX9_seededValue_6 : decode cX9_seededValue 6 = .ok (.iconst 1, 1) := by decide +kernel
theorem dX9_seededValue_7 : decode cX9_seededValue 7 = .ok (.istore 7, 2) := by decide +kernel
theorem dX9_seededValue_9 : decode cX9_seededValue 9 = .ok (.iload 7, 2) := by decide +kernel
theorem dX9_seededValue_11 : decode cX9_seededValue 11 = .ok (.iload_n 3, 1) := by decide +kernel
theorem dX9_seededValue_12 : decode cX9_seededValue 12 = .ok (.if_icmp .ge 39, 3) := by decide +kernel
theorem dX9_seededValue_15 : decode cX9_seededValue 15 = .ok (.iload 6, 2) := by decide +kernel
theorem dX9_seededValue_17 : decode cX9_seededValue 17 = .ok (.iload 4, 2) := by decide +kernel
theorem dX9_seededValue_19 : decode cX9_seededValue 19 = .ok (.imul, 1) := by decide +kernel
theorem dX9_seededValue_20 : decode cX9_seededValue 20 = .ok (.bipush 97, 2) := by decide +kernel
theorem dX9_seededValue_22 : decode cX9_seededValue 22 = .ok (.irem, 1) := by decide +kernel
theorem dX9_seededValue_23 : decode cX9_seededValue 23 = .ok (.istore 6, 2) := by decide +kernel
theorem dX9_seededValue_25 : decode cX9_seededValue 25 = .ok (.iload 5, 2) := by decide +kernel
theorem dX9_seededValue_27 : decode cX9_seededValue 27 = .ok (.iload_n 1, 1) := by decide +kernel
theorem dX9_seededValue_28 : decode cX9_seededValue 28 = .ok (.iload 7, 2) := by decide +kernel
theorem dX9_seededValue_30 : decode cX9_seededValue 30 = .ok (.imul, 1) := by decide +kernel
theorem dX9_seededValue_31 : decode cX9_seededValue 31 = .ok (.iload_n 2, 1) := by decide +kernel
theorem dX9_seededValue_32 : decode cX9_seededValue 32 = .ok (.iadd, 1) := by decide +kernel
theorem dX9_seededValue_33 : decode cX9_seededValue 33 = .ok (.bipush 97, 2) := by decide +kernel
theorem dX9_seededValue_35 : decode cX9_seededValue 35 = .ok (.irem, 1) := by decide +kernel
theorem dX9_seededValue_36 : decode cX9_seededValue 36 = .ok (.iload 6, 2) := by decide +kernel
theorem dX9_seededValue_38 : decode cX9_seededValue 38 = .ok (.imul, 1) := by decide +kernel
theorem dX9_seededValue_39 : decode cX9_seededValue 39 = .ok (.iadd, 1) := by decide +kernel
theorem dX9_seededValue_40 : decode cX9_seededValue 40 = .ok (.bipush 97, 2) := by decide +kernel
theorem dX9_seededValue_42 : decode cX9_seededValue 42 = .ok (.irem, 1) := by decide +kernel
theorem dX9_seededValue_43 : decode cX9_seededValue 43 = .ok (.istore 5, 2) := by decide +kernel
theorem dX9_seededValue_45 : decode cX9_seededValue 45 = .ok (.iinc 7 1, 3) := by decide +kernel
theorem dX9_seededValue_48 : decode cX9_seededValue 48 = .ok (.goto (-39), 3) := by decide +kernel
theorem dX9_seededValue_51 : decode cX9_seededValue 51 = .ok (.iload 5, 2) := by decide +kernel
theorem dX9_seededValue_53 : decode cX9_seededValue 53 = .ok (.ireturn, 1) := by decide +kernel
theorem dX10_init_0 : decode cX10_init 0 = .ok (.aload_n 0, 1) := by decide +kernel
theorem dX10_init_1 : decode cX10_init 1 = .ok (.invokespecial 3, 3) := by decide +kernel
theorem dX10_init_4 : decode cX10_init 4 = .ok (.aload_n 0, 1) := by decide +kernel
theorem dX10_init_5 : decode cX10_init 5 = .ok (.bipush 8, 2) := by decide +kernel
theorem dX10_init_7 : decode cX10_init 7 = .ok (.newarray .int, 2) := by decide +kernel
theorem dX10_init_9 : decode cX10_init 9 = .ok (.putfield 9, 3) := by decide +kernel
theorem dX10_init_12 : decode cX10_init 12 = .ok (.return_, 1) := by decide +kernel
theorem dX10_begin_0 : decode cX10_begin 0 = .ok (.aload_n 0, 1) := by decide +kernel
theorem dX10_begin_1 : decode cX10_begin 1 = .ok (.iload_n 1, 1) := by decide +kernel
theorem dX10_begin_2 : decode cX10_begin 2 = .ok (.putfield 15, 3) := by decide +kernel
theorem dX10_begin_5 : decode cX10_begin 5 = .ok (.aload_n 0, 1) := by decide +kernel
theorem dX10_begin_6 : decode cX10_begin 6 = .ok (.iload_n 2, 1) := by decide +kernel
theorem dX10_begin_7 : decode cX10_begin 7 = .ok (.putfield 19, 3) := by decide +kernel
theorem dX10_begin_10 : decode cX10_begin 10 = .ok (.iconst 0, 1) := by decide +kernel
theorem dX10_begin_11 : decode cX10_begin 11 = .ok (.istore_n 3, 1) := by decide +kernel
theorem dX10_begin_12 : decode cX10_begin 12 = .ok (.iload_n 3, 1) := by decide +kernel
theorem dX10_begin_13 : decode cX10_begin 13 = .ok (.bipush 8, 2) := by decide +kernel
theorem dX10_begin_15 : decode cX10_begin 15 = .ok (.if_icmp .ge 16, 3) := by decide +kernel
theorem dX10_begin_18 : decode cX10_begin 18 = .ok (.aload_n 0, 1) := by decide +kernel
theorem dX10_begin_19 : decode cX10_begin 19 = .ok (.getfield 9, 3) := by decide +kernel
theorem dX10_begin_22 : decode cX10_begin 22 = .ok (.iload_n 3, 1) := by decide +kernel
theorem dX10_begin_23 : decode cX10_begin 23 = .ok (.iconst (-1), 1) := by decide +kernel
theorem dX10_begin_24 : decode cX10_begin 24 = .ok (.iastore, 1) := by decide +kernel
theorem dX10_begin_25 : decode cX10_begin 25 = .ok (.iinc 3 1, 3) := by decide +kernel
theorem dX10_begin_28 : decode cX10_begin 28 = .ok (.goto (-16), 3) := by decide +kernel
theorem dX10_begin_31 : decode cX10_begin 31 = .ok (.return_, 1) := by decide +kernel
theorem dX10_copyFrom_0 : decode cX10_copyFrom 0 = .ok (.aload_n 0, 1) := by decide +kernel
theorem dX10_copyFrom_1 : decode cX10_copyFrom 1 = .ok (.aload_n 1, 1) := by decide +kernel
theorem dX10_copyFrom_2 : decode cX10_copyFrom 2 = .ok (.getfield 15, 3) := by decide +kernel
theorem dX10_copyFrom_5 : decode cX10_copyFrom 5 = .ok (.putfield 15, 3) := by decide +kernel
theorem dX10_copyFrom_8 : decode cX10_copyFrom 8 = .ok (.aload_n 0, 1) := by decide +kernel
theorem dX10_copyFrom_9 : decode cX10_copyFrom 9 = .ok (.aload_n 1, 1) := by decide +kernel
theorem dX10_copyFrom_10 : decode cX10_copyFrom 10 = .ok (.getfield 19, 3) := by decide +kernel
theorem dX10_copyFrom_13 : decode cX10_copyFrom 13 = .ok (.putfield 19, 3) := by decide +kernel
theorem dX10_copyFrom_16 : decode cX10_copyFrom 16 = .ok (.aload_n 1, 1) := by decide +kernel
theorem dX10_copyFrom_17 : decode cX10_copyFrom 17 = .ok (.getfield 9, 3) := by decide +kernel
theorem dX10_copyFrom_20 : decode cX10_copyFrom 20 = .ok (.iconst 0, 1) := by decide +kernel
theorem dX10_copyFrom_21 : decode cX10_copyFrom 21 = .ok (.aload_n 0, 1) := by decide +kernel
theorem dX10_copyFrom_22 : decode cX10_copyFrom 22 = .ok (.getfield 9, 3) := by decide +kernel
theorem dX10_copyFrom_25 : decode cX10_copyFrom 25 = .ok (.iconst 0, 1) := by decide +kernel
theorem dX10_copyFrom_26 : decode cX10_copyFrom 26 = .ok (.bipush 8, 2) := by decide +kernel
theorem dX10_copyFrom_28 : decode cX10_copyFrom 28 = .ok (.invokestatic 22, 3) := by decide +kernel
theorem dX10_copyFrom_31 : decode cX10_copyFrom 31 = .ok (.return_, 1) := by decide +kernel
theorem dX10_ownNumber_0 : decode cX10_ownNumber 0 = .ok (.aload_n 0, 1) := by decide +kernel
theorem dX10_ownNumber_1 : decode cX10_ownNumber 1 = .ok (.getfield 15, 3) := by decide +kernel
theorem dX10_ownNumber_4 : decode cX10_ownNumber 4 = .ok (.ireturn, 1) := by decide +kernel
theorem dX10_need_0 : decode cX10_need 0 = .ok (.aload_n 0, 1) := by decide +kernel
theorem dX10_need_1 : decode cX10_need 1 = .ok (.getfield 19, 3) := by decide +kernel
theorem dX10_need_4 : decode cX10_need 4 = .ok (.ireturn, 1) := by decide +kernel
theorem dX10_isHeldBy_0 : decode cX10_isHeldBy 0 = .ok (.iload_n 1, 1) := by decide +kernel
theorem dX10_isHeldBy_1 : decode cX10_isHeldBy 1 = .ok (.ifCond .lt 23, 3) := by decide +kernel
theorem dX10_isHeldBy_4 : decode cX10_isHeldBy 4 = .ok (.iload_n 1, 1) := by decide +kernel
theorem dX10_isHeldBy_5 : decode cX10_isHeldBy 5 = .ok (.bipush 8, 2) := by decide +kernel
theorem dX10_isHeldBy_7 : decode cX10_isHeldBy 7 = .ok (.if_icmp .ge 17, 3) := by decide +kernel
theorem dX10_isHeldBy_10 : decode cX10_isHeldBy 10 = .ok (.aload_n 0, 1) := by decide +kernel
theorem dX10_isHeldBy_11 : decode cX10_isHeldBy 11 = .ok (.getfield 9, 3) := by decide +kernel
theorem dX10_isHeldBy_14 : decode cX10_isHeldBy 14 = .ok (.iload_n 1, 1) := by decide +kernel
theorem dX10_isHeldBy_15 : decode cX10_isHeldBy 15 = .ok (.iaload, 1) := by decide +kernel
theorem dX10_isHeldBy_16 : decode cX10_isHeldBy 16 = .ok (.iconst (-1), 1) := by decide +kernel
theorem dX10_isHeldBy_17 : decode cX10_isHeldBy 17 = .ok (.if_icmp .eq 7, 3) := by decide +kernel
theorem dX10_isHeldBy_20 : decode cX10_isHeldBy 20 = .ok (.iconst 1, 1) := by decide +kernel
theorem dX10_isHeldBy_21 : decode cX10_isHeldBy 21 = .ok (.goto 4, 3) := by decide +kernel
theorem dX10_isHeldBy_24 : decode cX10_isHeldBy 24 = .ok (.iconst 0, 1) := by decide +kernel
theorem dX10_isHeldBy_25 : decode cX10_isHeldBy 25 = .ok (.ireturn, 1) := by decide +kernel
theorem dX10_shareWith_0 : decode cX10_shareWith 0 = .ok (.iload_n 1, 1) := by decide +kernel
theorem dX10_shareWith_1 : decode cX10_shareWith 1 = .ok (.ifCond .lt 18, 3) := by decide +kernel
theorem dX10_shareWith_4 : decode cX10_shareWith 4 = .ok (.iload_n 1, 1) := by decide +kernel
theorem dX10_shareWith_5 : decode cX10_shareWith 5 = .ok (.bipush 8, 2) := by decide +kernel
theorem dX10_shareWith_7 : decode cX10_shareWith 7 = .ok (.if_icmp .ge 12, 3) := by decide +kernel
theorem dX10_shareWith_10 : decode cX10_shareWith 10 = .ok (.aload_n 0, 1) := by decide +kernel
theorem dX10_shareWith_11 : decode cX10_shareWith 11 = .ok (.getfield 9, 3) := by decide +kernel
theorem dX10_shareWith_14 : decode cX10_shareWith 14 = .ok (.iload_n 1, 1) := by decide +kernel
theorem dX10_shareWith_15 : decode cX10_shareWith 15 = .ok (.iaload, 1) := by decide +kernel
theorem dX10_shareWith_16 : decode cX10_shareWith 16 = .ok (.goto 4, 3) := by decide +kernel
theorem dX10_shareWith_19 : decode cX10_shareWith 19 = .ok (.iconst (-1), 1) := by decide +kernel
theorem dX10_shareWith_20 : decode cX10_shareWith 20 = .ok (.ireturn, 1) := by decide +kernel
theorem dX10_give_0 : decode cX10_give 0 = .ok (.iload_n 1, 1) := by decide +kernel
theorem dX10_give_1 : decode cX10_give 1 = .ok (.ifCond .lt 16, 3) := by decide +kernel
theorem dX10_give_4 : decode cX10_give 4 = .ok (.iload_n 1, 1) := by decide +kernel
theorem dX10_give_5 : decode cX10_give 5 = .ok (.bipush 8, 2) := by decide +kernel
theorem dX10_give_7 : decode cX10_give 7 = .ok (.if_icmp .ge 10, 3) := by decide +kernel
theorem dX10_give_10 : decode cX10_give 10 = .ok (.aload_n 0, 1) := by decide +kernel
theorem dX10_give_11 : decode cX10_give 11 = .ok (.getfield 9, 3) := by decide +kernel
theorem dX10_give_14 : decode cX10_give 14 = .ok (.iload_n 1, 1) := by decide +kernel
theorem dX10_give_15 : decode cX10_give 15 = .ok (.iload_n 2, 1) := by decide +kernel
theorem dX10_give_16 : decode cX10_give 16 = .ok (.iastore, 1) := by decide +kernel
theorem dX10_give_17 : decode cX10_give 17 = .ok (.return_, 1) := by decide +kernel
set_option maxRecDepth 20000 in
theorem ggX10_holderTally_X10_firstHolders : GoodIn wsX10_holderTally wsX10_firstHolders := goodIn_ca (goodIn_r _ [5, 6, 14, 15, 16] (by decide +kernel) (by decide +kernel)) (goodIn_sub (fun _ h => List.mem_cons_of_mem _ (List.mem_append_right _ h)) (by decide +kernel))
set_option maxRecDepth 20000 in
theorem gX10_holderTally_X10_firstHolders : GoodIn wsX10_holderTally (wsV RX10 28 RX10 yX10_firstHolders wsX10_firstHolders) := goodIn_app (goodIn_of _ (by decide +kernel)) ggX10_holderTally_X10_firstHolders
set_option maxRecDepth 20000 in
theorem ggX10_holderTally_J6_bitCount_0f7a4 : GoodIn wsX10_holderTally wsJ6_bitCount_0f7a4 := goodIn_r _ [10, 11, 12, 13] (by decide +kernel) (by decide +kernel)
set_option maxRecDepth 20000 in
theorem gX10_holderTally_J6_bitCount_0f7a4 : GoodIn wsX10_holderTally (va_wsS RX10 32 yJ6_bitCount_0f7a4 wsJ6_bitCount_0f7a4) := goodIn_app (goodIn_of _ (by decide +kernel)) ggX10_holderTally_J6_bitCount_0f7a4
theorem dX10_holderTally_0 : decode cX10_holderTally 0 = .ok (.aload_n 0, 1) := by decide +kernel
theorem dX10_holderTally_1 : decode cX10_holderTally 1 = .ok (.bipush 8, 2) := by decide +kernel
theorem dX10_holderTally_3 : decode cX10_holderTally 3 = .ok (.invokevirtual 28, 3) := by decide +kernel
theorem dX10_holderTally_6 : decode cX10_holderTally 6 = .ok (.invokestatic 32, 3) := by decide +kernel
theorem dX10_holderTally_9 : decode cX10_holderTally 9 = .ok (.ireturn, 1) := by decide +kernel
set_option maxRecDepth 20000 in
theorem ggX10_isRebuildable_X10_holderTally : GoodIn wsX10_isRebuildable wsX10_holderTally := goodIn_ca (goodIn_r _ [6, 7, 8, 9, 5, 10, 11, 12, 13, 14, 15, 16, 17, 18, 19, 20, 21] (by decide +kernel) (by decide +kernel)) (goodIn_sub (fun _ h => List.mem_cons_of_mem _ (List.mem_append_right _ h)) (by decide +kernel))
set_option maxRecDepth 20000 in
theorem gX10_isRebuildable_X10_holderTally : GoodIn wsX10_isRebuildable (wsV RX10 37 RX10 yX10_holderTally wsX10_holderTally) := goodIn_app (goodIn_of _ (by decide +kernel)) ggX10_isRebuildable_X10_holderTally
theorem dX10_isRebuildable_0 : decode cX10_isRebuildable 0 = .ok (.aload_n 0, 1) := by decide +kernel
theorem dX10_isRebuildable_1 : decode cX10_isRebuildable 1 = .ok (.invokevirtual 37, 3) := by decide +kernel
theorem dX10_isRebuildable_4 : decode cX10_isRebuildable 4 = .ok (.aload_n 0, 1) := by decide +kernel
theorem dX10_isRebuildable_5 : decode cX10_isRebuildable 5 = .ok (.getfield 19, 3) := by decide +kernel
theorem dX10_isRebuildable_8 : decode cX10_isRebuildable 8 = .ok (.if_icmp .lt 7, 3) := by decide +kernel
theorem dX10_isRebuildable_11 : decode cX10_isRebuildable 11 = .ok (.iconst 1, 1) := by decide +kernel
theorem dX10_isRebuildable_12 : decode cX10_isRebuildable 12 = .ok (.goto 4, 3) := by decide +kernel
theorem dX10_isRebuildable_15 : decode cX10_isRebuildable 15 = .ok (.iconst 0, 1) := by decide +kernel
theorem dX10_isRebuildable_16 : decode cX10_isRebuildable 16 = .ok (.ireturn, 1) := by decide +kernel
theorem dX10_firstHolders_0 : decode cX10_firstHolders 0 = .ok (.iconst 0, 1) := by decide +kernel
theorem dX10_firstHolders_1 : decode cX10_firstHolders 1 = .ok (.istore_n 2, 1) := by decide +kernel
theorem dX10_firstHolders_2 : decode cX10_firstHolders 2 = .ok (.iconst 0, 1) := by decide +kernel
theorem dX10_firstHolders_3 : decode cX10_firstHolders 3 = .ok (.istore_n 3, 1) := by decide +kernel
theorem dX10_firstHolders_4 : decode cX10_firstHolders 4 = .ok (.iconst 0, 1) := by decide +kernel
theorem dX10_firstHolders_5 : decode cX10_firstHolders 5 = .ok (.istore 4, 2) := by decide +kernel
theorem dX10_firstHolders_7 : decode cX10_firstHolders 7 = .ok (.iload 4, 2) := by decide +kernel
theorem dX10_firstHolders_9 : decode cX10_firstHolders 9 = .ok (.bipush 8, 2) := by decide +kernel
theorem dX10_firstHolders_11 : decode cX10_firstHolders 11 = .ok (.if_icmp .ge 35, 3) := by decide +kernel
theorem dX10_firstHolders_14 : decode cX10_firstHolders 14 = .ok (.iload_n 3, 1) := by decide +kernel
theorem dX10_firstHolders_15 : decode cX10_firstHolders 15 = .ok (.iload_n 1, 1) := by decide +kernel
theorem dX10_firstHolders_16 : decode cX10_firstHolders 16 = .ok (.if_icmp .ge 30, 3) := by decide +kernel
theorem dX10_firstHolders_19 : decode cX10_firstHolders 19 = .ok (.aload_n 0, 1) := by decide +kernel
theorem dX10_firstHolders_20 : decode cX10_firstHolders 20 = .ok (.getfield 9, 3) := by decide +kernel
theorem dX10_firstHolders_23 : decode cX10_firstHolders 23 = .ok (.iload 4, 2) := by decide +kernel
theorem dX10_firstHolders_25 : decode cX10_firstHolders 25 = .ok (.iaload, 1) := by decide +kernel
theorem dX10_firstHolders_26 : decode cX10_firstHolders 26 = .ok (.iconst (-1), 1) := by decide +kernel
theorem dX10_firstHolders_27 : decode cX10_firstHolders 27 = .ok (.if_icmp .eq 13, 3) := by decide +kernel
theorem dX10_firstHolders_30 : decode cX10_firstHolders 30 = .ok (.iload_n 2, 1) := by decide +kernel
theorem dX10_firstHolders_31 : decode cX10_firstHolders 31 = .ok (.iconst 1, 1) := by decide +kernel
theorem dX10_firstHolders_32 : decode cX10_firstHolders 32 = .ok (.iload 4, 2) := by decide +kernel
theorem dX10_firstHolders_34 : decode cX10_firstHolders 34 = .ok (.ishl, 1) := by decide +kernel
theorem dX10_firstHolders_35 : decode cX10_firstHolders 35 = .ok (.ior, 1) := by decide +kernel
theorem dX10_firstHolders_36 : decode cX10_firstHolders 36 = .ok (.istore_n 2, 1) := by decide +kernel
theorem dX10_firstHolders_37 : decode cX10_firstHolders 37 = .ok (.iinc 3 1, 3) := by decide +kernel
theorem dX10_firstHolders_40 : decode cX10_firstHolders 40 = .ok (.iinc 4 1, 3) := by decide +kernel
theorem dX10_firstHolders_43 : decode cX10_firstHolders 43 = .ok (.goto (-36), 3) := by decide +kernel
theorem dX10_firstHolders_46 : decode cX10_firstHolders 46 = .ok (.iload_n 2, 1) := by decide +kernel
theorem dX10_firstHolders_47 : decode cX10_firstHolders 47 = .ok (.ireturn, 1) := by decide +kernel
set_option maxRecDepth 20000 in
theorem ggX10_dealTo_X9_seededValue : GoodIn wsX10_dealTo wsX9_seededValue := goodIn_r _ [5] (by decide +kernel) (by decide +kernel)
set_option maxRecDepth 20000 in
theorem gX10_dealTo_X9_seededValue : GoodIn wsX10_dealTo (va_wsS RX10 41 yX9_seededValue wsX9_seededValue) := goodIn_app (goodIn_of _ (by decide +kernel)) ggX10_dealTo_X9_seededValue
set_option maxRecDepth 20000 in
theorem ggX10_dealTo_X10_give : GoodIn wsX10_dealTo wsX10_give := goodIn_ca (goodIn_r _ [10, 11, 12, 13, 14] (by decide +kernel) (by decide +kernel)) (goodIn_sub (fun _ h => List.mem_cons_of_mem _ (List.mem_append_right _ h)) (by decide +kernel))
set_option maxRecDepth 20000 in
theorem gX10_dealTo_X10_give : GoodIn wsX10_dealTo (wsV RX10 47 RX10 yX10_give wsX10_give) := goodIn_app (goodIn_of _ (by decide +kernel)) ggX10_dealTo_X10_give
theorem dX10_dealTo_0 : decode cX10_dealTo 0 = .ok (.bipush 7, 2) := by decide +kernel
theorem dX10_dealTo_2 : decode cX10_dealTo 2 = .ok (.iload_n 2, 1) := by decide +kernel
theorem dX10_dealTo_3 : decode cX10_dealTo 3 = .ok (.imul, 1) := by decide +kernel
theorem dX10_dealTo_4 : decode cX10_dealTo 4 = .ok (.bipush 13, 2) := by decide +kernel
theorem dX10_dealTo_6 : decode cX10_dealTo 6 = .ok (.iadd, 1) := by decide +kernel
theorem dX10_dealTo_7 : decode cX10_dealTo 7 = .ok (.istore 4, 2) := by decide +kernel
theorem dX10_dealTo_9 : decode cX10_dealTo 9 = .ok (.iconst 0, 1) := by decide +kernel
theorem dX10_dealTo_10 : decode cX10_dealTo 10 = .ok (.istore 5, 2) := by decide +kernel
theorem dX10_dealTo_12 : decode cX10_dealTo 12 = .ok (.iload 5, 2) := by decide +kernel
theorem dX10_dealTo_14 : decode cX10_dealTo 14 = .ok (.iload_n 1, 1) := by decide +kernel
theorem dX10_dealTo_15 : decode cX10_dealTo 15 = .ok (.if_icmp .ge 30, 3) := by decide +kernel
theorem dX10_dealTo_18 : decode cX10_dealTo 18 = .ok (.aload_n 0, 1) := by decide +kernel
theorem dX10_dealTo_19 : decode cX10_dealTo 19 = .ok (.iload 5, 2) := by decide +kernel
theorem dX10_dealTo_21 : decode cX10_dealTo 21 = .ok (.iload_n 2, 1) := by decide +kernel
theorem dX10_dealTo_22 : decode cX10_dealTo 22 = .ok (.iload_n 3, 1) := by decide +kernel
theorem dX10_dealTo_23 : decode cX10_dealTo 23 = .ok (.iload 4, 2) := by decide +kernel
theorem dX10_dealTo_25 : decode cX10_dealTo 25 = .ok (.aload_n 0, 1) := by decide +kernel
theorem dX10_dealTo_26 : decode cX10_dealTo 26 = .ok (.getfield 19, 3) := by decide +kernel
theorem dX10_dealTo_29 : decode cX10_dealTo 29 = .ok (.iload 5, 2) := by decide +kernel
theorem dX10_dealTo_31 : decode cX10_dealTo 31 = .ok (.iconst 1, 1) := by decide +kernel
theorem dX10_dealTo_32 : decode cX10_dealTo 32 = .ok (.iadd, 1) := by decide +kernel
theorem dX10_dealTo_33 : decode cX10_dealTo 33 = .ok (.invokestatic 41, 3) := by decide +kernel
theorem dX10_dealTo_36 : decode cX10_dealTo 36 = .ok (.invokevirtual 47, 3) := by decide +kernel
theorem dX10_dealTo_39 : decode cX10_dealTo 39 = .ok (.iinc 5 1, 3) := by decide +kernel
theorem dX10_dealTo_42 : decode cX10_dealTo 42 = .ok (.goto (-30), 3) := by decide +kernel
theorem dX10_dealTo_45 : decode cX10_dealTo 45 = .ok (.return_, 1) := by decide +kernel
set_option maxRecDepth 20000 in
theorem ggX10_addRefreshing_X9_seededValue : GoodIn wsX10_addRefreshing wsX9_seededValue := goodIn_r _ [6] (by decide +kernel) (by decide +kernel)
set_option maxRecDepth 20000 in
theorem gX10_addRefreshing_X9_seededValue : GoodIn wsX10_addRefreshing (va_wsS RX10 41 yX9_seededValue wsX9_seededValue) := goodIn_app (goodIn_of _ (by decide +kernel)) ggX10_addRefreshing_X9_seededValue
theorem dX10_addRefreshing_0 : decode cX10_addRefreshing 0 = .ok (.iconst 0, 1) := by decide +kernel
theorem dX10_addRefreshing_1 : decode cX10_addRefreshing 1 = .ok (.istore_n 2, 1) := by decide +kernel
theorem dX10_addRefreshing_2 : decode cX10_addRefreshing 2 = .ok (.iconst 0, 1) := by decide +kernel
theorem dX10_addRefreshing_3 : decode cX10_addRefreshing 3 = .ok (.istore_n 3, 1) := by decide +kernel
theorem dX10_addRefreshing_4 : decode cX10_addRefreshing 4 = .ok (.iload_n 3, 1) := by decide +kernel
theorem dX10_addRefreshing_5 : decode cX10_addRefreshing 5 = .ok (.bipush 8, 2) := by decide +kernel
theorem dX10_addRefreshing_7 : decode cX10_addRefreshing 7 = .ok (.if_icmp .ge 60, 3) := by decide +kernel
theorem dX10_addRefreshing_10 : decode cX10_addRefreshing 10 = .ok (.iconst 0, 1) := by decide +kernel
theorem dX10_addRefreshing_11 : decode cX10_addRefreshing 11 = .ok (.iload_n 1, 1) := by decide +kernel
theorem dX10_addRefreshing_12 : decode cX10_addRefreshing 12 = .ok (.iconst 5, 1) := by decide +kernel
theorem dX10_addRefreshing_13 : decode cX10_addRefreshing 13 = .ok (.aload_n 0, 1) := by decide +kernel
theorem dX10_addRefreshing_14 : decode cX10_addRefreshing 14 = .ok (.getfield 19, 3) := by decide +kernel
theorem dX10_addRefreshing_17 : decode cX10_addRefreshing 17 = .ok (.iload_n 3, 1) := by decide +kernel
theorem dX10_addRefreshing_18 : decode cX10_addRefreshing 18 = .ok (.iconst 1, 1) := by decide +kernel
theorem dX10_addRefreshing_19 : decode cX10_addRefreshing 19 = .ok (.iadd, 1) := by decide +kernel
theorem dX10_addRefreshing_20 : decode cX10_addRefreshing 20 = .ok (.invokestatic 41, 3) := by decide +kernel
theorem dX10_addRefreshing_23 : decode cX10_addRefreshing 23 = .ok (.istore 4, 2) := by decide +kernel
theorem dX10_addRefreshing_25 : decode cX10_addRefreshing 25 = .ok (.aload_n 0, 1) := by decide +kernel
theorem dX10_addRefreshing_26 : decode cX10_addRefreshing 26 = .ok (.getfield 9, 3) := by decide +kernel
theorem dX10_addRefreshing_29 : decode cX10_addRefreshing 29 = .ok (.iload_n 3, 1) := by decide +kernel
theorem dX10_addRefreshing_30 : decode cX10_addRefreshing 30 = .ok (.iaload, 1) := by decide +kernel
theorem dX10_addRefreshing_31 : decode cX10_addRefreshing 31 = .ok (.iconst (-1), 1) := by decide +kernel
theorem dX10_addRefreshing_32 : decode cX10_addRefreshing 32 = .ok (.if_icmp .eq 29, 3) := by decide +kernel
theorem dX10_addRefreshing_35 : decode cX10_addRefreshing 35 = .ok (.iload 4, 2) := by decide +kernel
theorem dX10_addRefreshing_37 : decode cX10_addRefreshing 37 = .ok (.ifCond .eq 24, 3) := by decide +kernel
theorem dX10_addRefreshing_40 : decode cX10_addRefreshing 40 = .ok (.aload_n 0, 1) := by decide +kernel
theorem dX10_addRefreshing_41 : decode cX10_addRefreshing 41 = .ok (.getfield 9, 3) := by decide +kernel
theorem dX10_addRefreshing_44 : decode cX10_addRefreshing 44 = .ok (.iload_n 3, 1) := by decide +kernel
theorem dX10_addRefreshing_45 : decode cX10_addRefreshing 45 = .ok (.aload_n 0, 1) := by decide +kernel
theorem dX10_addRefreshing_46 : decode cX10_addRefreshing 46 = .ok (.getfield 9, 3) := by decide +kernel
theorem dX10_addRefreshing_49 : decode cX10_addRefreshing 49 = .ok (.iload_n 3, 1) := by decide +kernel
theorem dX10_addRefreshing_50 : decode cX10_addRefreshing 50 = .ok (.iaload, 1) := by decide +kernel
theorem dX10_addRefreshing_51 : decode cX10_addRefreshing 51 = .ok (.iload 4, 2) := by decide +kernel
theorem dX10_addRefreshing_53 : decode cX10_addRefreshing 53 = .ok (.iadd, 1) := by decide +kernel
theorem dX10_addRefreshing_54 : decode cX10_addRefreshing 54 = .ok (.bipush 97, 2) := by decide +kernel
theorem dX10_addRefreshing_56 : decode cX10_addRefreshing 56 = .ok (.irem, 1) := by decide +kernel
theorem dX10_addRefreshing_57 : decode cX10_addRefreshing 57 = .ok (.iastore, 1) := by decide +kernel
theorem dX10_addRefreshing_58 : decode cX10_addRefreshing 58 = .ok (.iinc 2 1, 3) := by decide +kernel
theorem dX10_addRefreshing_61 : decode cX10_addRefreshing 61 = .ok (.iinc 3 1, 3) := by decide +kernel
theorem dX10_addRefreshing_64 : decode cX10_addRefreshing 64 = .ok (.goto (-60), 3) := by decide +kernel
theorem dX10_addRefreshing_67 : decode cX10_addRefreshing 67 = .ok (.iload_n 2, 1) := by decide +kernel
theorem dX10_addRefreshing_68 : decode cX10_addRefreshing 68 = .ok (.ireturn, 1) := by decide +kernel
set_option maxRecDepth 20000 in
theorem ggX11_init_X10_init : GoodIn wsX11_init wsX10_init := goodIn_r _ [11, 12, 2, 3, 4, 13, 20, 21, 22] (by decide +kernel) (by decide +kernel)
set_option maxRecDepth 20000 in
theorem gX11_init_X10_init_n21 : GoodIn wsX11_init (wsX10_init) := ggX11_init_X10_init
theorem dX11_init_0 : decode cX11_init 0 = .ok (.aload_n 0, 1) := by decide +kernel
theorem dX11_init_1 : decode cX11_init 1 = .ok (.invokespecial 3, 3) := by decide +kernel
theorem dX11_init_4 : decode cX11_init 4 = .ok (.aload_n 0, 1) := by decide +kernel
theorem dX11_init_5 : decode cX11_init 5 = .ok (.bipush 8, 2) := by decide +kernel
theorem dX11_init_7 : decode cX11_init 7 = .ok (.newarray .int, 2) := by decide +kernel
theorem dX11_init_9 : decode cX11_init 9 = .ok (.putfield 9, 3) := by decide +kernel
theorem dX11_init_12 : decode cX11_init 12 = .ok (.aload_n 0, 1) := by decide +kernel
theorem dX11_init_13 : decode cX11_init 13 = .ok (.bipush 6, 2) := by decide +kernel
theorem dX11_init_15 : decode cX11_init 15 = .ok (.anewarray 15, 3) := by decide +kernel
theorem dX11_init_18 : decode cX11_init 18 = .ok (.putfield 17, 3) := by decide +kernel
theorem dX11_init_21 : decode cX11_init 21 = .ok (.iconst 0, 1) := by decide +kernel
theorem dX11_init_22 : decode cX11_init 22 = .ok (.istore_n 1, 1) := by decide +kernel
theorem dX11_init_23 : decode cX11_init 23 = .ok (.iload_n 1, 1) := by decide +kernel
theorem dX11_init_24 : decode cX11_init 24 = .ok (.bipush 6, 2) := by decide +kernel
theorem dX11_init_26 : decode cX11_init 26 = .ok (.if_icmp .ge 22, 3) := by decide +kernel
theorem dX11_init_29 : decode cX11_init 29 = .ok (.aload_n 0, 1) := by decide +kernel
theorem dX11_init_30 : decode cX11_init 30 = .ok (.getfield 17, 3) := by decide +kernel
theorem dX11_init_33 : decode cX11_init 33 = .ok (.iload_n 1, 1) := by decide +kernel
theorem dX11_init_34 : decode cX11_init 34 = .ok (.new 15, 3) := by decide +kernel
theorem dX11_init_37 : decode cX11_init 37 = .ok (.dup, 1) := by decide +kernel
theorem dX11_init_38 : decode cX11_init 38 = .ok (.invokespecial 21, 3) := by decide +kernel
theorem dX11_init_41 : decode cX11_init 41 = .ok (.aastore, 1) := by decide +kernel
theorem dX11_init_42 : decode cX11_init 42 = .ok (.iinc 1 1, 3) := by decide +kernel
theorem dX11_init_45 : decode cX11_init 45 = .ok (.goto (-22), 3) := by decide +kernel
theorem dX11_init_48 : decode cX11_init 48 = .ok (.return_, 1) := by decide +kernel
set_option maxRecDepth 20000 in
theorem ggX11_copyFrom_X10_copyFrom : GoodIn wsX11_copyFrom wsX10_copyFrom := goodIn_r _ [15, 16, 17, 18, 19, 3, 4, 5, 26, 27, 28] (by decide +kernel) (by decide +kernel)
set_option maxRecDepth 20000 in
theorem gX11_copyFrom_X10_copyFrom : GoodIn wsX11_copyFrom (wsV RX11 28 RX10 yX10_copyFrom wsX10_copyFrom) := goodIn_app (goodIn_of _ (by decide +kernel)) ggX11_copyFrom_X10_copyFrom
theorem dX11_copyFrom_0 : decode cX11_copyFrom 0 = .ok (.aload_n 1, 1) := by decide +kernel
theorem dX11_copyFrom_1 : decode cX11_copyFrom 1 = .ok (.getfield 9, 3) := by decide +kernel
theorem dX11_copyFrom_4 : decode cX11_copyFrom 4 = .ok (.iconst 0, 1) := by decide +kernel
theorem dX11_copyFrom_5 : decode cX11_copyFrom 5 = .ok (.aload_n 0, 1) := by decide +kernel
theorem dX11_copyFrom_6 : decode cX11_copyFrom 6 = .ok (.getfield 9, 3) := by decide +kernel
theorem dX11_copyFrom_9 : decode cX11_copyFrom 9 = .ok (.iconst 0, 1) := by decide +kernel
theorem dX11_copyFrom_10 : decode cX11_copyFrom 10 = .ok (.bipush 8, 2) := by decide +kernel
theorem dX11_copyFrom_12 : decode cX11_copyFrom 12 = .ok (.invokestatic 22, 3) := by decide +kernel
theorem dX11_copyFrom_15 : decode cX11_copyFrom 15 = .ok (.iconst 0, 1) := by decide +kernel
theorem dX11_copyFrom_16 : decode cX11_copyFrom 16 = .ok (.istore_n 2, 1) := by decide +kernel
theorem dX11_copyFrom_17 : decode cX11_copyFrom 17 = .ok (.iload_n 2, 1) := by decide +kernel
theorem dX11_copyFrom_18 : decode cX11_copyFrom 18 = .ok (.bipush 6, 2) := by decide +kernel
theorem dX11_copyFrom_20 : decode cX11_copyFrom 20 = .ok (.if_icmp .ge 24, 3) := by decide +kernel
theorem dX11_copyFrom_23 : decode cX11_copyFrom 23 = .ok (.aload_n 0, 1) := by decide +kernel
theorem dX11_copyFrom_24 : decode cX11_copyFrom 24 = .ok (.getfield 17, 3) := by decide +kernel
theorem dX11_copyFrom_27 : decode cX11_copyFrom 27 = .ok (.iload_n 2, 1) := by decide +kernel
theorem dX11_copyFrom_28 : decode cX11_copyFrom 28 = .ok (.aaload, 1) := by decide +kernel
theorem dX11_copyFrom_29 : decode cX11_copyFrom 29 = .ok (.aload_n 1, 1) := by decide +kernel
theorem dX11_copyFrom_30 : decode cX11_copyFrom 30 = .ok (.getfield 17, 3) := by decide +kernel
theorem dX11_copyFrom_33 : decode cX11_copyFrom 33 = .ok (.iload_n 2, 1) := by decide +kernel
theorem dX11_copyFrom_34 : decode cX11_copyFrom 34 = .ok (.aaload, 1) := by decide +kernel
theorem dX11_copyFrom_35 : decode cX11_copyFrom 35 = .ok (.invokevirtual 28, 3) := by decide +kernel
theorem dX11_copyFrom_38 : decode cX11_copyFrom 38 = .ok (.iinc 2 1, 3) := by decide +kernel
theorem dX11_copyFrom_41 : decode cX11_copyFrom 41 = .ok (.goto (-24), 3) := by decide +kernel
theorem dX11_copyFrom_44 : decode cX11_copyFrom 44 = .ok (.aload_n 0, 1) := by decide +kernel
theorem dX11_copyFrom_45 : decode cX11_copyFrom 45 = .ok (.aload_n 1, 1) := by decide +kernel
theorem dX11_copyFrom_46 : decode cX11_copyFrom 46 = .ok (.getfield 32, 3) := by decide +kernel
theorem dX11_copyFrom_49 : decode cX11_copyFrom 49 = .ok (.putfield 32, 3) := by decide +kernel
theorem dX11_copyFrom_52 : decode cX11_copyFrom 52 = .ok (.aload_n 0, 1) := by decide +kernel
theorem dX11_copyFrom_53 : decode cX11_copyFrom 53 = .ok (.aload_n 1, 1) := by decide +kernel
theorem dX11_copyFrom_54 : decode cX11_copyFrom 54 = .ok (.getfield 36, 3) := by decide +kernel
theorem dX11_copyFrom_57 : decode cX11_copyFrom 57 = .ok (.putfield 36, 3) := by decide +kernel
theorem dX11_copyFrom_60 : decode cX11_copyFrom 60 = .ok (.aload_n 0, 1) := by decide +kernel
theorem dX11_copyFrom_61 : decode cX11_copyFrom 61 = .ok (.aload_n 1, 1) := by decide +kernel
theorem dX11_copyFrom_62 : decode cX11_copyFrom 62 = .ok (.getfield 39, 3) := by decide +kernel
theorem dX11_copyFrom_65 : decode cX11_copyFrom 65 = .ok (.putfield 39, 3) := by decide +kernel
theorem dX11_copyFrom_68 : decode cX11_copyFrom 68 = .ok (.aload_n 0, 1) := by decide +kernel
theorem dX11_copyFrom_69 : decode cX11_copyFrom 69 = .ok (.aload_n 1, 1) := by decide +kernel
theorem dX11_copyFrom_70 : decode cX11_copyFrom 70 = .ok (.getfield 42, 3) := by decide +kernel
theorem dX11_copyFrom_73 : decode cX11_copyFrom 73 = .ok (.putfield 42, 3) := by decide +kernel
theorem dX11_copyFrom_76 : decode cX11_copyFrom 76 = .ok (.return_, 1) := by decide +kernel
theorem dX11_isNest_0 : decode cX11_isNest 0 = .ok (.iload_n 0, 1) := by decide +kernel
theorem dX11_isNest_1 : decode cX11_isNest 1 = .ok (.ifCond .lt 12, 3) := by decide +kernel
theorem dX11_isNest_4 : decode cX11_isNest 4 = .ok (.iload_n 0, 1) := by decide +kernel
theorem dX11_isNest_5 : decode cX11_isNest 5 = .ok (.iconst 4, 1) := by decide +kernel
theorem dX11_isNest_6 : decode cX11_isNest 6 = .ok (.if_icmp .ge 7, 3) := by decide +kernel
theorem dX11_isNest_9 : decode cX11_isNest 9 = .ok (.iconst 1, 1) := by decide +kernel
theorem dX11_isNest_10 : decode cX11_isNest 10 = .ok (.goto 4, 3) := by decide +kernel
theorem dX11_isNest_13 : decode cX11_isNest 13 = .ok (.iconst 0, 1) := by decide +kernel
theorem dX11_isNest_14 : decode cX11_isNest 14 = .ok (.ireturn, 1) := by decide +kernel
theorem dX11_birdTally_0 : decode cX11_birdTally 0 = .ok (.aload_n 0, 1) := by decide +kernel
theorem dX11_birdTally_1 : decode cX11_birdTally 1 = .ok (.getfield 32, 3) := by decide +kernel
theorem dX11_birdTally_4 : decode cX11_birdTally 4 = .ok (.ireturn, 1) := by decide +kernel
theorem dX11_hasBird_0 : decode cX11_hasBird 0 = .ok (.iload_n 1, 1) := by decide +kernel
theorem dX11_hasBird_1 : decode cX11_hasBird 1 = .ok (.ifCond .lt 15, 3) := by decide +kernel
theorem dX11_hasBird_4 : decode cX11_hasBird 4 = .ok (.iload_n 1, 1) := by decide +kernel
theorem dX11_hasBird_5 : decode cX11_hasBird 5 = .ok (.aload_n 0, 1) := by decide +kernel
theorem dX11_hasBird_6 : decode cX11_hasBird 6 = .ok (.getfield 32, 3) := by decide +kernel
theorem dX11_hasBird_9 : decode cX11_hasBird 9 = .ok (.if_icmp .ge 7, 3) := by decide +kernel
theorem dX11_hasBird_12 : decode cX11_hasBird 12 = .ok (.iconst 1, 1) := by decide +kernel
theorem dX11_hasBird_13 : decode cX11_hasBird 13 = .ok (.goto 4, 3) := by decide +kernel
theorem dX11_hasBird_16 : decode cX11_hasBird 16 = .ok (.iconst 0, 1) := by decide +kernel
theorem dX11_hasBird_17 : decode cX11_hasBird 17 = .ok (.ireturn, 1) := by decide +kernel
theorem dX11_homeOf_0 : decode cX11_homeOf 0 = .ok (.iload_n 1, 1) := by decide +kernel
theorem dX11_homeOf_1 : decode cX11_homeOf 1 = .ok (.ifCond .lt 18, 3) := by decide +kernel
theorem dX11_homeOf_4 : decode cX11_homeOf 4 = .ok (.iload_n 1, 1) := by decide +kernel
theorem dX11_homeOf_5 : decode cX11_homeOf 5 = .ok (.bipush 8, 2) := by decide +kernel
theorem dX11_homeOf_7 : decode cX11_homeOf 7 = .ok (.if_icmp .ge 12, 3) := by decide +kernel
theorem dX11_homeOf_10 : decode cX11_homeOf 10 = .ok (.aload_n 0, 1) := by decide +kernel
theorem dX11_homeOf_11 : decode cX11_homeOf 11 = .ok (.getfield 9, 3) := by decide +kernel
theorem dX11_homeOf_14 : decode cX11_homeOf 14 = .ok (.iload_n 1, 1) := by decide +kernel
theorem dX11_homeOf_15 : decode cX11_homeOf 15 = .ok (.iaload, 1) := by decide +kernel
theorem dX11_homeOf_16 : decode cX11_homeOf 16 = .ok (.goto 4, 3) := by decide +kernel
theorem dX11_homeOf_19 : decode cX11_homeOf 19 = .ok (.iconst 0, 1) := by decide +kernel
theorem dX11_homeOf_20 : decode cX11_homeOf 20 = .ok (.ireturn, 1) := by decide +kernel
set_option maxRecDepth 20000 in
theorem ggX11_residentsOf_X11_homeOf : GoodIn wsX11_residentsOf wsX11_homeOf := goodIn_ca (goodIn_r _ [6, 7, 8, 9, 10, 11, 12, 13] (by decide +kernel) (by decide +kernel)) (goodIn_sub (fun _ h => List.mem_cons_of_mem _ (List.mem_append_right _ h)) (by decide +kernel))
set_option maxRecDepth 20000 in
theorem gX11_residentsOf_X11_homeOf : GoodIn wsX11_residentsOf (wsV RX11 46 RX11 yX11_homeOf wsX11_homeOf) := goodIn_app (goodIn_of _ (by decide +kernel)) ggX11_residentsOf_X11_homeOf
theorem dX11_residentsOf_0 : decode cX11_residentsOf 0 = .ok (.iconst 0, 1) := by decide +kernel
theorem dX11_residentsOf_1 : decode cX11_residentsOf 1 = .ok (.istore_n 2, 1) := by decide +kernel
theorem dX11_residentsOf_2 : decode cX11_residentsOf 2 = .ok (.iconst 0, 1) := by decide +kernel
theorem dX11_residentsOf_3 : decode cX11_residentsOf 3 = .ok (.istore_n 3, 1) := by decide +kernel
theorem dX11_residentsOf_4 : decode cX11_residentsOf 4 = .ok (.iload_n 3, 1) := by decide +kernel
theorem dX11_residentsOf_5 : decode cX11_residentsOf 5 = .ok (.aload_n 0, 1) := by decide +kernel
theorem dX11_residentsOf_6 : decode cX11_residentsOf 6 = .ok (.getfield 32, 3) := by decide +kernel
theorem dX11_residentsOf_9 : decode cX11_residentsOf 9 = .ok (.if_icmp .ge 21, 3) := by decide +kernel
theorem dX11_residentsOf_12 : decode cX11_residentsOf 12 = .ok (.aload_n 0, 1) := by decide +kernel
theorem dX11_residentsOf_13 : decode cX11_residentsOf 13 = .ok (.iload_n 3, 1) := by decide +kernel
theorem dX11_residentsOf_14 : decode cX11_residentsOf 14 = .ok (.invokevirtual 46, 3) := by decide +kernel
theorem dX11_residentsOf_17 : decode cX11_residentsOf 17 = .ok (.iload_n 1, 1) := by decide +kernel
theorem dX11_residentsOf_18 : decode cX11_residentsOf 18 = .ok (.if_icmp .ne 6, 3) := by decide +kernel
theorem dX11_residentsOf_21 : decode cX11_residentsOf 21 = .ok (.iinc 2 1, 3) := by decide +kernel
theorem dX11_residentsOf_24 : decode cX11_residentsOf 24 = .ok (.iinc 3 1, 3) := by decide +kernel
theorem dX11_residentsOf_27 : decode cX11_residentsOf 27 = .ok (.goto (-23), 3) := by decide +kernel
theorem dX11_residentsOf_30 : decode cX11_residentsOf 30 = .ok (.iload_n 2, 1) := by decide +kernel
theorem dX11_residentsOf_31 : decode cX11_residentsOf 31 = .ok (.ireturn, 1) := by decide +kernel
set_option maxRecDepth 20000 in
theorem ggX11_loadOf_X11_secretPlaced : GoodIn wsX11_loadOf wsX11_secretPlaced := goodIn_r _ [5, 6, 7, 14, 15, 16, 17, 18, 19] (by decide +kernel) (by decide +kernel)
set_option maxRecDepth 20000 in
theorem gX11_loadOf_X11_secretPlaced : GoodIn wsX11_loadOf (wsV RX11 50 RX11 yX11_secretPlaced wsX11_secretPlaced) := goodIn_app (goodIn_of _ (by decide +kernel)) ggX11_loadOf_X11_secretPlaced
set_option maxRecDepth 20000 in
theorem ggX11_loadOf_X10_isHeldBy : GoodIn wsX11_loadOf wsX10_isHeldBy := goodIn_ca (goodIn_r _ [12, 13, 20, 21, 22] (by decide +kernel) (by decide +kernel)) (goodIn_sub (fun _ h => List.mem_cons_of_mem _ (List.mem_append_right _ h)) (by decide +kernel))
set_option maxRecDepth 20000 in
theorem gX11_loadOf_X10_isHeldBy : GoodIn wsX11_loadOf (wsV RX11 54 RX10 yX10_isHeldBy wsX10_isHeldBy) := goodIn_app (goodIn_of _ (by decide +kernel)) ggX11_loadOf_X10_isHeldBy
theorem dX11_loadOf_0 : decode cX11_loadOf 0 = .ok (.iconst 0, 1) := by decide +kernel
theorem dX11_loadOf_1 : decode cX11_loadOf 1 = .ok (.istore_n 2, 1) := by decide +kernel
theorem dX11_loadOf_2 : decode cX11_loadOf 2 = .ok (.iconst 0, 1) := by decide +kernel
theorem dX11_loadOf_3 : decode cX11_loadOf 3 = .ok (.istore_n 3, 1) := by decide +kernel
theorem dX11_loadOf_4 : decode cX11_loadOf 4 = .ok (.iload_n 3, 1) := by decide +kernel
theorem dX11_loadOf_5 : decode cX11_loadOf 5 = .ok (.bipush 6, 2) := by decide +kernel
theorem dX11_loadOf_7 : decode cX11_loadOf 7 = .ok (.if_icmp .ge 33, 3) := by decide +kernel
theorem dX11_loadOf_10 : decode cX11_loadOf 10 = .ok (.aload_n 0, 1) := by decide +kernel
theorem dX11_loadOf_11 : decode cX11_loadOf 11 = .ok (.iload_n 3, 1) := by decide +kernel
theorem dX11_loadOf_12 : decode cX11_loadOf 12 = .ok (.invokevirtual 50, 3) := by decide +kernel
theorem dX11_loadOf_15 : decode cX11_loadOf 15 = .ok (.astore 4, 2) := by decide +kernel
theorem dX11_loadOf_17 : decode cX11_loadOf 17 = .ok (.aload 4, 2) := by decide +kernel
theorem dX11_loadOf_19 : decode cX11_loadOf 19 = .ok (.ifnull 15, 3) := by decide +kernel
theorem dX11_loadOf_22 : decode cX11_loadOf 22 = .ok (.aload 4, 2) := by decide +kernel
theorem dX11_loadOf_24 : decode cX11_loadOf 24 = .ok (.iload_n 1, 1) := by decide +kernel
theorem dX11_loadOf_25 : decode cX11_loadOf 25 = .ok (.invokevirtual 54, 3) := by decide +kernel
theorem dX11_loadOf_28 : decode cX11_loadOf 28 = .ok (.ifCond .eq 6, 3) := by decide +kernel
theorem dX11_loadOf_31 : decode cX11_loadOf 31 = .ok (.iinc 2 1, 3) := by decide +kernel
theorem dX11_loadOf_34 : decode cX11_loadOf 34 = .ok (.iinc 3 1, 3) := by decide +kernel
theorem dX11_loadOf_37 : decode cX11_loadOf 37 = .ok (.goto (-33), 3) := by decide +kernel
theorem dX11_loadOf_40 : decode cX11_loadOf 40 = .ok (.iload_n 2, 1) := by decide +kernel
theorem dX11_loadOf_41 : decode cX11_loadOf 41 = .ok (.ireturn, 1) := by decide +kernel
set_option maxRecDepth 20000 in
theorem ggX11_birdRanked_X11_birdsAheadOf : GoodIn wsX11_birdRanked wsX11_birdsAheadOf := goodIn_ca (goodIn_r _ [6, 1, 7, 8, 9, 5, 10, 11, 12, 13, 14, 15, 16, 17, 18, 19, 20, 21, 22, 23, 24, 25, 26, 27, 28, 29, 30, 31, 32, 33, 34, 35, 36, 37, 38, 39, 40] (by decide +kernel) (by decide +kernel)) (goodIn_sub (fun _ h => List.mem_cons_of_mem _ (List.mem_append_right _ h)) (by decide +kernel))
set_option maxRecDepth 20000 in
theorem gX11_birdRanked_X11_birdsAheadOf : GoodIn wsX11_birdRanked (wsV RX11 58 RX11 yX11_birdsAheadOf wsX11_birdsAheadOf) := goodIn_app (goodIn_of _ (by decide +kernel)) ggX11_birdRanked_X11_birdsAheadOf
theorem dX11_birdRanked_0 : decode cX11_birdRanked 0 = .ok (.iconst 0, 1) := by decide +kernel
theorem dX11_birdRanked_1 : decode cX11_birdRanked 1 = .ok (.istore_n 2, 1) := by decide +kernel
theorem dX11_birdRanked_2 : decode cX11_birdRanked 2 = .ok (.iload_n 2, 1) := by decide +kernel
theorem dX11_birdRanked_3 : decode cX11_birdRanked 3 = .ok (.aload_n 0, 1) := by decide +kernel
theorem dX11_birdRanked_4 : decode cX11_birdRanked 4 = .ok (.getfield 32, 3) := by decide +kernel
theorem dX11_birdRanked_7 : decode cX11_birdRanked 7 = .ok (.if_icmp .ge 20, 3) := by decide +kernel
theorem dX11_birdRanked_10 : decode cX11_birdRanked 10 = .ok (.aload_n 0, 1) := by decide +kernel
theorem dX11_birdRanked_11 : decode cX11_birdRanked 11 = .ok (.iload_n 2, 1) := by decide +kernel
theorem dX11_birdRanked_12 : decode cX11_birdRanked 12 = .ok (.invokevirtual 58, 3) := by decide +kernel
theorem dX11_birdRanked_15 : decode cX11_birdRanked 15 = .ok (.iload_n 1, 1) := by decide +kernel
theorem dX11_birdRanked_16 : decode cX11_birdRanked 16 = .ok (.if_icmp .ne 5, 3) := by decide +kernel
theorem dX11_birdRanked_19 : decode cX11_birdRanked 19 = .ok (.iload_n 2, 1) := by decide +kernel
theorem dX11_birdRanked_20 : decode cX11_birdRanked 20 = .ok (.ireturn, 1) := by decide +kernel
theorem dX11_birdRanked_21 : decode cX11_birdRanked 21 = .ok (.iinc 2 1, 3) := by decide +kernel
theorem dX11_birdRanked_24 : decode cX11_birdRanked 24 = .ok (.goto (-22), 3) := by decide +kernel
theorem dX11_birdRanked_27 : decode cX11_birdRanked 27 = .ok (.iconst 0, 1) := by decide +kernel
theorem dX11_birdRanked_28 : decode cX11_birdRanked 28 = .ok (.ireturn, 1) := by decide +kernel
set_option maxRecDepth 20000 in
theorem ggX11_birdsAheadOf_X11_isAhead : GoodIn wsX11_birdsAheadOf wsX11_isAhead := goodIn_ca (goodIn_r _ [6, 7, 8, 9, 5, 10, 11, 12, 13, 14, 15, 16, 17, 18, 19, 20, 21, 22, 23, 24, 25, 26, 27, 28, 29, 30, 31, 32, 33, 34, 35, 36] (by decide +kernel) (by decide +kernel)) (goodIn_sub (fun _ h => List.mem_cons_of_mem _ (List.mem_append_right _ h)) (by decide +kernel))
set_option maxRecDepth 20000 in
theorem gX11_birdsAheadOf_X11_isAhead : GoodIn wsX11_birdsAheadOf (wsV RX11 61 RX11 yX11_isAhead wsX11_isAhead) := goodIn_app (goodIn_of _ (by decide +kernel)) ggX11_birdsAheadOf_X11_isAhead
theorem dX11_birdsAheadOf_0 : decode cX11_birdsAheadOf 0 = .ok (.iconst 0, 1) := by decide +kernel
theorem dX11_birdsAheadOf_1 : decode cX11_birdsAheadOf 1 = .ok (.istore_n 2, 1) := by decide +kernel
theorem dX11_birdsAheadOf_2 : decode cX11_birdsAheadOf 2 = .ok (.iconst 0, 1) := by decide +kernel
theorem dX11_birdsAheadOf_3 : decode cX11_birdsAheadOf 3 = .ok (.istore_n 3, 1) := by decide +kernel
theorem dX11_birdsAheadOf_4 : decode cX11_birdsAheadOf 4 = .ok (.iload_n 3, 1) := by decide +kernel
theorem dX11_birdsAheadOf_5 : decode cX11_birdsAheadOf 5 = .ok (.aload_n 0, 1) := by decide +kernel
theorem dX11_birdsAheadOf_6 : decode cX11_birdsAheadOf 6 = .ok (.getfield 32, 3) := by decide +kernel
theorem dX11_birdsAheadOf_9 : decode cX11_birdsAheadOf 9 = .ok (.if_icmp .ge 26, 3) := by decide +kernel
theorem dX11_birdsAheadOf_12 : decode cX11_birdsAheadOf 12 = .ok (.iload_n 3, 1) := by decide +kernel
theorem dX11_birdsAheadOf_13 : decode cX11_birdsAheadOf 13 = .ok (.iload_n 1, 1) := by decide +kernel
theorem dX11_birdsAheadOf_14 : decode cX11_birdsAheadOf 14 = .ok (.if_icmp .eq 15, 3) := by decide +kernel
theorem dX11_birdsAheadOf_17 : decode cX11_birdsAheadOf 17 = .ok (.aload_n 0, 1) := by decide +kernel
theorem dX11_birdsAheadOf_18 : decode cX11_birdsAheadOf 18 = .ok (.iload_n 3, 1) := by decide +kernel
theorem dX11_birdsAheadOf_19 : decode cX11_birdsAheadOf 19 = .ok (.iload_n 1, 1) := by decide +kernel
theorem dX11_birdsAheadOf_20 : decode cX11_birdsAheadOf 20 = .ok (.invokevirtual 61, 3) := by decide +kernel
theorem dX11_birdsAheadOf_23 : decode cX11_birdsAheadOf 23 = .ok (.ifCond .eq 6, 3) := by decide +kernel
theorem dX11_birdsAheadOf_26 : decode cX11_birdsAheadOf 26 = .ok (.iinc 2 1, 3) := by decide +kernel
theorem dX11_birdsAheadOf_29 : decode cX11_birdsAheadOf 29 = .ok (.iinc 3 1, 3) := by decide +kernel
theorem dX11_birdsAheadOf_32 : decode cX11_birdsAheadOf 32 = .ok (.goto (-28), 3) := by decide +kernel
theorem dX11_birdsAheadOf_35 : decode cX11_birdsAheadOf 35 = .ok (.iload_n 2, 1) := by decide +kernel
theorem dX11_birdsAheadOf_36 : decode cX11_birdsAheadOf 36 = .ok (.ireturn, 1) := by decide +kernel
set_option maxRecDepth 20000 in
theorem ggX11_isAhead_X11_loadOf : GoodIn wsX11_isAhead wsX11_loadOf := goodIn_ca (goodIn_r _ [5, 6, 7, 8, 4, 9, 10, 11, 12, 13, 14, 15, 16, 17, 23, 24, 25, 26, 27, 28, 29, 30, 31] (by decide +kernel) (by decide +kernel)) (goodIn_sub (fun _ h => List.mem_cons_of_mem _ (List.mem_append_right _ h)) (by decide +kernel))
set_option maxRecDepth 20000 in
theorem gX11_isAhead_X11_loadOf : GoodIn wsX11_isAhead (wsV RX11 65 RX11 yX11_loadOf wsX11_loadOf) := goodIn_app (goodIn_of _ (by decide +kernel)) ggX11_isAhead_X11_loadOf
set_option maxRecDepth 20000 in
theorem ggX11_isAhead_X11_homeOf : GoodIn wsX11_isAhead wsX11_homeOf := goodIn_ca (goodIn_r _ [21, 22, 23, 24, 25, 26, 27, 28] (by decide +kernel) (by decide +kernel)) (goodIn_sub (fun _ h => List.mem_cons_of_mem _ (List.mem_append_right _ h)) (by decide +kernel))
set_option maxRecDepth 20000 in
theorem gX11_isAhead_X11_homeOf : GoodIn wsX11_isAhead (wsV RX11 46 RX11 yX11_homeOf wsX11_homeOf) := goodIn_app (goodIn_of _ (by decide +kernel)) ggX11_isAhead_X11_homeOf
theorem dX11_isAhead_0 : decode cX11_isAhead 0 = .ok (.aload_n 0, 1) := by decide +kernel
theorem dX11_isAhead_1 : decode cX11_isAhead 1 = .ok (.iload_n 1, 1) := by decide +kernel
theorem dX11_isAhead_2 : decode cX11_isAhead 2 = .ok (.invokevirtual 65, 3) := by decide +kernel
theorem dX11_isAhead_5 : decode cX11_isAhead 5 = .ok (.istore_n 3, 1) := by decide +kernel
theorem dX11_isAhead_6 : decode cX11_isAhead 6 = .ok (.aload_n 0, 1) := by decide +kernel
theorem dX11_isAhead_7 : decode cX11_isAhead 7 = .ok (.iload_n 2, 1) := by decide +kernel
theorem dX11_isAhead_8 : decode cX11_isAhead 8 = .ok (.invokevirtual 65, 3) := by decide +kernel
theorem dX11_isAhead_11 : decode cX11_isAhead 11 = .ok (.istore 4, 2) := by decide +kernel
theorem dX11_isAhead_13 : decode cX11_isAhead 13 = .ok (.iload_n 3, 1) := by decide +kernel
theorem dX11_isAhead_14 : decode cX11_isAhead 14 = .ok (.iload 4, 2) := by decide +kernel
theorem dX11_isAhead_16 : decode cX11_isAhead 16 = .ok (.if_icmp .eq 15, 3) := by decide +kernel
theorem dX11_isAhead_19 : decode cX11_isAhead 19 = .ok (.iload_n 3, 1) := by decide +kernel
theorem dX11_isAhead_20 : decode cX11_isAhead 20 = .ok (.iload 4, 2) := by decide +kernel
theorem dX11_isAhead_22 : decode cX11_isAhead 22 = .ok (.if_icmp .le 7, 3) := by decide +kernel
theorem dX11_isAhead_25 : decode cX11_isAhead 25 = .ok (.iconst 1, 1) := by decide +kernel
theorem dX11_isAhead_26 : decode cX11_isAhead 26 = .ok (.goto 4, 3) := by decide +kernel
theorem dX11_isAhead_29 : decode cX11_isAhead 29 = .ok (.iconst 0, 1) := by decide +kernel
theorem dX11_isAhead_30 : decode cX11_isAhead 30 = .ok (.ireturn, 1) := by decide +kernel
theorem dX11_isAhead_31 : decode cX11_isAhead 31 = .ok (.aload_n 0, 1) := by decide +kernel
theorem dX11_isAhead_32 : decode cX11_isAhead 32 = .ok (.iload_n 1, 1) := by decide +kernel
theorem dX11_isAhead_33 : decode cX11_isAhead 33 = .ok (.invokevirtual 46, 3) := by decide +kernel
theorem dX11_isAhead_36 : decode cX11_isAhead 36 = .ok (.aload_n 0, 1) := by decide +kernel
theorem dX11_isAhead_37 : decode cX11_isAhead 37 = .ok (.iload_n 2, 1) := by decide +kernel
theorem dX11_isAhead_38 : decode cX11_isAhead 38 = .ok (.invokevirtual 46, 3) := by decide +kernel
theorem dX11_isAhead_41 : decode cX11_isAhead 41 = .ok (.if_icmp .eq 22, 3) := by decide +kernel
theorem dX11_isAhead_44 : decode cX11_isAhead 44 = .ok (.aload_n 0, 1) := by decide +kernel
theorem dX11_isAhead_45 : decode cX11_isAhead 45 = .ok (.iload_n 1, 1) := by decide +kernel
theorem dX11_isAhead_46 : decode cX11_isAhead 46 = .ok (.invokevirtual 46, 3) := by decide +kernel
theorem dX11_isAhead_49 : decode cX11_isAhead 49 = .ok (.aload_n 0, 1) := by decide +kernel
theorem dX11_isAhead_50 : decode cX11_isAhead 50 = .ok (.iload_n 2, 1) := by decide +kernel
theorem dX11_isAhead_51 : decode cX11_isAhead 51 = .ok (.invokevirtual 46, 3) := by decide +kernel
theorem dX11_isAhead_54 : decode cX11_isAhead 54 = .ok (.if_icmp .ge 7, 3) := by decide +kernel
theorem dX11_isAhead_57 : decode cX11_isAhead 57 = .ok (.iconst 1, 1) := by decide +kernel
theorem dX11_isAhead_58 : decode cX11_isAhead 58 = .ok (.goto 4, 3) := by decide +kernel
theorem dX11_isAhead_61 : decode cX11_isAhead 61 = .ok (.iconst 0, 1) := by decide +kernel
theorem dX11_isAhead_62 : decode cX11_isAhead 62 = .ok (.ireturn, 1) := by decide +kernel
theorem dX11_isAhead_63 : decode cX11_isAhead 63 = .ok (.iload_n 1, 1) := by decide +kernel
theorem dX11_isAhead_64 : decode cX11_isAhead 64 = .ok (.iload_n 2, 1) := by decide +kernel
theorem dX11_isAhead_65 : decode cX11_isAhead 65 = .ok (.if_icmp .ge 7, 3) := by decide +kernel
theorem dX11_isAhead_68 : decode cX11_isAhead 68 = .ok (.iconst 1, 1) := by decide +kernel
theorem dX11_isAhead_69 : decode cX11_isAhead 69 = .ok (.goto 4, 3) := by decide +kernel
theorem dX11_isAhead_72 : decode cX11_isAhead 72 = .ok (.iconst 0, 1) := by decide +kernel
theorem dX11_isAhead_73 : decode cX11_isAhead 73 = .ok (.ireturn, 1) := by decide +kernel
theorem dX11_secretTally_0 : decode cX11_secretTally 0 = .ok (.aload_n 0, 1) := by decide +kernel
theorem dX11_secretTally_1 : decode cX11_secretTally 1 = .ok (.getfield 36, 3) := by decide +kernel
theorem dX11_secretTally_4 : decode cX11_secretTally 4 = .ok (.ireturn, 1) := by decide +kernel
theorem dX11_secretPlaced_0 : decode cX11_secretPlaced 0 = .ok (.iload_n 1, 1) := by decide +kernel
theorem dX11_secretPlaced_1 : decode cX11_secretPlaced 1 = .ok (.ifCond .lt 17, 3) := by decide +kernel
theorem dX11_secretPlaced_4 : decode cX11_secretPlaced 4 = .ok (.iload_n 1, 1) := by decide +kernel
theorem dX11_secretPlaced_5 : decode cX11_secretPlaced 5 = .ok (.aload_n 0, 1) := by decide +kernel
theorem dX11_secretPlaced_6 : decode cX11_secretPlaced 6 = .ok (.getfield 36, 3) := by decide +kernel
theorem dX11_secretPlaced_9 : decode cX11_secretPlaced 9 = .ok (.if_icmp .ge 9, 3) := by decide +kernel
theorem dX11_secretPlaced_12 : decode cX11_secretPlaced 12 = .ok (.iload_n 1, 1) := by decide +kernel
theorem dX11_secretPlaced_13 : decode cX11_secretPlaced 13 = .ok (.bipush 6, 2) := by decide +kernel
theorem dX11_secretPlaced_15 : decode cX11_secretPlaced 15 = .ok (.if_icmp .lt 5, 3) := by decide +kernel
theorem dX11_secretPlaced_18 : decode cX11_secretPlaced 18 = .ok (.aconst_null, 1) := by decide +kernel
theorem dX11_secretPlaced_19 : decode cX11_secretPlaced 19 = .ok (.areturn, 1) := by decide +kernel
theorem dX11_secretPlaced_20 : decode cX11_secretPlaced 20 = .ok (.aload_n 0, 1) := by decide +kernel
theorem dX11_secretPlaced_21 : decode cX11_secretPlaced 21 = .ok (.getfield 17, 3) := by decide +kernel
theorem dX11_secretPlaced_24 : decode cX11_secretPlaced 24 = .ok (.iload_n 1, 1) := by decide +kernel
theorem dX11_secretPlaced_25 : decode cX11_secretPlaced 25 = .ok (.aaload, 1) := by decide +kernel
theorem dX11_secretPlaced_26 : decode cX11_secretPlaced 26 = .ok (.areturn, 1) := by decide +kernel
set_option maxRecDepth 20000 in
theorem ggX11_find_X11_secretPlaced : GoodIn wsX11_find wsX11_secretPlaced := goodIn_r _ [5, 6, 7, 14, 15, 16, 17, 18, 19] (by decide +kernel) (by decide +kernel)
set_option maxRecDepth 20000 in
theorem gX11_find_X11_secretPlaced : GoodIn wsX11_find (wsV RX11 50 RX11 yX11_secretPlaced wsX11_secretPlaced) := goodIn_app (goodIn_of _ (by decide +kernel)) ggX11_find_X11_secretPlaced
set_option maxRecDepth 20000 in
theorem ggX11_find_X10_ownNumber : GoodIn wsX11_find wsX10_ownNumber := goodIn_r _ [12, 13, 20, 21, 22] (by decide +kernel) (by decide +kernel)
set_option maxRecDepth 20000 in
theorem gX11_find_X10_ownNumber : GoodIn wsX11_find (wsV RX11 68 RX10 yX10_ownNumber wsX10_ownNumber) := goodIn_app (goodIn_of _ (by decide +kernel)) ggX11_find_X10_ownNumber
theorem dX11_find_0 : decode cX11_find 0 = .ok (.iconst 0, 1) := by decide +kernel
theorem dX11_find_1 : decode cX11_find 1 = .ok (.istore_n 2, 1) := by decide +kernel
theorem dX11_find_2 : decode cX11_find 2 = .ok (.iload_n 2, 1) := by decide +kernel
theorem dX11_find_3 : decode cX11_find 3 = .ok (.bipush 6, 2) := by decide +kernel
theorem dX11_find_5 : decode cX11_find 5 = .ok (.if_icmp .ge 29, 3) := by decide +kernel
theorem dX11_find_8 : decode cX11_find 8 = .ok (.aload_n 0, 1) := by decide +kernel
theorem dX11_find_9 : decode cX11_find 9 = .ok (.iload_n 2, 1) := by decide +kernel
theorem dX11_find_10 : decode cX11_find 10 = .ok (.invokevirtual 50, 3) := by decide +kernel
theorem dX11_find_13 : decode cX11_find 13 = .ok (.astore_n 3, 1) := by decide +kernel
theorem dX11_find_14 : decode cX11_find 14 = .ok (.aload_n 3, 1) := by decide +kernel
theorem dX11_find_15 : decode cX11_find 15 = .ok (.ifnull 13, 3) := by decide +kernel
theorem dX11_find_18 : decode cX11_find 18 = .ok (.aload_n 3, 1) := by decide +kernel
theorem dX11_find_19 : decode cX11_find 19 = .ok (.invokevirtual 68, 3) := by decide +kernel
theorem dX11_find_22 : decode cX11_find 22 = .ok (.iload_n 1, 1) := by decide +kernel
theorem dX11_find_23 : decode cX11_find 23 = .ok (.if_icmp .ne 5, 3) := by decide +kernel
theorem dX11_find_26 : decode cX11_find 26 = .ok (.aload_n 3, 1) := by decide +kernel
theorem dX11_find_27 : decode cX11_find 27 = .ok (.areturn, 1) := by decide +kernel
theorem dX11_find_28 : decode cX11_find 28 = .ok (.iinc 2 1, 3) := by decide +kernel
theorem dX11_find_31 : decode cX11_find 31 = .ok (.goto (-29), 3) := by decide +kernel
theorem dX11_find_34 : decode cX11_find 34 = .ok (.aconst_null, 1) := by decide +kernel
theorem dX11_find_35 : decode cX11_find 35 = .ok (.areturn, 1) := by decide +kernel
set_option maxRecDepth 20000 in
theorem ggX11_holdersIn_X11_homeOf : GoodIn wsX11_holdersIn wsX11_homeOf := goodIn_ca (goodIn_r _ [6, 7, 14, 15, 16, 17, 18, 19] (by decide +kernel) (by decide +kernel)) (goodIn_sub (fun _ h => List.mem_cons_of_mem _ (List.mem_append_right _ h)) (by decide +kernel))
set_option maxRecDepth 20000 in
theorem gX11_holdersIn_X11_homeOf : GoodIn wsX11_holdersIn (wsV RX11 46 RX11 yX11_homeOf wsX11_homeOf) := goodIn_app (goodIn_of _ (by decide +kernel)) ggX11_holdersIn_X11_homeOf
set_option maxRecDepth 20000 in
theorem ggX11_holdersIn_X10_isHeldBy : GoodIn wsX11_holdersIn wsX10_isHeldBy := goodIn_ca (goodIn_r _ [12, 13, 20, 21, 22] (by decide +kernel) (by decide +kernel)) (goodIn_sub (fun _ h => List.mem_cons_of_mem _ (List.mem_append_right _ h)) (by decide +kernel))
set_option maxRecDepth 20000 in
theorem gX11_holdersIn_X10_isHeldBy : GoodIn wsX11_holdersIn (wsV RX11 54 RX10 yX10_isHeldBy wsX10_isHeldBy) := goodIn_app (goodIn_of _ (by decide +kernel)) ggX11_holdersIn_X10_isHeldBy
theorem dX11_holdersIn_0 : decode cX11_holdersIn 0 = .ok (.iconst 0, 1) := by decide +kernel
theorem dX11_holdersIn_1 : decode cX11_holdersIn 1 = .ok (.istore_n 3, 1) := by decide +kernel
theorem dX11_holdersIn_2 : decode cX11_holdersIn 2 = .ok (.iconst 0, 1) := by decide +kernel
theorem dX11_holdersIn_3 : decode cX11_holdersIn 3 = .ok (.istore 4, 2) := by decide +kernel
theorem dX11_holdersIn_5 : decode cX11_holdersIn 5 = .ok (.iload 4, 2) := by decide +kernel
theorem dX11_holdersIn_7 : decode cX11_holdersIn 7 = .ok (.aload_n 0, 1) := by decide +kernel
theorem dX11_holdersIn_8 : decode cX11_holdersIn 8 = .ok (.getfield 32, 3) := by decide +kernel
theorem dX11_holdersIn_11 : decode cX11_holdersIn 11 = .ok (.if_icmp .ge 31, 3) := by decide +kernel
theorem dX11_holdersIn_14 : decode cX11_holdersIn 14 = .ok (.aload_n 0, 1) := by decide +kernel
theorem dX11_holdersIn_15 : decode cX11_holdersIn 15 = .ok (.iload 4, 2) := by decide +kernel
theorem dX11_holdersIn_17 : decode cX11_holdersIn 17 = .ok (.invokevirtual 46, 3) := by decide +kernel
theorem dX11_holdersIn_20 : decode cX11_holdersIn 20 = .ok (.iload_n 1, 1) := by decide +kernel
theorem dX11_holdersIn_21 : decode cX11_holdersIn 21 = .ok (.if_icmp .ne 15, 3) := by decide +kernel
theorem dX11_holdersIn_24 : decode cX11_holdersIn 24 = .ok (.aload_n 2, 1) := by decide +kernel
theorem dX11_holdersIn_25 : decode cX11_holdersIn 25 = .ok (.iload 4, 2) := by decide +kernel
theorem dX11_holdersIn_27 : decode cX11_holdersIn 27 = .ok (.invokevirtual 54, 3) := by decide +kernel
theorem dX11_holdersIn_30 : decode cX11_holdersIn 30 = .ok (.ifCond .eq 6, 3) := by decide +kernel
theorem dX11_holdersIn_33 : decode cX11_holdersIn 33 = .ok (.iinc 3 1, 3) := by decide +kernel
theorem dX11_holdersIn_36 : decode cX11_holdersIn 36 = .ok (.iinc 4 1, 3) := by decide +kernel
theorem dX11_holdersIn_39 : decode cX11_holdersIn 39 = .ok (.goto (-34), 3) := by decide +kernel
theorem dX11_holdersIn_42 : decode cX11_holdersIn 42 = .ok (.iload_n 3, 1) := by decide +kernel
theorem dX11_holdersIn_43 : decode cX11_holdersIn 43 = .ok (.ireturn, 1) := by decide +kernel
set_option maxRecDepth 20000 in
theorem ggX11_allShares_X11_loadOf : GoodIn wsX11_allShares wsX11_loadOf := goodIn_ca (goodIn_r _ [6, 7, 8, 9, 5, 10, 11, 12, 13, 14, 15, 16, 17, 18, 19, 20, 21, 22, 23, 24, 25, 26, 27] (by decide +kernel) (by decide +kernel)) (goodIn_sub (fun _ h => List.mem_cons_of_mem _ (List.mem_append_right _ h)) (by decide +kernel))
set_option maxRecDepth 20000 in
theorem gX11_allShares_X11_loadOf : GoodIn wsX11_allShares (wsV RX11 65 RX11 yX11_loadOf wsX11_loadOf) := goodIn_app (goodIn_of _ (by decide +kernel)) ggX11_allShares_X11_loadOf
theorem dX11_allShares_0 : decode cX11_allShares 0 = .ok (.iconst 0, 1) := by decide +kernel
theorem dX11_allShares_1 : decode cX11_allShares 1 = .ok (.istore_n 1, 1) := by decide +kernel
theorem dX11_allShares_2 : decode cX11_allShares 2 = .ok (.iconst 0, 1) := by decide +kernel
theorem dX11_allShares_3 : decode cX11_allShares 3 = .ok (.istore_n 2, 1) := by decide +kernel
theorem dX11_allShares_4 : decode cX11_allShares 4 = .ok (.iload_n 2, 1) := by decide +kernel
theorem dX11_allShares_5 : decode cX11_allShares 5 = .ok (.aload_n 0, 1) := by decide +kernel
theorem dX11_allShares_6 : decode cX11_allShares 6 = .ok (.getfield 32, 3) := by decide +kernel
theorem dX11_allShares_9 : decode cX11_allShares 9 = .ok (.if_icmp .ge 17, 3) := by decide +kernel
theorem dX11_allShares_12 : decode cX11_allShares 12 = .ok (.iload_n 1, 1) := by decide +kernel
theorem dX11_allShares_13 : decode cX11_allShares 13 = .ok (.aload_n 0, 1) := by decide +kernel
theorem dX11_allShares_14 : decode cX11_allShares 14 = .ok (.iload_n 2, 1) := by decide +kernel
theorem dX11_allShares_15 : decode cX11_allShares 15 = .ok (.invokevirtual 65, 3) := by decide +kernel
theorem dX11_allShares_18 : decode cX11_allShares 18 = .ok (.iadd, 1) := by decide +kernel
theorem dX11_allShares_19 : decode cX11_allShares 19 = .ok (.istore_n 1, 1) := by decide +kernel
theorem dX11_allShares_20 : decode cX11_allShares 20 = .ok (.iinc 2 1, 3) := by decide +kernel
theorem dX11_allShares_23 : decode cX11_allShares 23 = .ok (.goto (-19), 3) := by decide +kernel
theorem dX11_allShares_26 : decode cX11_allShares 26 = .ok (.iload_n 1, 1) := by decide +kernel
theorem dX11_allShares_27 : decode cX11_allShares 27 = .ok (.ireturn, 1) := by decide +kernel
set_option maxRecDepth 20000 in
theorem ggX11_rebuildableTally_X11_secretPlaced : GoodIn wsX11_rebuildableTally wsX11_secretPlaced := goodIn_r _ [5, 6, 7, 30, 31, 32, 33, 34, 35] (by decide +kernel) (by decide +kernel)
set_option maxRecDepth 20000 in
theorem gX11_rebuildableTally_X11_secretPlaced : GoodIn wsX11_rebuildableTally (wsV RX11 50 RX11 yX11_secretPlaced wsX11_secretPlaced) := goodIn_app (goodIn_of _ (by decide +kernel)) ggX11_rebuildableTally_X11_secretPlaced
set_option maxRecDepth 20000 in
theorem ggX11_rebuildableTally_X10_isRebuildable : GoodIn wsX11_rebuildableTally wsX10_isRebuildable := goodIn_ca (goodIn_r _ [12, 13, 14, 15, 16, 11, 17, 18, 19, 20, 21, 22, 23, 24, 25, 26, 27, 28, 29, 36, 37, 38] (by decide +kernel) (by decide +kernel)) (goodIn_sub (fun _ h => List.mem_cons_of_mem _ (List.mem_append_right _ h)) (by decide +kernel))
set_option maxRecDepth 20000 in
theorem gX11_rebuildableTally_X10_isRebuildable : GoodIn wsX11_rebuildableTally (wsV RX11 72 RX10 yX10_isRebuildable wsX10_isRebuildable) := goodIn_app (goodIn_of _ (by decide +kernel)) ggX11_rebuildableTally_X10_isRebuildable
theorem dX11_rebuildableTally_0 : decode cX11_rebuildableTally 0 = .ok (.iconst 0, 1) := by decide +kernel
theorem dX11_rebuildableTally_1 : decode cX11_rebuildableTally 1 = .ok (.istore_n 1, 1) := by decide +kernel
theorem dX11_rebuildableTally_2 : decode cX11_rebuildableTally 2 = .ok (.iconst 0, 1) := by decide +kernel
theorem dX11_rebuildableTally_3 : decode cX11_rebuildableTally 3 = .ok (.istore_n 2, 1) := by decide +kernel
theorem dX11_rebuildableTally_4 : decode cX11_rebuildableTally 4 = .ok (.iload_n 2, 1) := by decide +kernel
theorem dX11_rebuildableTally_5 : decode cX11_rebuildableTally 5 = .ok (.bipush 6, 2) := by decide +kernel
theorem dX11_rebuildableTally_7 : decode cX11_rebuildableTally 7 = .ok (.if_icmp .ge 29, 3) := by decide +kernel
theorem dX11_rebuildableTally_10 : decode cX11_rebuildableTally 10 = .ok (.aload_n 0, 1) := by decide +kernel
theorem dX11_rebuildableTally_11 : decode cX11_rebuildableTally 11 = .ok (.iload_n 2, 1) := by decide +kernel
theorem dX11_rebuildableTally_12 : decode cX11_rebuildableTally 12 = .ok (.invokevirtual 50, 3) := by decide +kernel
theorem dX11_rebuildableTally_15 : decode cX11_rebuildableTally 15 = .ok (.astore_n 3, 1) := by decide +kernel
theorem dX11_rebuildableTally_16 : decode cX11_rebuildableTally 16 = .ok (.aload_n 3, 1) := by decide +kernel
theorem dX11_rebuildableTally_17 : decode cX11_rebuildableTally 17 = .ok (.ifnull 13, 3) := by decide +kernel
theorem dX11_rebuildableTally_20 : decode cX11_rebuildableTally 20 = .ok (.aload_n 3, 1) := by decide +kernel
theorem dX11_rebuildableTally_21 : decode cX11_rebuildableTally 21 = .ok (.invokevirtual 72, 3) := by decide +kernel
theorem dX11_rebuildableTally_24 : decode cX11_rebuildableTally 24 = .ok (.ifCond .eq 6, 3) := by decide +kernel
theorem dX11_rebuildableTally_27 : decode cX11_rebuildableTally 27 = .ok (.iinc 1 1, 3) := by decide +kernel
theorem dX11_rebuildableTally_30 : decode cX11_rebuildableTally 30 = .ok (.iinc 2 1, 3) := by decide +kernel
theorem dX11_rebuildableTally_33 : decode cX11_rebuildableTally 33 = .ok (.goto (-29), 3) := by decide +kernel
theorem dX11_rebuildableTally_36 : decode cX11_rebuildableTally 36 = .ok (.iload_n 1, 1) := by decide +kernel
theorem dX11_rebuildableTally_37 : decode cX11_rebuildableTally 37 = .ok (.ireturn, 1) := by decide +kernel
theorem dX11_lossTally_0 : decode cX11_lossTally 0 = .ok (.aload_n 0, 1) := by decide +kernel
theorem dX11_lossTally_1 : decode cX11_lossTally 1 = .ok (.getfield 42, 3) := by decide +kernel
theorem dX11_lossTally_4 : decode cX11_lossTally 4 = .ok (.lreturn, 1) := by decide +kernel
theorem dX11_countLoss_0 : decode cX11_countLoss 0 = .ok (.aload_n 0, 1) := by decide +kernel
theorem dX11_countLoss_1 : decode cX11_countLoss 1 = .ok (.dup, 1) := by decide +kernel
theorem dX11_countLoss_2 : decode cX11_countLoss 2 = .ok (.getfield 42, 3) := by decide +kernel
theorem dX11_countLoss_5 : decode cX11_countLoss 5 = .ok (.lconst 1, 1) := by decide +kernel
theorem dX11_countLoss_6 : decode cX11_countLoss 6 = .ok (.ladd, 1) := by decide +kernel
theorem dX11_countLoss_7 : decode cX11_countLoss 7 = .ok (.putfield 42, 3) := by decide +kernel
theorem dX11_countLoss_10 : decode cX11_countLoss 10 = .ok (.return_, 1) := by decide +kernel
theorem dX11_settle_0 : decode cX11_settle 0 = .ok (.aload_n 0, 1) := by decide +kernel
theorem dX11_settle_1 : decode cX11_settle 1 = .ok (.getfield 32, 3) := by decide +kernel
theorem dX11_settle_4 : decode cX11_settle 4 = .ok (.bipush 8, 2) := by decide +kernel
theorem dX11_settle_6 : decode cX11_settle 6 = .ok (.if_icmp .ge 23, 3) := by decide +kernel
theorem dX11_settle_9 : decode cX11_settle 9 = .ok (.aload_n 0, 1) := by decide +kernel
theorem dX11_settle_10 : decode cX11_settle 10 = .ok (.getfield 9, 3) := by decide +kernel
theorem dX11_settle_13 : decode cX11_settle 13 = .ok (.aload_n 0, 1) := by decide +kernel
theorem dX11_settle_14 : decode cX11_settle 14 = .ok (.getfield 32, 3) := by decide +kernel
theorem dX11_settle_17 : decode cX11_settle 17 = .ok (.iload_n 1, 1) := by decide +kernel
theorem dX11_settle_18 : decode cX11_settle 18 = .ok (.iastore, 1) := by decide +kernel
theorem dX11_settle_19 : decode cX11_settle 19 = .ok (.aload_n 0, 1) := by decide +kernel
theorem dX11_settle_20 : decode cX11_settle 20 = .ok (.dup, 1) := by decide +kernel
theorem dX11_settle_21 : decode cX11_settle 21 = .ok (.getfield 32, 3) := by decide +kernel
theorem dX11_settle_24 : decode cX11_settle 24 = .ok (.iconst 1, 1) := by decide +kernel
theorem dX11_settle_25 : decode cX11_settle 25 = .ok (.iadd, 1) := by decide +kernel
theorem dX11_settle_26 : decode cX11_settle 26 = .ok (.putfield 32, 3) := by decide +kernel
theorem dX11_settle_29 : decode cX11_settle 29 = .ok (.aload_n 0, 1) := by decide +kernel
theorem dX11_settle_30 : decode cX11_settle 30 = .ok (.getfield 32, 3) := by decide +kernel
theorem dX11_settle_33 : decode cX11_settle 33 = .ok (.iconst 1, 1) := by decide +kernel
theorem dX11_settle_34 : decode cX11_settle 34 = .ok (.isub, 1) := by decide +kernel
theorem dX11_settle_35 : decode cX11_settle 35 = .ok (.ireturn, 1) := by decide +kernel
set_option maxRecDepth 20000 in
theorem ggX11_resettle_X11_homeOf : GoodIn wsX11_resettle wsX11_homeOf := goodIn_ca (goodIn_r _ [6, 1, 7, 8, 9, 10, 11, 12] (by decide +kernel) (by decide +kernel)) (goodIn_sub (fun _ h => List.mem_cons_of_mem _ (List.mem_append_right _ h)) (by decide +kernel))
set_option maxRecDepth 20000 in
theorem gX11_resettle_X11_homeOf : GoodIn wsX11_resettle (wsV RX11 46 RX11 yX11_homeOf wsX11_homeOf) := goodIn_app (goodIn_of _ (by decide +kernel)) ggX11_resettle_X11_homeOf
theorem dX11_resettle_0 : decode cX11_resettle 0 = .ok (.aload_n 0, 1) := by decide +kernel
theorem dX11_resettle_1 : decode cX11_resettle 1 = .ok (.iload_n 1, 1) := by decide +kernel
theorem dX11_resettle_2 : decode cX11_resettle 2 = .ok (.invokevirtual 46, 3) := by decide +kernel
theorem dX11_resettle_5 : decode cX11_resettle 5 = .ok (.istore_n 3, 1) := by decide +kernel
theorem dX11_resettle_6 : decode cX11_resettle 6 = .ok (.iload_n 1, 1) := by decide +kernel
theorem dX11_resettle_7 : decode cX11_resettle 7 = .ok (.ifCond .lt 16, 3) := by decide +kernel
theorem dX11_resettle_10 : decode cX11_resettle 10 = .ok (.iload_n 1, 1) := by decide +kernel
theorem dX11_resettle_11 : decode cX11_resettle 11 = .ok (.bipush 8, 2) := by decide +kernel
theorem dX11_resettle_13 : decode cX11_resettle 13 = .ok (.if_icmp .ge 10, 3) := by decide +kernel
theorem dX11_resettle_16 : decode cX11_resettle 16 = .ok (.aload_n 0, 1) := by decide +kernel
theorem dX11_resettle_17 : decode cX11_resettle 17 = .ok (.getfield 9, 3) := by decide +kernel
theorem dX11_resettle_20 : decode cX11_resettle 20 = .ok (.iload_n 1, 1) := by decide +kernel
theorem dX11_resettle_21 : decode cX11_resettle 21 = .ok (.iload_n 2, 1) := by decide +kernel
theorem dX11_resettle_22 : decode cX11_resettle 22 = .ok (.iastore, 1) := by decide +kernel
theorem dX11_resettle_23 : decode cX11_resettle 23 = .ok (.iload_n 3, 1) := by decide +kernel
theorem dX11_resettle_24 : decode cX11_resettle 24 = .ok (.ireturn, 1) := by decide +kernel
set_option maxRecDepth 20000 in
theorem ggX11_open_X10_begin : GoodIn wsX11_open wsX10_begin := goodIn_ca (goodIn_r _ [9, 10, 11, 12, 31, 32, 33] (by decide +kernel) (by decide +kernel)) (goodIn_sub (fun _ h => List.mem_cons_of_mem _ (List.mem_append_right _ h)) (by decide +kernel))
set_option maxRecDepth 20000 in
theorem gX11_open_X10_begin : GoodIn wsX11_open (wsV RX11 76 RX10 yX10_begin wsX10_begin) := goodIn_app (goodIn_of _ (by decide +kernel)) ggX11_open_X10_begin
set_option maxRecDepth 20000 in
theorem ggX11_open_X10_dealTo : GoodIn wsX11_open wsX10_dealTo := goodIn_ca (goodIn_r _ [16, 11, 17, 18, 19, 20, 21, 22, 23, 8, 24, 12, 31, 32, 33] (by decide +kernel) (by decide +kernel)) (goodIn_sub (fun _ h => List.mem_cons_of_mem _ (List.mem_append_right _ h)) (by decide +kernel))
set_option maxRecDepth 20000 in
theorem gX11_open_X10_dealTo : GoodIn wsX11_open (wsV RX11 80 RX10 yX10_dealTo wsX10_dealTo) := goodIn_app (goodIn_of _ (by decide +kernel)) ggX11_open_X10_dealTo
theorem dX11_open_0 : decode cX11_open 0 = .ok (.aload_n 0, 1) := by decide +kernel
theorem dX11_open_1 : decode cX11_open 1 = .ok (.getfield 36, 3) := by decide +kernel
theorem dX11_open_4 : decode cX11_open 4 = .ok (.bipush 6, 2) := by decide +kernel
theorem dX11_open_6 : decode cX11_open 6 = .ok (.if_icmp .ge 58, 3) := by decide +kernel
theorem dX11_open_9 : decode cX11_open 9 = .ok (.aload_n 0, 1) := by decide +kernel
theorem dX11_open_10 : decode cX11_open 10 = .ok (.dup, 1) := by decide +kernel
theorem dX11_open_11 : decode cX11_open 11 = .ok (.getfield 39, 3) := by decide +kernel
theorem dX11_open_14 : decode cX11_open 14 = .ok (.iconst 1, 1) := by decide +kernel
theorem dX11_open_15 : decode cX11_open 15 = .ok (.iadd, 1) := by decide +kernel
theorem dX11_open_16 : decode cX11_open 16 = .ok (.putfield 39, 3) := by decide +kernel
theorem dX11_open_19 : decode cX11_open 19 = .ok (.aload_n 0, 1) := by decide +kernel
theorem dX11_open_20 : decode cX11_open 20 = .ok (.getfield 17, 3) := by decide +kernel
theorem dX11_open_23 : decode cX11_open 23 = .ok (.aload_n 0, 1) := by decide +kernel
theorem dX11_open_24 : decode cX11_open 24 = .ok (.getfield 36, 3) := by decide +kernel
theorem dX11_open_27 : decode cX11_open 27 = .ok (.aaload, 1) := by decide +kernel
theorem dX11_open_28 : decode cX11_open 28 = .ok (.aload_n 0, 1) := by decide +kernel
theorem dX11_open_29 : decode cX11_open 29 = .ok (.getfield 39, 3) := by decide +kernel
theorem dX11_open_32 : decode cX11_open 32 = .ok (.iload_n 2, 1) := by decide +kernel
theorem dX11_open_33 : decode cX11_open 33 = .ok (.invokevirtual 76, 3) := by decide +kernel
theorem dX11_open_36 : decode cX11_open 36 = .ok (.aload_n 0, 1) := by decide +kernel
theorem dX11_open_37 : decode cX11_open 37 = .ok (.getfield 17, 3) := by decide +kernel
theorem dX11_open_40 : decode cX11_open 40 = .ok (.aload_n 0, 1) := by decide +kernel
theorem dX11_open_41 : decode cX11_open 41 = .ok (.getfield 36, 3) := by decide +kernel
theorem dX11_open_44 : decode cX11_open 44 = .ok (.aaload, 1) := by decide +kernel
theorem dX11_open_45 : decode cX11_open 45 = .ok (.aload_n 0, 1) := by decide +kernel
theorem dX11_open_46 : decode cX11_open 46 = .ok (.getfield 32, 3) := by decide +kernel
theorem dX11_open_49 : decode cX11_open 49 = .ok (.iload_n 1, 1) := by decide +kernel
theorem dX11_open_50 : decode cX11_open 50 = .ok (.iload_n 3, 1) := by decide +kernel
theorem dX11_open_51 : decode cX11_open 51 = .ok (.invokevirtual 80, 3) := by decide +kernel
theorem dX11_open_54 : decode cX11_open 54 = .ok (.aload_n 0, 1) := by decide +kernel
theorem dX11_open_55 : decode cX11_open 55 = .ok (.dup, 1) := by decide +kernel
theorem dX11_open_56 : decode cX11_open 56 = .ok (.getfield 36, 3) := by decide +kernel
theorem dX11_open_59 : decode cX11_open 59 = .ok (.iconst 1, 1) := by decide +kernel
theorem dX11_open_60 : decode cX11_open 60 = .ok (.iadd, 1) := by decide +kernel
theorem dX11_open_61 : decode cX11_open 61 = .ok (.putfield 36, 3) := by decide +kernel
theorem dX11_open_64 : decode cX11_open 64 = .ok (.aload_n 0, 1) := by decide +kernel
theorem dX11_open_65 : decode cX11_open 65 = .ok (.getfield 39, 3) := by decide +kernel
theorem dX11_open_68 : decode cX11_open 68 = .ok (.ireturn, 1) := by decide +kernel
theorem dX11_close_0 : decode cX11_close 0 = .ok (.iconst 0, 1) := by decide +kernel
theorem dX11_close_1 : decode cX11_close 1 = .ok (.istore_n 2, 1) := by decide +kernel
theorem dX11_close_2 : decode cX11_close 2 = .ok (.iconst 0, 1) := by decide +kernel
theorem dX11_close_3 : decode cX11_close 3 = .ok (.istore_n 3, 1) := by decide +kernel
theorem dX11_close_4 : decode cX11_close 4 = .ok (.iload_n 3, 1) := by decide +kernel
theorem dX11_close_5 : decode cX11_close 5 = .ok (.aload_n 0, 1) := by decide +kernel
theorem dX11_close_6 : decode cX11_close 6 = .ok (.getfield 36, 3) := by decide +kernel
theorem dX11_close_9 : decode cX11_close 9 = .ok (.if_icmp .ge 40, 3) := by decide +kernel
theorem dX11_close_12 : decode cX11_close 12 = .ok (.iload_n 3, 1) := by decide +kernel
theorem dX11_close_13 : decode cX11_close 13 = .ok (.bipush 6, 2) := by decide +kernel
theorem dX11_close_15 : decode cX11_close 15 = .ok (.if_icmp .ge 34, 3) := by decide +kernel
theorem dX11_close_18 : decode cX11_close 18 = .ok (.aload_n 0, 1) := by decide +kernel
theorem dX11_close_19 : decode cX11_close 19 = .ok (.getfield 17, 3) := by decide +kernel
theorem dX11_close_22 : decode cX11_close 22 = .ok (.iload_n 3, 1) := by decide +kernel
theorem dX11_close_23 : decode cX11_close 23 = .ok (.aaload, 1) := by decide +kernel
theorem dX11_close_24 : decode cX11_close 24 = .ok (.aload_n 1, 1) := by decide +kernel
theorem dX11_close_25 : decode cX11_close 25 = .ok (.if_acmp .eq 18, 3) := by decide +kernel
theorem dX11_close_28 : decode cX11_close 28 = .ok (.aload_n 0, 1) := by decide +kernel
theorem dX11_close_29 : decode cX11_close 29 = .ok (.getfield 17, 3) := by decide +kernel
theorem dX11_close_32 : decode cX11_close 32 = .ok (.iload_n 2, 1) := by decide +kernel
theorem dX11_close_33 : decode cX11_close 33 = .ok (.aload_n 0, 1) := by decide +kernel
theorem dX11_close_34 : decode cX11_close 34 = .ok (.getfield 17, 3) := by decide +kernel
theorem dX11_close_37 : decode cX11_close 37 = .ok (.iload_n 3, 1) := by decide +kernel
theorem dX11_close_38 : decode cX11_close 38 = .ok (.aaload, 1) := by decide +kernel
theorem dX11_close_39 : decode cX11_close 39 = .ok (.aastore, 1) := by decide +kernel
theorem dX11_close_40 : decode cX11_close 40 = .ok (.iinc 2 1, 3) := by decide +kernel
theorem dX11_close_43 : decode cX11_close 43 = .ok (.iinc 3 1, 3) := by decide +kernel
theorem dX11_close_46 : decode cX11_close 46 = .ok (.goto (-42), 3) := by decide +kernel
theorem dX11_close_49 : decode cX11_close 49 = .ok (.iload_n 2, 1) := by decide +kernel
theorem dX11_close_50 : decode cX11_close 50 = .ok (.aload_n 0, 1) := by decide +kernel
theorem dX11_close_51 : decode cX11_close 51 = .ok (.getfield 36, 3) := by decide +kernel
theorem dX11_close_54 : decode cX11_close 54 = .ok (.if_icmp .ge 15, 3) := by decide +kernel
theorem dX11_close_57 : decode cX11_close 57 = .ok (.aload_n 0, 1) := by decide +kernel
theorem dX11_close_58 : decode cX11_close 58 = .ok (.getfield 17, 3) := by decide +kernel
theorem dX11_close_61 : decode cX11_close 61 = .ok (.iload_n 2, 1) := by decide +kernel
theorem dX11_close_62 : decode cX11_close 62 = .ok (.aload_n 1, 1) := by decide +kernel
theorem dX11_close_63 : decode cX11_close 63 = .ok (.aastore, 1) := by decide +kernel
theorem dX11_close_64 : decode cX11_close 64 = .ok (.aload_n 0, 1) := by decide +kernel
theorem dX11_close_65 : decode cX11_close 65 = .ok (.iload_n 2, 1) := by decide +kernel
theorem dX11_close_66 : decode cX11_close 66 = .ok (.putfield 36, 3) := by decide +kernel
theorem dX11_close_69 : decode cX11_close 69 = .ok (.return_, 1) := by decide +kernel
set_option maxRecDepth 20000 in
theorem ggX12_init_X1_init : GoodIn wsX12_init wsX1_init := goodIn_r _ [31, 32, 2, 3, 33, 11, 12, 34, 35, 36, 37, 38, 39, 40, 41, 42, 43, 44, 45, 46, 47, 48, 49, 50, 51, 52, 53, 54, 55, 56, 57, 58, 59, 60, 61, 62, 63, 64, 65, 66, 67, 68, 69, 70, 71, 72, 73, 74, 75, 76, 77, 135, 136, 137, 138, 139, 140, 122, 123, 155, 156, 157, 158, 159, 160, 161, 162, 163, 164, 165, 166, 167] (by decide +kernel) (by decide +kernel)
set_option maxRecDepth 20000 in
theorem gX12_init_X1_init_n9 : GoodIn wsX12_init (wsX1_init) := ggX12_init_X1_init
set_option maxRecDepth 20000 in
theorem ggX12_init_X1_ownState : GoodIn wsX12_init wsX1_ownState := goodIn_r _ [81, 34, 122, 123] (by decide +kernel) (by decide +kernel)
set_option maxRecDepth 20000 in
theorem gX12_init_X1_ownState : GoodIn wsX12_init (wsV RX12 16 RX1 yX1_ownState wsX1_ownState) := goodIn_app (goodIn_of _ (by decide +kernel)) ggX12_init_X1_ownState
set_option maxRecDepth 20000 in
theorem ggX12_init_X1_ownRebuilder : GoodIn wsX12_init wsX1_ownRebuilder := goodIn_r _ [85, 38, 122, 123] (by decide +kernel) (by decide +kernel)
set_option maxRecDepth 20000 in
theorem gX12_init_X1_ownRebuilder : GoodIn wsX12_init (wsV RX12 24 RX1 yX1_ownRebuilder wsX1_ownRebuilder) := goodIn_app (goodIn_of _ (by decide +kernel)) ggX12_init_X1_ownRebuilder
set_option maxRecDepth 20000 in
theorem ggX12_init_X11_init : GoodIn wsX12_init wsX11_init := goodIn_r _ [41, 42, 2, 3, 43, 44, 45, 46, 47, 48, 49, 50, 51, 52, 135, 136, 137, 138, 139, 140, 157, 158, 159] (by decide +kernel) (by decide +kernel)
set_option maxRecDepth 20000 in
theorem gX12_init_X11_init : GoodIn wsX12_init (wsX11_init) := ggX12_init_X11_init
set_option maxRecDepth 20000 in
theorem ggX12_init_X4_init : GoodIn wsX12_init wsX4_init := goodIn_r _ [89, 90, 2, 3, 91, 92, 11, 12, 93, 40, 41, 42, 43, 44, 45, 46, 47, 48, 49, 50, 51, 52, 141, 142, 143, 135, 136, 137, 138, 139, 140, 157, 158, 159] (by decide +kernel) (by decide +kernel)
set_option maxRecDepth 20000 in
theorem gX12_init_X4_init : GoodIn wsX12_init (wsX4_init) := ggX12_init_X4_init
set_option maxRecDepth 20000 in
theorem ggX12_init_X7_init : GoodIn wsX12_init wsX7_init := goodIn_r _ [95, 96, 2, 3, 97, 98, 43, 99, 100, 101, 144, 145, 146, 147, 148, 149, 150] (by decide +kernel) (by decide +kernel)
set_option maxRecDepth 20000 in
theorem gX12_init_X7_init_n50 : GoodIn wsX12_init (wsX7_init) := ggX12_init_X7_init
set_option maxRecDepth 20000 in
theorem ggX12_init_J4_init_da8c8 : GoodIn wsX12_init wsJ4_init_da8c8 := goodIn_r _ [104, 105, 106, 107, 108, 109, 2, 3, 110, 111, 112, 113, 114, 115, 116, 117, 118, 119, 120, 121, 151, 152, 153, 154] (by decide +kernel) (by decide +kernel)
set_option maxRecDepth 20000 in
theorem gX12_init_J4_init_da8c8 : GoodIn wsX12_init (wsJ4_init_da8c8) := ggX12_init_J4_init_da8c8
theorem dX12_init_0 : decode cX12_init 0 = .ok (.aload_n 0, 1) := by decide +kernel
theorem dX12_init_1 : decode cX12_init 1 = .ok (.invokespecial 1, 3) := by decide +kernel
theorem dX12_init_4 : decode cX12_init 4 = .ok (.aload_n 0, 1) := by decide +kernel
theorem dX12_init_5 : decode cX12_init 5 = .ok (.new 7, 3) := by decide +kernel
theorem dX12_init_8 : decode cX12_init 8 = .ok (.dup, 1) := by decide +kernel
theorem dX12_init_9 : decode cX12_init 9 = .ok (.invokespecial 9, 3) := by decide +kernel
theorem dX12_init_12 : decode cX12_init 12 = .ok (.putfield 10, 3) := by decide +kernel
theorem dX12_init_15 : decode cX12_init 15 = .ok (.aload_n 0, 1) := by decide +kernel
theorem dX12_init_16 : decode cX12_init 16 = .ok (.aload_n 0, 1) := by decide +kernel
theorem dX12_init_17 : decode cX12_init 17 = .ok (.getfield 10, 3) := by decide +kernel
theorem dX12_init_20 : decode cX12_init 20 = .ok (.invokevirtual 16, 3) := by decide +kernel
theorem dX12_init_23 : decode cX12_init 23 = .ok (.putfield 20, 3) := by decide +kernel
theorem dX12_init_26 : decode cX12_init 26 = .ok (.aload_n 0, 1) := by decide +kernel
theorem dX12_init_27 : decode cX12_init 27 = .ok (.aload_n 0, 1) := by decide +kernel
theorem dX12_init_28 : decode cX12_init 28 = .ok (.getfield 10, 3) := by decide +kernel
theorem dX12_init_31 : decode cX12_init 31 = .ok (.invokevirtual 24, 3) := by decide +kernel
theorem dX12_init_34 : decode cX12_init 34 = .ok (.putfield 28, 3) := by decide +kernel
theorem dX12_init_37 : decode cX12_init 37 = .ok (.aload_n 0, 1) := by decide +kernel
theorem dX12_init_38 : decode cX12_init 38 = .ok (.new 32, 3) := by decide +kernel
theorem dX12_init_41 : decode cX12_init 41 = .ok (.dup, 1) := by decide +kernel
theorem dX12_init_42 : decode cX12_init 42 = .ok (.invokespecial 34, 3) := by decide +kernel
theorem dX12_init_45 : decode cX12_init 45 = .ok (.putfield 35, 3) := by decide +kernel
theorem dX12_init_48 : decode cX12_init 48 = .ok (.aload_n 0, 1) := by decide +kernel
theorem dX12_init_49 : decode cX12_init 49 = .ok (.new 32, 3) := by decide +kernel
theorem dX12_init_52 : decode cX12_init 52 = .ok (.dup, 1) := by decide +kernel
theorem dX12_init_53 : decode cX12_init 53 = .ok (.invokespecial 34, 3) := by decide +kernel
theorem dX12_init_56 : decode cX12_init 56 = .ok (.putfield 38, 3) := by decide +kernel
theorem dX12_init_59 : decode cX12_init 59 = .ok (.aload_n 0, 1) := by decide +kernel
theorem dX12_init_60 : decode cX12_init 60 = .ok (.new 41, 3) := by decide +kernel
theorem dX12_init_63 : decode cX12_init 63 = .ok (.dup, 1) := by decide +kernel
theorem dX12_init_64 : decode cX12_init 64 = .ok (.invokespecial 43, 3) := by decide +kernel
theorem dX12_init_67 : decode cX12_init 67 = .ok (.putfield 44, 3) := by decide +kernel
theorem dX12_init_70 : decode cX12_init 70 = .ok (.aload_n 0, 1) := by decide +kernel
theorem dX12_init_71 : decode cX12_init 71 = .ok (.new 48, 3) := by decide +kernel
theorem dX12_init_74 : decode cX12_init 74 = .ok (.dup, 1) := by decide +kernel
theorem dX12_init_75 : decode cX12_init 75 = .ok (.invokespecial 50, 3) := by decide +kernel
theorem dX12_init_78 : decode cX12_init 78 = .ok (.putfield 51, 3) := by decide +kernel
theorem dX12_init_81 : decode cX12_init 81 = .ok (.aload_n 0, 1) := by decide +kernel
theorem dX12_init_82 : decode cX12_init 82 = .ok (.new 55, 3) := by decide +kernel
theorem dX12_init_85 : decode cX12_init 85 = .ok (.dup, 1) := by decide +kernel
theorem dX12_init_86 : decode cX12_init 86 = .ok (.invokespecial 57, 3) := by decide +kernel
theorem dX12_init_89 : decode cX12_init 89 = .ok (.putfield 58, 3) := by decide +kernel
theorem dX12_init_92 : decode cX12_init 92 = .ok (.aload_n 0, 1) := by decide +kernel
theorem dX12_init_93 : decode cX12_init 93 = .ok (.iconst 0, 1) := by decide +kernel
theorem dX12_init_94 : decode cX12_init 94 = .ok (.putfield 62, 3) := by decide +kernel
theorem dX12_init_97 : decode cX12_init 97 = .ok (.aload_n 0, 1) := by decide +kernel
theorem dX12_init_98 : decode cX12_init 98 = .ok (.iconst (-1), 1) := by decide +kernel
theorem dX12_init_99 : decode cX12_init 99 = .ok (.putfield 66, 3) := by decide +kernel
theorem dX12_init_102 : decode cX12_init 102 = .ok (.aload_n 0, 1) := by decide +kernel
theorem dX12_init_103 : decode cX12_init 103 = .ok (.iconst (-1), 1) := by decide +kernel
theorem dX12_init_104 : decode cX12_init 104 = .ok (.putfield 70, 3) := by decide +kernel
theorem dX12_init_107 : decode cX12_init 107 = .ok (.return_, 1) := by decide +kernel
set_option maxRecDepth 20000 in
theorem ggX12_addBird_X12_change : GoodIn wsX12_addBird wsX12_change := goodIn_ca (goodIn_ca (goodIn_ca (goodIn_ca (goodIn_ca (goodIn_ca (goodIn_r _ [6, 7, 8, 9, 10, 11, 12, 13, 14, 15, 16, 17, 18, 19, 20, 21, 22, 23, 24, 25, 26, 27, 28, 29, 30, 31, 32, 33, 34, 35, 36, 37, 38, 39, 40, 41, 42, 43, 44, 45, 46, 47, 48, 49, 50, 51, 52, 53, 54, 55, 56, 57, 58, 59, 60, 61, 62, 63, 64, 65, 66, 67, 68, 69, 70, 71, 72, 73, 74, 75, 76, 77, 78, 79, 80, 81, 82, 83, 84, 85, 86, 87, 88, 89, 90, 91, 92, 93, 94, 95, 96, 97, 98, 99, 100, 101, 102, 103, 104, 105, 106, 107, 108, 109, 110, 111, 112, 113, 114, 5, 115, 116, 117, 118, 119, 120, 121, 122, 123, 124, 125, 126, 127, 128, 129, 130, 131, 132, 133, 134, 135, 136, 137, 138, 139, 140, 141, 142, 143, 144, 145, 146, 147, 148, 149, 150, 151, 152, 153, 154, 155, 156, 157, 158, 159, 160, 161, 162, 163, 164, 165, 166, 167, 168, 169, 170, 171, 172, 173, 174, 175, 176, 177, 178, 179, 180, 181, 182, 183, 184, 185, 186, 187, 188, 189, 190, 191, 192, 193, 194, 195, 196, 197, 198, 199, 200, 201, 202, 203, 204, 205, 206, 207, 208, 209, 210, 211, 212, 213, 214, 215, 216, 217, 218, 219, 220, 221, 222, 223, 224, 225, 226, 227, 228, 229, 230, 231, 232, 233, 234, 235, 236, 237, 238, 239, 240, 241, 242, 243, 244, 245, 246, 247, 248, 249, 250, 251, 252, 253, 254, 255, 256, 257, 258, 259, 260, 261, 262, 263, 264, 265, 266, 267, 268, 269, 270, 271, 272, 273, 274, 275, 276, 277, 278, 279, 280, 281, 282, 283, 284] (by decide +kernel) (by decide +kernel)) (goodIn_sub (fun _ h => List.mem_cons_of_mem _ (List.mem_append_left _ (List.mem_append_left _ (List.mem_append_left _ (List.mem_append_left _ (List.mem_append_left _ (List.mem_append_right _ h))))))) (by decide +kernel))) (goodIn_sub (fun _ h => List.mem_cons_of_mem _ (List.mem_append_left _ (List.mem_append_left _ (List.mem_append_left _ (List.mem_append_left _ (List.mem_append_right _ h)))))) (by decide +kernel))) (goodIn_sub (fun _ h => List.mem_cons_of_mem _ (List.mem_append_left _ (List.mem_append_left _ (List.mem_append_left _ (List.mem_append_right _ h))))) (by decide +kernel))) (goodIn_sub (fun _ h => List.mem_cons_of_mem _ (List.mem_append_left _ (List.mem_append_left _ (List.mem_append_right _ h)))) (by decide +kernel))) (goodIn_sub (fun _ h => List.mem_cons_of_mem _ (List.mem_append_left _ (List.mem_append_right _ h))) (by decide +kernel))) (goodIn_sub (fun _ h => List.mem_cons_of_mem _ (List.mem_append_right _ h)) (by decide +kernel))
set_option maxRecDepth 20000 in
theorem gX12_addBird_X12_change : GoodIn wsX12_addBird (wsV RX12 79 RX12 yX12_change wsX12_change) := goodIn_app (goodIn_of _ (by decide +kernel)) ggX12_addBird_X12_change
theorem dX12_addBird_0 : decode cX12_addBird 0 = .ok (.aload_n 0, 1) := by decide +kernel
theorem dX12_addBird_1 : decode cX12_addBird 1 = .ok (.getstatic 73, 3) := by decide +kernel
theorem dX12_addBird_4 : decode cX12_addBird 4 = .ok (.iload_n 1, 1) := by decide +kernel
theorem dX12_addBird_5 : decode cX12_addBird 5 = .ok (.iconst 0, 1) := by decide +kernel
theorem dX12_addBird_6 : decode cX12_addBird 6 = .ok (.iconst 0, 1) := by decide +kernel
theorem dX12_addBird_7 : decode cX12_addBird 7 = .ok (.invokevirtual 79, 3) := by decide +kernel
theorem dX12_addBird_10 : decode cX12_addBird 10 = .ok (.ireturn, 1) := by decide +kernel
set_option maxRecDepth 20000 in
theorem ggX12_move_X12_change : GoodIn wsX12_move wsX12_change := goodIn_ca (goodIn_ca (goodIn_ca (goodIn_ca (goodIn_ca (goodIn_ca (goodIn_r _ [6, 7, 8, 9, 10, 11, 12, 13, 14, 15, 16, 17, 18, 19, 20, 21, 22, 23, 24, 25, 26, 27, 28, 29, 30, 31, 32, 33, 34, 35, 36, 37, 38, 39, 40, 41, 42, 43, 44, 45, 46, 47, 48, 49, 50, 51, 52, 53, 54, 55, 56, 57, 58, 59, 60, 61, 62, 63, 64, 65, 66, 67, 68, 69, 70, 71, 72, 73, 74, 75, 76, 77, 78, 79, 80, 81, 82, 83, 84, 85, 86, 87, 88, 89, 90, 91, 92, 93, 94, 95, 96, 97, 98, 99, 100, 101, 102, 103, 104, 105, 106, 107, 108, 109, 110, 111, 112, 113, 114, 5, 115, 116, 117, 118, 119, 120, 121, 122, 123, 124, 125, 126, 127, 128, 129, 130, 131, 132, 133, 134, 135, 136, 137, 138, 139, 140, 141, 142, 143, 144, 145, 146, 147, 148, 149, 150, 151, 152, 153, 154, 155, 156, 157, 158, 159, 160, 161, 162, 163, 164, 165, 166, 167, 168, 169, 170, 171, 172, 173, 174, 175, 176, 177, 178, 179, 180, 181, 182, 183, 184, 185, 186, 187, 188, 189, 190, 191, 192, 193, 194, 195, 196, 197, 198, 199, 200, 201, 202, 203, 204, 205, 206, 207, 208, 209, 210, 211, 212, 213, 214, 215, 216, 217, 218, 219, 220, 221, 222, 223, 224, 225, 226, 227, 228, 229, 230, 231, 232, 233, 234, 235, 236, 237, 238, 239, 240, 241, 242, 243, 244, 245, 246, 247, 248, 249, 250, 251, 252, 253, 254, 255, 256, 257, 258, 259, 260, 261, 262, 263, 264, 265, 266, 267, 268, 269, 270, 271, 272, 273, 274, 275, 276, 277, 278, 279, 280, 281, 282, 283, 284] (by decide +kernel) (by decide +kernel)) (goodIn_sub (fun _ h => List.mem_cons_of_mem _ (List.mem_append_left _ (List.mem_append_left _ (List.mem_append_left _ (List.mem_append_left _ (List.mem_append_left _ (List.mem_append_right _ h))))))) (by decide +kernel))) (goodIn_sub (fun _ h => List.mem_cons_of_mem _ (List.mem_append_left _ (List.mem_append_left _ (List.mem_append_left _ (List.mem_append_left _ (List.mem_append_right _ h)))))) (by decide +kernel))) (goodIn_sub (fun _ h => List.mem_cons_of_mem _ (List.mem_append_left _ (List.mem_append_left _ (List.mem_append_left _ (List.mem_append_right _ h))))) (by decide +kernel))) (goodIn_sub (fun _ h => List.mem_cons_of_mem _ (List.mem_append_left _ (List.mem_append_left _ (List.mem_append_right _ h)))) (by decide +kernel))) (goodIn_sub (fun _ h => List.mem_cons_of_mem _ (List.mem_append_left _ (List.mem_append_right _ h))) (by decide +kernel))) (goodIn_sub (fun _ h => List.mem_cons_of_mem _ (List.mem_append_right _ h)) (by decide +kernel))
set_option maxRecDepth 20000 in
theorem gX12_move_X12_change : GoodIn wsX12_move (wsV RX12 79 RX12 yX12_change wsX12_change) := goodIn_app (goodIn_of _ (by decide +kernel)) ggX12_move_X12_change
theorem dX12_move_0 : decode cX12_move 0 = .ok (.aload_n 0, 1) := by decide +kernel
theorem dX12_move_1 : decode cX12_move 1 = .ok (.getstatic 83, 3) := by decide +kernel
theorem dX12_move_4 : decode cX12_move 4 = .ok (.iload_n 1, 1) := by decide +kernel
theorem dX12_move_5 : decode cX12_move 5 = .ok (.iload_n 2, 1) := by decide +kernel
theorem dX12_move_6 : decode cX12_move 6 = .ok (.iconst 0, 1) := by decide +kernel
theorem dX12_move_7 : decode cX12_move 7 = .ok (.invokevirtual 79, 3) := by decide +kernel
theorem dX12_move_10 : decode cX12_move 10 = .ok (.ireturn, 1) := by decide +kernel
set_option maxRecDepth 20000 in
theorem ggX12_split_X12_change : GoodIn wsX12_split wsX12_change := goodIn_ca (goodIn_ca (goodIn_ca (goodIn_ca (goodIn_ca (goodIn_ca (goodIn_r _ [6, 7, 8, 9, 10, 11, 12, 13, 14, 15, 16, 17, 18, 19, 20, 21, 22, 23, 24, 25, 26, 27, 28, 29, 30, 31, 32, 33, 34, 35, 36, 37, 38, 39, 40, 41, 42, 43, 44, 45, 46, 47, 48, 49, 50, 51, 52, 53, 54, 55, 56, 57, 58, 59, 60, 61, 62, 63, 64, 65, 66, 67, 68, 69, 70, 71, 72, 73, 74, 75, 76, 77, 78, 79, 80, 81, 82, 83, 84, 85, 86, 87, 88, 89, 90, 91, 92, 93, 94, 95, 96, 97, 98, 99, 100, 101, 102, 103, 104, 105, 106, 107, 108, 109, 110, 111, 112, 113, 114, 5, 115, 116, 117, 118, 119, 120, 121, 122, 123, 124, 125, 126, 127, 128, 129, 130, 131, 132, 133, 134, 135, 136, 137, 138, 139, 140, 141, 142, 143, 144, 145, 146, 147, 148, 149, 150, 151, 152, 153, 154, 155, 156, 157, 158, 159, 160, 161, 162, 163, 164, 165, 166, 167, 168, 169, 170, 171, 172, 173, 174, 175, 176, 177, 178, 179, 180, 181, 182, 183, 184, 185, 186, 187, 188, 189, 190, 191, 192, 193, 194, 195, 196, 197, 198, 199, 200, 201, 202, 203, 204, 205, 206, 207, 208, 209, 210, 211, 212, 213, 214, 215, 216, 217, 218, 219, 220, 221, 222, 223, 224, 225, 226, 227, 228, 229, 230, 231, 232, 233, 234, 235, 236, 237, 238, 239, 240, 241, 242, 243, 244, 245, 246, 247, 248, 249, 250, 251, 252, 253, 254, 255, 256, 257, 258, 259, 260, 261, 262, 263, 264, 265, 266, 267, 268, 269, 270, 271, 272, 273, 274, 275, 276, 277, 278, 279, 280, 281, 282, 283, 284] (by decide +kernel) (by decide +kernel)) (goodIn_sub (fun _ h => List.mem_cons_of_mem _ (List.mem_append_left _ (List.mem_append_left _ (List.mem_append_left _ (List.mem_append_left _ (List.mem_append_left _ (List.mem_append_right _ h))))))) (by decide +kernel))) (goodIn_sub (fun _ h => List.mem_cons_of_mem _ (List.mem_append_left _ (List.mem_append_left _ (List.mem_append_left _ (List.mem_append_left _ (List.mem_append_right _ h)))))) (by decide +kernel))) (goodIn_sub (fun _ h => List.mem_cons_of_mem _ (List.mem_append_left _ (List.mem_append_left _ (List.mem_append_left _ (List.mem_append_right _ h))))) (by decide +kernel))) (goodIn_sub (fun _ h => List.mem_cons_of_mem _ (List.mem_append_left _ (List.mem_append_left _ (List.mem_append_right _ h)))) (by decide +kernel))) (goodIn_sub (fun _ h => List.mem_cons_of_mem _ (List.mem_append_left _ (List.mem_append_right _ h))) (by decide +kernel))) (goodIn_sub (fun _ h => List.mem_cons_of_mem _ (List.mem_append_right _ h)) (by decide +kernel))
set_option maxRecDepth 20000 in
theorem gX12_split_X12_change : GoodIn wsX12_split (wsV RX12 79 RX12 yX12_change wsX12_change) := goodIn_app (goodIn_of _ (by decide +kernel)) ggX12_split_X12_change
theorem dX12_split_0 : decode cX12_split 0 = .ok (.aload_n 0, 1) := by decide +kernel
theorem dX12_split_1 : decode cX12_split 1 = .ok (.getstatic 86, 3) := by decide +kernel
theorem dX12_split_4 : decode cX12_split 4 = .ok (.iload_n 1, 1) := by decide +kernel
theorem dX12_split_5 : decode cX12_split 5 = .ok (.iload_n 2, 1) := by decide +kernel
theorem dX12_split_6 : decode cX12_split 6 = .ok (.iload_n 3, 1) := by decide +kernel
theorem dX12_split_7 : decode cX12_split 7 = .ok (.invokevirtual 79, 3) := by decide +kernel
theorem dX12_split_10 : decode cX12_split 10 = .ok (.ireturn, 1) := by decide +kernel
set_option maxRecDepth 20000 in
theorem ggX12_lose_X12_change : GoodIn wsX12_lose wsX12_change := goodIn_ca (goodIn_ca (goodIn_ca (goodIn_ca (goodIn_ca (goodIn_ca (goodIn_r _ [6, 7, 8, 9, 10, 11, 12, 13, 14, 15, 16, 17, 18, 19, 20, 21, 22, 23, 24, 25, 26, 27, 28, 29, 30, 31, 32, 33, 34, 35, 36, 37, 38, 39, 40, 41, 42, 43, 44, 45, 46, 47, 48, 49, 50, 51, 52, 53, 54, 55, 56, 57, 58, 59, 60, 61, 62, 63, 64, 65, 66, 67, 68, 69, 70, 71, 72, 73, 74, 75, 76, 77, 78, 79, 80, 81, 82, 83, 84, 85, 86, 87, 88, 89, 90, 91, 92, 93, 94, 95, 96, 97, 98, 99, 100, 101, 102, 103, 104, 105, 106, 107, 108, 109, 110, 111, 112, 113, 114, 5, 115, 116, 117, 118, 119, 120, 121, 122, 123, 124, 125, 126, 127, 128, 129, 130, 131, 132, 133, 134, 135, 136, 137, 138, 139, 140, 141, 142, 143, 144, 145, 146, 147, 148, 149, 150, 151, 152, 153, 154, 155, 156, 157, 158, 159, 160, 161, 162, 163, 164, 165, 166, 167, 168, 169, 170, 171, 172, 173, 174, 175, 176, 177, 178, 179, 180, 181, 182, 183, 184, 185, 186, 187, 188, 189, 190, 191, 192, 193, 194, 195, 196, 197, 198, 199, 200, 201, 202, 203, 204, 205, 206, 207, 208, 209, 210, 211, 212, 213, 214, 215, 216, 217, 218, 219, 220, 221, 222, 223, 224, 225, 226, 227, 228, 229, 230, 231, 232, 233, 234, 235, 236, 237, 238, 239, 240, 241, 242, 243, 244, 245, 246, 247, 248, 249, 250, 251, 252, 253, 254, 255, 256, 257, 258, 259, 260, 261, 262, 263, 264, 265, 266, 267, 268, 269, 270, 271, 272, 273, 274, 275, 276, 277, 278, 279, 280, 281, 282, 283, 284] (by decide +kernel) (by decide +kernel)) (goodIn_sub (fun _ h => List.mem_cons_of_mem _ (List.mem_append_left _ (List.mem_append_left _ (List.mem_append_left _ (List.mem_append_left _ (List.mem_append_left _ (List.mem_append_right _ h))))))) (by decide +kernel))) (goodIn_sub (fun _ h => List.mem_cons_of_mem _ (List.mem_append_left _ (List.mem_append_left _ (List.mem_append_left _ (List.mem_append_left _ (List.mem_append_right _ h)))))) (by decide +kernel))) (goodIn_sub (fun _ h => List.mem_cons_of_mem _ (List.mem_append_left _ (List.mem_append_left _ (List.mem_append_left _ (List.mem_append_right _ h))))) (by decide +kernel))) (goodIn_sub (fun _ h => List.mem_cons_of_mem _ (List.mem_append_left _ (List.mem_append_left _ (List.mem_append_right _ h)))) (by decide +kernel))) (goodIn_sub (fun _ h => List.mem_cons_of_mem _ (List.mem_append_left _ (List.mem_append_right _ h))) (by decide +kernel))) (goodIn_sub (fun _ h => List.mem_cons_of_mem _ (List.mem_append_right _ h)) (by decide +kernel))
set_option maxRecDepth 20000 in
theorem gX12_lose_X12_change : GoodIn wsX12_lose (wsV RX12 79 RX12 yX12_change wsX12_change) := goodIn_app (goodIn_of _ (by decide +kernel)) ggX12_lose_X12_change
theorem dX12_lose_0 : decode cX12_lose 0 = .ok (.aload_n 0, 1) := by decide +kernel
theorem dX12_lose_1 : decode cX12_lose 1 = .ok (.getstatic 89, 3) := by decide +kernel
theorem dX12_lose_4 : decode cX12_lose 4 = .ok (.iload_n 1, 1) := by decide +kernel
theorem dX12_lose_5 : decode cX12_lose 5 = .ok (.iload_n 2, 1) := by decide +kernel
theorem dX12_lose_6 : decode cX12_lose 6 = .ok (.iconst 0, 1) := by decide +kernel
theorem dX12_lose_7 : decode cX12_lose 7 = .ok (.invokevirtual 79, 3) := by decide +kernel
theorem dX12_lose_10 : decode cX12_lose 10 = .ok (.ireturn, 1) := by decide +kernel
set_option maxRecDepth 20000 in
theorem ggX12_spoil_X12_change : GoodIn wsX12_spoil wsX12_change := goodIn_ca (goodIn_ca (goodIn_ca (goodIn_ca (goodIn_ca (goodIn_ca (goodIn_r _ [6, 7, 8, 9, 10, 11, 12, 13, 14, 15, 16, 17, 18, 19, 20, 21, 22, 23, 24, 25, 26, 27, 28, 29, 30, 31, 32, 33, 34, 35, 36, 37, 38, 39, 40, 41, 42, 43, 44, 45, 46, 47, 48, 49, 50, 51, 52, 53, 54, 55, 56, 57, 58, 59, 60, 61, 62, 63, 64, 65, 66, 67, 68, 69, 70, 71, 72, 73, 74, 75, 76, 77, 78, 79, 80, 81, 82, 83, 84, 85, 86, 87, 88, 89, 90, 91, 92, 93, 94, 95, 96, 97, 98, 99, 100, 101, 102, 103, 104, 105, 106, 107, 108, 109, 110, 111, 112, 113, 114, 5, 115, 116, 117, 118, 119, 120, 121, 122, 123, 124, 125, 126, 127, 128, 129, 130, 131, 132, 133, 134, 135, 136, 137, 138, 139, 140, 141, 142, 143, 144, 145, 146, 147, 148, 149, 150, 151, 152, 153, 154, 155, 156, 157, 158, 159, 160, 161, 162, 163, 164, 165, 166, 167, 168, 169, 170, 171, 172, 173, 174, 175, 176, 177, 178, 179, 180, 181, 182, 183, 184, 185, 186, 187, 188, 189, 190, 191, 192, 193, 194, 195, 196, 197, 198, 199, 200, 201, 202, 203, 204, 205, 206, 207, 208, 209, 210, 211, 212, 213, 214, 215, 216, 217, 218, 219, 220, 221, 222, 223, 224, 225, 226, 227, 228, 229, 230, 231, 232, 233, 234, 235, 236, 237, 238, 239, 240, 241, 242, 243, 244, 245, 246, 247, 248, 249, 250, 251, 252, 253, 254, 255, 256, 257, 258, 259, 260, 261, 262, 263, 264, 265, 266, 267, 268, 269, 270, 271, 272, 273, 274, 275, 276, 277, 278, 279, 280, 281, 282, 283, 284] (by decide +kernel) (by decide +kernel)) (goodIn_sub (fun _ h => List.mem_cons_of_mem _ (List.mem_append_left _ (List.mem_append_left _ (List.mem_append_left _ (List.mem_append_left _ (List.mem_append_left _ (List.mem_append_right _ h))))))) (by decide +kernel))) (goodIn_sub (fun _ h => List.mem_cons_of_mem _ (List.mem_append_left _ (List.mem_append_left _ (List.mem_append_left _ (List.mem_append_left _ (List.mem_append_right _ h)))))) (by decide +kernel))) (goodIn_sub (fun _ h => List.mem_cons_of_mem _ (List.mem_append_left _ (List.mem_append_left _ (List.mem_append_left _ (List.mem_append_right _ h))))) (by decide +kernel))) (goodIn_sub (fun _ h => List.mem_cons_of_mem _ (List.mem_append_left _ (List.mem_append_left _ (List.mem_append_right _ h)))) (by decide +kernel))) (goodIn_sub (fun _ h => List.mem_cons_of_mem _ (List.mem_append_left _ (List.mem_append_right _ h))) (by decide +kernel))) (goodIn_sub (fun _ h => List.mem_cons_of_mem _ (List.mem_append_right _ h)) (by decide +kernel))
set_option maxRecDepth 20000 in
theorem gX12_spoil_X12_change : GoodIn wsX12_spoil (wsV RX12 79 RX12 yX12_change wsX12_change) := goodIn_app (goodIn_of _ (by decide +kernel)) ggX12_spoil_X12_change
theorem dX12_spoil_0 : decode cX12_spoil 0 = .ok (.aload_n 0, 1) := by decide +kernel
theorem dX12_spoil_1 : decode cX12_spoil 1 = .ok (.getstatic 92, 3) := by decide +kernel
theorem dX12_spoil_4 : decode cX12_spoil 4 = .ok (.iload_n 1, 1) := by decide +kernel
theorem dX12_spoil_5 : decode cX12_spoil 5 = .ok (.iload_n 2, 1) := by decide +kernel
theorem dX12_spoil_6 : decode cX12_spoil 6 = .ok (.iload_n 3, 1) := by decide +kernel
theorem dX12_spoil_7 : decode cX12_spoil 7 = .ok (.invokevirtual 79, 3) := by decide +kernel
theorem dX12_spoil_10 : decode cX12_spoil 10 = .ok (.ireturn, 1) := by decide +kernel
set_option maxRecDepth 20000 in
theorem ggX12_issue_X12_change : GoodIn wsX12_issue wsX12_change := goodIn_ca (goodIn_ca (goodIn_ca (goodIn_ca (goodIn_ca (goodIn_ca (goodIn_r _ [6, 7, 8, 9, 10, 11, 12, 13, 14, 15, 16, 17, 18, 19, 20, 21, 22, 23, 24, 25, 26, 27, 28, 29, 30, 31, 32, 33, 34, 35, 36, 37, 38, 39, 40, 41, 42, 43, 44, 45, 46, 47, 48, 49, 50, 51, 52, 53, 54, 55, 56, 57, 58, 59, 60, 61, 62, 63, 64, 65, 66, 67, 68, 69, 70, 71, 72, 73, 74, 75, 76, 77, 78, 79, 80, 81, 82, 83, 84, 85, 86, 87, 88, 89, 90, 91, 92, 93, 94, 95, 96, 97, 98, 99, 100, 101, 102, 103, 104, 105, 106, 107, 108, 109, 110, 111, 112, 113, 114, 5, 115, 116, 117, 118, 119, 120, 121, 122, 123, 124, 125, 126, 127, 128, 129, 130, 131, 132, 133, 134, 135, 136, 137, 138, 139, 140, 141, 142, 143, 144, 145, 146, 147, 148, 149, 150, 151, 152, 153, 154, 155, 156, 157, 158, 159, 160, 161, 162, 163, 164, 165, 166, 167, 168, 169, 170, 171, 172, 173, 174, 175, 176, 177, 178, 179, 180, 181, 182, 183, 184, 185, 186, 187, 188, 189, 190, 191, 192, 193, 194, 195, 196, 197, 198, 199, 200, 201, 202, 203, 204, 205, 206, 207, 208, 209, 210, 211, 212, 213, 214, 215, 216, 217, 218, 219, 220, 221, 222, 223, 224, 225, 226, 227, 228, 229, 230, 231, 232, 233, 234, 235, 236, 237, 238, 239, 240, 241, 242, 243, 244, 245, 246, 247, 248, 249, 250, 251, 252, 253, 254, 255, 256, 257, 258, 259, 260, 261, 262, 263, 264, 265, 266, 267, 268, 269, 270, 271, 272, 273, 274, 275, 276, 277, 278, 279, 280, 281, 282, 283, 284] (by decide +kernel) (by decide +kernel)) (goodIn_sub (fun _ h => List.mem_cons_of_mem _ (List.mem_append_left _ (List.mem_append_left _ (List.mem_append_left _ (List.mem_append_left _ (List.mem_append_left _ (List.mem_append_right _ h))))))) (by decide +kernel))) (goodIn_sub (fun _ h => List.mem_cons_of_mem _ (List.mem_append_left _ (List.mem_append_left _ (List.mem_append_left _ (List.mem_append_left _ (List.mem_append_right _ h)))))) (by decide +kernel))) (goodIn_sub (fun _ h => List.mem_cons_of_mem _ (List.mem_append_left _ (List.mem_append_left _ (List.mem_append_left _ (List.mem_append_right _ h))))) (by decide +kernel))) (goodIn_sub (fun _ h => List.mem_cons_of_mem _ (List.mem_append_left _ (List.mem_append_left _ (List.mem_append_right _ h)))) (by decide +kernel))) (goodIn_sub (fun _ h => List.mem_cons_of_mem _ (List.mem_append_left _ (List.mem_append_right _ h))) (by decide +kernel))) (goodIn_sub (fun _ h => List.mem_cons_of_mem _ (List.mem_append_right _ h)) (by decide +kernel))
set_option maxRecDepth 20000 in
theorem gX12_issue_X12_change : GoodIn wsX12_issue (wsV RX12 79 RX12 yX12_change wsX12_change) := goodIn_app (goodIn_of _ (by decide +kernel)) ggX12_issue_X12_change
theorem dX12_issue_0 : decode cX12_issue 0 = .ok (.aload_n 0, 1) := by decide +kernel
theorem dX12_issue_1 : decode cX12_issue 1 = .ok (.getstatic 95, 3) := by decide +kernel
theorem dX12_issue_4 : decode cX12_issue 4 = .ok (.iload_n 1, 1) := by decide +kernel
theorem dX12_issue_5 : decode cX12_issue 5 = .ok (.iload_n 2, 1) := by decide +kernel
theorem dX12_issue_6 : decode cX12_issue 6 = .ok (.iconst 0, 1) := by decide +kernel
theorem dX12_issue_7 : decode cX12_issue 7 = .ok (.invokevirtual 79, 3) := by decide +kernel
theorem dX12_issue_10 : decode cX12_issue 10 = .ok (.ireturn, 1) := by decide +kernel
set_option maxRecDepth 20000 in
theorem ggX12_refresh_X12_change : GoodIn wsX12_refresh wsX12_change := goodIn_ca (goodIn_ca (goodIn_ca (goodIn_ca (goodIn_ca (goodIn_ca (goodIn_r _ [6, 7, 8, 9, 10, 11, 12, 13, 14, 15, 16, 17, 18, 19, 20, 21, 22, 23, 24, 25, 26, 27, 28, 29, 30, 31, 32, 33, 34, 35, 36, 37, 38, 39, 40, 41, 42, 43, 44, 45, 46, 47, 48, 49, 50, 51, 52, 53, 54, 55, 56, 57, 58, 59, 60, 61, 62, 63, 64, 65, 66, 67, 68, 69, 70, 71, 72, 73, 74, 75, 76, 77, 78, 79, 80, 81, 82, 83, 84, 85, 86, 87, 88, 89, 90, 91, 92, 93, 94, 95, 96, 97, 98, 99, 100, 101, 102, 103, 104, 105, 106, 107, 108, 109, 110, 111, 112, 113, 114, 5, 115, 116, 117, 118, 119, 120, 121, 122, 123, 124, 125, 126, 127, 128, 129, 130, 131, 132, 133, 134, 135, 136, 137, 138, 139, 140, 141, 142, 143, 144, 145, 146, 147, 148, 149, 150, 151, 152, 153, 154, 155, 156, 157, 158, 159, 160, 161, 162, 163, 164, 165, 166, 167, 168, 169, 170, 171, 172, 173, 174, 175, 176, 177, 178, 179, 180, 181, 182, 183, 184, 185, 186, 187, 188, 189, 190, 191, 192, 193, 194, 195, 196, 197, 198, 199, 200, 201, 202, 203, 204, 205, 206, 207, 208, 209, 210, 211, 212, 213, 214, 215, 216, 217, 218, 219, 220, 221, 222, 223, 224, 225, 226, 227, 228, 229, 230, 231, 232, 233, 234, 235, 236, 237, 238, 239, 240, 241, 242, 243, 244, 245, 246, 247, 248, 249, 250, 251, 252, 253, 254, 255, 256, 257, 258, 259, 260, 261, 262, 263, 264, 265, 266, 267, 268, 269, 270, 271, 272, 273, 274, 275, 276, 277, 278, 279, 280, 281, 282, 283, 284] (by decide +kernel) (by decide +kernel)) (goodIn_sub (fun _ h => List.mem_cons_of_mem _ (List.mem_append_left _ (List.mem_append_left _ (List.mem_append_left _ (List.mem_append_left _ (List.mem_append_left _ (List.mem_append_right _ h))))))) (by decide +kernel))) (goodIn_sub (fun _ h => List.mem_cons_of_mem _ (List.mem_append_left _ (List.mem_append_left _ (List.mem_append_left _ (List.mem_append_left _ (List.mem_append_right _ h)))))) (by decide +kernel))) (goodIn_sub (fun _ h => List.mem_cons_of_mem _ (List.mem_append_left _ (List.mem_append_left _ (List.mem_append_left _ (List.mem_append_right _ h))))) (by decide +kernel))) (goodIn_sub (fun _ h => List.mem_cons_of_mem _ (List.mem_append_left _ (List.mem_append_left _ (List.mem_append_right _ h)))) (by decide +kernel))) (goodIn_sub (fun _ h => List.mem_cons_of_mem _ (List.mem_append_left _ (List.mem_append_right _ h))) (by decide +kernel))) (goodIn_sub (fun _ h => List.mem_cons_of_mem _ (List.mem_append_right _ h)) (by decide +kernel))
set_option maxRecDepth 20000 in
theorem gX12_refresh_X12_change : GoodIn wsX12_refresh (wsV RX12 79 RX12 yX12_change wsX12_change) := goodIn_app (goodIn_of _ (by decide +kernel)) ggX12_refresh_X12_change
theorem dX12_refresh_0 : decode cX12_refresh 0 = .ok (.aload_n 0, 1) := by decide +kernel
theorem dX12_refresh_1 : decode cX12_refresh 1 = .ok (.getstatic 98, 3) := by decide +kernel
theorem dX12_refresh_4 : decode cX12_refresh 4 = .ok (.iload_n 1, 1) := by decide +kernel
theorem dX12_refresh_5 : decode cX12_refresh 5 = .ok (.iload_n 2, 1) := by decide +kernel
theorem dX12_refresh_6 : decode cX12_refresh 6 = .ok (.iconst 0, 1) := by decide +kernel
theorem dX12_refresh_7 : decode cX12_refresh 7 = .ok (.invokevirtual 79, 3) := by decide +kernel
theorem dX12_refresh_10 : decode cX12_refresh 10 = .ok (.ireturn, 1) := by decide +kernel
set_option maxRecDepth 20000 in
theorem ggX12_forget_X12_change : GoodIn wsX12_forget wsX12_change := goodIn_ca (goodIn_ca (goodIn_ca (goodIn_ca (goodIn_ca (goodIn_ca (goodIn_r _ [6, 7, 8, 9, 10, 11, 12, 13, 14, 15, 16, 17, 18, 19, 20, 21, 22, 23, 24, 25, 26, 27, 28, 29, 30, 31, 32, 33, 34, 35, 36, 37, 38, 39, 40, 41, 42, 43, 44, 45, 46, 47, 48, 49, 50, 51, 52, 53, 54, 55, 56, 57, 58, 59, 60, 61, 62, 63, 64, 65, 66, 67, 68, 69, 70, 71, 72, 73, 74, 75, 76, 77, 78, 79, 80, 81, 82, 83, 84, 85, 86, 87, 88, 89, 90, 91, 92, 93, 94, 95, 96, 97, 98, 99, 100, 101, 102, 103, 104, 105, 106, 107, 108, 109, 110, 111, 112, 113, 114, 5, 115, 116, 117, 118, 119, 120, 121, 122, 123, 124, 125, 126, 127, 128, 129, 130, 131, 132, 133, 134, 135, 136, 137, 138, 139, 140, 141, 142, 143, 144, 145, 146, 147, 148, 149, 150, 151, 152, 153, 154, 155, 156, 157, 158, 159, 160, 161, 162, 163, 164, 165, 166, 167, 168, 169, 170, 171, 172, 173, 174, 175, 176, 177, 178, 179, 180, 181, 182, 183, 184, 185, 186, 187, 188, 189, 190, 191, 192, 193, 194, 195, 196, 197, 198, 199, 200, 201, 202, 203, 204, 205, 206, 207, 208, 209, 210, 211, 212, 213, 214, 215, 216, 217, 218, 219, 220, 221, 222, 223, 224, 225, 226, 227, 228, 229, 230, 231, 232, 233, 234, 235, 236, 237, 238, 239, 240, 241, 242, 243, 244, 245, 246, 247, 248, 249, 250, 251, 252, 253, 254, 255, 256, 257, 258, 259, 260, 261, 262, 263, 264, 265, 266, 267, 268, 269, 270, 271, 272, 273, 274, 275, 276, 277, 278, 279, 280, 281, 282, 283, 284] (by decide +kernel) (by decide +kernel)) (goodIn_sub (fun _ h => List.mem_cons_of_mem _ (List.mem_append_left _ (List.mem_append_left _ (List.mem_append_left _ (List.mem_append_left _ (List.mem_append_left _ (List.mem_append_right _ h))))))) (by decide +kernel))) (goodIn_sub (fun _ h => List.mem_cons_of_mem _ (List.mem_append_left _ (List.mem_append_left _ (List.mem_append_left _ (List.mem_append_left _ (List.mem_append_right _ h)))))) (by decide +kernel))) (goodIn_sub (fun _ h => List.mem_cons_of_mem _ (List.mem_append_left _ (List.mem_append_left _ (List.mem_append_left _ (List.mem_append_right _ h))))) (by decide +kernel))) (goodIn_sub (fun _ h => List.mem_cons_of_mem _ (List.mem_append_left _ (List.mem_append_left _ (List.mem_append_right _ h)))) (by decide +kernel))) (goodIn_sub (fun _ h => List.mem_cons_of_mem _ (List.mem_append_left _ (List.mem_append_right _ h))) (by decide +kernel))) (goodIn_sub (fun _ h => List.mem_cons_of_mem _ (List.mem_append_right _ h)) (by decide +kernel))
set_option maxRecDepth 20000 in
theorem gX12_forget_X12_change : GoodIn wsX12_forget (wsV RX12 79 RX12 yX12_change wsX12_change) := goodIn_app (goodIn_of _ (by decide +kernel)) ggX12_forget_X12_change
theorem dX12_forget_0 : decode cX12_forget 0 = .ok (.aload_n 0, 1) := by decide +kernel
theorem dX12_forget_1 : decode cX12_forget 1 = .ok (.getstatic 101, 3) := by decide +kernel
theorem dX12_forget_4 : decode cX12_forget 4 = .ok (.iload_n 1, 1) := by decide +kernel
theorem dX12_forget_5 : decode cX12_forget 5 = .ok (.iconst 0, 1) := by decide +kernel
theorem dX12_forget_6 : decode cX12_forget 6 = .ok (.iconst 0, 1) := by decide +kernel
theorem dX12_forget_7 : decode cX12_forget 7 = .ok (.invokevirtual 79, 3) := by decide +kernel
theorem dX12_forget_10 : decode cX12_forget 10 = .ok (.ireturn, 1) := by decide +kernel
set_option maxRecDepth 20000 in
theorem ggX12_birdCount_X11_birdTally : GoodIn wsX12_birdCount wsX11_birdTally := goodIn_r _ [6, 7, 19, 20, 21, 22, 23, 24] (by decide +kernel) (by decide +kernel)
set_option maxRecDepth 20000 in
theorem gX12_birdCount_X11_birdTally : GoodIn wsX12_birdCount (wsV RX12 104 RX11 yX11_birdTally wsX11_birdTally) := goodIn_app (goodIn_of _ (by decide +kernel)) ggX12_birdCount_X11_birdTally
theorem dX12_birdCount_0 : decode cX12_birdCount 0 = .ok (.aload_n 0, 1) := by decide +kernel
theorem dX12_birdCount_1 : decode cX12_birdCount 1 = .ok (.getfield 20, 3) := by decide +kernel
theorem dX12_birdCount_4 : decode cX12_birdCount 4 = .ok (.invokevirtual 104, 3) := by decide +kernel
theorem dX12_birdCount_7 : decode cX12_birdCount 7 = .ok (.ireturn, 1) := by decide +kernel
set_option maxRecDepth 20000 in
theorem ggX12_nestOf_X12_requireBird : GoodIn wsX12_nestOf wsX12_requireBird := goodIn_ca (goodIn_r _ [6, 7, 8, 1, 9, 10, 11, 12, 13, 14, 20, 21, 22, 23, 24, 25, 26, 27, 28, 29, 30, 31, 32, 33, 34, 35, 36] (by decide +kernel) (by decide +kernel)) (goodIn_sub (fun _ h => List.mem_cons_of_mem _ (List.mem_append_left _ (List.mem_append_right _ h))) (by decide +kernel))
set_option maxRecDepth 20000 in
theorem gX12_nestOf_X12_requireBird : GoodIn wsX12_nestOf (wsV RX12 108 RX12 yX12_requireBird wsX12_requireBird) := goodIn_app (goodIn_of _ (by decide +kernel)) ggX12_nestOf_X12_requireBird
set_option maxRecDepth 20000 in
theorem ggX12_nestOf_X11_homeOf : GoodIn wsX12_nestOf wsX11_homeOf := goodIn_ca (goodIn_r _ [18, 19, 31, 32, 33, 34, 35, 36] (by decide +kernel) (by decide +kernel)) (goodIn_sub (fun _ h => List.mem_cons_of_mem _ (List.mem_append_right _ h)) (by decide +kernel))
set_option maxRecDepth 20000 in
theorem gX12_nestOf_X11_homeOf : GoodIn wsX12_nestOf (wsV RX12 112 RX11 yX11_homeOf wsX11_homeOf) := goodIn_app (goodIn_of _ (by decide +kernel)) ggX12_nestOf_X11_homeOf
theorem dX12_nestOf_0 : decode cX12_nestOf 0 = .ok (.aload_n 0, 1) := by decide +kernel
theorem dX12_nestOf_1 : decode cX12_nestOf 1 = .ok (.iload_n 1, 1) := by decide +kernel
theorem dX12_nestOf_2 : decode cX12_nestOf 2 = .ok (.invokevirtual 108, 3) := by decide +kernel
theorem dX12_nestOf_5 : decode cX12_nestOf 5 = .ok (.aload_n 0, 1) := by decide +kernel
theorem dX12_nestOf_6 : decode cX12_nestOf 6 = .ok (.getfield 20, 3) := by decide +kernel
theorem dX12_nestOf_9 : decode cX12_nestOf 9 = .ok (.iload_n 1, 1) := by decide +kernel
theorem dX12_nestOf_10 : decode cX12_nestOf 10 = .ok (.invokevirtual 112, 3) := by decide +kernel
theorem dX12_nestOf_13 : decode cX12_nestOf 13 = .ok (.ireturn, 1) := by decide +kernel
set_option maxRecDepth 20000 in
theorem ggX12_birdsIn_X12_requireNest : GoodIn wsX12_birdsIn wsX12_requireNest := goodIn_ca (goodIn_r _ [5, 6, 7, 8, 9, 10, 11] (by decide +kernel) (by decide +kernel)) (goodIn_sub (fun _ h => List.mem_cons_of_mem _ (List.mem_append_left _ (List.mem_append_right _ h))) (by decide +kernel))
set_option maxRecDepth 20000 in
theorem gX12_birdsIn_X12_requireNest : GoodIn wsX12_birdsIn (va_wsS RX12 116 yX12_requireNest wsX12_requireNest) := goodIn_app (goodIn_of _ (by decide +kernel)) ggX12_birdsIn_X12_requireNest
set_option maxRecDepth 20000 in
theorem ggX12_birdsIn_X11_residentsOf : GoodIn wsX12_birdsIn wsX11_residentsOf := goodIn_ca (goodIn_r _ [15, 16, 17, 18, 19, 10, 20, 21, 33, 34, 35, 36, 37, 38] (by decide +kernel) (by decide +kernel)) (goodIn_sub (fun _ h => List.mem_cons_of_mem _ (List.mem_append_right _ h)) (by decide +kernel))
set_option maxRecDepth 20000 in
theorem gX12_birdsIn_X11_residentsOf : GoodIn wsX12_birdsIn (wsV RX12 119 RX11 yX11_residentsOf wsX11_residentsOf) := goodIn_app (goodIn_of _ (by decide +kernel)) ggX12_birdsIn_X11_residentsOf
theorem dX12_birdsIn_0 : decode cX12_birdsIn 0 = .ok (.iload_n 1, 1) := by decide +kernel
theorem dX12_birdsIn_1 : decode cX12_birdsIn 1 = .ok (.invokestatic 116, 3) := by decide +kernel
theorem dX12_birdsIn_4 : decode cX12_birdsIn 4 = .ok (.aload_n 0, 1) := by decide +kernel
theorem dX12_birdsIn_5 : decode cX12_birdsIn 5 = .ok (.getfield 20, 3) := by decide +kernel
theorem dX12_birdsIn_8 : decode cX12_birdsIn 8 = .ok (.iload_n 1, 1) := by decide +kernel
theorem dX12_birdsIn_9 : decode cX12_birdsIn 9 = .ok (.invokevirtual 119, 3) := by decide +kernel
theorem dX12_birdsIn_12 : decode cX12_birdsIn 12 = .ok (.ireturn, 1) := by decide +kernel
set_option maxRecDepth 20000 in
theorem ggX12_sharesOf_X12_requireBird : GoodIn wsX12_sharesOf wsX12_requireBird := goodIn_ca (goodIn_r _ [6, 7, 8, 1, 9, 10, 11, 12, 13, 14, 31, 32, 33, 34, 35, 36, 37, 38, 39, 40, 41, 42, 43, 44, 45, 46, 47] (by decide +kernel) (by decide +kernel)) (goodIn_sub (fun _ h => List.mem_cons_of_mem _ (List.mem_append_left _ (List.mem_append_right _ h))) (by decide +kernel))
set_option maxRecDepth 20000 in
theorem gX12_sharesOf_X12_requireBird : GoodIn wsX12_sharesOf (wsV RX12 108 RX12 yX12_requireBird wsX12_requireBird) := goodIn_app (goodIn_of _ (by decide +kernel)) ggX12_sharesOf_X12_requireBird
set_option maxRecDepth 20000 in
theorem ggX12_sharesOf_X11_loadOf : GoodIn wsX12_sharesOf wsX11_loadOf := goodIn_ca (goodIn_r _ [18, 19, 20, 21, 12, 22, 23, 24, 25, 26, 27, 28, 29, 30, 42, 43, 44, 45, 46, 47, 48, 49, 50] (by decide +kernel) (by decide +kernel)) (goodIn_sub (fun _ h => List.mem_cons_of_mem _ (List.mem_append_right _ h)) (by decide +kernel))
set_option maxRecDepth 20000 in
theorem gX12_sharesOf_X11_loadOf : GoodIn wsX12_sharesOf (wsV RX12 122 RX11 yX11_loadOf wsX11_loadOf) := goodIn_app (goodIn_of _ (by decide +kernel)) ggX12_sharesOf_X11_loadOf
theorem dX12_sharesOf_0 : decode cX12_sharesOf 0 = .ok (.aload_n 0, 1) := by decide +kernel
theorem dX12_sharesOf_1 : decode cX12_sharesOf 1 = .ok (.iload_n 1, 1) := by decide +kernel
theorem dX12_sharesOf_2 : decode cX12_sharesOf 2 = .ok (.invokevirtual 108, 3) := by decide +kernel
theorem dX12_sharesOf_5 : decode cX12_sharesOf 5 = .ok (.aload_n 0, 1) := by decide +kernel
theorem dX12_sharesOf_6 : decode cX12_sharesOf 6 = .ok (.getfield 20, 3) := by decide +kernel
theorem dX12_sharesOf_9 : decode cX12_sharesOf 9 = .ok (.iload_n 1, 1) := by decide +kernel
theorem dX12_sharesOf_10 : decode cX12_sharesOf 10 = .ok (.invokevirtual 122, 3) := by decide +kernel
theorem dX12_sharesOf_13 : decode cX12_sharesOf 13 = .ok (.ireturn, 1) := by decide +kernel
set_option maxRecDepth 20000 in
theorem ggX12_birdAtRank_X11_birdTally : GoodIn wsX12_birdAtRank wsX11_birdTally := goodIn_r _ [8, 9, 54, 55, 56, 57, 58, 59] (by decide +kernel) (by decide +kernel)
set_option maxRecDepth 20000 in
theorem gX12_birdAtRank_X11_birdTally : GoodIn wsX12_birdAtRank (wsV RX12 104 RX11 yX11_birdTally wsX11_birdTally) := goodIn_app (goodIn_of _ (by decide +kernel)) ggX12_birdAtRank_X11_birdTally
set_option maxRecDepth 20000 in
theorem ggX12_birdAtRank_X11_birdRanked : GoodIn wsX12_birdAtRank wsX11_birdRanked := goodIn_ca (goodIn_r _ [13, 9, 14, 15, 16, 7, 17, 18, 19, 20, 21, 22, 23, 24, 25, 26, 27, 28, 29, 30, 31, 32, 33, 34, 35, 36, 37, 38, 39, 40, 41, 42, 54, 55, 56, 57, 58, 59, 60, 61, 62] (by decide +kernel) (by decide +kernel)) (goodIn_sub (fun _ h => List.mem_cons_of_mem _ (List.mem_append_right _ h)) (by decide +kernel))
set_option maxRecDepth 20000 in
theorem gX12_birdAtRank_X11_birdRanked : GoodIn wsX12_birdAtRank (wsV RX12 132 RX11 yX11_birdRanked wsX11_birdRanked) := goodIn_app (goodIn_of _ (by decide +kernel)) ggX12_birdAtRank_X11_birdRanked
theorem dX12_birdAtRank_0 : decode cX12_birdAtRank 0 = .ok (.iload_n 1, 1) := by decide +kernel
theorem dX12_birdAtRank_1 : decode cX12_birdAtRank 1 = .ok (.ifCond .lt 14, 3) := by decide +kernel
theorem dX12_birdAtRank_4 : decode cX12_birdAtRank 4 = .ok (.iload_n 1, 1) := by decide +kernel
theorem dX12_birdAtRank_5 : decode cX12_birdAtRank 5 = .ok (.aload_n 0, 1) := by decide +kernel
theorem dX12_birdAtRank_6 : decode cX12_birdAtRank 6 = .ok (.getfield 20, 3) := by decide +kernel
theorem dX12_birdAtRank_9 : decode cX12_birdAtRank 9 = .ok (.invokevirtual 104, 3) := by decide +kernel
theorem dX12_birdAtRank_12 : decode cX12_birdAtRank 12 = .ok (.if_icmp .lt 13, 3) := by decide +kernel
theorem dX12_birdAtRank_15 : decode cX12_birdAtRank 15 = .ok (.new 125, 3) := by decide +kernel
theorem dX12_birdAtRank_18 : decode cX12_birdAtRank 18 = .ok (.dup, 1) := by decide +kernel
theorem dX12_birdAtRank_19 : decode cX12_birdAtRank 19 = .ok (.ldc 127, 2) := by decide +kernel
theorem dX12_birdAtRank_21 : decode cX12_birdAtRank 21 = .ok (.invokespecial 129, 3) := by decide +kernel
theorem dX12_birdAtRank_24 : decode cX12_birdAtRank 24 = .ok (.athrow, 1) := by decide +kernel
theorem dX12_birdAtRank_25 : decode cX12_birdAtRank 25 = .ok (.aload_n 0, 1) := by decide +kernel
theorem dX12_birdAtRank_26 : decode cX12_birdAtRank 26 = .ok (.getfield 20, 3) := by decide +kernel
theorem dX12_birdAtRank_29 : decode cX12_birdAtRank 29 = .ok (.iload_n 1, 1) := by decide +kernel
theorem dX12_birdAtRank_30 : decode cX12_birdAtRank 30 = .ok (.invokevirtual 132, 3) := by decide +kernel
theorem dX12_birdAtRank_33 : decode cX12_birdAtRank 33 = .ok (.ireturn, 1) := by decide +kernel
set_option maxRecDepth 20000 in
theorem ggX12_secretCount_X11_secretTally : GoodIn wsX12_secretCount wsX11_secretTally := goodIn_r _ [6, 7, 19, 20, 21, 22, 23, 24] (by decide +kernel) (by decide +kernel)
set_option maxRecDepth 20000 in
theorem gX12_secretCount_X11_secretTally : GoodIn wsX12_secretCount (wsV RX12 135 RX11 yX11_secretTally wsX11_secretTally) := goodIn_app (goodIn_of _ (by decide +kernel)) ggX12_secretCount_X11_secretTally
theorem dX12_secretCount_0 : decode cX12_secretCount 0 = .ok (.aload_n 0, 1) := by decide +kernel
theorem dX12_secretCount_1 : decode cX12_secretCount 1 = .ok (.getfield 20, 3) := by decide +kernel
theorem dX12_secretCount_4 : decode cX12_secretCount 4 = .ok (.invokevirtual 135, 3) := by decide +kernel
theorem dX12_secretCount_7 : decode cX12_secretCount 7 = .ok (.ireturn, 1) := by decide +kernel
set_option maxRecDepth 20000 in
theorem ggX12_exists_X11_find : GoodIn wsX12_exists wsX11_find := goodIn_r _ [6, 7, 8, 9, 5, 10, 11, 12, 13, 14, 15, 16, 17, 18, 30, 31, 32, 33, 34, 35, 36, 37, 38] (by decide +kernel) (by decide +kernel)
set_option maxRecDepth 20000 in
theorem gX12_exists_X11_find : GoodIn wsX12_exists (wsV RX12 138 RX11 yX11_find wsX11_find) := goodIn_app (goodIn_of _ (by decide +kernel)) ggX12_exists_X11_find
theorem dX12_exists_0 : decode cX12_exists 0 = .ok (.aload_n 0, 1) := by decide +kernel
theorem dX12_exists_1 : decode cX12_exists 1 = .ok (.getfield 20, 3) := by decide +kernel
theorem dX12_exists_4 : decode cX12_exists 4 = .ok (.iload_n 1, 1) := by decide +kernel
theorem dX12_exists_5 : decode cX12_exists 5 = .ok (.invokevirtual 138, 3) := by decide +kernel
theorem dX12_exists_8 : decode cX12_exists 8 = .ok (.ifnull 7, 3) := by decide +kernel
theorem dX12_exists_11 : decode cX12_exists 11 = .ok (.iconst 1, 1) := by decide +kernel
theorem dX12_exists_12 : decode cX12_exists 12 = .ok (.goto 4, 3) := by decide +kernel
theorem dX12_exists_15 : decode cX12_exists 15 = .ok (.iconst 0, 1) := by decide +kernel
theorem dX12_exists_16 : decode cX12_exists 16 = .ok (.ireturn, 1) := by decide +kernel
set_option maxRecDepth 20000 in
theorem ggX12_secretAt_X11_secretPlaced : GoodIn wsX12_secretAt wsX11_secretPlaced := goodIn_r _ [8, 9, 10, 28, 29, 30, 31, 32, 33] (by decide +kernel) (by decide +kernel)
set_option maxRecDepth 20000 in
theorem gX12_secretAt_X11_secretPlaced : GoodIn wsX12_secretAt (wsV RX12 142 RX11 yX11_secretPlaced wsX11_secretPlaced) := goodIn_app (goodIn_of _ (by decide +kernel)) ggX12_secretAt_X11_secretPlaced
set_option maxRecDepth 20000 in
theorem ggX12_secretAt_X10_ownNumber : GoodIn wsX12_secretAt wsX10_ownNumber := goodIn_r _ [15, 16, 34, 35, 36] (by decide +kernel) (by decide +kernel)
set_option maxRecDepth 20000 in
theorem gX12_secretAt_X10_ownNumber : GoodIn wsX12_secretAt (wsV RX12 150 RX10 yX10_ownNumber wsX10_ownNumber) := goodIn_app (goodIn_of _ (by decide +kernel)) ggX12_secretAt_X10_ownNumber
theorem dX12_secretAt_0 : decode cX12_secretAt 0 = .ok (.aload_n 0, 1) := by decide +kernel
theorem dX12_secretAt_1 : decode cX12_secretAt 1 = .ok (.getfield 20, 3) := by decide +kernel
theorem dX12_secretAt_4 : decode cX12_secretAt 4 = .ok (.iload_n 1, 1) := by decide +kernel
theorem dX12_secretAt_5 : decode cX12_secretAt 5 = .ok (.invokevirtual 142, 3) := by decide +kernel
theorem dX12_secretAt_8 : decode cX12_secretAt 8 = .ok (.astore_n 2, 1) := by decide +kernel
theorem dX12_secretAt_9 : decode cX12_secretAt 9 = .ok (.aload_n 2, 1) := by decide +kernel
theorem dX12_secretAt_10 : decode cX12_secretAt 10 = .ok (.ifnonnull 13, 3) := by decide +kernel
theorem dX12_secretAt_13 : decode cX12_secretAt 13 = .ok (.new 145, 3) := by decide +kernel
theorem dX12_secretAt_16 : decode cX12_secretAt 16 = .ok (.dup, 1) := by decide +kernel
theorem dX12_secretAt_17 : decode cX12_secretAt 17 = .ok (.ldc 147, 2) := by decide +kernel
theorem dX12_secretAt_19 : decode cX12_secretAt 19 = .ok (.invokespecial 149, 3) := by decide +kernel
theorem dX12_secretAt_22 : decode cX12_secretAt 22 = .ok (.athrow, 1) := by decide +kernel
theorem dX12_secretAt_23 : decode cX12_secretAt 23 = .ok (.aload_n 2, 1) := by decide +kernel
theorem dX12_secretAt_24 : decode cX12_secretAt 24 = .ok (.invokevirtual 150, 3) := by decide +kernel
theorem dX12_secretAt_27 : decode cX12_secretAt 27 = .ok (.ireturn, 1) := by decide +kernel
set_option maxRecDepth 20000 in
theorem ggX12_threshold_X12_existing : GoodIn wsX12_threshold wsX12_existing := goodIn_ca (goodIn_r _ [5, 6, 7, 8, 9, 10, 11, 12, 13, 14, 15, 16, 17, 18, 19, 20, 21, 22, 23, 24, 25, 31, 32, 33, 34, 35, 36, 37, 38, 39, 40, 41, 42, 43, 44, 45, 46, 47, 48, 49, 50] (by decide +kernel) (by decide +kernel)) (goodIn_sub (fun _ h => List.mem_cons_of_mem _ (List.mem_append_right _ h)) (by decide +kernel))
set_option maxRecDepth 20000 in
theorem gX12_threshold_X12_existing : GoodIn wsX12_threshold (wsV RX12 155 RX12 yX12_existing wsX12_existing) := goodIn_app (goodIn_of _ (by decide +kernel)) ggX12_threshold_X12_existing
set_option maxRecDepth 20000 in
theorem ggX12_threshold_X10_need : GoodIn wsX12_threshold wsX10_need := goodIn_r _ [29, 30, 48, 49, 50] (by decide +kernel) (by decide +kernel)
set_option maxRecDepth 20000 in
theorem gX12_threshold_X10_need : GoodIn wsX12_threshold (wsV RX12 158 RX10 yX10_need wsX10_need) := goodIn_app (goodIn_of _ (by decide +kernel)) ggX12_threshold_X10_need
theorem dX12_threshold_0 : decode cX12_threshold 0 = .ok (.aload_n 0, 1) := by decide +kernel
theorem dX12_threshold_1 : decode cX12_threshold 1 = .ok (.iload_n 1, 1) := by decide +kernel
theorem dX12_threshold_2 : decode cX12_threshold 2 = .ok (.invokevirtual 155, 3) := by decide +kernel
theorem dX12_threshold_5 : decode cX12_threshold 5 = .ok (.invokevirtual 158, 3) := by decide +kernel
theorem dX12_threshold_8 : decode cX12_threshold 8 = .ok (.ireturn, 1) := by decide +kernel
set_option maxRecDepth 20000 in
theorem ggX12_holds_X12_requireBird : GoodIn wsX12_holds wsX12_requireBird := goodIn_ca (goodIn_r _ [5, 6, 7, 8, 9, 10, 11, 12, 13, 14, 42, 43, 44, 45, 46, 47, 48, 49, 50, 51, 52, 53, 54, 55, 56, 57, 58] (by decide +kernel) (by decide +kernel)) (goodIn_sub (fun _ h => List.mem_cons_of_mem _ (List.mem_append_left _ (List.mem_append_left _ (List.mem_append_right _ h)))) (by decide +kernel))
set_option maxRecDepth 20000 in
theorem gX12_holds_X12_requireBird : GoodIn wsX12_holds (wsV RX12 108 RX12 yX12_requireBird wsX12_requireBird) := goodIn_app (goodIn_of _ (by decide +kernel)) ggX12_holds_X12_requireBird
set_option maxRecDepth 20000 in
theorem ggX12_holds_X12_existing : GoodIn wsX12_holds wsX12_existing := goodIn_ca (goodIn_r _ [18, 19, 20, 8, 21, 22, 23, 12, 24, 25, 26, 27, 28, 29, 30, 31, 32, 33, 34, 35, 36, 42, 43, 44, 45, 46, 47, 48, 49, 50, 51, 52, 53, 54, 55, 56, 57, 58, 59, 60, 61] (by decide +kernel) (by decide +kernel)) (goodIn_sub (fun _ h => List.mem_cons_of_mem _ (List.mem_append_left _ (List.mem_append_right _ h))) (by decide +kernel))
set_option maxRecDepth 20000 in
theorem gX12_holds_X12_existing : GoodIn wsX12_holds (wsV RX12 155 RX12 yX12_existing wsX12_existing) := goodIn_app (goodIn_of _ (by decide +kernel)) ggX12_holds_X12_existing
set_option maxRecDepth 20000 in
theorem ggX12_holds_X10_isHeldBy : GoodIn wsX12_holds wsX10_isHeldBy := goodIn_ca (goodIn_r _ [40, 41, 59, 60, 61] (by decide +kernel) (by decide +kernel)) (goodIn_sub (fun _ h => List.mem_cons_of_mem _ (List.mem_append_right _ h)) (by decide +kernel))
set_option maxRecDepth 20000 in
theorem gX12_holds_X10_isHeldBy : GoodIn wsX12_holds (wsV RX12 161 RX10 yX10_isHeldBy wsX10_isHeldBy) := goodIn_app (goodIn_of _ (by decide +kernel)) ggX12_holds_X10_isHeldBy
theorem dX12_holds_0 : decode cX12_holds 0 = .ok (.aload_n 0, 1) := by decide +kernel
theorem dX12_holds_1 : decode cX12_holds 1 = .ok (.iload_n 1, 1) := by decide +kernel
theorem dX12_holds_2 : decode cX12_holds 2 = .ok (.invokevirtual 108, 3) := by decide +kernel
theorem dX12_holds_5 : decode cX12_holds 5 = .ok (.aload_n 0, 1) := by decide +kernel
theorem dX12_holds_6 : decode cX12_holds 6 = .ok (.iload_n 2, 1) := by decide +kernel
theorem dX12_holds_7 : decode cX12_holds 7 = .ok (.invokevirtual 155, 3) := by decide +kernel
theorem dX12_holds_10 : decode cX12_holds 10 = .ok (.iload_n 1, 1) := by decide +kernel
theorem dX12_holds_11 : decode cX12_holds 11 = .ok (.invokevirtual 161, 3) := by decide +kernel
theorem dX12_holds_14 : decode cX12_holds 14 = .ok (.ireturn, 1) := by decide +kernel
set_option maxRecDepth 20000 in
theorem ggX12_share_X12_requireBird : GoodIn wsX12_share wsX12_requireBird := goodIn_ca (goodIn_r _ [7, 8, 9, 10, 11, 12, 13, 14, 15, 16, 48, 49, 50, 51, 52, 53, 54, 55, 56, 57, 58, 59, 60, 61, 62, 63, 64] (by decide +kernel) (by decide +kernel)) (goodIn_sub (fun _ h => List.mem_cons_of_mem _ (List.mem_append_left _ (List.mem_append_left _ (List.mem_append_right _ h)))) (by decide +kernel))
set_option maxRecDepth 20000 in
theorem gX12_share_X12_requireBird : GoodIn wsX12_share (wsV RX12 108 RX12 yX12_requireBird wsX12_requireBird) := goodIn_app (goodIn_of _ (by decide +kernel)) ggX12_share_X12_requireBird
set_option maxRecDepth 20000 in
theorem ggX12_share_X12_existing : GoodIn wsX12_share wsX12_existing := goodIn_ca (goodIn_r _ [20, 21, 22, 10, 23, 24, 25, 14, 26, 27, 28, 29, 30, 31, 32, 33, 34, 35, 36, 37, 38, 48, 49, 50, 51, 52, 53, 54, 55, 56, 57, 58, 59, 60, 61, 62, 63, 64, 65, 66, 67] (by decide +kernel) (by decide +kernel)) (goodIn_sub (fun _ h => List.mem_cons_of_mem _ (List.mem_append_left _ (List.mem_append_right _ h))) (by decide +kernel))
set_option maxRecDepth 20000 in
theorem gX12_share_X12_existing : GoodIn wsX12_share (wsV RX12 155 RX12 yX12_existing wsX12_existing) := goodIn_app (goodIn_of _ (by decide +kernel)) ggX12_share_X12_existing
set_option maxRecDepth 20000 in
theorem ggX12_share_X10_isHeldBy : GoodIn wsX12_share wsX10_isHeldBy := goodIn_ca (goodIn_r _ [42, 43, 65, 66, 67] (by decide +kernel) (by decide +kernel)) (goodIn_sub (fun _ h => List.mem_cons_of_mem _ (List.mem_append_right _ h)) (by decide +kernel))
set_option maxRecDepth 20000 in
theorem gX12_share_X10_isHeldBy : GoodIn wsX12_share (wsV RX12 161 RX10 yX10_isHeldBy wsX10_isHeldBy) := goodIn_app (goodIn_of _ (by decide +kernel)) ggX12_share_X10_isHeldBy
set_option maxRecDepth 20000 in
theorem ggX12_share_X10_shareWith : GoodIn wsX12_share wsX10_shareWith := goodIn_ca (goodIn_r _ [47, 43, 65, 66, 67] (by decide +kernel) (by decide +kernel)) (goodIn_sub (fun _ h => List.mem_cons_of_mem _ (List.mem_append_right _ h)) (by decide +kernel))
set_option maxRecDepth 20000 in
theorem gX12_share_X10_shareWith : GoodIn wsX12_share (wsV RX12 170 RX10 yX10_shareWith wsX10_shareWith) := goodIn_app (goodIn_of _ (by decide +kernel)) ggX12_share_X10_shareWith
theorem dX12_share_0 : decode cX12_share 0 = .ok (.aload_n 0, 1) := by decide +kernel
theorem dX12_share_1 : decode cX12_share 1 = .ok (.iload_n 1, 1) := by decide +kernel
theorem dX12_share_2 : decode cX12_share 2 = .ok (.invokevirtual 108, 3) := by decide +kernel
theorem dX12_share_5 : decode cX12_share 5 = .ok (.aload_n 0, 1) := by decide +kernel
theorem dX12_share_6 : decode cX12_share 6 = .ok (.iload_n 2, 1) := by decide +kernel
theorem dX12_share_7 : decode cX12_share 7 = .ok (.invokevirtual 155, 3) := by decide +kernel
theorem dX12_share_10 : decode cX12_share 10 = .ok (.astore_n 3, 1) := by decide +kernel
theorem dX12_share_11 : decode cX12_share 11 = .ok (.aload_n 3, 1) := by decide +kernel
theorem dX12_share_12 : decode cX12_share 12 = .ok (.iload_n 1, 1) := by decide +kernel
theorem dX12_share_13 : decode cX12_share 13 = .ok (.invokevirtual 161, 3) := by decide +kernel
theorem dX12_share_16 : decode cX12_share 16 = .ok (.ifCond .ne 13, 3) := by decide +kernel
theorem dX12_share_19 : decode cX12_share 19 = .ok (.new 165, 3) := by decide +kernel
theorem dX12_share_22 : decode cX12_share 22 = .ok (.dup, 1) := by decide +kernel
theorem dX12_share_23 : decode cX12_share 23 = .ok (.ldc 167, 2) := by decide +kernel
theorem dX12_share_25 : decode cX12_share 25 = .ok (.invokespecial 169, 3) := by decide +kernel
theorem dX12_share_28 : decode cX12_share 28 = .ok (.athrow, 1) := by decide +kernel
theorem dX12_share_29 : decode cX12_share 29 = .ok (.aload_n 3, 1) := by decide +kernel
theorem dX12_share_30 : decode cX12_share 30 = .ok (.iload_n 1, 1) := by decide +kernel
theorem dX12_share_31 : decode cX12_share 31 = .ok (.invokevirtual 170, 3) := by decide +kernel
theorem dX12_share_34 : decode cX12_share 34 = .ok (.ireturn, 1) := by decide +kernel
set_option maxRecDepth 20000 in
theorem ggX12_holders_X12_existing : GoodIn wsX12_holders wsX12_existing := goodIn_ca (goodIn_r _ [5, 6, 7, 8, 9, 10, 11, 12, 13, 14, 15, 16, 17, 18, 19, 20, 21, 22, 23, 24, 25, 42, 43, 44, 45, 46, 47, 48, 49, 50, 51, 52, 53, 54, 55, 56, 57, 58, 59, 60, 61] (by decide +kernel) (by decide +kernel)) (goodIn_sub (fun _ h => List.mem_cons_of_mem _ (List.mem_append_left _ (List.mem_append_right _ h))) (by decide +kernel))
set_option maxRecDepth 20000 in
theorem gX12_holders_X12_existing : GoodIn wsX12_holders (wsV RX12 155 RX12 yX12_existing wsX12_existing) := goodIn_app (goodIn_of _ (by decide +kernel)) ggX12_holders_X12_existing
set_option maxRecDepth 20000 in
theorem ggX12_holders_X10_holderTally : GoodIn wsX12_holders wsX10_holderTally := goodIn_ca (goodIn_r _ [29, 30, 31, 32, 23, 33, 34, 35, 36, 37, 38, 39, 40, 41, 59, 60, 61] (by decide +kernel) (by decide +kernel)) (goodIn_sub (fun _ h => List.mem_cons_of_mem _ (List.mem_append_right _ h)) (by decide +kernel))
set_option maxRecDepth 20000 in
theorem gX12_holders_X10_holderTally : GoodIn wsX12_holders (wsV RX12 173 RX10 yX10_holderTally wsX10_holderTally) := goodIn_app (goodIn_of _ (by decide +kernel)) ggX12_holders_X10_holderTally
theorem dX12_holders_0 : decode cX12_holders 0 = .ok (.aload_n 0, 1) := by decide +kernel
theorem dX12_holders_1 : decode cX12_holders 1 = .ok (.iload_n 1, 1) := by decide +kernel
theorem dX12_holders_2 : decode cX12_holders 2 = .ok (.invokevirtual 155, 3) := by decide +kernel
theorem dX12_holders_5 : decode cX12_holders 5 = .ok (.invokevirtual 173, 3) := by decide +kernel
theorem dX12_holders_8 : decode cX12_holders 8 = .ok (.ireturn, 1) := by decide +kernel
set_option maxRecDepth 20000 in
theorem ggX12_spareShares_X12_existing : GoodIn wsX12_spareShares wsX12_existing := goodIn_ca (goodIn_r _ [5, 6, 7, 8, 9, 10, 11, 12, 13, 14, 15, 16, 17, 18, 19, 20, 21, 22, 23, 24, 25, 47, 48, 49, 50, 51, 52, 53, 54, 55, 56, 57, 58, 59, 60, 61, 62, 63, 64, 65, 66] (by decide +kernel) (by decide +kernel)) (goodIn_sub (fun _ h => List.mem_cons_of_mem _ (List.mem_append_left _ (List.mem_append_right _ h))) (by decide +kernel))
set_option maxRecDepth 20000 in
theorem gX12_spareShares_X12_existing : GoodIn wsX12_spareShares (wsV RX12 155 RX12 yX12_existing wsX12_existing) := goodIn_app (goodIn_of _ (by decide +kernel)) ggX12_spareShares_X12_existing
set_option maxRecDepth 20000 in
theorem ggX12_spareShares_X10_holderTally : GoodIn wsX12_spareShares wsX10_holderTally := goodIn_ca (goodIn_r _ [29, 30, 31, 32, 23, 33, 34, 35, 36, 37, 38, 39, 40, 41, 64, 65, 66] (by decide +kernel) (by decide +kernel)) (goodIn_sub (fun _ h => List.mem_cons_of_mem _ (List.mem_append_right _ h)) (by decide +kernel))
set_option maxRecDepth 20000 in
theorem gX12_spareShares_X10_holderTally : GoodIn wsX12_spareShares (wsV RX12 173 RX10 yX10_holderTally wsX10_holderTally) := goodIn_app (goodIn_of _ (by decide +kernel)) ggX12_spareShares_X10_holderTally
set_option maxRecDepth 20000 in
theorem ggX12_spareShares_X10_need : GoodIn wsX12_spareShares wsX10_need := goodIn_r _ [45, 46, 64, 65, 66] (by decide +kernel) (by decide +kernel)
set_option maxRecDepth 20000 in
theorem gX12_spareShares_X10_need : GoodIn wsX12_spareShares (wsV RX12 158 RX10 yX10_need wsX10_need) := goodIn_app (goodIn_of _ (by decide +kernel)) ggX12_spareShares_X10_need
theorem dX12_spareShares_0 : decode cX12_spareShares 0 = .ok (.aload_n 0, 1) := by decide +kernel
theorem dX12_spareShares_1 : decode cX12_spareShares 1 = .ok (.iload_n 1, 1) := by decide +kernel
theorem dX12_spareShares_2 : decode cX12_spareShares 2 = .ok (.invokevirtual 155, 3) := by decide +kernel
theorem dX12_spareShares_5 : decode cX12_spareShares 5 = .ok (.astore_n 2, 1) := by decide +kernel
theorem dX12_spareShares_6 : decode cX12_spareShares 6 = .ok (.aload_n 2, 1) := by decide +kernel
theorem dX12_spareShares_7 : decode cX12_spareShares 7 = .ok (.invokevirtual 173, 3) := by decide +kernel
theorem dX12_spareShares_10 : decode cX12_spareShares 10 = .ok (.aload_n 2, 1) := by decide +kernel
theorem dX12_spareShares_11 : decode cX12_spareShares 11 = .ok (.invokevirtual 158, 3) := by decide +kernel
theorem dX12_spareShares_14 : decode cX12_spareShares 14 = .ok (.isub, 1) := by decide +kernel
theorem dX12_spareShares_15 : decode cX12_spareShares 15 = .ok (.ireturn, 1) := by decide +kernel
set_option maxRecDepth 20000 in
theorem ggX12_canNestRebuild_X12_requireNest : GoodIn wsX12_canNestRebuild wsX12_requireNest := goodIn_ca (goodIn_r _ [5, 6, 7, 8, 9, 10, 11] (by decide +kernel) (by decide +kernel)) (goodIn_sub (fun _ h => List.mem_cons_of_mem _ (List.mem_append_left _ (List.mem_append_left _ (List.mem_append_right _ h)))) (by decide +kernel))
set_option maxRecDepth 20000 in
theorem gX12_canNestRebuild_X12_requireNest : GoodIn wsX12_canNestRebuild (va_wsS RX12 116 yX12_requireNest wsX12_requireNest) := goodIn_app (goodIn_of _ (by decide +kernel)) ggX12_canNestRebuild_X12_requireNest
set_option maxRecDepth 20000 in
theorem ggX12_canNestRebuild_X12_existing : GoodIn wsX12_canNestRebuild wsX12_existing := goodIn_ca (goodIn_r _ [15, 16, 17, 1, 18, 19, 20, 10, 21, 22, 23, 24, 25, 26, 27, 28, 29, 30, 31, 32, 33, 54, 55, 56, 57, 58, 59, 60, 61, 62, 63, 64, 65, 66, 67, 68, 69, 70, 71, 72, 73] (by decide +kernel) (by decide +kernel)) (goodIn_sub (fun _ h => List.mem_cons_of_mem _ (List.mem_append_left _ (List.mem_append_right _ h))) (by decide +kernel))
set_option maxRecDepth 20000 in
theorem gX12_canNestRebuild_X12_existing : GoodIn wsX12_canNestRebuild (wsV RX12 155 RX12 yX12_existing wsX12_existing) := goodIn_app (goodIn_of _ (by decide +kernel)) ggX12_canNestRebuild_X12_existing
set_option maxRecDepth 20000 in
theorem ggX12_canNestRebuild_X11_holdersIn : GoodIn wsX12_canNestRebuild wsX11_holdersIn := goodIn_ca (goodIn_r _ [37, 38, 39, 40, 41, 10, 42, 43, 44, 45, 46, 31, 47, 48, 65, 66, 67, 68, 69, 70, 71, 72, 73] (by decide +kernel) (by decide +kernel)) (goodIn_sub (fun _ h => List.mem_cons_of_mem _ (List.mem_append_right _ h)) (by decide +kernel))
set_option maxRecDepth 20000 in
theorem gX12_canNestRebuild_X11_holdersIn : GoodIn wsX12_canNestRebuild (wsV RX12 176 RX11 yX11_holdersIn wsX11_holdersIn) := goodIn_app (goodIn_of _ (by decide +kernel)) ggX12_canNestRebuild_X11_holdersIn
set_option maxRecDepth 20000 in
theorem ggX12_canNestRebuild_X10_need : GoodIn wsX12_canNestRebuild wsX10_need := goodIn_r _ [52, 53, 71, 72, 73] (by decide +kernel) (by decide +kernel)
set_option maxRecDepth 20000 in
theorem gX12_canNestRebuild_X10_need : GoodIn wsX12_canNestRebuild (wsV RX12 158 RX10 yX10_need wsX10_need) := goodIn_app (goodIn_of _ (by decide +kernel)) ggX12_canNestRebuild_X10_need
theorem dX12_canNestRebuild_0 : decode cX12_canNestRebuild 0 = .ok (.iload_n 1, 1) := by decide +kernel
theorem dX12_canNestRebuild_1 : decode cX12_canNestRebuild 1 = .ok (.invokestatic 116, 3) := by decide +kernel
theorem dX12_canNestRebuild_4 : decode cX12_canNestRebuild 4 = .ok (.aload_n 0, 1) := by decide +kernel
theorem dX12_canNestRebuild_5 : decode cX12_canNestRebuild 5 = .ok (.iload_n 2, 1) := by decide +kernel
theorem dX12_canNestRebuild_6 : decode cX12_canNestRebuild 6 = .ok (.invokevirtual 155, 3) := by decide +kernel
theorem dX12_canNestRebuild_9 : decode cX12_canNestRebuild 9 = .ok (.astore_n 3, 1) := by decide +kernel
theorem dX12_canNestRebuild_10 : decode cX12_canNestRebuild 10 = .ok (.aload_n 0, 1) := by decide +kernel
theorem dX12_canNestRebuild_11 : decode cX12_canNestRebuild 11 = .ok (.getfield 20, 3) := by decide +kernel
theorem dX12_canNestRebuild_14 : decode cX12_canNestRebuild 14 = .ok (.iload_n 1, 1) := by decide +kernel
theorem dX12_canNestRebuild_15 : decode cX12_canNestRebuild 15 = .ok (.aload_n 3, 1) := by decide +kernel
theorem dX12_canNestRebuild_16 : decode cX12_canNestRebuild 16 = .ok (.invokevirtual 176, 3) := by decide +kernel
theorem dX12_canNestRebuild_19 : decode cX12_canNestRebuild 19 = .ok (.aload_n 3, 1) := by decide +kernel
theorem dX12_canNestRebuild_20 : decode cX12_canNestRebuild 20 = .ok (.invokevirtual 158, 3) := by decide +kernel
theorem dX12_canNestRebuild_23 : decode cX12_canNestRebuild 23 = .ok (.if_icmp .lt 7, 3) := by decide +kernel
theorem dX12_canNestRebuild_26 : decode cX12_canNestRebuild 26 = .ok (.iconst 1, 1) := by decide +kernel
theorem dX12_canNestRebuild_27 : decode cX12_canNestRebuild 27 = .ok (.goto 4, 3) := by decide +kernel
theorem dX12_canNestRebuild_30 : decode cX12_canNestRebuild 30 = .ok (.iconst 0, 1) := by decide +kernel
theorem dX12_canNestRebuild_31 : decode cX12_canNestRebuild 31 = .ok (.ireturn, 1) := by decide +kernel
set_option maxRecDepth 20000 in
theorem ggX12_rebuild_X12_rebuildable : GoodIn wsX12_rebuild wsX12_rebuildable := goodIn_ca (goodIn_ca (goodIn_ca (goodIn_r _ [6, 7, 8, 9, 10, 11, 5, 12, 13, 14, 15, 16, 17, 18, 19, 20, 21, 22, 23, 24, 25, 26, 27, 28, 29, 30, 31, 32, 33, 34, 35, 36, 37, 38, 39, 40, 41, 42, 43, 44, 45, 46, 47, 48, 49, 50, 51, 52, 53, 88, 89, 90, 91, 92, 93, 94, 95, 96, 97, 98, 99, 100, 101, 102, 103, 104, 105, 106, 107] (by decide +kernel) (by decide +kernel)) (goodIn_sub (fun _ h => List.mem_cons_of_mem _ (List.mem_append_left _ (List.mem_append_left _ (List.mem_append_right _ h)))) (by decide +kernel))) (goodIn_sub (fun _ h => List.mem_cons_of_mem _ (List.mem_append_left _ (List.mem_append_right _ h))) (by decide +kernel))) (goodIn_sub (fun _ h => List.mem_cons_of_mem _ (List.mem_append_right _ h)) (by decide +kernel))
set_option maxRecDepth 20000 in
theorem gX12_rebuild_X12_rebuildable : GoodIn wsX12_rebuild (wsV RX12 180 RX12 yX12_rebuildable wsX12_rebuildable) := goodIn_app (goodIn_of _ (by decide +kernel)) ggX12_rebuild_X12_rebuildable
set_option maxRecDepth 20000 in
theorem ggX12_rebuild_X8_valueAt : GoodIn wsX12_rebuild wsX8_valueAt := goodIn_ca (goodIn_r _ [58, 59, 60, 61, 62, 30, 63, 37, 64, 43, 44, 45, 46, 65, 66, 67, 68, 69, 70, 71, 72, 73, 74, 75, 76, 77, 78, 79, 80, 81, 82, 83, 84, 85, 86, 87, 108, 109, 105, 106, 107, 110, 111, 112] (by decide +kernel) (by decide +kernel)) (goodIn_sub (fun _ h => List.mem_cons_of_mem _ (List.mem_append_right _ h)) (by decide +kernel))
set_option maxRecDepth 20000 in
theorem gX12_rebuild_X8_valueAt : GoodIn wsX12_rebuild (wsV RX12 183 RX8 yX8_valueAt wsX8_valueAt) := goodIn_app (goodIn_of _ (by decide +kernel)) ggX12_rebuild_X8_valueAt
theorem dX12_rebuild_0 : decode cX12_rebuild 0 = .ok (.aload_n 0, 1) := by decide +kernel
theorem dX12_rebuild_1 : decode cX12_rebuild 1 = .ok (.getfield 28, 3) := by decide +kernel
theorem dX12_rebuild_4 : decode cX12_rebuild 4 = .ok (.aload_n 0, 1) := by decide +kernel
theorem dX12_rebuild_5 : decode cX12_rebuild 5 = .ok (.iload_n 1, 1) := by decide +kernel
theorem dX12_rebuild_6 : decode cX12_rebuild 6 = .ok (.invokevirtual 180, 3) := by decide +kernel
theorem dX12_rebuild_9 : decode cX12_rebuild 9 = .ok (.iconst 0, 1) := by decide +kernel
theorem dX12_rebuild_10 : decode cX12_rebuild 10 = .ok (.invokevirtual 183, 3) := by decide +kernel
theorem dX12_rebuild_13 : decode cX12_rebuild 13 = .ok (.ireturn, 1) := by decide +kernel
set_option maxRecDepth 20000 in
theorem ggX12_rebuildByElimination_X12_rebuildable : GoodIn wsX12_rebuildByElimination wsX12_rebuildable := goodIn_ca (goodIn_ca (goodIn_ca (goodIn_r _ [6, 7, 8, 9, 10, 11, 5, 12, 13, 14, 15, 16, 17, 18, 19, 20, 21, 22, 23, 24, 25, 26, 27, 28, 29, 30, 31, 32, 33, 34, 35, 36, 37, 38, 39, 40, 41, 42, 43, 44, 45, 46, 47, 48, 49, 50, 51, 52, 53, 113, 114, 115, 116, 117, 118, 119, 120, 121, 122, 123, 124, 125, 126, 127, 128, 129, 130, 131, 132] (by decide +kernel) (by decide +kernel)) (goodIn_sub (fun _ h => List.mem_cons_of_mem _ (List.mem_append_left _ (List.mem_append_left _ (List.mem_append_right _ h)))) (by decide +kernel))) (goodIn_sub (fun _ h => List.mem_cons_of_mem _ (List.mem_append_left _ (List.mem_append_right _ h))) (by decide +kernel))) (goodIn_sub (fun _ h => List.mem_cons_of_mem _ (List.mem_append_right _ h)) (by decide +kernel))
set_option maxRecDepth 20000 in
theorem gX12_rebuildByElimination_X12_rebuildable : GoodIn wsX12_rebuildByElimination (wsV RX12 180 RX12 yX12_rebuildable wsX12_rebuildable) := goodIn_app (goodIn_of _ (by decide +kernel)) ggX12_rebuildByElimination_X12_rebuildable
set_option maxRecDepth 20000 in
theorem ggX12_rebuildByElimination_X8_valueByElimination : GoodIn wsX12_rebuildByElimination wsX8_valueByElimination := goodIn_ca (goodIn_r _ [58, 59, 60, 61, 62, 30, 63, 37, 64, 65, 66, 67, 68, 69, 70, 71, 72, 73, 74, 75, 76, 77, 78, 43, 44, 45, 46, 79, 80, 81, 57, 82, 83, 84, 85, 86, 87, 88, 89, 90, 91, 92, 93, 94, 95, 96, 97, 98, 99, 100, 101, 102, 103, 104, 105, 106, 107, 108, 109, 110, 111, 112, 133, 134, 130, 131, 132, 135, 136, 137, 138, 139] (by decide +kernel) (by decide +kernel)) (goodIn_sub (fun _ h => List.mem_cons_of_mem _ (List.mem_append_right _ h)) (by decide +kernel))
set_option maxRecDepth 20000 in
theorem gX12_rebuildByElimination_X8_valueByElimination : GoodIn wsX12_rebuildByElimination (wsV RX12 189 RX8 yX8_valueByElimination wsX8_valueByElimination) := goodIn_app (goodIn_of _ (by decide +kernel)) ggX12_rebuildByElimination_X8_valueByElimination
theorem dX12_rebuildByElimination_0 : decode cX12_rebuildByElimination 0 = .ok (.aload_n 0, 1) := by decide +kernel
theorem dX12_rebuildByElimination_1 : decode cX12_rebuildByElimination 1 = .ok (.getfield 28, 3) := by decide +kernel
theorem dX12_rebuildByElimination_4 : decode cX12_rebuildByElimination 4 = .ok (.aload_n 0, 1) := by decide +kernel
theorem dX12_rebuildByElimination_5 : decode cX12_rebuildByElimination 5 = .ok (.iload_n 1, 1) := by decide +kernel
theorem dX12_rebuildByElimination_6 : decode cX12_rebuildByElimination 6 = .ok (.invokevirtual 180, 3) := by decide +kernel
theorem dX12_rebuildByElimination_9 : decode cX12_rebuildByElimination 9 = .ok (.invokevirtual 189, 3) := by decide +kernel
theorem dX12_rebuildByElimination_12 : decode cX12_rebuildByElimination 12 = .ok (.ireturn, 1) := by decide +kernel
set_option maxRecDepth 20000 in
theorem ggX12_unfitShares_X12_rebuildable : GoodIn wsX12_unfitShares wsX12_rebuildable := goodIn_ca (goodIn_ca (goodIn_ca (goodIn_r _ [6, 7, 8, 9, 10, 11, 5, 12, 13, 14, 15, 16, 17, 18, 19, 20, 21, 22, 23, 24, 25, 26, 27, 28, 29, 30, 31, 32, 33, 34, 35, 36, 37, 38, 39, 40, 41, 42, 43, 44, 45, 46, 47, 48, 49, 50, 51, 52, 53, 93, 94, 95, 96, 97, 98, 99, 100, 101, 102, 103, 104, 105, 106, 107, 108, 109, 110, 111, 112] (by decide +kernel) (by decide +kernel)) (goodIn_sub (fun _ h => List.mem_cons_of_mem _ (List.mem_append_left _ (List.mem_append_left _ (List.mem_append_right _ h)))) (by decide +kernel))) (goodIn_sub (fun _ h => List.mem_cons_of_mem _ (List.mem_append_left _ (List.mem_append_right _ h))) (by decide +kernel))) (goodIn_sub (fun _ h => List.mem_cons_of_mem _ (List.mem_append_right _ h)) (by decide +kernel))
set_option maxRecDepth 20000 in
theorem gX12_unfitShares_X12_rebuildable : GoodIn wsX12_unfitShares (wsV RX12 180 RX12 yX12_rebuildable wsX12_rebuildable) := goodIn_app (goodIn_of _ (by decide +kernel)) ggX12_unfitShares_X12_rebuildable
set_option maxRecDepth 20000 in
theorem ggX12_unfitShares_X8_unfitWithLeading : GoodIn wsX12_unfitShares wsX8_unfitWithLeading := goodIn_ca (goodIn_r _ [58, 59, 60, 61, 30, 62, 37, 63, 43, 44, 45, 46, 64, 65, 66, 57, 67, 68, 69, 70, 71, 72, 73, 74, 75, 76, 77, 78, 79, 80, 81, 82, 83, 84, 85, 86, 87, 88, 89, 90, 91, 92, 110, 111, 112, 113, 114, 115, 116, 117] (by decide +kernel) (by decide +kernel)) (goodIn_sub (fun _ h => List.mem_cons_of_mem _ (List.mem_append_right _ h)) (by decide +kernel))
set_option maxRecDepth 20000 in
theorem gX12_unfitShares_X8_unfitWithLeading : GoodIn wsX12_unfitShares (wsV RX12 193 RX8 yX8_unfitWithLeading wsX8_unfitWithLeading) := goodIn_app (goodIn_of _ (by decide +kernel)) ggX12_unfitShares_X8_unfitWithLeading
theorem dX12_unfitShares_0 : decode cX12_unfitShares 0 = .ok (.aload_n 0, 1) := by decide +kernel
theorem dX12_unfitShares_1 : decode cX12_unfitShares 1 = .ok (.getfield 28, 3) := by decide +kernel
theorem dX12_unfitShares_4 : decode cX12_unfitShares 4 = .ok (.aload_n 0, 1) := by decide +kernel
theorem dX12_unfitShares_5 : decode cX12_unfitShares 5 = .ok (.iload_n 1, 1) := by decide +kernel
theorem dX12_unfitShares_6 : decode cX12_unfitShares 6 = .ok (.invokevirtual 180, 3) := by decide +kernel
theorem dX12_unfitShares_9 : decode cX12_unfitShares 9 = .ok (.invokevirtual 193, 3) := by decide +kernel
theorem dX12_unfitShares_12 : decode cX12_unfitShares 12 = .ok (.ireturn, 1) := by decide +kernel
set_option maxRecDepth 20000 in
theorem ggX12_leastUnfitShares_X12_rebuildable : GoodIn wsX12_leastUnfitShares wsX12_rebuildable := goodIn_ca (goodIn_ca (goodIn_ca (goodIn_r _ [6, 7, 8, 9, 10, 11, 5, 12, 13, 14, 15, 16, 17, 18, 19, 20, 21, 22, 23, 24, 25, 26, 27, 28, 29, 30, 31, 32, 33, 34, 35, 36, 37, 38, 39, 40, 41, 42, 43, 44, 45, 46, 47, 48, 49, 50, 51, 52, 53, 98, 99, 100, 101, 102, 103, 104, 105, 106, 107, 108, 109, 110, 111, 112, 113, 114, 115, 116, 117] (by decide +kernel) (by decide +kernel)) (goodIn_sub (fun _ h => List.mem_cons_of_mem _ (List.mem_append_left _ (List.mem_append_left _ (List.mem_append_right _ h)))) (by decide +kernel))) (goodIn_sub (fun _ h => List.mem_cons_of_mem _ (List.mem_append_left _ (List.mem_append_right _ h))) (by decide +kernel))) (goodIn_sub (fun _ h => List.mem_cons_of_mem _ (List.mem_append_right _ h)) (by decide +kernel))
set_option maxRecDepth 20000 in
theorem gX12_leastUnfitShares_X12_rebuildable : GoodIn wsX12_leastUnfitShares (wsV RX12 180 RX12 yX12_rebuildable wsX12_rebuildable) := goodIn_app (goodIn_of _ (by decide +kernel)) ggX12_leastUnfitShares_X12_rebuildable
set_option maxRecDepth 20000 in
theorem ggX12_leastUnfitShares_X8_leastUnfit : GoodIn wsX12_leastUnfitShares wsX8_leastUnfit := goodIn_ca (goodIn_r _ [58, 59, 60, 61, 62, 63, 43, 44, 30, 45, 46, 64, 48, 49, 50, 51, 52, 53, 65, 66, 67, 68, 37, 69, 70, 71, 57, 72, 73, 74, 75, 76, 77, 78, 79, 80, 81, 82, 83, 84, 85, 86, 87, 88, 89, 90, 91, 92, 93, 94, 95, 96, 97, 115, 116, 117, 118, 119, 120, 121, 122] (by decide +kernel) (by decide +kernel)) (goodIn_sub (fun _ h => List.mem_cons_of_mem _ (List.mem_append_right _ h)) (by decide +kernel))
set_option maxRecDepth 20000 in
theorem gX12_leastUnfitShares_X8_leastUnfit : GoodIn wsX12_leastUnfitShares (wsV RX12 196 RX8 yX8_leastUnfit wsX8_leastUnfit) := goodIn_app (goodIn_of _ (by decide +kernel)) ggX12_leastUnfitShares_X8_leastUnfit
theorem dX12_leastUnfitShares_0 : decode cX12_leastUnfitShares 0 = .ok (.aload_n 0, 1) := by decide +kernel
theorem dX12_leastUnfitShares_1 : decode cX12_leastUnfitShares 1 = .ok (.getfield 28, 3) := by decide +kernel
theorem dX12_leastUnfitShares_4 : decode cX12_leastUnfitShares 4 = .ok (.aload_n 0, 1) := by decide +kernel
theorem dX12_leastUnfitShares_5 : decode cX12_leastUnfitShares 5 = .ok (.iload_n 1, 1) := by decide +kernel
theorem dX12_leastUnfitShares_6 : decode cX12_leastUnfitShares 6 = .ok (.invokevirtual 180, 3) := by decide +kernel
theorem dX12_leastUnfitShares_9 : decode cX12_leastUnfitShares 9 = .ok (.invokevirtual 196, 3) := by decide +kernel
theorem dX12_leastUnfitShares_12 : decode cX12_leastUnfitShares 12 = .ok (.ireturn, 1) := by decide +kernel
set_option maxRecDepth 20000 in
theorem ggX12_possibleValues_X12_withKnown : GoodIn wsX12_possibleValues wsX12_withKnown := goodIn_ca (goodIn_ca (goodIn_ca (goodIn_r _ [6, 7, 8, 9, 10, 11, 5, 12, 13, 14, 15, 16, 17, 18, 19, 20, 21, 22, 23, 24, 25, 26, 27, 28, 29, 30, 31, 32, 33, 34, 35, 36, 37, 38, 39, 40, 41, 42, 43, 44, 45, 46, 47, 48, 89, 90, 91, 92, 93, 94, 95, 96, 97, 98, 99, 100, 101, 102, 103, 104, 105, 106, 107, 108] (by decide +kernel) (by decide +kernel)) (goodIn_sub (fun _ h => List.mem_cons_of_mem _ (List.mem_append_left _ (List.mem_append_left _ (List.mem_append_right _ h)))) (by decide +kernel))) (goodIn_sub (fun _ h => List.mem_cons_of_mem _ (List.mem_append_left _ (List.mem_append_right _ h))) (by decide +kernel))) (goodIn_sub (fun _ h => List.mem_cons_of_mem _ (List.mem_append_right _ h)) (by decide +kernel))
set_option maxRecDepth 20000 in
theorem gX12_possibleValues_X12_withKnown : GoodIn wsX12_possibleValues (wsV RX12 199 RX12 yX12_withKnown wsX12_withKnown) := goodIn_app (goodIn_of _ (by decide +kernel)) ggX12_possibleValues_X12_withKnown
set_option maxRecDepth 20000 in
theorem ggX12_possibleValues_X8_valuesByFit : GoodIn wsX12_possibleValues wsX8_valuesByFit := goodIn_ca (goodIn_r _ [53, 54, 55, 56, 30, 57, 58, 59, 38, 39, 40, 41, 60, 61, 62, 52, 63, 64, 65, 66, 67, 68, 69, 70, 71, 72, 73, 74, 75, 76, 77, 78, 79, 80, 81, 82, 83, 84, 85, 86, 87, 88, 106, 107, 108, 109, 110, 111, 112, 113] (by decide +kernel) (by decide +kernel)) (goodIn_sub (fun _ h => List.mem_cons_of_mem _ (List.mem_append_right _ h)) (by decide +kernel))
set_option maxRecDepth 20000 in
theorem gX12_possibleValues_X8_valuesByFit : GoodIn wsX12_possibleValues (wsV RX12 203 RX8 yX8_valuesByFit wsX8_valuesByFit) := goodIn_app (goodIn_of _ (by decide +kernel)) ggX12_possibleValues_X8_valuesByFit
theorem dX12_possibleValues_0 : decode cX12_possibleValues 0 = .ok (.aload_n 0, 1) := by decide +kernel
theorem dX12_possibleValues_1 : decode cX12_possibleValues 1 = .ok (.getfield 28, 3) := by decide +kernel
theorem dX12_possibleValues_4 : decode cX12_possibleValues 4 = .ok (.aload_n 0, 1) := by decide +kernel
theorem dX12_possibleValues_5 : decode cX12_possibleValues 5 = .ok (.iload_n 1, 1) := by decide +kernel
theorem dX12_possibleValues_6 : decode cX12_possibleValues 6 = .ok (.iload_n 2, 1) := by decide +kernel
theorem dX12_possibleValues_7 : decode cX12_possibleValues 7 = .ok (.invokevirtual 199, 3) := by decide +kernel
theorem dX12_possibleValues_10 : decode cX12_possibleValues 10 = .ok (.iload_n 2, 1) := by decide +kernel
theorem dX12_possibleValues_11 : decode cX12_possibleValues 11 = .ok (.invokevirtual 203, 3) := by decide +kernel
theorem dX12_possibleValues_14 : decode cX12_possibleValues 14 = .ok (.ireturn, 1) := by decide +kernel
set_option maxRecDepth 20000 in
theorem ggX12_possibleValuesByTrying_X12_withKnown : GoodIn wsX12_possibleValuesByTrying wsX12_withKnown := goodIn_ca (goodIn_ca (goodIn_ca (goodIn_r _ [6, 7, 8, 9, 10, 11, 5, 12, 13, 14, 15, 16, 17, 18, 19, 20, 21, 22, 23, 24, 25, 26, 27, 28, 29, 30, 31, 32, 33, 34, 35, 36, 37, 38, 39, 40, 41, 42, 43, 44, 45, 46, 47, 48, 104, 105, 106, 107, 108, 109, 110, 111, 112, 113, 114, 115, 116, 117, 118, 119, 120, 121, 122, 123] (by decide +kernel) (by decide +kernel)) (goodIn_sub (fun _ h => List.mem_cons_of_mem _ (List.mem_append_left _ (List.mem_append_left _ (List.mem_append_right _ h)))) (by decide +kernel))) (goodIn_sub (fun _ h => List.mem_cons_of_mem _ (List.mem_append_left _ (List.mem_append_right _ h))) (by decide +kernel))) (goodIn_sub (fun _ h => List.mem_cons_of_mem _ (List.mem_append_right _ h)) (by decide +kernel))
set_option maxRecDepth 20000 in
theorem gX12_possibleValuesByTrying_X12_withKnown : GoodIn wsX12_possibleValuesByTrying (wsV RX12 199 RX12 yX12_withKnown wsX12_withKnown) := goodIn_app (goodIn_of _ (by decide +kernel)) ggX12_possibleValuesByTrying_X12_withKnown
set_option maxRecDepth 20000 in
theorem ggX12_possibleValuesByTrying_X8_valuesByTrial : GoodIn wsX12_possibleValuesByTrying wsX8_valuesByTrial := goodIn_ca (goodIn_r _ [53, 54, 55, 38, 39, 30, 40, 41, 56, 57, 58, 59, 60, 61, 62, 63, 64, 65, 66, 67, 68, 69, 70, 71, 72, 73, 74, 75, 76, 77, 78, 79, 80, 81, 82, 83, 84, 85, 86, 87, 88, 89, 90, 91, 92, 93, 94, 95, 96, 97, 98, 52, 99, 100, 101, 102, 103, 124, 125, 121, 122, 123, 126, 127, 128, 129, 130] (by decide +kernel) (by decide +kernel)) (goodIn_sub (fun _ h => List.mem_cons_of_mem _ (List.mem_append_right _ h)) (by decide +kernel))
set_option maxRecDepth 20000 in
theorem gX12_possibleValuesByTrying_X8_valuesByTrial : GoodIn wsX12_possibleValuesByTrying (wsV RX12 206 RX8 yX8_valuesByTrial wsX8_valuesByTrial) := goodIn_app (goodIn_of _ (by decide +kernel)) ggX12_possibleValuesByTrying_X8_valuesByTrial
theorem dX12_possibleValuesByTrying_0 : decode cX12_possibleValuesByTrying 0 = .ok (.aload_n 0, 1) := by decide +kernel
theorem dX12_possibleValuesByTrying_1 : decode cX12_possibleValuesByTrying 1 = .ok (.getfield 28, 3) := by decide +kernel
theorem dX12_possibleValuesByTrying_4 : decode cX12_possibleValuesByTrying 4 = .ok (.aload_n 0, 1) := by decide +kernel
theorem dX12_possibleValuesByTrying_5 : decode cX12_possibleValuesByTrying 5 = .ok (.iload_n 1, 1) := by decide +kernel
theorem dX12_possibleValuesByTrying_6 : decode cX12_possibleValuesByTrying 6 = .ok (.iload_n 2, 1) := by decide +kernel
theorem dX12_possibleValuesByTrying_7 : decode cX12_possibleValuesByTrying 7 = .ok (.invokevirtual 199, 3) := by decide +kernel
theorem dX12_possibleValuesByTrying_10 : decode cX12_possibleValuesByTrying 10 = .ok (.iload_n 2, 1) := by decide +kernel
theorem dX12_possibleValuesByTrying_11 : decode cX12_possibleValuesByTrying 11 = .ok (.invokevirtual 206, 3) := by decide +kernel
theorem dX12_possibleValuesByTrying_14 : decode cX12_possibleValuesByTrying 14 = .ok (.ireturn, 1) := by decide +kernel
set_option maxRecDepth 20000 in
theorem ggX12_inverse_X9_inverseOf : GoodIn wsX12_inverse wsX9_inverseOf := goodIn_r _ [6] (by decide +kernel) (by decide +kernel)
set_option maxRecDepth 20000 in
theorem gX12_inverse_X9_inverseOf : GoodIn wsX12_inverse (va_wsS RX12 214 yX9_inverseOf wsX9_inverseOf) := goodIn_app (goodIn_of _ (by decide +kernel)) ggX12_inverse_X9_inverseOf
theorem dX12_inverse_0 : decode cX12_inverse 0 = .ok (.iload_n 1, 1) := by decide +kernel
theorem dX12_inverse_1 : decode cX12_inverse 1 = .ok (.iconst 1, 1) := by decide +kernel
theorem dX12_inverse_2 : decode cX12_inverse 2 = .ok (.if_icmp .lt 9, 3) := by decide +kernel
theorem dX12_inverse_5 : decode cX12_inverse 5 = .ok (.iload_n 1, 1) := by decide +kernel
theorem dX12_inverse_6 : decode cX12_inverse 6 = .ok (.bipush 97, 2) := by decide +kernel
theorem dX12_inverse_8 : decode cX12_inverse 8 = .ok (.if_icmp .lt 13, 3) := by decide +kernel
theorem dX12_inverse_11 : decode cX12_inverse 11 = .ok (.new 209, 3) := by decide +kernel
theorem dX12_inverse_14 : decode cX12_inverse 14 = .ok (.dup, 1) := by decide +kernel
theorem dX12_inverse_15 : decode cX12_inverse 15 = .ok (.ldc 211, 2) := by decide +kernel
theorem dX12_inverse_17 : decode cX12_inverse 17 = .ok (.invokespecial 213, 3) := by decide +kernel
theorem dX12_inverse_20 : decode cX12_inverse 20 = .ok (.athrow, 1) := by decide +kernel
theorem dX12_inverse_21 : decode cX12_inverse 21 = .ok (.iload_n 1, 1) := by decide +kernel
theorem dX12_inverse_22 : decode cX12_inverse 22 = .ok (.invokestatic 214, 3) := by decide +kernel
theorem dX12_inverse_25 : decode cX12_inverse 25 = .ok (.ireturn, 1) := by decide +kernel
set_option maxRecDepth 20000 in
theorem ggX12_shareTotal_X11_allShares : GoodIn wsX12_shareTotal wsX11_allShares := goodIn_ca (goodIn_r _ [6, 7, 8, 9, 10, 5, 11, 12, 13, 14, 15, 16, 17, 18, 19, 20, 21, 22, 23, 35, 36, 37, 38, 39, 40, 41, 42, 43] (by decide +kernel) (by decide +kernel)) (goodIn_sub (fun _ h => List.mem_cons_of_mem _ (List.mem_append_right _ h)) (by decide +kernel))
set_option maxRecDepth 20000 in
theorem gX12_shareTotal_X11_allShares : GoodIn wsX12_shareTotal (wsV RX12 219 RX11 yX11_allShares wsX11_allShares) := goodIn_app (goodIn_of _ (by decide +kernel)) ggX12_shareTotal_X11_allShares
theorem dX12_shareTotal_0 : decode cX12_shareTotal 0 = .ok (.aload_n 0, 1) := by decide +kernel
theorem dX12_shareTotal_1 : decode cX12_shareTotal 1 = .ok (.getfield 20, 3) := by decide +kernel
theorem dX12_shareTotal_4 : decode cX12_shareTotal 4 = .ok (.invokevirtual 219, 3) := by decide +kernel
theorem dX12_shareTotal_7 : decode cX12_shareTotal 7 = .ok (.ireturn, 1) := by decide +kernel
set_option maxRecDepth 20000 in
theorem ggX12_lostTotal_X11_lossTally : GoodIn wsX12_lostTotal wsX11_lossTally := goodIn_r _ [6, 7, 19, 20, 21, 22, 23, 24] (by decide +kernel) (by decide +kernel)
set_option maxRecDepth 20000 in
theorem gX12_lostTotal_X11_lossTally : GoodIn wsX12_lostTotal (wsV RX12 222 RX11 yX11_lossTally wsX11_lossTally) := goodIn_app (goodIn_of _ (by decide +kernel)) ggX12_lostTotal_X11_lossTally
theorem dX12_lostTotal_0 : decode cX12_lostTotal 0 = .ok (.aload_n 0, 1) := by decide +kernel
theorem dX12_lostTotal_1 : decode cX12_lostTotal 1 = .ok (.getfield 20, 3) := by decide +kernel
theorem dX12_lostTotal_4 : decode cX12_lostTotal 4 = .ok (.invokevirtual 222, 3) := by decide +kernel
theorem dX12_lostTotal_7 : decode cX12_lostTotal 7 = .ok (.lreturn, 1) := by decide +kernel
set_option maxRecDepth 20000 in
theorem ggX12_meanShares_X11_birdTally : GoodIn wsX12_meanShares wsX11_birdTally := goodIn_r _ [8, 9, 41, 42, 43, 44, 45, 46] (by decide +kernel) (by decide +kernel)
set_option maxRecDepth 20000 in
theorem gX12_meanShares_X11_birdTally : GoodIn wsX12_meanShares (wsV RX12 104 RX11 yX11_birdTally wsX11_birdTally) := goodIn_app (goodIn_of _ (by decide +kernel)) ggX12_meanShares_X11_birdTally
set_option maxRecDepth 20000 in
theorem ggX12_meanShares_X11_allShares : GoodIn wsX12_meanShares wsX11_allShares := goodIn_ca (goodIn_r _ [13, 9, 14, 15, 16, 7, 17, 18, 19, 20, 21, 22, 23, 24, 25, 26, 27, 28, 29, 41, 42, 43, 44, 45, 46, 47, 48, 49] (by decide +kernel) (by decide +kernel)) (goodIn_sub (fun _ h => List.mem_cons_of_mem _ (List.mem_append_right _ h)) (by decide +kernel))
set_option maxRecDepth 20000 in
theorem gX12_meanShares_X11_allShares : GoodIn wsX12_meanShares (wsV RX12 219 RX11 yX11_allShares wsX11_allShares) := goodIn_app (goodIn_of _ (by decide +kernel)) ggX12_meanShares_X11_allShares
theorem dX12_meanShares_0 : decode cX12_meanShares 0 = .ok (.aload_n 0, 1) := by decide +kernel
theorem dX12_meanShares_1 : decode cX12_meanShares 1 = .ok (.getfield 20, 3) := by decide +kernel
theorem dX12_meanShares_4 : decode cX12_meanShares 4 = .ok (.invokevirtual 104, 3) := by decide +kernel
theorem dX12_meanShares_7 : decode cX12_meanShares 7 = .ok (.istore_n 1, 1) := by decide +kernel
theorem dX12_meanShares_8 : decode cX12_meanShares 8 = .ok (.iload_n 1, 1) := by decide +kernel
theorem dX12_meanShares_9 : decode cX12_meanShares 9 = .ok (.ifCond .gt 13, 3) := by decide +kernel
theorem dX12_meanShares_12 : decode cX12_meanShares 12 = .ok (.new 226, 3) := by decide +kernel
theorem dX12_meanShares_15 : decode cX12_meanShares 15 = .ok (.dup, 1) := by decide +kernel
theorem dX12_meanShares_16 : decode cX12_meanShares 16 = .ok (.ldc 228, 2) := by decide +kernel
theorem dX12_meanShares_18 : decode cX12_meanShares 18 = .ok (.invokespecial 230, 3) := by decide +kernel
theorem dX12_meanShares_21 : decode cX12_meanShares 21 = .ok (.athrow, 1) := by decide +kernel
theorem dX12_meanShares_22 : decode cX12_meanShares 22 = .ok (.aload_n 0, 1) := by decide +kernel
theorem dX12_meanShares_23 : decode cX12_meanShares 23 = .ok (.getfield 20, 3) := by decide +kernel
theorem dX12_meanShares_26 : decode cX12_meanShares 26 = .ok (.invokevirtual 219, 3) := by decide +kernel
theorem dX12_meanShares_29 : decode cX12_meanShares 29 = .ok (.i2d, 1) := by decide +kernel
theorem dX12_meanShares_30 : decode cX12_meanShares 30 = .ok (.iload_n 1, 1) := by decide +kernel
theorem dX12_meanShares_31 : decode cX12_meanShares 31 = .ok (.i2d, 1) := by decide +kernel
theorem dX12_meanShares_32 : decode cX12_meanShares 32 = .ok (.ddiv, 1) := by decide +kernel
theorem dX12_meanShares_33 : decode cX12_meanShares 33 = .ok (.dreturn, 1) := by decide +kernel
set_option maxRecDepth 20000 in
theorem ggX12_rebuildableShare_X11_secretTally : GoodIn wsX12_rebuildableShare wsX11_secretTally := goodIn_r _ [8, 9, 52, 53, 54, 55, 56, 57] (by decide +kernel) (by decide +kernel)
set_option maxRecDepth 20000 in
theorem gX12_rebuildableShare_X11_secretTally : GoodIn wsX12_rebuildableShare (wsV RX12 135 RX11 yX11_secretTally wsX11_secretTally) := goodIn_app (goodIn_of _ (by decide +kernel)) ggX12_rebuildableShare_X11_secretTally
set_option maxRecDepth 20000 in
theorem ggX12_rebuildableShare_X11_rebuildableTally : GoodIn wsX12_rebuildableShare wsX11_rebuildableTally := goodIn_ca (goodIn_r _ [13, 14, 15, 16, 7, 17, 9, 18, 19, 20, 21, 22, 23, 24, 25, 26, 27, 28, 29, 30, 31, 32, 33, 34, 35, 36, 37, 38, 39, 40, 52, 53, 54, 55, 56, 57, 58, 59, 60] (by decide +kernel) (by decide +kernel)) (goodIn_sub (fun _ h => List.mem_cons_of_mem _ (List.mem_append_right _ h)) (by decide +kernel))
set_option maxRecDepth 20000 in
theorem gX12_rebuildableShare_X11_rebuildableTally : GoodIn wsX12_rebuildableShare (wsV RX12 233 RX11 yX11_rebuildableTally wsX11_rebuildableTally) := goodIn_app (goodIn_of _ (by decide +kernel)) ggX12_rebuildableShare_X11_rebuildableTally
theorem dX12_rebuildableShare_0 : decode cX12_rebuildableShare 0 = .ok (.aload_n 0, 1) := by decide +kernel
theorem dX12_rebuildableShare_1 : decode cX12_rebuildableShare 1 = .ok (.getfield 20, 3) := by decide +kernel
theorem dX12_rebuildableShare_4 : decode cX12_rebuildableShare 4 = .ok (.invokevirtual 135, 3) := by decide +kernel
theorem dX12_rebuildableShare_7 : decode cX12_rebuildableShare 7 = .ok (.istore_n 1, 1) := by decide +kernel
theorem dX12_rebuildableShare_8 : decode cX12_rebuildableShare 8 = .ok (.iload_n 1, 1) := by decide +kernel
theorem dX12_rebuildableShare_9 : decode cX12_rebuildableShare 9 = .ok (.ifCond .gt 13, 3) := by decide +kernel
theorem dX12_rebuildableShare_12 : decode cX12_rebuildableShare 12 = .ok (.new 226, 3) := by decide +kernel
theorem dX12_rebuildableShare_15 : decode cX12_rebuildableShare 15 = .ok (.dup, 1) := by decide +kernel
theorem dX12_rebuildableShare_16 : decode cX12_rebuildableShare 16 = .ok (.ldc 231, 2) := by decide +kernel
theorem dX12_rebuildableShare_18 : decode cX12_rebuildableShare 18 = .ok (.invokespecial 230, 3) := by decide +kernel
theorem dX12_rebuildableShare_21 : decode cX12_rebuildableShare 21 = .ok (.athrow, 1) := by decide +kernel
theorem dX12_rebuildableShare_22 : decode cX12_rebuildableShare 22 = .ok (.aload_n 0, 1) := by decide +kernel
theorem dX12_rebuildableShare_23 : decode cX12_rebuildableShare 23 = .ok (.getfield 20, 3) := by decide +kernel
theorem dX12_rebuildableShare_26 : decode cX12_rebuildableShare 26 = .ok (.invokevirtual 233, 3) := by decide +kernel
theorem dX12_rebuildableShare_29 : decode cX12_rebuildableShare 29 = .ok (.i2f, 1) := by decide +kernel
theorem dX12_rebuildableShare_30 : decode cX12_rebuildableShare 30 = .ok (.iload_n 1, 1) := by decide +kernel
theorem dX12_rebuildableShare_31 : decode cX12_rebuildableShare 31 = .ok (.i2f, 1) := by decide +kernel
theorem dX12_rebuildableShare_32 : decode cX12_rebuildableShare 32 = .ok (.fdiv, 1) := by decide +kernel
theorem dX12_rebuildableShare_33 : decode cX12_rebuildableShare 33 = .ok (.freturn, 1) := by decide +kernel
set_option maxRecDepth 20000 in
theorem ggX12_isConsistent_X11_secretPlaced : GoodIn wsX12_isConsistent wsX11_secretPlaced := goodIn_r _ [7, 8, 9, 139, 140, 141, 142, 143, 144] (by decide +kernel) (by decide +kernel)
set_option maxRecDepth 20000 in
theorem gX12_isConsistent_X11_secretPlaced : GoodIn wsX12_isConsistent (wsV RX12 142 RX11 yX11_secretPlaced wsX11_secretPlaced) := goodIn_app (goodIn_of _ (by decide +kernel)) ggX12_isConsistent_X11_secretPlaced
set_option maxRecDepth 20000 in
theorem ggX12_isConsistent_X8_agreesOn : GoodIn wsX12_isConsistent wsX8_agreesOn := goodIn_ca (goodIn_r _ [14, 15, 16, 17, 18, 19, 20, 21, 22, 23, 24, 25, 26, 27, 28, 29, 30, 31, 32, 33, 34, 35, 36, 37, 38, 39, 13, 40, 41, 42, 43, 44, 45, 46, 47, 48, 49, 50, 51, 52, 53, 54, 55, 56, 57, 58, 59, 60, 61, 62, 63, 64, 65, 66, 67, 68, 69, 70, 71, 72, 73, 74, 75, 76, 77, 78, 79, 80, 81, 82, 83, 84, 85, 86, 87, 88, 89, 90, 91, 92, 93, 94, 95, 96, 97, 98, 99, 100, 101, 102, 103, 104, 105, 106, 107, 108, 109, 110, 111, 112, 113, 114, 115, 116, 117, 118, 119, 120, 121, 122, 123, 124, 125, 126, 127, 145, 146, 147, 148, 149, 150, 151, 152, 153, 154, 155, 156, 157] (by decide +kernel) (by decide +kernel)) (goodIn_sub (fun _ h => List.mem_cons_of_mem _ (List.mem_append_right _ h)) (by decide +kernel))
set_option maxRecDepth 20000 in
theorem gX12_isConsistent_X8_agreesOn : GoodIn wsX12_isConsistent (wsV RX12 236 RX8 yX8_agreesOn wsX8_agreesOn) := goodIn_app (goodIn_of _ (by decide +kernel)) ggX12_isConsistent_X8_agreesOn
theorem dX12_isConsistent_0 : decode cX12_isConsistent 0 = .ok (.iconst 0, 1) := by decide +kernel
theorem dX12_isConsistent_1 : decode cX12_isConsistent 1 = .ok (.istore_n 1, 1) := by decide +kernel
theorem dX12_isConsistent_2 : decode cX12_isConsistent 2 = .ok (.iload_n 1, 1) := by decide +kernel
theorem dX12_isConsistent_3 : decode cX12_isConsistent 3 = .ok (.bipush 6, 2) := by decide +kernel
theorem dX12_isConsistent_5 : decode cX12_isConsistent 5 = .ok (.if_icmp .ge 35, 3) := by decide +kernel
theorem dX12_isConsistent_8 : decode cX12_isConsistent 8 = .ok (.aload_n 0, 1) := by decide +kernel
theorem dX12_isConsistent_9 : decode cX12_isConsistent 9 = .ok (.getfield 20, 3) := by decide +kernel
theorem dX12_isConsistent_12 : decode cX12_isConsistent 12 = .ok (.iload_n 1, 1) := by decide +kernel
theorem dX12_isConsistent_13 : decode cX12_isConsistent 13 = .ok (.invokevirtual 142, 3) := by decide +kernel
theorem dX12_isConsistent_16 : decode cX12_isConsistent 16 = .ok (.astore_n 2, 1) := by decide +kernel
theorem dX12_isConsistent_17 : decode cX12_isConsistent 17 = .ok (.aload_n 2, 1) := by decide +kernel
theorem dX12_isConsistent_18 : decode cX12_isConsistent 18 = .ok (.ifnull 16, 3) := by decide +kernel
theorem dX12_isConsistent_21 : decode cX12_isConsistent 21 = .ok (.aload_n 0, 1) := by decide +kernel
theorem dX12_isConsistent_22 : decode cX12_isConsistent 22 = .ok (.getfield 28, 3) := by decide +kernel
theorem dX12_isConsistent_25 : decode cX12_isConsistent 25 = .ok (.aload_n 2, 1) := by decide +kernel
theorem dX12_isConsistent_26 : decode cX12_isConsistent 26 = .ok (.invokevirtual 236, 3) := by decide +kernel
theorem dX12_isConsistent_29 : decode cX12_isConsistent 29 = .ok (.ifCond .ne 5, 3) := by decide +kernel
theorem dX12_isConsistent_32 : decode cX12_isConsistent 32 = .ok (.iconst 0, 1) := by decide +kernel
theorem dX12_isConsistent_33 : decode cX12_isConsistent 33 = .ok (.ireturn, 1) := by decide +kernel
theorem dX12_isConsistent_34 : decode cX12_isConsistent 34 = .ok (.iinc 1 1, 3) := by decide +kernel
theorem dX12_isConsistent_37 : decode cX12_isConsistent 37 = .ok (.goto (-35), 3) := by decide +kernel
theorem dX12_isConsistent_40 : decode cX12_isConsistent 40 = .ok (.iconst 1, 1) := by decide +kernel
theorem dX12_isConsistent_41 : decode cX12_isConsistent 41 = .ok (.ireturn, 1) := by decide +kernel
set_option maxRecDepth 20000 in
theorem ggX12_run_X7_findError : GoodIn wsX12_run wsX7_findError := goodIn_ca (goodIn_r _ [15, 16, 17, 18, 19, 20, 14, 21, 22, 23, 24, 25, 26, 27, 28, 29, 30, 31, 32, 33, 34, 35, 36, 37, 38, 39, 40, 41, 42, 43, 44, 45, 46, 47, 48, 49, 50, 51, 52, 53, 54, 55, 56, 57, 58, 59, 60, 61, 62, 63, 64, 65, 66, 67, 68, 69, 70, 71, 72, 73, 74, 75, 76, 77, 78, 79, 80, 81, 82, 83, 84, 85, 86, 87, 88, 89, 90, 91, 92, 93, 94, 95, 96, 97, 98, 99, 100, 101, 102, 103, 104, 105, 106, 107, 108, 374, 375, 376, 377, 378, 379, 380, 381, 382, 383, 384] (by decide +kernel) (by decide +kernel)) (goodIn_sub (fun _ h => List.mem_cons_of_mem _ (List.mem_append_right _ h)) (by decide +kernel))
set_option maxRecDepth 20000 in
theorem gX12_run_X7_findError : GoodIn wsX12_run (wsV RX12 249 RX7 yX7_findError wsX7_findError) := goodIn_app (goodIn_of _ (by decide +kernel)) ggX12_run_X7_findError
set_option maxRecDepth 20000 in
theorem ggX12_run_X7_empty : GoodIn wsX12_run wsX7_empty := goodIn_r _ [112, 17, 374, 375, 376, 377, 378, 379, 380] (by decide +kernel) (by decide +kernel)
set_option maxRecDepth 20000 in
theorem gX12_run_X7_empty : GoodIn wsX12_run (wsV RX12 252 RX7 yX7_empty wsX7_empty) := goodIn_app (goodIn_of _ (by decide +kernel)) ggX12_run_X7_empty
set_option maxRecDepth 20000 in
theorem ggX12_run_X11_copyFrom : GoodIn wsX12_run wsX11_copyFrom := goodIn_r _ [117, 118, 119, 120, 121, 122, 123, 124, 125, 126, 127, 128, 129, 130, 131, 132, 133, 134, 135, 136, 385, 386, 387, 388, 389, 390, 391, 392, 393] (by decide +kernel) (by decide +kernel)
set_option maxRecDepth 20000 in
theorem gX12_run_X11_copyFrom : GoodIn wsX12_run (wsV RX12 257 RX11 yX11_copyFrom wsX11_copyFrom) := goodIn_app (goodIn_of _ (by decide +kernel)) ggX12_run_X11_copyFrom
set_option maxRecDepth 20000 in
theorem ggX12_run_X12_carryOutProgram : GoodIn wsX12_run wsX12_carryOutProgram := goodIn_ca (goodIn_r _ [141, 5, 142, 143, 144, 19, 20, 14, 21, 22, 145, 146, 147, 148, 17, 149, 24, 25, 26, 27, 16, 28, 29, 30, 31, 32, 33, 34, 35, 36, 37, 38, 39, 40, 41, 42, 43, 44, 45, 46, 47, 48, 49, 50, 51, 52, 53, 54, 55, 56, 57, 58, 59, 60, 61, 62, 63, 64, 65, 66, 67, 68, 69, 70, 71, 72, 73, 74, 75, 76, 77, 78, 79, 80, 81, 82, 83, 84, 85, 86, 87, 88, 89, 90, 91, 92, 93, 94, 95, 96, 97, 98, 99, 100, 101, 102, 103, 104, 150, 151, 152, 153, 154, 155, 156, 157, 158, 159, 160, 161, 162, 163, 164, 165, 166, 167, 168, 169, 170, 171, 172, 173, 174, 175, 176, 177, 178, 179, 180, 181, 116, 182, 183, 184, 185, 186, 124, 187, 188, 189, 190, 191, 192, 193, 194, 195, 196, 197, 198, 199, 200, 201, 202, 203, 204, 205, 206, 125, 207, 208, 209, 210, 211, 212, 213, 214, 215, 216, 217, 218, 123, 219, 220, 221, 131, 222, 133, 223, 224, 225, 226, 227, 228, 229, 230, 231, 232, 233, 135, 234, 235, 236, 237, 134, 238, 239, 240, 241, 242, 243, 244, 245, 246, 247, 248, 249, 250, 251, 252, 253, 254, 255, 256, 257, 258, 259, 260, 118, 261, 262, 263, 264, 265, 266, 267, 268, 269, 270, 271, 272, 126, 273, 274, 275, 276, 277, 278, 279, 280, 281, 282, 283, 284, 285, 286, 287, 288, 289, 290, 291, 292, 293, 294, 295, 296, 297, 298, 299, 300, 301, 302, 303, 304, 305, 306, 307, 308, 309, 310, 311, 312, 313, 314, 315, 127, 316, 317, 318, 319, 320, 321, 322, 323, 324, 325, 326, 327, 328, 329, 330, 331, 332, 333, 334, 335, 336, 337, 338, 339, 340, 341, 342, 343, 344, 345, 346, 347, 348, 349, 350, 106, 107, 108, 363, 364, 365, 366, 367, 368, 369, 370, 371, 372, 373, 374, 375, 376, 377, 378, 379, 380, 381, 382, 383, 384, 394, 395, 385, 386, 387, 388, 389, 390, 391, 392, 393, 396, 397, 398, 399, 400] (by decide +kernel) (by decide +kernel)) (goodIn_sub (fun _ h => List.mem_cons_of_mem _ (List.mem_append_right _ h)) (by decide +kernel))
set_option maxRecDepth 20000 in
theorem gX12_run_X12_carryOutProgram : GoodIn wsX12_run (wsV RX12 261 RX12 yX12_carryOutProgram wsX12_carryOutProgram) := goodIn_app (goodIn_of _ (by decide +kernel)) ggX12_run_X12_carryOutProgram
set_option maxRecDepth 20000 in
theorem ggX12_run_X7_isAtEnd : GoodIn wsX12_run wsX7_isAtEnd := goodIn_r _ [148, 22, 17, 374, 375, 376, 377, 378, 379, 380] (by decide +kernel) (by decide +kernel)
set_option maxRecDepth 20000 in
theorem gX12_run_X7_isAtEnd : GoodIn wsX12_run (wsV RX12 264 RX7 yX7_isAtEnd wsX7_isAtEnd) := goodIn_app (goodIn_of _ (by decide +kernel)) ggX12_run_X7_isAtEnd
set_option maxRecDepth 20000 in
theorem ggX12_run_X4_remember : GoodIn wsX12_run wsX4_remember := goodIn_r _ [355, 356, 357, 358, 359, 360, 30, 361, 362, 114, 115, 116, 117, 118, 119, 120, 121, 122, 123, 124, 125, 126, 127, 128, 129, 130, 131, 132, 133, 134, 135, 136, 401, 402, 403, 385, 386, 387, 388, 389, 390, 391, 392, 393] (by decide +kernel) (by decide +kernel)
set_option maxRecDepth 20000 in
theorem gX12_run_X4_remember : GoodIn wsX12_run (wsV RX12 273 RX4 yX4_remember wsX4_remember) := goodIn_app (goodIn_of _ (by decide +kernel)) ggX12_run_X4_remember
theorem dX12_run_0 : decode cX12_run 0 = .ok (.aload_n 0, 1) := by decide +kernel
theorem dX12_run_1 : decode cX12_run 1 = .ok (.getfield 51, 3) := by decide +kernel
theorem dX12_run_4 : decode cX12_run 4 = .ok (.invokevirtual 249, 3) := by decide +kernel
theorem dX12_run_7 : decode cX12_run 7 = .ok (.istore_n 1, 1) := by decide +kernel
theorem dX12_run_8 : decode cX12_run 8 = .ok (.iload_n 1, 1) := by decide +kernel
theorem dX12_run_9 : decode cX12_run 9 = .ok (.iconst (-1), 1) := by decide +kernel
theorem dX12_run_10 : decode cX12_run 10 = .ok (.if_icmp .eq 25, 3) := by decide +kernel
theorem dX12_run_13 : decode cX12_run 13 = .ok (.aload_n 0, 1) := by decide +kernel
theorem dX12_run_14 : decode cX12_run 14 = .ok (.iload_n 1, 1) := by decide +kernel
theorem dX12_run_15 : decode cX12_run 15 = .ok (.putfield 66, 3) := by decide +kernel
theorem dX12_run_18 : decode cX12_run 18 = .ok (.aload_n 0, 1) := by decide +kernel
theorem dX12_run_19 : decode cX12_run 19 = .ok (.getfield 51, 3) := by decide +kernel
theorem dX12_run_22 : decode cX12_run 22 = .ok (.invokevirtual 252, 3) := by decide +kernel
theorem dX12_run_25 : decode cX12_run 25 = .ok (.new 209, 3) := by decide +kernel
theorem dX12_run_28 : decode cX12_run 28 = .ok (.dup, 1) := by decide +kernel
theorem dX12_run_29 : decode cX12_run 29 = .ok (.ldc 255, 2) := by decide +kernel
theorem dX12_run_31 : decode cX12_run 31 = .ok (.invokespecial 213, 3) := by decide +kernel
theorem dX12_run_34 : decode cX12_run 34 = .ok (.athrow, 1) := by decide +kernel
theorem dX12_run_35 : decode cX12_run 35 = .ok (.aload_n 0, 1) := by decide +kernel
theorem dX12_run_36 : decode cX12_run 36 = .ok (.getfield 38, 3) := by decide +kernel
theorem dX12_run_39 : decode cX12_run 39 = .ok (.aload_n 0, 1) := by decide +kernel
theorem dX12_run_40 : decode cX12_run 40 = .ok (.getfield 20, 3) := by decide +kernel
theorem dX12_run_43 : decode cX12_run 43 = .ok (.invokevirtual 257, 3) := by decide +kernel
theorem dX12_run_46 : decode cX12_run 46 = .ok (.aload_n 0, 1) := by decide +kernel
theorem dX12_run_47 : decode cX12_run 47 = .ok (.invokevirtual 261, 3) := by decide +kernel
theorem dX12_run_50 : decode cX12_run 50 = .ok (.istore_n 2, 1) := by decide +kernel
theorem dX12_run_51 : decode cX12_run 51 = .ok (.aload_n 0, 1) := by decide +kernel
theorem dX12_run_52 : decode cX12_run 52 = .ok (.getfield 51, 3) := by decide +kernel
theorem dX12_run_55 : decode cX12_run 55 = .ok (.invokevirtual 264, 3) := by decide +kernel
theorem dX12_run_58 : decode cX12_run 58 = .ok (.ifCond .ne 7, 3) := by decide +kernel
theorem dX12_run_61 : decode cX12_run 61 = .ok (.iconst 1, 1) := by decide +kernel
theorem dX12_run_62 : decode cX12_run 62 = .ok (.goto 4, 3) := by decide +kernel
theorem dX12_run_65 : decode cX12_run 65 = .ok (.iconst 0, 1) := by decide +kernel
theorem dX12_run_66 : decode cX12_run 66 = .ok (.istore_n 3, 1) := by decide +kernel
theorem dX12_run_67 : decode cX12_run 67 = .ok (.aload_n 0, 1) := by decide +kernel
theorem dX12_run_68 : decode cX12_run 68 = .ok (.getfield 51, 3) := by decide +kernel
theorem dX12_run_71 : decode cX12_run 71 = .ok (.invokevirtual 252, 3) := by decide +kernel
theorem dX12_run_74 : decode cX12_run 74 = .ok (.iload_n 3, 1) := by decide +kernel
theorem dX12_run_75 : decode cX12_run 75 = .ok (.ifCond .eq 30, 3) := by decide +kernel
theorem dX12_run_78 : decode cX12_run 78 = .ok (.aload_n 0, 1) := by decide +kernel
theorem dX12_run_79 : decode cX12_run 79 = .ok (.getfield 20, 3) := by decide +kernel
theorem dX12_run_82 : decode cX12_run 82 = .ok (.aload_n 0, 1) := by decide +kernel
theorem dX12_run_83 : decode cX12_run 83 = .ok (.getfield 38, 3) := by decide +kernel
theorem dX12_run_86 : decode cX12_run 86 = .ok (.invokevirtual 257, 3) := by decide +kernel
theorem dX12_run_89 : decode cX12_run 89 = .ok (.aload_n 0, 1) := by decide +kernel
theorem dX12_run_90 : decode cX12_run 90 = .ok (.iload_n 2, 1) := by decide +kernel
theorem dX12_run_91 : decode cX12_run 91 = .ok (.putfield 70, 3) := by decide +kernel
theorem dX12_run_94 : decode cX12_run 94 = .ok (.new 268, 3) := by decide +kernel
theorem dX12_run_97 : decode cX12_run 97 = .ok (.dup, 1) := by decide +kernel
theorem dX12_run_98 : decode cX12_run 98 = .ok (.ldc_w 270, 3) := by decide +kernel
theorem dX12_run_101 : decode cX12_run 101 = .ok (.invokespecial 272, 3) := by decide +kernel
theorem dX12_run_104 : decode cX12_run 104 = .ok (.athrow, 1) := by decide +kernel
theorem dX12_run_105 : decode cX12_run 105 = .ok (.aload_n 0, 1) := by decide +kernel
theorem dX12_run_106 : decode cX12_run 106 = .ok (.getfield 44, 3) := by decide +kernel
theorem dX12_run_109 : decode cX12_run 109 = .ok (.aload_n 0, 1) := by decide +kernel
theorem dX12_run_110 : decode cX12_run 110 = .ok (.getfield 38, 3) := by decide +kernel
theorem dX12_run_113 : decode cX12_run 113 = .ok (.invokevirtual 273, 3) := by decide +kernel
theorem dX12_run_116 : decode cX12_run 116 = .ok (.iload_n 2, 1) := by decide +kernel
theorem dX12_run_117 : decode cX12_run 117 = .ok (.ireturn, 1) := by decide +kernel
theorem dX12_errorPosition_0 : decode cX12_errorPosition 0 = .ok (.aload_n 0, 1) := by decide +kernel
theorem dX12_errorPosition_1 : decode cX12_errorPosition 1 = .ok (.getfield 66, 3) := by decide +kernel
theorem dX12_errorPosition_4 : decode cX12_errorPosition 4 = .ok (.iconst (-1), 1) := by decide +kernel
theorem dX12_errorPosition_5 : decode cX12_errorPosition 5 = .ok (.if_icmp .ne 14, 3) := by decide +kernel
theorem dX12_errorPosition_8 : decode cX12_errorPosition 8 = .ok (.new 125, 3) := by decide +kernel
theorem dX12_errorPosition_11 : decode cX12_errorPosition 11 = .ok (.dup, 1) := by decide +kernel
theorem dX12_errorPosition_12 : decode cX12_errorPosition 12 = .ok (.ldc_w 276, 3) := by decide +kernel
theorem dX12_errorPosition_15 : decode cX12_errorPosition 15 = .ok (.invokespecial 129, 3) := by decide +kernel
theorem dX12_errorPosition_18 : decode cX12_errorPosition 18 = .ok (.athrow, 1) := by decide +kernel
theorem dX12_errorPosition_19 : decode cX12_errorPosition 19 = .ok (.aload_n 0, 1) := by decide +kernel
theorem dX12_errorPosition_20 : decode cX12_errorPosition 20 = .ok (.getfield 66, 3) := by decide +kernel
theorem dX12_errorPosition_23 : decode cX12_errorPosition 23 = .ok (.ireturn, 1) := by decide +kernel
theorem dX12_failedCommand_0 : decode cX12_failedCommand 0 = .ok (.aload_n 0, 1) := by decide +kernel
theorem dX12_failedCommand_1 : decode cX12_failedCommand 1 = .ok (.getfield 70, 3) := by decide +kernel
theorem dX12_failedCommand_4 : decode cX12_failedCommand 4 = .ok (.iconst (-1), 1) := by decide +kernel
theorem dX12_failedCommand_5 : decode cX12_failedCommand 5 = .ok (.if_icmp .ne 14, 3) := by decide +kernel
theorem dX12_failedCommand_8 : decode cX12_failedCommand 8 = .ok (.new 125, 3) := by decide +kernel
theorem dX12_failedCommand_11 : decode cX12_failedCommand 11 = .ok (.dup, 1) := by decide +kernel
theorem dX12_failedCommand_12 : decode cX12_failedCommand 12 = .ok (.ldc_w 278, 3) := by decide +kernel
theorem dX12_failedCommand_15 : decode cX12_failedCommand 15 = .ok (.invokespecial 129, 3) := by decide +kernel
theorem dX12_failedCommand_18 : decode cX12_failedCommand 18 = .ok (.athrow, 1) := by decide +kernel
theorem dX12_failedCommand_19 : decode cX12_failedCommand 19 = .ok (.aload_n 0, 1) := by decide +kernel
theorem dX12_failedCommand_20 : decode cX12_failedCommand 20 = .ok (.getfield 70, 3) := by decide +kernel
theorem dX12_failedCommand_23 : decode cX12_failedCommand 23 = .ok (.ireturn, 1) := by decide +kernel
set_option maxRecDepth 20000 in
theorem ggX12_writeSecret_X12_existing : GoodIn wsX12_writeSecret wsX12_existing := goodIn_ca (goodIn_r _ [6, 7, 8, 9, 10, 11, 12, 13, 14, 15, 16, 17, 18, 19, 20, 21, 22, 23, 24, 25, 26, 231, 232, 233, 234, 235, 236, 237, 238, 239, 240, 241, 242, 243, 244, 245, 246, 247, 248, 249, 250] (by decide +kernel) (by decide +kernel)) (goodIn_sub (fun _ h => List.mem_cons_of_mem _ (List.mem_append_left _ (List.mem_append_right _ h))) (by decide +kernel))
set_option maxRecDepth 20000 in
theorem gX12_writeSecret_X12_existing : GoodIn wsX12_writeSecret (wsV RX12 155 RX12 yX12_existing wsX12_existing) := goodIn_app (goodIn_of _ (by decide +kernel)) ggX12_writeSecret_X12_existing
set_option maxRecDepth 20000 in
theorem ggX12_writeSecret_J4_setLength_d00df : GoodIn wsX12_writeSecret wsJ4_setLength_d00df := goodIn_r _ [31, 32, 33, 34, 35, 36, 37, 38, 39, 40, 41, 42, 43, 44, 45, 46, 47, 48, 49, 50, 51, 52, 53, 54, 55, 56, 57, 58, 59, 60, 61, 62, 63, 64, 65, 66, 67, 68, 69, 70, 71, 72, 73, 74, 75, 76, 77, 78, 79, 80, 81, 82, 83, 84, 85, 86, 87, 88, 89, 90, 91, 92, 93, 94, 95, 96, 97, 98, 99, 100, 101, 102, 103, 30, 104, 105, 106, 107, 108, 109, 110, 111, 251, 252, 253, 254, 255, 256, 257, 258, 259, 260, 261, 262, 263, 264, 265, 266] (by decide +kernel) (by decide +kernel)
set_option maxRecDepth 20000 in
theorem gX12_writeSecret_J4_setLength_d00df : GoodIn wsX12_writeSecret (wsV RX12 280 RJ4 yJ4_setLength_d00df wsJ4_setLength_d00df) := goodIn_app (goodIn_of _ (by decide +kernel)) ggX12_writeSecret_J4_setLength_d00df
set_option maxRecDepth 20000 in
theorem ggX12_writeSecret_X10_ownNumber : GoodIn wsX12_writeSecret wsX10_ownNumber := goodIn_r _ [25, 26, 248, 249, 250] (by decide +kernel) (by decide +kernel)
set_option maxRecDepth 20000 in
theorem gX12_writeSecret_X10_ownNumber : GoodIn wsX12_writeSecret (wsV RX12 150 RX10 yX10_ownNumber wsX10_ownNumber) := goodIn_app (goodIn_of _ (by decide +kernel)) ggX12_writeSecret_X10_ownNumber
set_option maxRecDepth 20000 in
theorem ggX12_writeSecret_J4_append_bf812 : GoodIn wsX12_writeSecret wsJ4_append_bf812 := goodIn_r _ [116, 117, 118, 34, 119, 36, 120, 41, 42, 121, 122, 123, 124, 44, 45, 46, 47, 48, 49, 50, 51, 52, 53, 54, 55, 56, 57, 58, 59, 60, 61, 62, 63, 64, 65, 66, 67, 68, 69, 70, 71, 72, 73, 74, 75, 76, 77, 78, 79, 80, 81, 82, 83, 84, 85, 86, 87, 88, 89, 90, 91, 125, 126, 127, 128, 129, 130, 131, 109, 132, 133, 134, 135, 136, 137, 138, 139, 140, 141, 142, 143, 144, 145, 146, 147, 148, 149, 150, 151, 152, 153, 154, 155, 156, 157, 158, 257, 258, 259, 260] (by decide +kernel) (by decide +kernel)
set_option maxRecDepth 20000 in
theorem gX12_writeSecret_J4_append_bf812 : GoodIn wsX12_writeSecret (wsV RX12 283 RJ4 yJ4_append_bf812 wsJ4_append_bf812) := goodIn_app (goodIn_of _ (by decide +kernel)) ggX12_writeSecret_J4_append_bf812
set_option maxRecDepth 20000 in
theorem ggX12_writeSecret_J4_append_cf468 : GoodIn wsX12_writeSecret wsJ4_append_cf468 := goodIn_r _ [162, 163, 164, 34, 165, 36, 166, 41, 42, 44, 45, 46, 47, 48, 49, 50, 51, 52, 53, 54, 55, 56, 57, 58, 59, 60, 61, 62, 63, 64, 65, 66, 67, 68, 69, 70, 71, 72, 73, 74, 75, 76, 77, 78, 79, 80, 81, 82, 83, 84, 85, 86, 87, 88, 89, 90, 91, 167, 168, 94, 169, 170, 171, 172, 173, 174, 175, 176, 109, 177, 178, 179, 180, 181, 182, 183, 184, 185, 186, 187, 188, 189, 190, 137, 138, 139, 191, 192, 142, 193, 144, 194, 195, 147, 196, 154, 155, 156, 133, 157, 158, 197, 198, 199, 200, 201, 202, 203, 204, 205, 206, 207, 208, 257, 258, 259, 260] (by decide +kernel) (by decide +kernel)
set_option maxRecDepth 20000 in
theorem gX12_writeSecret_J4_append_cf468 : GoodIn wsX12_writeSecret (wsV RX12 287 RJ4 yJ4_append_cf468 wsJ4_append_cf468) := goodIn_app (goodIn_of _ (by decide +kernel)) ggX12_writeSecret_J4_append_cf468
set_option maxRecDepth 20000 in
theorem ggX12_writeSecret_X10_need : GoodIn wsX12_writeSecret wsX10_need := goodIn_r _ [212, 213, 248, 249, 250] (by decide +kernel) (by decide +kernel)
set_option maxRecDepth 20000 in
theorem gX12_writeSecret_X10_need : GoodIn wsX12_writeSecret (wsV RX12 158 RX10 yX10_need wsX10_need) := goodIn_app (goodIn_of _ (by decide +kernel)) ggX12_writeSecret_X10_need
set_option maxRecDepth 20000 in
theorem ggX12_writeSecret_X10_isHeldBy : GoodIn wsX12_writeSecret wsX10_isHeldBy := goodIn_ca (goodIn_r _ [217, 218, 248, 249, 250] (by decide +kernel) (by decide +kernel)) (goodIn_sub (fun _ h => List.mem_cons_of_mem _ (List.mem_append_right _ h)) (by decide +kernel))
set_option maxRecDepth 20000 in
theorem gX12_writeSecret_X10_isHeldBy : GoodIn wsX12_writeSecret (wsV RX12 161 RX10 yX10_isHeldBy wsX10_isHeldBy) := goodIn_app (goodIn_of _ (by decide +kernel)) ggX12_writeSecret_X10_isHeldBy
set_option maxRecDepth 20000 in
theorem ggX12_writeSecret_X10_shareWith : GoodIn wsX12_writeSecret wsX10_shareWith := goodIn_ca (goodIn_r _ [222, 218, 248, 249, 250] (by decide +kernel) (by decide +kernel)) (goodIn_sub (fun _ h => List.mem_cons_of_mem _ (List.mem_append_right _ h)) (by decide +kernel))
set_option maxRecDepth 20000 in
theorem gX12_writeSecret_X10_shareWith : GoodIn wsX12_writeSecret (wsV RX12 170 RX10 yX10_shareWith wsX10_shareWith) := goodIn_app (goodIn_of _ (by decide +kernel)) ggX12_writeSecret_X10_shareWith
set_option maxRecDepth 20000 in
theorem ggX12_writeSecret_J4_length_8abf5 : GoodIn wsX12_writeSecret wsJ4_length_8abf5 := goodIn_r _ [226, 227, 228, 34, 229, 36, 230, 41, 257, 258, 259, 260] (by decide +kernel) (by decide +kernel)
set_option maxRecDepth 20000 in
theorem gX12_writeSecret_J4_length_8abf5 : GoodIn wsX12_writeSecret (wsV RX12 290 RJ4 yJ4_length_8abf5 wsJ4_length_8abf5) := goodIn_app (goodIn_of _ (by decide +kernel)) ggX12_writeSecret_J4_length_8abf5
theorem dX12_writeSecret_0 : decode cX12_writeSecret 0 = .ok (.aload_n 0, 1) := by decide +kernel
theorem dX12_writeSecret_1 : decode cX12_writeSecret 1 = .ok (.iload_n 1, 1) := by decide +kernel
theorem dX12_writeSecret_2 : decode cX12_writeSecret 2 = .ok (.invokevirtual 155, 3) := by decide +kernel
theorem dX12_writeSecret_5 : decode cX12_writeSecret 5 = .ok (.astore_n 2, 1) := by decide +kernel
theorem dX12_writeSecret_6 : decode cX12_writeSecret 6 = .ok (.aload_n 0, 1) := by decide +kernel
theorem dX12_writeSecret_7 : decode cX12_writeSecret 7 = .ok (.getfield 58, 3) := by decide +kernel
theorem dX12_writeSecret_10 : decode cX12_writeSecret 10 = .ok (.iconst 0, 1) := by decide +kernel
theorem dX12_writeSecret_11 : decode cX12_writeSecret 11 = .ok (.invokevirtual 280, 3) := by decide +kernel
theorem dX12_writeSecret_14 : decode cX12_writeSecret 14 = .ok (.aload_n 0, 1) := by decide +kernel
theorem dX12_writeSecret_15 : decode cX12_writeSecret 15 = .ok (.getfield 58, 3) := by decide +kernel
theorem dX12_writeSecret_18 : decode cX12_writeSecret 18 = .ok (.aload_n 2, 1) := by decide +kernel
theorem dX12_writeSecret_19 : decode cX12_writeSecret 19 = .ok (.invokevirtual 150, 3) := by decide +kernel
theorem dX12_writeSecret_22 : decode cX12_writeSecret 22 = .ok (.invokevirtual 283, 3) := by decide +kernel
theorem dX12_writeSecret_25 : decode cX12_writeSecret 25 = .ok (.bipush 47, 2) := by decide +kernel
theorem dX12_writeSecret_27 : decode cX12_writeSecret 27 = .ok (.invokevirtual 287, 3) := by decide +kernel
theorem dX12_writeSecret_30 : decode cX12_writeSecret 30 = .ok (.aload_n 2, 1) := by decide +kernel
theorem dX12_writeSecret_31 : decode cX12_writeSecret 31 = .ok (.invokevirtual 158, 3) := by decide +kernel
theorem dX12_writeSecret_34 : decode cX12_writeSecret 34 = .ok (.invokevirtual 283, 3) := by decide +kernel
theorem dX12_writeSecret_37 : decode cX12_writeSecret 37 = .ok (.pop, 1) := by decide +kernel
theorem dX12_writeSecret_38 : decode cX12_writeSecret 38 = .ok (.iconst 0, 1) := by decide +kernel
theorem dX12_writeSecret_39 : decode cX12_writeSecret 39 = .ok (.istore_n 3, 1) := by decide +kernel
theorem dX12_writeSecret_40 : decode cX12_writeSecret 40 = .ok (.iload_n 3, 1) := by decide +kernel
theorem dX12_writeSecret_41 : decode cX12_writeSecret 41 = .ok (.bipush 8, 2) := by decide +kernel
theorem dX12_writeSecret_43 : decode cX12_writeSecret 43 = .ok (.if_icmp .ge 44, 3) := by decide +kernel
theorem dX12_writeSecret_46 : decode cX12_writeSecret 46 = .ok (.aload_n 2, 1) := by decide +kernel
theorem dX12_writeSecret_47 : decode cX12_writeSecret 47 = .ok (.iload_n 3, 1) := by decide +kernel
theorem dX12_writeSecret_48 : decode cX12_writeSecret 48 = .ok (.invokevirtual 161, 3) := by decide +kernel
theorem dX12_writeSecret_51 : decode cX12_writeSecret 51 = .ok (.ifCond .eq 30, 3) := by decide +kernel
theorem dX12_writeSecret_54 : decode cX12_writeSecret 54 = .ok (.aload_n 0, 1) := by decide +kernel
theorem dX12_writeSecret_55 : decode cX12_writeSecret 55 = .ok (.getfield 58, 3) := by decide +kernel
theorem dX12_writeSecret_58 : decode cX12_writeSecret 58 = .ok (.bipush 32, 2) := by decide +kernel
theorem dX12_writeSecret_60 : decode cX12_writeSecret 60 = .ok (.invokevirtual 287, 3) := by decide +kernel
theorem dX12_writeSecret_63 : decode cX12_writeSecret 63 = .ok (.iload_n 3, 1) := by decide +kernel
theorem dX12_writeSecret_64 : decode cX12_writeSecret 64 = .ok (.invokevirtual 283, 3) := by decide +kernel
theorem dX12_writeSecret_67 : decode cX12_writeSecret 67 = .ok (.bipush 58, 2) := by decide +kernel
theorem dX12_writeSecret_69 : decode cX12_writeSecret 69 = .ok (.invokevirtual 287, 3) := by decide +kernel
theorem dX12_writeSecret_72 : decode cX12_writeSecret 72 = .ok (.aload_n 2, 1) := by decide +kernel
theorem dX12_writeSecret_73 : decode cX12_writeSecret 73 = .ok (.iload_n 3, 1) := by decide +kernel
theorem dX12_writeSecret_74 : decode cX12_writeSecret 74 = .ok (.invokevirtual 170, 3) := by decide +kernel
theorem dX12_writeSecret_77 : decode cX12_writeSecret 77 = .ok (.invokevirtual 283, 3) := by decide +kernel
theorem dX12_writeSecret_80 : decode cX12_writeSecret 80 = .ok (.pop, 1) := by decide +kernel
theorem dX12_writeSecret_81 : decode cX12_writeSecret 81 = .ok (.iinc 3 1, 3) := by decide +kernel
theorem dX12_writeSecret_84 : decode cX12_writeSecret 84 = .ok (.goto (-44), 3) := by decide +kernel
theorem dX12_writeSecret_87 : decode cX12_writeSecret 87 = .ok (.aload_n 0, 1) := by decide +kernel
theorem dX12_writeSecret_88 : decode cX12_writeSecret 88 = .ok (.getfield 58, 3) := by decide +kernel
theorem dX12_writeSecret_91 : decode cX12_writeSecret 91 = .ok (.invokevirtual 290, 3) := by decide +kernel
theorem dX12_writeSecret_94 : decode cX12_writeSecret 94 = .ok (.ireturn, 1) := by decide +kernel
set_option maxRecDepth 20000 in
theorem ggX12_writeNests_J4_setLength_d00df : GoodIn wsX12_writeNests wsJ4_setLength_d00df := goodIn_r _ [7, 8, 9, 10, 11, 12, 13, 14, 15, 16, 17, 18, 19, 20, 21, 22, 23, 24, 25, 26, 27, 28, 29, 30, 31, 32, 33, 34, 35, 36, 37, 38, 39, 40, 41, 42, 43, 44, 45, 46, 47, 48, 49, 50, 51, 52, 53, 54, 55, 56, 57, 58, 59, 60, 61, 62, 63, 64, 65, 66, 67, 68, 69, 70, 71, 72, 73, 74, 75, 76, 77, 78, 79, 6, 80, 81, 82, 83, 84, 85, 86, 87, 214, 215, 216, 217, 218, 219, 220, 221, 222, 223, 224, 225, 226, 227, 228, 229] (by decide +kernel) (by decide +kernel)
set_option maxRecDepth 20000 in
theorem gX12_writeNests_J4_setLength_d00df : GoodIn wsX12_writeNests (wsV RX12 280 RJ4 yJ4_setLength_d00df wsJ4_setLength_d00df) := goodIn_app (goodIn_of _ (by decide +kernel)) ggX12_writeNests_J4_setLength_d00df
set_option maxRecDepth 20000 in
theorem ggX12_writeNests_J4_append_cf468 : GoodIn wsX12_writeNests wsJ4_append_cf468 := goodIn_r _ [91, 92, 93, 10, 94, 12, 95, 17, 18, 20, 21, 22, 23, 24, 25, 26, 27, 28, 29, 30, 31, 32, 33, 34, 35, 36, 37, 38, 39, 40, 41, 42, 43, 44, 45, 46, 47, 48, 49, 50, 51, 52, 53, 54, 55, 56, 57, 58, 59, 60, 61, 62, 63, 64, 65, 66, 67, 96, 97, 70, 98, 99, 100, 101, 102, 103, 104, 105, 85, 106, 107, 108, 109, 110, 111, 112, 113, 114, 115, 116, 117, 118, 119, 120, 121, 122, 123, 124, 125, 126, 127, 128, 129, 130, 131, 132, 133, 134, 135, 136, 137, 138, 139, 140, 141, 142, 143, 144, 145, 146, 147, 148, 149, 220, 221, 222, 223] (by decide +kernel) (by decide +kernel)
set_option maxRecDepth 20000 in
theorem gX12_writeNests_J4_append_cf468 : GoodIn wsX12_writeNests (wsV RX12 287 RJ4 yJ4_append_cf468 wsJ4_append_cf468) := goodIn_app (goodIn_of _ (by decide +kernel)) ggX12_writeNests_J4_append_cf468
set_option maxRecDepth 20000 in
theorem ggX12_writeNests_X11_birdTally : GoodIn wsX12_writeNests wsX11_birdTally := goodIn_r _ [154, 155, 230, 231, 232, 233, 234, 235] (by decide +kernel) (by decide +kernel)
set_option maxRecDepth 20000 in
theorem gX12_writeNests_X11_birdTally : GoodIn wsX12_writeNests (wsV RX12 104 RX11 yX11_birdTally wsX11_birdTally) := goodIn_app (goodIn_of _ (by decide +kernel)) ggX12_writeNests_X11_birdTally
set_option maxRecDepth 20000 in
theorem ggX12_writeNests_X11_homeOf : GoodIn wsX12_writeNests wsX11_homeOf := goodIn_ca (goodIn_r _ [159, 160, 230, 231, 232, 233, 234, 235] (by decide +kernel) (by decide +kernel)) (goodIn_sub (fun _ h => List.mem_cons_of_mem _ (List.mem_append_right _ h)) (by decide +kernel))
set_option maxRecDepth 20000 in
theorem gX12_writeNests_X11_homeOf : GoodIn wsX12_writeNests (wsV RX12 112 RX11 yX11_homeOf wsX11_homeOf) := goodIn_app (goodIn_of _ (by decide +kernel)) ggX12_writeNests_X11_homeOf
set_option maxRecDepth 20000 in
theorem ggX12_writeNests_J4_append_bf812 : GoodIn wsX12_writeNests wsJ4_append_bf812 := goodIn_r _ [164, 165, 166, 10, 167, 12, 168, 17, 18, 169, 170, 171, 172, 20, 21, 22, 23, 24, 25, 26, 27, 28, 29, 30, 31, 32, 33, 34, 35, 36, 37, 38, 39, 40, 41, 42, 43, 44, 45, 46, 47, 48, 49, 50, 51, 52, 53, 54, 55, 56, 57, 58, 59, 60, 61, 62, 63, 64, 65, 66, 67, 173, 174, 175, 176, 177, 178, 179, 85, 180, 135, 181, 182, 183, 120, 121, 122, 184, 185, 125, 186, 127, 187, 188, 130, 189, 190, 191, 192, 193, 194, 132, 133, 134, 136, 137, 220, 221, 222, 223] (by decide +kernel) (by decide +kernel)
set_option maxRecDepth 20000 in
theorem gX12_writeNests_J4_append_bf812 : GoodIn wsX12_writeNests (wsV RX12 283 RJ4 yJ4_append_bf812 wsJ4_append_bf812) := goodIn_app (goodIn_of _ (by decide +kernel)) ggX12_writeNests_J4_append_bf812
set_option maxRecDepth 20000 in
theorem ggX12_writeNests_J4_length_8abf5 : GoodIn wsX12_writeNests wsJ4_length_8abf5 := goodIn_r _ [198, 199, 200, 10, 201, 12, 202, 17, 220, 221, 222, 223] (by decide +kernel) (by decide +kernel)
set_option maxRecDepth 20000 in
theorem gX12_writeNests_J4_length_8abf5 : GoodIn wsX12_writeNests (wsV RX12 290 RJ4 yJ4_length_8abf5 wsJ4_length_8abf5) := goodIn_app (goodIn_of _ (by decide +kernel)) ggX12_writeNests_J4_length_8abf5
theorem dX12_writeNests_0 : decode cX12_writeNests 0 = .ok (.aload_n 0, 1) := by decide +kernel
theorem dX12_writeNests_1 : decode cX12_writeNests 1 = .ok (.getfield 58, 3) := by decide +kernel
theorem dX12_writeNests_4 : decode cX12_writeNests 4 = .ok (.iconst 0, 1) := by decide +kernel
theorem dX12_writeNests_5 : decode cX12_writeNests 5 = .ok (.invokevirtual 280, 3) := by decide +kernel
theorem dX12_writeNests_8 : decode cX12_writeNests 8 = .ok (.iconst 0, 1) := by decide +kernel
theorem dX12_writeNests_9 : decode cX12_writeNests 9 = .ok (.istore_n 1, 1) := by decide +kernel
theorem dX12_writeNests_10 : decode cX12_writeNests 10 = .ok (.iload_n 1, 1) := by decide +kernel
theorem dX12_writeNests_11 : decode cX12_writeNests 11 = .ok (.iconst 4, 1) := by decide +kernel
theorem dX12_writeNests_12 : decode cX12_writeNests 12 = .ok (.if_icmp .ge 69, 3) := by decide +kernel
theorem dX12_writeNests_15 : decode cX12_writeNests 15 = .ok (.aload_n 0, 1) := by decide +kernel
theorem dX12_writeNests_16 : decode cX12_writeNests 16 = .ok (.getfield 58, 3) := by decide +kernel
theorem dX12_writeNests_19 : decode cX12_writeNests 19 = .ok (.bipush 91, 2) := by decide +kernel
theorem dX12_writeNests_21 : decode cX12_writeNests 21 = .ok (.invokevirtual 287, 3) := by decide +kernel
theorem dX12_writeNests_24 : decode cX12_writeNests 24 = .ok (.pop, 1) := by decide +kernel
theorem dX12_writeNests_25 : decode cX12_writeNests 25 = .ok (.iconst 0, 1) := by decide +kernel
theorem dX12_writeNests_26 : decode cX12_writeNests 26 = .ok (.istore_n 2, 1) := by decide +kernel
theorem dX12_writeNests_27 : decode cX12_writeNests 27 = .ok (.iload_n 2, 1) := by decide +kernel
theorem dX12_writeNests_28 : decode cX12_writeNests 28 = .ok (.aload_n 0, 1) := by decide +kernel
theorem dX12_writeNests_29 : decode cX12_writeNests 29 = .ok (.getfield 20, 3) := by decide +kernel
theorem dX12_writeNests_32 : decode cX12_writeNests 32 = .ok (.invokevirtual 104, 3) := by decide +kernel
theorem dX12_writeNests_35 : decode cX12_writeNests 35 = .ok (.if_icmp .ge 30, 3) := by decide +kernel
theorem dX12_writeNests_38 : decode cX12_writeNests 38 = .ok (.aload_n 0, 1) := by decide +kernel
theorem dX12_writeNests_39 : decode cX12_writeNests 39 = .ok (.getfield 20, 3) := by decide +kernel
theorem dX12_writeNests_42 : decode cX12_writeNests 42 = .ok (.iload_n 2, 1) := by decide +kernel
theorem dX12_writeNests_43 : decode cX12_writeNests 43 = .ok (.invokevirtual 112, 3) := by decide +kernel
theorem dX12_writeNests_46 : decode cX12_writeNests 46 = .ok (.iload_n 1, 1) := by decide +kernel
theorem dX12_writeNests_47 : decode cX12_writeNests 47 = .ok (.if_icmp .ne 12, 3) := by decide +kernel
theorem dX12_writeNests_50 : decode cX12_writeNests 50 = .ok (.aload_n 0, 1) := by decide +kernel
theorem dX12_writeNests_51 : decode cX12_writeNests 51 = .ok (.getfield 58, 3) := by decide +kernel
theorem dX12_writeNests_54 : decode cX12_writeNests 54 = .ok (.iload_n 2, 1) := by decide +kernel
theorem dX12_writeNests_55 : decode cX12_writeNests 55 = .ok (.invokevirtual 283, 3) := by decide +kernel
theorem dX12_writeNests_58 : decode cX12_writeNests 58 = .ok (.pop, 1) := by decide +kernel
theorem dX12_writeNests_59 : decode cX12_writeNests 59 = .ok (.iinc 2 1, 3) := by decide +kernel
theorem dX12_writeNests_62 : decode cX12_writeNests 62 = .ok (.goto (-35), 3) := by decide +kernel
theorem dX12_writeNests_65 : decode cX12_writeNests 65 = .ok (.aload_n 0, 1) := by decide +kernel
theorem dX12_writeNests_66 : decode cX12_writeNests 66 = .ok (.getfield 58, 3) := by decide +kernel
theorem dX12_writeNests_69 : decode cX12_writeNests 69 = .ok (.bipush 93, 2) := by decide +kernel
theorem dX12_writeNests_71 : decode cX12_writeNests 71 = .ok (.invokevirtual 287, 3) := by decide +kernel
theorem dX12_writeNests_74 : decode cX12_writeNests 74 = .ok (.pop, 1) := by decide +kernel
theorem dX12_writeNests_75 : decode cX12_writeNests 75 = .ok (.iinc 1 1, 3) := by decide +kernel
theorem dX12_writeNests_78 : decode cX12_writeNests 78 = .ok (.goto (-68), 3) := by decide +kernel
theorem dX12_writeNests_81 : decode cX12_writeNests 81 = .ok (.aload_n 0, 1) := by decide +kernel
theorem dX12_writeNests_82 : decode cX12_writeNests 82 = .ok (.getfield 58, 3) := by decide +kernel
theorem dX12_writeNests_85 : decode cX12_writeNests 85 = .ok (.invokevirtual 290, 3) := by decide +kernel
theorem dX12_writeNests_88 : decode cX12_writeNests 88 = .ok (.ireturn, 1) := by decide +kernel
set_option maxRecDepth 20000 in
theorem ggX12_outputAt_J4_length_8abf5 : GoodIn wsX12_outputAt wsJ4_length_8abf5 := goodIn_r _ [8, 9, 10, 11, 12, 13, 14, 15, 60, 61, 62, 63] (by decide +kernel) (by decide +kernel)
set_option maxRecDepth 20000 in
theorem gX12_outputAt_J4_length_8abf5 : GoodIn wsX12_outputAt (wsV RX12 290 RJ4 yJ4_length_8abf5 wsJ4_length_8abf5) := goodIn_app (goodIn_of _ (by decide +kernel)) ggX12_outputAt_J4_length_8abf5
set_option maxRecDepth 20000 in
theorem ggX12_outputAt_J4_charAt_5068e : GoodIn wsX12_outputAt wsJ4_charAt_5068e := goodIn_r _ [19, 20, 21, 11, 22, 13, 23, 24, 25, 15, 26, 27, 28, 29, 30, 31, 32, 33, 34, 35, 36, 37, 38, 39, 40, 41, 42, 43, 44, 45, 46, 47, 48, 60, 61, 62, 63] (by decide +kernel) (by decide +kernel)
set_option maxRecDepth 20000 in
theorem gX12_outputAt_J4_charAt_5068e : GoodIn wsX12_outputAt (wsV RX12 295 RJ4 yJ4_charAt_5068e wsJ4_charAt_5068e) := goodIn_app (goodIn_of _ (by decide +kernel)) ggX12_outputAt_J4_charAt_5068e
theorem dX12_outputAt_0 : decode cX12_outputAt 0 = .ok (.iload_n 1, 1) := by decide +kernel
theorem dX12_outputAt_1 : decode cX12_outputAt 1 = .ok (.ifCond .lt 14, 3) := by decide +kernel
theorem dX12_outputAt_4 : decode cX12_outputAt 4 = .ok (.iload_n 1, 1) := by decide +kernel
theorem dX12_outputAt_5 : decode cX12_outputAt 5 = .ok (.aload_n 0, 1) := by decide +kernel
theorem dX12_outputAt_6 : decode cX12_outputAt 6 = .ok (.getfield 58, 3) := by decide +kernel
theorem dX12_outputAt_9 : decode cX12_outputAt 9 = .ok (.invokevirtual 290, 3) := by decide +kernel
theorem dX12_outputAt_12 : decode cX12_outputAt 12 = .ok (.if_icmp .lt 14, 3) := by decide +kernel
theorem dX12_outputAt_15 : decode cX12_outputAt 15 = .ok (.new 145, 3) := by decide +kernel
theorem dX12_outputAt_18 : decode cX12_outputAt 18 = .ok (.dup, 1) := by decide +kernel
theorem dX12_outputAt_19 : decode cX12_outputAt 19 = .ok (.ldc_w 293, 3) := by decide +kernel
theorem dX12_outputAt_22 : decode cX12_outputAt 22 = .ok (.invokespecial 149, 3) := by decide +kernel
theorem dX12_outputAt_25 : decode cX12_outputAt 25 = .ok (.athrow, 1) := by decide +kernel
theorem dX12_outputAt_26 : decode cX12_outputAt 26 = .ok (.aload_n 0, 1) := by decide +kernel
theorem dX12_outputAt_27 : decode cX12_outputAt 27 = .ok (.getfield 58, 3) := by decide +kernel
theorem dX12_outputAt_30 : decode cX12_outputAt 30 = .ok (.iload_n 1, 1) := by decide +kernel
theorem dX12_outputAt_31 : decode cX12_outputAt 31 = .ok (.invokevirtual 295, 3) := by decide +kernel
theorem dX12_outputAt_34 : decode cX12_outputAt 34 = .ok (.ireturn, 1) := by decide +kernel
set_option maxRecDepth 20000 in
theorem ggX12_save_X11_copyFrom : GoodIn wsX12_save wsX11_copyFrom := goodIn_r _ [8, 9, 10, 11, 12, 13, 14, 15, 16, 17, 18, 19, 20, 21, 22, 23, 24, 25, 26, 27, 39, 40, 41, 42, 43, 44, 45, 46, 47] (by decide +kernel) (by decide +kernel)
set_option maxRecDepth 20000 in
theorem gX12_save_X11_copyFrom : GoodIn wsX12_save (wsV RX12 257 RX11 yX11_copyFrom wsX11_copyFrom) := goodIn_app (goodIn_of _ (by decide +kernel)) ggX12_save_X11_copyFrom
theorem dX12_save_0 : decode cX12_save 0 = .ok (.aload_n 0, 1) := by decide +kernel
theorem dX12_save_1 : decode cX12_save 1 = .ok (.getfield 35, 3) := by decide +kernel
theorem dX12_save_4 : decode cX12_save 4 = .ok (.aload_n 0, 1) := by decide +kernel
theorem dX12_save_5 : decode cX12_save 5 = .ok (.getfield 20, 3) := by decide +kernel
theorem dX12_save_8 : decode cX12_save 8 = .ok (.invokevirtual 257, 3) := by decide +kernel
theorem dX12_save_11 : decode cX12_save 11 = .ok (.aload_n 0, 1) := by decide +kernel
theorem dX12_save_12 : decode cX12_save 12 = .ok (.iconst 1, 1) := by decide +kernel
theorem dX12_save_13 : decode cX12_save 13 = .ok (.putfield 62, 3) := by decide +kernel
theorem dX12_save_16 : decode cX12_save 16 = .ok (.return_, 1) := by decide +kernel
set_option maxRecDepth 20000 in
theorem ggX12_restore_X11_copyFrom : GoodIn wsX12_restore wsX11_copyFrom := goodIn_r _ [11, 12, 13, 14, 15, 16, 17, 18, 19, 20, 21, 22, 23, 24, 25, 26, 27, 28, 29, 30, 48, 49, 50, 51, 52, 53, 54, 55, 56] (by decide +kernel) (by decide +kernel)
set_option maxRecDepth 20000 in
theorem gX12_restore_X11_copyFrom : GoodIn wsX12_restore (wsV RX12 257 RX11 yX11_copyFrom wsX11_copyFrom) := goodIn_app (goodIn_of _ (by decide +kernel)) ggX12_restore_X11_copyFrom
set_option maxRecDepth 20000 in
theorem ggX12_restore_X4_empty : GoodIn wsX12_restore wsX4_empty := goodIn_r _ [35, 36, 57, 58, 59] (by decide +kernel) (by decide +kernel)
set_option maxRecDepth 20000 in
theorem gX12_restore_X4_empty : GoodIn wsX12_restore (wsV RX12 307 RX4 yX4_empty wsX4_empty) := goodIn_app (goodIn_of _ (by decide +kernel)) ggX12_restore_X4_empty
theorem dX12_restore_0 : decode cX12_restore 0 = .ok (.aload_n 0, 1) := by decide +kernel
theorem dX12_restore_1 : decode cX12_restore 1 = .ok (.getfield 62, 3) := by decide +kernel
theorem dX12_restore_4 : decode cX12_restore 4 = .ok (.ifCond .ne 14, 3) := by decide +kernel
theorem dX12_restore_7 : decode cX12_restore 7 = .ok (.new 165, 3) := by decide +kernel
theorem dX12_restore_10 : decode cX12_restore 10 = .ok (.dup, 1) := by decide +kernel
theorem dX12_restore_11 : decode cX12_restore 11 = .ok (.ldc_w 305, 3) := by decide +kernel
theorem dX12_restore_14 : decode cX12_restore 14 = .ok (.invokespecial 169, 3) := by decide +kernel
theorem dX12_restore_17 : decode cX12_restore 17 = .ok (.athrow, 1) := by decide +kernel
theorem dX12_restore_18 : decode cX12_restore 18 = .ok (.aload_n 0, 1) := by decide +kernel
theorem dX12_restore_19 : decode cX12_restore 19 = .ok (.getfield 20, 3) := by decide +kernel
theorem dX12_restore_22 : decode cX12_restore 22 = .ok (.aload_n 0, 1) := by decide +kernel
theorem dX12_restore_23 : decode cX12_restore 23 = .ok (.getfield 35, 3) := by decide +kernel
theorem dX12_restore_26 : decode cX12_restore 26 = .ok (.invokevirtual 257, 3) := by decide +kernel
theorem dX12_restore_29 : decode cX12_restore 29 = .ok (.aload_n 0, 1) := by decide +kernel
theorem dX12_restore_30 : decode cX12_restore 30 = .ok (.getfield 44, 3) := by decide +kernel
theorem dX12_restore_33 : decode cX12_restore 33 = .ok (.invokevirtual 307, 3) := by decide +kernel
theorem dX12_restore_36 : decode cX12_restore 36 = .ok (.return_, 1) := by decide +kernel
set_option maxRecDepth 20000 in
theorem ggX12_change_X1_problemWith : GoodIn wsX12_change wsX1_problemWith := goodIn_ca (goodIn_r _ [8, 9, 10, 11, 12, 13, 14, 15, 16, 17, 18, 19, 20, 21, 22, 7, 23, 24, 25, 26, 27, 28, 29, 30, 31, 32, 33, 34, 35, 36, 37, 38, 39, 40, 41, 42, 43, 44, 45, 46, 47, 48, 49, 50, 51, 52, 53, 54, 55, 56, 57, 58, 59, 60, 61, 62, 63, 64, 65, 66, 67, 68, 69, 70, 71, 72, 73, 74, 75, 76, 77, 78, 79, 80, 81, 82, 83, 84, 85, 86, 87, 88, 89, 90, 91, 92, 93, 94, 95, 96, 97, 98, 99, 100, 101, 102, 103, 104, 105, 106, 261, 262, 263, 264, 265, 266, 267, 268, 269, 270, 271] (by decide +kernel) (by decide +kernel)) (goodIn_sub (fun _ h => List.mem_cons_of_mem _ (List.mem_append_left _ (List.mem_append_left _ (List.mem_append_left _ (List.mem_append_left _ (List.mem_append_left _ (List.mem_append_right _ h))))))) (by decide +kernel))
set_option maxRecDepth 20000 in
theorem gX12_change_X1_problemWith : GoodIn wsX12_change (wsV RX12 308 RX1 yX1_problemWith wsX1_problemWith) := goodIn_app (goodIn_of _ (by decide +kernel)) ggX12_change_X1_problemWith
set_option maxRecDepth 20000 in
theorem ggX12_change_X12_raise : GoodIn wsX12_change wsX12_raise := goodIn_ca (goodIn_ca (goodIn_ca (goodIn_ca (goodIn_ca (goodIn_ca (goodIn_r _ [110, 111, 112, 113, 114, 115, 116, 117, 118, 119, 120, 121, 122, 123, 124, 16, 17, 18, 19] (by decide +kernel) (by decide +kernel)) (goodIn_sub (fun _ h => List.mem_cons_of_mem _ (List.mem_append_left _ (List.mem_append_left _ (List.mem_append_left _ (List.mem_append_left _ (List.mem_append_left _ (List.mem_append_right _ h))))))) (by decide +kernel))) (goodIn_sub (fun _ h => List.mem_cons_of_mem _ (List.mem_append_left _ (List.mem_append_left _ (List.mem_append_left _ (List.mem_append_left _ (List.mem_append_right _ h)))))) (by decide +kernel))) (goodIn_sub (fun _ h => List.mem_cons_of_mem _ (List.mem_append_left _ (List.mem_append_left _ (List.mem_append_left _ (List.mem_append_right _ h))))) (by decide +kernel))) (goodIn_sub (fun _ h => List.mem_cons_of_mem _ (List.mem_append_left _ (List.mem_append_left _ (List.mem_append_right _ h)))) (by decide +kernel))) (goodIn_sub (fun _ h => List.mem_cons_of_mem _ (List.mem_append_left _ (List.mem_append_right _ h))) (by decide +kernel))) (goodIn_sub (fun _ h => List.mem_cons_of_mem _ (List.mem_append_right _ h)) (by decide +kernel))
set_option maxRecDepth 20000 in
theorem gX12_change_X12_raise : GoodIn wsX12_change (va_wsS RX12 312 yX12_raise wsX12_raise) := goodIn_app (goodIn_of _ (by decide +kernel)) ggX12_change_X12_raise
set_option maxRecDepth 20000 in
theorem ggX12_change_X4_remember : GoodIn wsX12_change wsX4_remember := goodIn_r _ [129, 130, 131, 132, 133, 134, 135, 136, 137, 138, 139, 28, 140, 141, 142, 143, 144, 145, 68, 34, 55, 146, 147, 148, 149, 150, 72, 151, 74, 91, 86, 152, 272, 273, 274, 263, 264, 265, 266, 267, 268, 269, 270, 271] (by decide +kernel) (by decide +kernel)
set_option maxRecDepth 20000 in
theorem gX12_change_X4_remember : GoodIn wsX12_change (wsV RX12 273 RX4 yX4_remember wsX4_remember) := goodIn_app (goodIn_of _ (by decide +kernel)) ggX12_change_X4_remember
set_option maxRecDepth 20000 in
theorem ggX12_change_X1_carryOut : GoodIn wsX12_change wsX1_carryOut := goodIn_ca (goodIn_r _ [156, 9, 10, 13, 14, 15, 16, 17, 18, 19, 157, 158, 159, 28, 160, 34, 141, 161, 162, 163, 164, 165, 166, 167, 168, 169, 170, 171, 172, 55, 146, 68, 173, 174, 175, 72, 176, 74, 91, 86, 177, 178, 179, 180, 181, 182, 183, 184, 185, 186, 187, 188, 60, 61, 62, 63, 64, 65, 66, 67, 69, 70, 71, 73, 189, 190, 191, 7, 192, 193, 194, 195, 196, 197, 198, 199, 200, 201, 202, 203, 204, 205, 93, 94, 95, 96, 97, 98, 99, 100, 101, 102, 103, 104, 105, 106, 206, 207, 208, 209, 210, 211, 212, 213, 214, 215, 147, 216, 217, 218, 219, 220, 221, 222, 223, 224, 225, 226, 227, 228, 229, 230, 231, 232, 233, 234, 235, 236, 237, 238, 239, 240, 241, 242, 243, 244, 245, 246, 247, 248, 249, 261, 262, 263, 264, 265, 266, 267, 268, 269, 270, 271, 275, 276, 277, 278, 279] (by decide +kernel) (by decide +kernel)) (goodIn_sub (fun _ h => List.mem_cons_of_mem _ (List.mem_append_left _ (List.mem_append_left _ (List.mem_append_left _ (List.mem_append_left _ (List.mem_append_left _ (List.mem_append_right _ h))))))) (by decide +kernel))
set_option maxRecDepth 20000 in
theorem gX12_change_X1_carryOut : GoodIn wsX12_change (wsV RX12 316 RX1 yX1_carryOut wsX1_carryOut) := goodIn_app (goodIn_of _ (by decide +kernel)) ggX12_change_X1_carryOut
theorem dX12_change_0 : decode cX12_change 0 = .ok (.aload_n 0, 1) := by decide +kernel
theorem dX12_change_1 : decode cX12_change 1 = .ok (.getfield 10, 3) := by decide +kernel
theorem dX12_change_4 : decode cX12_change 4 = .ok (.aload_n 1, 1) := by decide +kernel
theorem dX12_change_5 : decode cX12_change 5 = .ok (.iload_n 2, 1) := by decide +kernel
theorem dX12_change_6 : decode cX12_change 6 = .ok (.iload_n 3, 1) := by decide +kernel
theorem dX12_change_7 : decode cX12_change 7 = .ok (.iload 4, 2) := by decide +kernel
theorem dX12_change_9 : decode cX12_change 9 = .ok (.invokevirtual 308, 3) := by decide +kernel
theorem dX12_change_12 : decode cX12_change 12 = .ok (.invokestatic 312, 3) := by decide +kernel
theorem dX12_change_15 : decode cX12_change 15 = .ok (.aload_n 0, 1) := by decide +kernel
theorem dX12_change_16 : decode cX12_change 16 = .ok (.getfield 44, 3) := by decide +kernel
theorem dX12_change_19 : decode cX12_change 19 = .ok (.aload_n 0, 1) := by decide +kernel
theorem dX12_change_20 : decode cX12_change 20 = .ok (.getfield 20, 3) := by decide +kernel
theorem dX12_change_23 : decode cX12_change 23 = .ok (.invokevirtual 273, 3) := by decide +kernel
theorem dX12_change_26 : decode cX12_change 26 = .ok (.aload_n 0, 1) := by decide +kernel
theorem dX12_change_27 : decode cX12_change 27 = .ok (.getfield 10, 3) := by decide +kernel
theorem dX12_change_30 : decode cX12_change 30 = .ok (.aload_n 1, 1) := by decide +kernel
theorem dX12_change_31 : decode cX12_change 31 = .ok (.iload_n 2, 1) := by decide +kernel
theorem dX12_change_32 : decode cX12_change 32 = .ok (.iload_n 3, 1) := by decide +kernel
theorem dX12_change_33 : decode cX12_change 33 = .ok (.iload 4, 2) := by decide +kernel
theorem dX12_change_35 : decode cX12_change 35 = .ok (.invokevirtual 316, 3) := by decide +kernel
theorem dX12_change_38 : decode cX12_change 38 = .ok (.ireturn, 1) := by decide +kernel
set_option maxRecDepth 20000 in
theorem ggX12_carryOutProgram_X7_rewind : GoodIn wsX12_carryOutProgram wsX7_rewind := goodIn_r _ [8, 9, 324, 325, 326, 327, 328, 329, 330] (by decide +kernel) (by decide +kernel)
set_option maxRecDepth 20000 in
theorem gX12_carryOutProgram_X7_rewind : GoodIn wsX12_carryOutProgram (wsV RX12 319 RX7 yX7_rewind wsX7_rewind) := goodIn_app (goodIn_of _ (by decide +kernel)) ggX12_carryOutProgram_X7_rewind
set_option maxRecDepth 20000 in
theorem ggX12_carryOutProgram_X7_isAtEnd : GoodIn wsX12_carryOutProgram wsX7_isAtEnd := goodIn_r _ [13, 9, 14, 324, 325, 326, 327, 328, 329, 330] (by decide +kernel) (by decide +kernel)
set_option maxRecDepth 20000 in
theorem gX12_carryOutProgram_X7_isAtEnd : GoodIn wsX12_carryOutProgram (wsV RX12 264 RX7 yX7_isAtEnd wsX7_isAtEnd) := goodIn_app (goodIn_of _ (by decide +kernel)) ggX12_carryOutProgram_X7_isAtEnd
set_option maxRecDepth 20000 in
theorem ggX12_carryOutProgram_X7_readCommand : GoodIn wsX12_carryOutProgram wsX7_readCommand := goodIn_ca (goodIn_r _ [18, 9, 19, 20, 21, 22, 23, 24, 25, 26, 27, 28, 29, 30, 31, 32, 33, 7, 34, 35, 36, 37, 38, 39, 40, 41, 42, 43, 44, 45, 46, 47, 48, 49, 50, 51, 52, 53, 54, 55, 56, 57, 58, 59, 60, 61, 62, 63, 64, 65, 66, 67, 68, 69, 70, 71, 72, 73, 74, 75, 76, 77, 78, 79, 80, 81, 82, 83, 84, 85, 86, 87, 88, 89, 90, 91, 92, 93, 14, 94, 95, 96, 97, 324, 325, 326, 327, 328, 329, 330, 331, 332, 333, 334] (by decide +kernel) (by decide +kernel)) (goodIn_sub (fun _ h => List.mem_cons_of_mem _ (List.mem_append_right _ h)) (by decide +kernel))
set_option maxRecDepth 20000 in
theorem gX12_carryOutProgram_X7_readCommand : GoodIn wsX12_carryOutProgram (wsV RX12 322 RX7 yX7_readCommand wsX7_readCommand) := goodIn_app (goodIn_of _ (by decide +kernel)) ggX12_carryOutProgram_X7_readCommand
set_option maxRecDepth 20000 in
theorem ggX12_carryOutProgram_X7_deed : GoodIn wsX12_carryOutProgram wsX7_deed := goodIn_r _ [101, 19, 324, 325, 326, 327, 328, 329, 330] (by decide +kernel) (by decide +kernel)
set_option maxRecDepth 20000 in
theorem gX12_carryOutProgram_X7_deed : GoodIn wsX12_carryOutProgram (wsV RX12 325 RX7 yX7_deed wsX7_deed) := goodIn_app (goodIn_of _ (by decide +kernel)) ggX12_carryOutProgram_X7_deed
set_option maxRecDepth 20000 in
theorem ggX12_carryOutProgram_X7_argument : GoodIn wsX12_carryOutProgram wsX7_argument := goodIn_ca (goodIn_r _ [105, 35, 89, 324, 325, 326, 327, 328, 329, 330] (by decide +kernel) (by decide +kernel)) (goodIn_sub (fun _ h => List.mem_cons_of_mem _ (List.mem_append_right _ h)) (by decide +kernel))
set_option maxRecDepth 20000 in
theorem gX12_carryOutProgram_X7_argument : GoodIn wsX12_carryOutProgram (wsV RX12 329 RX7 yX7_argument wsX7_argument) := goodIn_app (goodIn_of _ (by decide +kernel)) ggX12_carryOutProgram_X7_argument
set_option maxRecDepth 20000 in
theorem ggX12_carryOutProgram_X1_problemWith : GoodIn wsX12_carryOutProgram wsX1_problemWith := goodIn_ca (goodIn_r _ [110, 111, 112, 113, 114, 115, 116, 117, 118, 119, 120, 121, 122, 123, 124, 109, 125, 126, 127, 128, 129, 130, 131, 132, 133, 134, 135, 136, 137, 138, 139, 140, 141, 142, 143, 144, 145, 146, 147, 148, 149, 150, 151, 152, 153, 154, 155, 156, 157, 158, 159, 160, 161, 162, 163, 164, 165, 166, 167, 168, 169, 170, 171, 172, 173, 174, 175, 176, 177, 178, 179, 180, 181, 182, 183, 184, 185, 186, 187, 188, 189, 190, 191, 192, 193, 194, 195, 196, 197, 198, 199, 200, 201, 202, 203, 204, 205, 206, 207, 208, 335, 336, 337, 338, 339, 340, 341, 342, 343, 344, 345] (by decide +kernel) (by decide +kernel)) (goodIn_sub (fun _ h => List.mem_cons_of_mem _ (List.mem_append_right _ h)) (by decide +kernel))
set_option maxRecDepth 20000 in
theorem gX12_carryOutProgram_X1_problemWith : GoodIn wsX12_carryOutProgram (wsV RX12 308 RX1 yX1_problemWith wsX1_problemWith) := goodIn_app (goodIn_of _ (by decide +kernel)) ggX12_carryOutProgram_X1_problemWith
set_option maxRecDepth 20000 in
theorem ggX12_carryOutProgram_X1_carryOut : GoodIn wsX12_carryOutProgram wsX1_carryOut := goodIn_ca (goodIn_r _ [212, 111, 112, 115, 116, 117, 118, 119, 120, 121, 213, 214, 215, 130, 216, 136, 217, 218, 219, 220, 221, 222, 223, 224, 225, 226, 227, 228, 229, 157, 230, 170, 231, 232, 233, 174, 234, 176, 193, 188, 235, 236, 237, 238, 239, 240, 241, 242, 243, 244, 245, 246, 162, 163, 164, 165, 166, 167, 168, 169, 171, 172, 173, 175, 247, 248, 249, 109, 250, 251, 252, 253, 254, 255, 256, 257, 258, 259, 260, 261, 262, 263, 195, 196, 197, 198, 199, 200, 201, 202, 203, 204, 205, 206, 207, 208, 264, 265, 266, 267, 268, 269, 270, 271, 272, 273, 274, 275, 276, 277, 278, 279, 280, 281, 282, 283, 284, 285, 286, 287, 288, 289, 290, 291, 292, 293, 294, 295, 296, 297, 298, 299, 300, 301, 302, 303, 304, 305, 306, 307, 308, 335, 336, 337, 338, 339, 340, 341, 342, 343, 344, 345, 346, 347, 348, 349, 350] (by decide +kernel) (by decide +kernel)) (goodIn_sub (fun _ h => List.mem_cons_of_mem _ (List.mem_append_right _ h)) (by decide +kernel))
set_option maxRecDepth 20000 in
theorem gX12_carryOutProgram_X1_carryOut : GoodIn wsX12_carryOutProgram (wsV RX12 316 RX1 yX1_carryOut wsX1_carryOut) := goodIn_app (goodIn_of _ (by decide +kernel)) ggX12_carryOutProgram_X1_carryOut
set_option maxRecDepth 20000 in
theorem ggX12_carryOutProgram_X7_passCommand : GoodIn wsX12_carryOutProgram wsX7_passCommand := goodIn_r _ [312, 20, 9, 324, 325, 326, 327, 328, 329, 330] (by decide +kernel) (by decide +kernel)
set_option maxRecDepth 20000 in
theorem gX12_carryOutProgram_X7_passCommand : GoodIn wsX12_carryOutProgram (wsV RX12 338 RX7 yX7_passCommand wsX7_passCommand) := goodIn_app (goodIn_of _ (by decide +kernel)) ggX12_carryOutProgram_X7_passCommand
theorem dX12_carryOutProgram_0 : decode cX12_carryOutProgram 0 = .ok (.iconst 0, 1) := by decide +kernel
theorem dX12_carryOutProgram_1 : decode cX12_carryOutProgram 1 = .ok (.istore_n 1, 1) := by decide +kernel
theorem dX12_carryOutProgram_2 : decode cX12_carryOutProgram 2 = .ok (.aload_n 0, 1) := by decide +kernel
theorem dX12_carryOutProgram_3 : decode cX12_carryOutProgram 3 = .ok (.getfield 51, 3) := by decide +kernel
theorem dX12_carryOutProgram_6 : decode cX12_carryOutProgram 6 = .ok (.invokevirtual 319, 3) := by decide +kernel
theorem dX12_carryOutProgram_9 : decode cX12_carryOutProgram 9 = .ok (.iload_n 1, 1) := by decide +kernel
theorem dX12_carryOutProgram_10 : decode cX12_carryOutProgram 10 = .ok (.bipush 60, 2) := by decide +kernel
theorem dX12_carryOutProgram_12 : decode cX12_carryOutProgram 12 = .ok (.if_icmp .ge 106, 3) := by decide +kernel
theorem dX12_carryOutProgram_15 : decode cX12_carryOutProgram 15 = .ok (.aload_n 0, 1) := by decide +kernel
theorem dX12_carryOutProgram_16 : decode cX12_carryOutProgram 16 = .ok (.getfield 51, 3) := by decide +kernel
theorem dX12_carryOutProgram_19 : decode cX12_carryOutProgram 19 = .ok (.invokevirtual 264, 3) := by decide +kernel
theorem dX12_carryOutProgram_22 : decode cX12_carryOutProgram 22 = .ok (.ifCond .ne 96, 3) := by decide +kernel
theorem dX12_carryOutProgram_25 : decode cX12_carryOutProgram 25 = .ok (.aload_n 0, 1) := by decide +kernel
theorem dX12_carryOutProgram_26 : decode cX12_carryOutProgram 26 = .ok (.getfield 51, 3) := by decide +kernel
theorem dX12_carryOutProgram_29 : decode cX12_carryOutProgram 29 = .ok (.invokevirtual 322, 3) := by decide +kernel
theorem dX12_carryOutProgram_32 : decode cX12_carryOutProgram 32 = .ok (.pop, 1) := by decide +kernel
theorem dX12_carryOutProgram_33 : decode cX12_carryOutProgram 33 = .ok (.aload_n 0, 1) := by decide +kernel
theorem dX12_carryOutProgram_34 : decode cX12_carryOutProgram 34 = .ok (.getfield 51, 3) := by decide +kernel
theorem dX12_carryOutProgram_37 : decode cX12_carryOutProgram 37 = .ok (.invokevirtual 325, 3) := by decide +kernel
theorem dX12_carryOutProgram_40 : decode cX12_carryOutProgram 40 = .ok (.astore_n 2, 1) := by decide +kernel
theorem dX12_carryOutProgram_41 : decode cX12_carryOutProgram 41 = .ok (.aload_n 0, 1) := by decide +kernel
theorem dX12_carryOutProgram_42 : decode cX12_carryOutProgram 42 = .ok (.getfield 51, 3) := by decide +kernel
theorem dX12_carryOutProgram_45 : decode cX12_carryOutProgram 45 = .ok (.iconst 0, 1) := by decide +kernel
theorem dX12_carryOutProgram_46 : decode cX12_carryOutProgram 46 = .ok (.invokevirtual 329, 3) := by decide +kernel
theorem dX12_carryOutProgram_49 : decode cX12_carryOutProgram 49 = .ok (.istore_n 3, 1) := by decide +kernel
theorem dX12_carryOutProgram_50 : decode cX12_carryOutProgram 50 = .ok (.aload_n 0, 1) := by decide +kernel
theorem dX12_carryOutProgram_51 : decode cX12_carryOutProgram 51 = .ok (.getfield 51, 3) := by decide +kernel
theorem dX12_carryOutProgram_54 : decode cX12_carryOutProgram 54 = .ok (.iconst 1, 1) := by decide +kernel
theorem dX12_carryOutProgram_55 : decode cX12_carryOutProgram 55 = .ok (.invokevirtual 329, 3) := by decide +kernel
theorem dX12_carryOutProgram_58 : decode cX12_carryOutProgram 58 = .ok (.istore 4, 2) := by decide +kernel
theorem dX12_carryOutProgram_60 : decode cX12_carryOutProgram 60 = .ok (.aload_n 0, 1) := by decide +kernel
theorem dX12_carryOutProgram_61 : decode cX12_carryOutProgram 61 = .ok (.getfield 51, 3) := by decide +kernel
theorem dX12_carryOutProgram_64 : decode cX12_carryOutProgram 64 = .ok (.iconst 2, 1) := by decide +kernel
theorem dX12_carryOutProgram_65 : decode cX12_carryOutProgram 65 = .ok (.invokevirtual 329, 3) := by decide +kernel
theorem dX12_carryOutProgram_68 : decode cX12_carryOutProgram 68 = .ok (.istore 5, 2) := by decide +kernel
theorem dX12_carryOutProgram_70 : decode cX12_carryOutProgram 70 = .ok (.aload_n 0, 1) := by decide +kernel
theorem dX12_carryOutProgram_71 : decode cX12_carryOutProgram 71 = .ok (.getfield 10, 3) := by decide +kernel
theorem dX12_carryOutProgram_74 : decode cX12_carryOutProgram 74 = .ok (.aload_n 2, 1) := by decide +kernel
theorem dX12_carryOutProgram_75 : decode cX12_carryOutProgram 75 = .ok (.iload_n 3, 1) := by decide +kernel
theorem dX12_carryOutProgram_76 : decode cX12_carryOutProgram 76 = .ok (.iload 4, 2) := by decide +kernel
theorem dX12_carryOutProgram_78 : decode cX12_carryOutProgram 78 = .ok (.iload 5, 2) := by decide +kernel
theorem dX12_carryOutProgram_80 : decode cX12_carryOutProgram 80 = .ok (.invokevirtual 308, 3) := by decide +kernel
theorem dX12_carryOutProgram_83 : decode cX12_carryOutProgram 83 = .ok (.getstatic 332, 3) := by decide +kernel
theorem dX12_carryOutProgram_86 : decode cX12_carryOutProgram 86 = .ok (.if_acmp .eq 5, 3) := by decide +kernel
theorem dX12_carryOutProgram_89 : decode cX12_carryOutProgram 89 = .ok (.iload_n 1, 1) := by decide +kernel
theorem dX12_carryOutProgram_90 : decode cX12_carryOutProgram 90 = .ok (.ireturn, 1) := by decide +kernel
theorem dX12_carryOutProgram_91 : decode cX12_carryOutProgram 91 = .ok (.aload_n 0, 1) := by decide +kernel
theorem dX12_carryOutProgram_92 : decode cX12_carryOutProgram 92 = .ok (.getfield 10, 3) := by decide +kernel
theorem dX12_carryOutProgram_95 : decode cX12_carryOutProgram 95 = .ok (.aload_n 2, 1) := by decide +kernel
theorem dX12_carryOutProgram_96 : decode cX12_carryOutProgram 96 = .ok (.iload_n 3, 1) := by decide +kernel
theorem dX12_carryOutProgram_97 : decode cX12_carryOutProgram 97 = .ok (.iload 4, 2) := by decide +kernel
theorem dX12_carryOutProgram_99 : decode cX12_carryOutProgram 99 = .ok (.iload 5, 2) := by decide +kernel
theorem dX12_carryOutProgram_101 : decode cX12_carryOutProgram 101 = .ok (.invokevirtual 316, 3) := by decide +kernel
theorem dX12_carryOutProgram_104 : decode cX12_carryOutProgram 104 = .ok (.pop, 1) := by decide +kernel
theorem dX12_carryOutProgram_105 : decode cX12_carryOutProgram 105 = .ok (.aload_n 0, 1) := by decide +kernel
theorem dX12_carryOutProgram_106 : decode cX12_carryOutProgram 106 = .ok (.getfield 51, 3) := by decide +kernel
theorem dX12_carryOutProgram_109 : decode cX12_carryOutProgram 109 = .ok (.invokevirtual 338, 3) := by decide +kernel
theorem dX12_carryOutProgram_112 : decode cX12_carryOutProgram 112 = .ok (.iinc 1 1, 3) := by decide +kernel
theorem dX12_carryOutProgram_115 : decode cX12_carryOutProgram 115 = .ok (.goto (-106), 3) := by decide +kernel
theorem dX12_carryOutProgram_118 : decode cX12_carryOutProgram 118 = .ok (.iload_n 1, 1) := by decide +kernel
theorem dX12_carryOutProgram_119 : decode cX12_carryOutProgram 119 = .ok (.ireturn, 1) := by decide +kernel
set_option maxRecDepth 20000 in
theorem ggX12_raise_Jx29ce0_ordinal_8abf5 : GoodIn wsX12_raise wsJx29ce0_ordinal_8abf5 := goodIn_r _ [17, 18] (by decide +kernel) (by decide +kernel)
set_option maxRecDepth 20000 in
theorem gX12_raise_Jx29ce0_ordinal_8abf5_u347X6 : GoodIn wsX12_raise (va_wsU RX12 347 RX6 "java/lang/Enum" ⟨"FeatherShares$Problem", "ordinal", "()I"⟩ yJx29ce0_ordinal_8abf5 wsJx29ce0_ordinal_8abf5) := goodIn_app (goodIn_of _ (by decide +kernel)) ggX12_raise_Jx29ce0_ordinal_8abf5
theorem dX12_raise_0 : decode cX12_raise 0 = .ok (.getstatic 341, 3) := by decide +kernel
theorem dX12_raise_3 : decode cX12_raise 3 = .ok (.aload_n 0, 1) := by decide +kernel
theorem dX12_raise_4 : decode cX12_raise 4 = .ok (.invokevirtual 347, 3) := by decide +kernel
theorem dX12_raise_7 : decode cX12_raise 7 = .ok (.iaload, 1) := by decide +kernel
theorem dX12_raise_8 : decode cX12_raise 8 = .ok (.tableswitch 91 1 5 #[36, 47, 58, 69, 80], 36) := by decide +kernel
theorem dX12_raise_44 : decode cX12_raise 44 = .ok (.new 209, 3) := by decide +kernel
theorem dX12_raise_47 : decode cX12_raise 47 = .ok (.dup, 1) := by decide +kernel
theorem dX12_raise_48 : decode cX12_raise 48 = .ok (.ldc_w 350, 3) := by decide +kernel
theorem dX12_raise_51 : decode cX12_raise 51 = .ok (.invokespecial 213, 3) := by decide +kernel
theorem dX12_raise_54 : decode cX12_raise 54 = .ok (.athrow, 1) := by decide +kernel
theorem dX12_raise_55 : decode cX12_raise 55 = .ok (.new 145, 3) := by decide +kernel
theorem dX12_raise_58 : decode cX12_raise 58 = .ok (.dup, 1) := by decide +kernel
theorem dX12_raise_59 : decode cX12_raise 59 = .ok (.ldc_w 352, 3) := by decide +kernel
theorem dX12_raise_62 : decode cX12_raise 62 = .ok (.invokespecial 149, 3) := by decide +kernel
theorem dX12_raise_65 : decode cX12_raise 65 = .ok (.athrow, 1) := by decide +kernel
theorem dX12_raise_66 : decode cX12_raise 66 = .ok (.new 125, 3) := by decide +kernel
theorem dX12_raise_69 : decode cX12_raise 69 = .ok (.dup, 1) := by decide +kernel
theorem dX12_raise_70 : decode cX12_raise 70 = .ok (.ldc_w 354, 3) := by decide +kernel
theorem dX12_raise_73 : decode cX12_raise 73 = .ok (.invokespecial 129, 3) := by decide +kernel
theorem dX12_raise_76 : decode cX12_raise 76 = .ok (.athrow, 1) := by decide +kernel
theorem dX12_raise_77 : decode cX12_raise 77 = .ok (.new 165, 3) := by decide +kernel
theorem dX12_raise_80 : decode cX12_raise 80 = .ok (.dup, 1) := by decide +kernel
theorem dX12_raise_81 : decode cX12_raise 81 = .ok (.ldc_w 356, 3) := by decide +kernel
theorem dX12_raise_84 : decode cX12_raise 84 = .ok (.invokespecial 169, 3) := by decide +kernel
theorem dX12_raise_87 : decode cX12_raise 87 = .ok (.athrow, 1) := by decide +kernel
theorem dX12_raise_88 : decode cX12_raise 88 = .ok (.new 268, 3) := by decide +kernel
theorem dX12_raise_91 : decode cX12_raise 91 = .ok (.dup, 1) := by decide +kernel
theorem dX12_raise_92 : decode cX12_raise 92 = .ok (.ldc_w 358, 3) := by decide +kernel
theorem dX12_raise_95 : decode cX12_raise 95 = .ok (.invokespecial 272, 3) := by decide +kernel
theorem dX12_raise_98 : decode cX12_raise 98 = .ok (.athrow, 1) := by decide +kernel
theorem dX12_raise_99 : decode cX12_raise 99 = .ok (.return_, 1) := by decide +kernel
set_option maxRecDepth 20000 in
theorem ggX12_requireBird_X11_hasBird : GoodIn wsX12_requireBird wsX11_hasBird := goodIn_r _ [8, 9, 21, 22, 23, 24, 25, 26] (by decide +kernel) (by decide +kernel)
set_option maxRecDepth 20000 in
theorem gX12_requireBird_X11_hasBird : GoodIn wsX12_requireBird (wsV RX12 360 RX11 yX11_hasBird wsX11_hasBird) := goodIn_app (goodIn_of _ (by decide +kernel)) ggX12_requireBird_X11_hasBird
theorem dX12_requireBird_0 : decode cX12_requireBird 0 = .ok (.aload_n 0, 1) := by decide +kernel
theorem dX12_requireBird_1 : decode cX12_requireBird 1 = .ok (.getfield 20, 3) := by decide +kernel
theorem dX12_requireBird_4 : decode cX12_requireBird 4 = .ok (.iload_n 1, 1) := by decide +kernel
theorem dX12_requireBird_5 : decode cX12_requireBird 5 = .ok (.invokevirtual 360, 3) := by decide +kernel
theorem dX12_requireBird_8 : decode cX12_requireBird 8 = .ok (.ifCond .ne 14, 3) := by decide +kernel
theorem dX12_requireBird_11 : decode cX12_requireBird 11 = .ok (.new 145, 3) := by decide +kernel
theorem dX12_requireBird_14 : decode cX12_requireBird 14 = .ok (.dup, 1) := by decide +kernel
theorem dX12_requireBird_15 : decode cX12_requireBird 15 = .ok (.ldc_w 352, 3) := by decide +kernel
theorem dX12_requireBird_18 : decode cX12_requireBird 18 = .ok (.invokespecial 149, 3) := by decide +kernel
theorem dX12_requireBird_21 : decode cX12_requireBird 21 = .ok (.athrow, 1) := by decide +kernel
theorem dX12_requireBird_22 : decode cX12_requireBird 22 = .ok (.return_, 1) := by decide +kernel
set_option maxRecDepth 20000 in
theorem ggX12_requireNest_X11_isNest : GoodIn wsX12_requireNest wsX11_isNest := goodIn_r _ [6] (by decide +kernel) (by decide +kernel)
set_option maxRecDepth 20000 in
theorem gX12_requireNest_X11_isNest : GoodIn wsX12_requireNest (va_wsS RX12 363 yX11_isNest wsX11_isNest) := goodIn_app (goodIn_of _ (by decide +kernel)) ggX12_requireNest_X11_isNest
theorem dX12_requireNest_0 : decode cX12_requireNest 0 = .ok (.iload_n 0, 1) := by decide +kernel
theorem dX12_requireNest_1 : decode cX12_requireNest 1 = .ok (.invokestatic 363, 3) := by decide +kernel
theorem dX12_requireNest_4 : decode cX12_requireNest 4 = .ok (.ifCond .ne 14, 3) := by decide +kernel
theorem dX12_requireNest_7 : decode cX12_requireNest 7 = .ok (.new 209, 3) := by decide +kernel
theorem dX12_requireNest_10 : decode cX12_requireNest 10 = .ok (.dup, 1) := by decide +kernel
theorem dX12_requireNest_11 : decode cX12_requireNest 11 = .ok (.ldc_w 366, 3) := by decide +kernel
theorem dX12_requireNest_14 : decode cX12_requireNest 14 = .ok (.invokespecial 213, 3) := by decide +kernel
theorem dX12_requireNest_17 : decode cX12_requireNest 17 = .ok (.athrow, 1) := by decide +kernel
theorem dX12_requireNest_18 : decode cX12_requireNest 18 = .ok (.return_, 1) := by decide +kernel
set_option maxRecDepth 20000 in
theorem ggX12_existing_X11_find : GoodIn wsX12_existing wsX11_find := goodIn_r _ [8, 9, 10, 11, 7, 12, 13, 14, 15, 16, 17, 18, 19, 20, 32, 33, 34, 35, 36, 37, 38, 39, 40] (by decide +kernel) (by decide +kernel)
set_option maxRecDepth 20000 in
theorem gX12_existing_X11_find : GoodIn wsX12_existing (wsV RX12 138 RX11 yX11_find wsX11_find) := goodIn_app (goodIn_of _ (by decide +kernel)) ggX12_existing_X11_find
theorem dX12_existing_0 : decode cX12_existing 0 = .ok (.aload_n 0, 1) := by decide +kernel
theorem dX12_existing_1 : decode cX12_existing 1 = .ok (.getfield 20, 3) := by decide +kernel
theorem dX12_existing_4 : decode cX12_existing 4 = .ok (.iload_n 1, 1) := by decide +kernel
theorem dX12_existing_5 : decode cX12_existing 5 = .ok (.invokevirtual 138, 3) := by decide +kernel
theorem dX12_existing_8 : decode cX12_existing 8 = .ok (.astore_n 2, 1) := by decide +kernel
theorem dX12_existing_9 : decode cX12_existing 9 = .ok (.aload_n 2, 1) := by decide +kernel
theorem dX12_existing_10 : decode cX12_existing 10 = .ok (.ifnonnull 14, 3) := by decide +kernel
theorem dX12_existing_13 : decode cX12_existing 13 = .ok (.new 125, 3) := by decide +kernel
theorem dX12_existing_16 : decode cX12_existing 16 = .ok (.dup, 1) := by decide +kernel
theorem dX12_existing_17 : decode cX12_existing 17 = .ok (.ldc_w 354, 3) := by decide +kernel
theorem dX12_existing_20 : decode cX12_existing 20 = .ok (.invokespecial 129, 3) := by decide +kernel
theorem dX12_existing_23 : decode cX12_existing 23 = .ok (.athrow, 1) := by decide +kernel
theorem dX12_existing_24 : decode cX12_existing 24 = .ok (.aload_n 2, 1) := by decide +kernel
theorem dX12_existing_25 : decode cX12_existing 25 = .ok (.areturn, 1) := by decide +kernel
set_option maxRecDepth 20000 in
theorem ggX12_rebuildable_X12_existing : GoodIn wsX12_rebuildable wsX12_existing := goodIn_ca (goodIn_r _ [7, 8, 9, 10, 11, 12, 13, 14, 15, 16, 17, 18, 19, 20, 21, 22, 23, 24, 25, 26, 27, 49, 50, 51, 52, 53, 54, 55, 56, 57, 58, 59, 60, 61, 62, 63, 64, 65, 66, 67, 68] (by decide +kernel) (by decide +kernel)) (goodIn_sub (fun _ h => List.mem_cons_of_mem _ (List.mem_append_left _ (List.mem_append_right _ h))) (by decide +kernel))
set_option maxRecDepth 20000 in
theorem gX12_rebuildable_X12_existing : GoodIn wsX12_rebuildable (wsV RX12 155 RX12 yX12_existing wsX12_existing) := goodIn_app (goodIn_of _ (by decide +kernel)) ggX12_rebuildable_X12_existing
set_option maxRecDepth 20000 in
theorem ggX12_rebuildable_X10_isRebuildable : GoodIn wsX12_rebuildable wsX10_isRebuildable := goodIn_ca (goodIn_r _ [31, 32, 33, 34, 35, 25, 36, 37, 38, 39, 40, 41, 42, 43, 44, 45, 46, 47, 48, 66, 67, 68] (by decide +kernel) (by decide +kernel)) (goodIn_sub (fun _ h => List.mem_cons_of_mem _ (List.mem_append_right _ h)) (by decide +kernel))
set_option maxRecDepth 20000 in
theorem gX12_rebuildable_X10_isRebuildable : GoodIn wsX12_rebuildable (wsV RX12 368 RX10 yX10_isRebuildable wsX10_isRebuildable) := goodIn_app (goodIn_of _ (by decide +kernel)) ggX12_rebuildable_X10_isRebuildable
theorem dX12_rebuildable_0 : decode cX12_rebuildable 0 = .ok (.aload_n 0, 1) := by decide +kernel
theorem dX12_rebuildable_1 : decode cX12_rebuildable 1 = .ok (.iload_n 1, 1) := by decide +kernel
theorem dX12_rebuildable_2 : decode cX12_rebuildable 2 = .ok (.invokevirtual 155, 3) := by decide +kernel
theorem dX12_rebuildable_5 : decode cX12_rebuildable 5 = .ok (.astore_n 2, 1) := by decide +kernel
theorem dX12_rebuildable_6 : decode cX12_rebuildable 6 = .ok (.aload_n 2, 1) := by decide +kernel
theorem dX12_rebuildable_7 : decode cX12_rebuildable 7 = .ok (.invokevirtual 368, 3) := by decide +kernel
theorem dX12_rebuildable_10 : decode cX12_rebuildable 10 = .ok (.ifCond .ne 14, 3) := by decide +kernel
theorem dX12_rebuildable_13 : decode cX12_rebuildable 13 = .ok (.new 165, 3) := by decide +kernel
theorem dX12_rebuildable_16 : decode cX12_rebuildable 16 = .ok (.dup, 1) := by decide +kernel
theorem dX12_rebuildable_17 : decode cX12_rebuildable 17 = .ok (.ldc_w 358, 3) := by decide +kernel
theorem dX12_rebuildable_20 : decode cX12_rebuildable 20 = .ok (.invokespecial 169, 3) := by decide +kernel
theorem dX12_rebuildable_23 : decode cX12_rebuildable 23 = .ok (.athrow, 1) := by decide +kernel
theorem dX12_rebuildable_24 : decode cX12_rebuildable 24 = .ok (.aload_n 2, 1) := by decide +kernel
theorem dX12_rebuildable_25 : decode cX12_rebuildable 25 = .ok (.areturn, 1) := by decide +kernel
set_option maxRecDepth 20000 in
theorem ggX12_withKnown_X12_existing : GoodIn wsX12_withKnown wsX12_existing := goodIn_ca (goodIn_r _ [7, 8, 9, 10, 11, 12, 13, 14, 15, 16, 17, 18, 19, 20, 21, 22, 23, 24, 25, 26, 27, 44, 45, 46, 47, 48, 49, 50, 51, 52, 53, 54, 55, 56, 57, 58, 59, 60, 61, 62, 63] (by decide +kernel) (by decide +kernel)) (goodIn_sub (fun _ h => List.mem_cons_of_mem _ (List.mem_append_left _ (List.mem_append_right _ h))) (by decide +kernel))
set_option maxRecDepth 20000 in
theorem gX12_withKnown_X12_existing : GoodIn wsX12_withKnown (wsV RX12 155 RX12 yX12_existing wsX12_existing) := goodIn_app (goodIn_of _ (by decide +kernel)) ggX12_withKnown_X12_existing
set_option maxRecDepth 20000 in
theorem ggX12_withKnown_X10_holderTally : GoodIn wsX12_withKnown wsX10_holderTally := goodIn_ca (goodIn_r _ [31, 32, 33, 34, 25, 35, 36, 37, 38, 39, 40, 41, 42, 43, 61, 62, 63] (by decide +kernel) (by decide +kernel)) (goodIn_sub (fun _ h => List.mem_cons_of_mem _ (List.mem_append_right _ h)) (by decide +kernel))
set_option maxRecDepth 20000 in
theorem gX12_withKnown_X10_holderTally : GoodIn wsX12_withKnown (wsV RX12 173 RX10 yX10_holderTally wsX10_holderTally) := goodIn_app (goodIn_of _ (by decide +kernel)) ggX12_withKnown_X10_holderTally
theorem dX12_withKnown_0 : decode cX12_withKnown 0 = .ok (.aload_n 0, 1) := by decide +kernel
theorem dX12_withKnown_1 : decode cX12_withKnown 1 = .ok (.iload_n 1, 1) := by decide +kernel
theorem dX12_withKnown_2 : decode cX12_withKnown 2 = .ok (.invokevirtual 155, 3) := by decide +kernel
theorem dX12_withKnown_5 : decode cX12_withKnown 5 = .ok (.astore_n 3, 1) := by decide +kernel
theorem dX12_withKnown_6 : decode cX12_withKnown 6 = .ok (.iload_n 2, 1) := by decide +kernel
theorem dX12_withKnown_7 : decode cX12_withKnown 7 = .ok (.ifCond .lt 11, 3) := by decide +kernel
theorem dX12_withKnown_10 : decode cX12_withKnown 10 = .ok (.iload_n 2, 1) := by decide +kernel
theorem dX12_withKnown_11 : decode cX12_withKnown 11 = .ok (.aload_n 3, 1) := by decide +kernel
theorem dX12_withKnown_12 : decode cX12_withKnown 12 = .ok (.invokevirtual 173, 3) := by decide +kernel
theorem dX12_withKnown_15 : decode cX12_withKnown 15 = .ok (.if_icmp .le 14, 3) := by decide +kernel
theorem dX12_withKnown_18 : decode cX12_withKnown 18 = .ok (.new 209, 3) := by decide +kernel
theorem dX12_withKnown_21 : decode cX12_withKnown 21 = .ok (.dup, 1) := by decide +kernel
theorem dX12_withKnown_22 : decode cX12_withKnown 22 = .ok (.ldc_w 371, 3) := by decide +kernel
theorem dX12_withKnown_25 : decode cX12_withKnown 25 = .ok (.invokespecial 213, 3) := by decide +kernel
theorem dX12_withKnown_28 : decode cX12_withKnown 28 = .ok (.athrow, 1) := by decide +kernel
theorem dX12_withKnown_29 : decode cX12_withKnown 29 = .ok (.aload_n 3, 1) := by decide +kernel
theorem dX12_withKnown_30 : decode cX12_withKnown 30 = .ok (.areturn, 1) := by decide +kernel
