theorem dX13_init_0 : decode cX13_init 0 = .ok (.aload_n 0, 1) := by decide +kernel
theorem dX13_init_1 : decode cX13_init 1 = .ok (.invokespecial 3, 3) := by decide +kernel
theorem dX13_init_4 : decode cX13_init 4 = .ok (.aload_n 0, 1) := by decide +kernel
theorem dX13_init_5 : decode cX13_init 5 = .ok (.bipush 72, 2) := by decide +kernel
theorem dX13_init_7 : decode cX13_init 7 = .ok (.newarray .int, 2) := by decide +kernel
theorem dX13_init_9 : decode cX13_init 9 = .ok (.putfield 9, 3) := by decide +kernel
theorem dX13_init_12 : decode cX13_init 12 = .ok (.aload_n 0, 1) := by decide +kernel
theorem dX13_init_13 : decode cX13_init 13 = .ok (.bipush 72, 2) := by decide +kernel
theorem dX13_init_15 : decode cX13_init 15 = .ok (.newarray .int, 2) := by decide +kernel
theorem dX13_init_17 : decode cX13_init 17 = .ok (.putfield 13, 3) := by decide +kernel
theorem dX13_init_20 : decode cX13_init 20 = .ok (.aload_n 0, 1) := by decide +kernel
theorem dX13_init_21 : decode cX13_init 21 = .ok (.bipush 72, 2) := by decide +kernel
theorem dX13_init_23 : decode cX13_init 23 = .ok (.newarray .int, 2) := by decide +kernel
theorem dX13_init_25 : decode cX13_init 25 = .ok (.putfield 16, 3) := by decide +kernel
theorem dX13_init_28 : decode cX13_init 28 = .ok (.aload_n 0, 1) := by decide +kernel
theorem dX13_init_29 : decode cX13_init 29 = .ok (.sipush 576, 3) := by decide +kernel
theorem dX13_init_32 : decode cX13_init 32 = .ok (.newarray .int, 2) := by decide +kernel
theorem dX13_init_34 : decode cX13_init 34 = .ok (.putfield 19, 3) := by decide +kernel
theorem dX13_init_37 : decode cX13_init 37 = .ok (.aload_n 0, 1) := by decide +kernel
theorem dX13_init_38 : decode cX13_init 38 = .ok (.iconst (-1), 1) := by decide +kernel
theorem dX13_init_39 : decode cX13_init 39 = .ok (.putfield 22, 3) := by decide +kernel
theorem dX13_init_42 : decode cX13_init 42 = .ok (.aload_n 0, 1) := by decide +kernel
theorem dX13_init_43 : decode cX13_init 43 = .ok (.iconst (-1), 1) := by decide +kernel
theorem dX13_init_44 : decode cX13_init 44 = .ok (.putfield 26, 3) := by decide +kernel
theorem dX13_init_47 : decode cX13_init 47 = .ok (.aload_n 0, 1) := by decide +kernel
theorem dX13_init_48 : decode cX13_init 48 = .ok (.bipush 60, 2) := by decide +kernel
theorem dX13_init_50 : decode cX13_init 50 = .ok (.newarray .int, 2) := by decide +kernel
theorem dX13_init_52 : decode cX13_init 52 = .ok (.putfield 29, 3) := by decide +kernel
theorem dX13_init_55 : decode cX13_init 55 = .ok (.aload_n 0, 1) := by decide +kernel
theorem dX13_init_56 : decode cX13_init 56 = .ok (.bipush 80, 2) := by decide +kernel
theorem dX13_init_58 : decode cX13_init 58 = .ok (.newarray .int, 2) := by decide +kernel
theorem dX13_init_60 : decode cX13_init 60 = .ok (.putfield 32, 3) := by decide +kernel
theorem dX13_init_63 : decode cX13_init 63 = .ok (.aload_n 0, 1) := by decide +kernel
theorem dX13_init_64 : decode cX13_init 64 = .ok (.bipush 120, 2) := by decide +kernel
theorem dX13_init_66 : decode cX13_init 66 = .ok (.newarray .int, 2) := by decide +kernel
theorem dX13_init_68 : decode cX13_init 68 = .ok (.putfield 35, 3) := by decide +kernel
theorem dX13_init_71 : decode cX13_init 71 = .ok (.return_, 1) := by decide +kernel
theorem dX13_thrown_0 : decode cX13_thrown 0 = .ok (.aload_n 0, 1) := by decide +kernel
theorem dX13_thrown_1 : decode cX13_thrown 1 = .ok (.getfield 38, 3) := by decide +kernel
theorem dX13_thrown_4 : decode cX13_thrown 4 = .ok (.ireturn, 1) := by decide +kernel
theorem dX13_isIn_0 : decode cX13_isIn 0 = .ok (.iload_n 0, 1) := by decide +kernel
theorem dX13_isIn_1 : decode cX13_isIn 1 = .ok (.iload_n 1, 1) := by decide +kernel
theorem dX13_isIn_2 : decode cX13_isIn 2 = .ok (.if_icmp .lt 12, 3) := by decide +kernel
theorem dX13_isIn_5 : decode cX13_isIn 5 = .ok (.iload_n 0, 1) := by decide +kernel
theorem dX13_isIn_6 : decode cX13_isIn 6 = .ok (.iload_n 2, 1) := by decide +kernel
theorem dX13_isIn_7 : decode cX13_isIn 7 = .ok (.if_icmp .gt 7, 3) := by decide +kernel
theorem dX13_isIn_10 : decode cX13_isIn 10 = .ok (.iconst 1, 1) := by decide +kernel
theorem dX13_isIn_11 : decode cX13_isIn 11 = .ok (.goto 4, 3) := by decide +kernel
theorem dX13_isIn_14 : decode cX13_isIn 14 = .ok (.iconst 0, 1) := by decide +kernel
theorem dX13_isIn_15 : decode cX13_isIn 15 = .ok (.ireturn, 1) := by decide +kernel
theorem dX13_copies_0 : decode cX13_copies 0 = .ok (.iconst 0, 1) := by decide +kernel
theorem dX13_copies_1 : decode cX13_copies 1 = .ok (.istore 4, 2) := by decide +kernel
theorem dX13_copies_3 : decode cX13_copies 3 = .ok (.iload 4, 2) := by decide +kernel
theorem dX13_copies_5 : decode cX13_copies 5 = .ok (.bipush 72, 2) := by decide +kernel
theorem dX13_copies_7 : decode cX13_copies 7 = .ok (.if_icmp .ge 21, 3) := by decide +kernel
theorem dX13_copies_10 : decode cX13_copies 10 = .ok (.aload_n 2, 1) := by decide +kernel
theorem dX13_copies_11 : decode cX13_copies 11 = .ok (.iload_n 3, 1) := by decide +kernel
theorem dX13_copies_12 : decode cX13_copies 12 = .ok (.iload 4, 2) := by decide +kernel
theorem dX13_copies_14 : decode cX13_copies 14 = .ok (.iadd, 1) := by decide +kernel
theorem dX13_copies_15 : decode cX13_copies 15 = .ok (.aload_n 0, 1) := by decide +kernel
theorem dX13_copies_16 : decode cX13_copies 16 = .ok (.iload_n 1, 1) := by decide +kernel
theorem dX13_copies_17 : decode cX13_copies 17 = .ok (.iload 4, 2) := by decide +kernel
theorem dX13_copies_19 : decode cX13_copies 19 = .ok (.iadd, 1) := by decide +kernel
theorem dX13_copies_20 : decode cX13_copies 20 = .ok (.iaload, 1) := by decide +kernel
theorem dX13_copies_21 : decode cX13_copies 21 = .ok (.iastore, 1) := by decide +kernel
theorem dX13_copies_22 : decode cX13_copies 22 = .ok (.iinc 4 1, 3) := by decide +kernel
theorem dX13_copies_25 : decode cX13_copies 25 = .ok (.goto (-22), 3) := by decide +kernel
theorem dX13_copies_28 : decode cX13_copies 28 = .ok (.return_, 1) := by decide +kernel
theorem dX13_allows_0 : decode cX13_allows 0 = .ok (.aload_n 0, 1) := by decide +kernel
theorem dX13_allows_1 : decode cX13_allows 1 = .ok (.iload_n 1, 1) := by decide +kernel
theorem dX13_allows_2 : decode cX13_allows 2 = .ok (.ifCond .ne 7, 3) := by decide +kernel
theorem dX13_allows_5 : decode cX13_allows 5 = .ok (.iconst 1, 1) := by decide +kernel
theorem dX13_allows_6 : decode cX13_allows 6 = .ok (.goto 29, 3) := by decide +kernel
theorem dX13_allows_9 : decode cX13_allows 9 = .ok (.iload_n 2, 1) := by decide +kernel
theorem dX13_allows_10 : decode cX13_allows 10 = .ok (.ifCond .ne 7, 3) := by decide +kernel
theorem dX13_allows_13 : decode cX13_allows 13 = .ok (.iconst 2, 1) := by decide +kernel
theorem dX13_allows_14 : decode cX13_allows 14 = .ok (.goto 21, 3) := by decide +kernel
theorem dX13_allows_17 : decode cX13_allows 17 = .ok (.iload_n 3, 1) := by decide +kernel
theorem dX13_allows_18 : decode cX13_allows 18 = .ok (.ifCond .ne 7, 3) := by decide +kernel
theorem dX13_allows_21 : decode cX13_allows 21 = .ok (.iconst 3, 1) := by decide +kernel
theorem dX13_allows_22 : decode cX13_allows 22 = .ok (.goto 13, 3) := by decide +kernel
theorem dX13_allows_25 : decode cX13_allows 25 = .ok (.iload 4, 2) := by decide +kernel
theorem dX13_allows_27 : decode cX13_allows 27 = .ok (.ifCond .ne 7, 3) := by decide +kernel
theorem dX13_allows_30 : decode cX13_allows 30 = .ok (.iconst 4, 1) := by decide +kernel
theorem dX13_allows_31 : decode cX13_allows 31 = .ok (.goto 4, 3) := by decide +kernel
theorem dX13_allows_34 : decode cX13_allows 34 = .ok (.iconst 0, 1) := by decide +kernel
theorem dX13_allows_35 : decode cX13_allows 35 = .ok (.putfield 38, 3) := by decide +kernel
theorem dX13_allows_38 : decode cX13_allows 38 = .ok (.aload_n 0, 1) := by decide +kernel
theorem dX13_allows_39 : decode cX13_allows 39 = .ok (.getfield 38, 3) := by decide +kernel
theorem dX13_allows_42 : decode cX13_allows 42 = .ok (.ifCond .ne 7, 3) := by decide +kernel
theorem dX13_allows_45 : decode cX13_allows 45 = .ok (.iconst 1, 1) := by decide +kernel
theorem dX13_allows_46 : decode cX13_allows 46 = .ok (.goto 4, 3) := by decide +kernel
theorem dX13_allows_49 : decode cX13_allows 49 = .ok (.iconst 0, 1) := by decide +kernel
theorem dX13_allows_50 : decode cX13_allows 50 = .ok (.ireturn, 1) := by decide +kernel
set_option maxRecDepth 20000 in
theorem ggX13_goes_X13_allows : GoodIn wsX13_goes wsX13_allows := goodIn_r _ [5, 6, 7, 8, 9, 10, 11, 12, 13, 14, 15, 16, 17, 18, 19, 20, 21, 22, 23, 24] (by decide +kernel) (by decide +kernel)
set_option maxRecDepth 20000 in
theorem gX13_goes_X13_allows : GoodIn wsX13_goes (wsV RX13 41 RX13 yX13_allows wsX13_allows) := goodIn_app (goodIn_of _ (by decide +kernel)) ggX13_goes_X13_allows
theorem dX13_goes_0 : decode cX13_goes 0 = .ok (.aload_n 0, 1) := by decide +kernel
theorem dX13_goes_1 : decode cX13_goes 1 = .ok (.iload_n 1, 1) := by decide +kernel
theorem dX13_goes_2 : decode cX13_goes 2 = .ok (.iconst 1, 1) := by decide +kernel
theorem dX13_goes_3 : decode cX13_goes 3 = .ok (.iconst 1, 1) := by decide +kernel
theorem dX13_goes_4 : decode cX13_goes 4 = .ok (.iconst 1, 1) := by decide +kernel
theorem dX13_goes_5 : decode cX13_goes 5 = .ok (.invokevirtual 41, 3) := by decide +kernel
theorem dX13_goes_8 : decode cX13_goes 8 = .ok (.ireturn, 1) := by decide +kernel
set_option maxRecDepth 20000 in
theorem ggX13_begins_X13_copies : GoodIn wsX13_begins wsX13_copies := goodIn_ca (goodIn_r _ [6] (by decide +kernel) (by decide +kernel)) (goodIn_sub (fun _ h => List.mem_cons_of_mem _ (List.mem_append_right _ h)) (by decide +kernel))
set_option maxRecDepth 20000 in
theorem gX13_begins_X13_copies : GoodIn wsX13_begins (va_wsS RX13 45 yX13_copies wsX13_copies) := goodIn_app (goodIn_of _ (by decide +kernel)) ggX13_begins_X13_copies
theorem dX13_begins_0 : decode cX13_begins 0 = .ok (.aload_n 0, 1) := by decide +kernel
theorem dX13_begins_1 : decode cX13_begins 1 = .ok (.getfield 9, 3) := by decide +kernel
theorem dX13_begins_4 : decode cX13_begins 4 = .ok (.iconst 0, 1) := by decide +kernel
theorem dX13_begins_5 : decode cX13_begins 5 = .ok (.aload_n 0, 1) := by decide +kernel
theorem dX13_begins_6 : decode cX13_begins 6 = .ok (.getfield 13, 3) := by decide +kernel
theorem dX13_begins_9 : decode cX13_begins 9 = .ok (.iconst 0, 1) := by decide +kernel
theorem dX13_begins_10 : decode cX13_begins 10 = .ok (.invokestatic 45, 3) := by decide +kernel
theorem dX13_begins_13 : decode cX13_begins 13 = .ok (.return_, 1) := by decide +kernel
set_option maxRecDepth 20000 in
theorem ggX13_remembers_X13_copies : GoodIn wsX13_remembers wsX13_copies := goodIn_ca (goodIn_r _ [7] (by decide +kernel) (by decide +kernel)) (goodIn_sub (fun _ h => List.mem_cons_of_mem _ (List.mem_append_right _ h)) (by decide +kernel))
set_option maxRecDepth 20000 in
theorem gX13_remembers_X13_copies : GoodIn wsX13_remembers (va_wsS RX13 45 yX13_copies wsX13_copies) := goodIn_app (goodIn_of _ (by decide +kernel)) ggX13_remembers_X13_copies
theorem dX13_remembers_0 : decode cX13_remembers 0 = .ok (.aload_n 0, 1) := by decide +kernel
theorem dX13_remembers_1 : decode cX13_remembers 1 = .ok (.getfield 49, 3) := by decide +kernel
theorem dX13_remembers_4 : decode cX13_remembers 4 = .ok (.bipush 8, 2) := by decide +kernel
theorem dX13_remembers_6 : decode cX13_remembers 6 = .ok (.if_icmp .ne 43, 3) := by decide +kernel
theorem dX13_remembers_9 : decode cX13_remembers 9 = .ok (.iconst 0, 1) := by decide +kernel
theorem dX13_remembers_10 : decode cX13_remembers 10 = .ok (.istore_n 1, 1) := by decide +kernel
theorem dX13_remembers_11 : decode cX13_remembers 11 = .ok (.iload_n 1, 1) := by decide +kernel
theorem dX13_remembers_12 : decode cX13_remembers 12 = .ok (.sipush 504, 3) := by decide +kernel
theorem dX13_remembers_15 : decode cX13_remembers 15 = .ok (.if_icmp .ge 24, 3) := by decide +kernel
theorem dX13_remembers_18 : decode cX13_remembers 18 = .ok (.aload_n 0, 1) := by decide +kernel
theorem dX13_remembers_19 : decode cX13_remembers 19 = .ok (.getfield 19, 3) := by decide +kernel
theorem dX13_remembers_22 : decode cX13_remembers 22 = .ok (.iload_n 1, 1) := by decide +kernel
theorem dX13_remembers_23 : decode cX13_remembers 23 = .ok (.aload_n 0, 1) := by decide +kernel
theorem dX13_remembers_24 : decode cX13_remembers 24 = .ok (.getfield 19, 3) := by decide +kernel
theorem dX13_remembers_27 : decode cX13_remembers 27 = .ok (.iload_n 1, 1) := by decide +kernel
theorem dX13_remembers_28 : decode cX13_remembers 28 = .ok (.bipush 72, 2) := by decide +kernel
theorem dX13_remembers_30 : decode cX13_remembers 30 = .ok (.iadd, 1) := by decide +kernel
theorem dX13_remembers_31 : decode cX13_remembers 31 = .ok (.iaload, 1) := by decide +kernel
theorem dX13_remembers_32 : decode cX13_remembers 32 = .ok (.iastore, 1) := by decide +kernel
theorem dX13_remembers_33 : decode cX13_remembers 33 = .ok (.iinc 1 1, 3) := by decide +kernel
theorem dX13_remembers_36 : decode cX13_remembers 36 = .ok (.goto (-25), 3) := by decide +kernel
theorem dX13_remembers_39 : decode cX13_remembers 39 = .ok (.aload_n 0, 1) := by decide +kernel
theorem dX13_remembers_40 : decode cX13_remembers 40 = .ok (.dup, 1) := by decide +kernel
theorem dX13_remembers_41 : decode cX13_remembers 41 = .ok (.getfield 49, 3) := by decide +kernel
theorem dX13_remembers_44 : decode cX13_remembers 44 = .ok (.iconst 1, 1) := by decide +kernel
theorem dX13_remembers_45 : decode cX13_remembers 45 = .ok (.isub, 1) := by decide +kernel
theorem dX13_remembers_46 : decode cX13_remembers 46 = .ok (.putfield 49, 3) := by decide +kernel
theorem dX13_remembers_49 : decode cX13_remembers 49 = .ok (.aload_n 0, 1) := by decide +kernel
theorem dX13_remembers_50 : decode cX13_remembers 50 = .ok (.getfield 13, 3) := by decide +kernel
theorem dX13_remembers_53 : decode cX13_remembers 53 = .ok (.iconst 0, 1) := by decide +kernel
theorem dX13_remembers_54 : decode cX13_remembers 54 = .ok (.aload_n 0, 1) := by decide +kernel
theorem dX13_remembers_55 : decode cX13_remembers 55 = .ok (.getfield 19, 3) := by decide +kernel
theorem dX13_remembers_58 : decode cX13_remembers 58 = .ok (.aload_n 0, 1) := by decide +kernel
theorem dX13_remembers_59 : decode cX13_remembers 59 = .ok (.getfield 49, 3) := by decide +kernel
theorem dX13_remembers_62 : decode cX13_remembers 62 = .ok (.bipush 72, 2) := by decide +kernel
theorem dX13_remembers_64 : decode cX13_remembers 64 = .ok (.imul, 1) := by decide +kernel
theorem dX13_remembers_65 : decode cX13_remembers 65 = .ok (.invokestatic 45, 3) := by decide +kernel
theorem dX13_remembers_68 : decode cX13_remembers 68 = .ok (.aload_n 0, 1) := by decide +kernel
theorem dX13_remembers_69 : decode cX13_remembers 69 = .ok (.dup, 1) := by decide +kernel
theorem dX13_remembers_70 : decode cX13_remembers 70 = .ok (.getfield 49, 3) := by decide +kernel
theorem dX13_remembers_73 : decode cX13_remembers 73 = .ok (.iconst 1, 1) := by decide +kernel
theorem dX13_remembers_74 : decode cX13_remembers 74 = .ok (.iadd, 1) := by decide +kernel
theorem dX13_remembers_75 : decode cX13_remembers 75 = .ok (.putfield 49, 3) := by decide +kernel
theorem dX13_remembers_78 : decode cX13_remembers 78 = .ok (.return_, 1) := by decide +kernel
set_option maxRecDepth 20000 in
theorem ggX13_ends_X13_copies : GoodIn wsX13_ends wsX13_copies := goodIn_ca (goodIn_r _ [7] (by decide +kernel) (by decide +kernel)) (goodIn_sub (fun _ h => List.mem_cons_of_mem _ (List.mem_append_right _ h)) (by decide +kernel))
set_option maxRecDepth 20000 in
theorem gX13_ends_X13_copies : GoodIn wsX13_ends (va_wsS RX13 45 yX13_copies wsX13_copies) := goodIn_app (goodIn_of _ (by decide +kernel)) ggX13_ends_X13_copies
set_option maxRecDepth 20000 in
theorem ggX13_ends_X13_remembers : GoodIn wsX13_ends wsX13_remembers := goodIn_ca (goodIn_r _ [11, 12, 13, 2, 4, 5, 6, 7, 14, 15, 16, 17, 18, 19, 20, 21, 22, 23, 24, 25, 26, 27, 28, 29, 30, 31] (by decide +kernel) (by decide +kernel)) (goodIn_sub (fun _ h => List.mem_cons_of_mem _ (List.mem_append_right _ h)) (by decide +kernel))
set_option maxRecDepth 20000 in
theorem gX13_ends_X13_remembers : GoodIn wsX13_ends (wsV RX13 52 RX13 yX13_remembers wsX13_remembers) := goodIn_app (goodIn_of _ (by decide +kernel)) ggX13_ends_X13_remembers
theorem dX13_ends_0 : decode cX13_ends 0 = .ok (.aload_n 0, 1) := by decide +kernel
theorem dX13_ends_1 : decode cX13_ends 1 = .ok (.getfield 38, 3) := by decide +kernel
theorem dX13_ends_4 : decode cX13_ends 4 = .ok (.ifCond .eq 18, 3) := by decide +kernel
theorem dX13_ends_7 : decode cX13_ends 7 = .ok (.aload_n 0, 1) := by decide +kernel
theorem dX13_ends_8 : decode cX13_ends 8 = .ok (.getfield 13, 3) := by decide +kernel
theorem dX13_ends_11 : decode cX13_ends 11 = .ok (.iconst 0, 1) := by decide +kernel
theorem dX13_ends_12 : decode cX13_ends 12 = .ok (.aload_n 0, 1) := by decide +kernel
theorem dX13_ends_13 : decode cX13_ends 13 = .ok (.getfield 9, 3) := by decide +kernel
theorem dX13_ends_16 : decode cX13_ends 16 = .ok (.iconst 0, 1) := by decide +kernel
theorem dX13_ends_17 : decode cX13_ends 17 = .ok (.invokestatic 45, 3) := by decide +kernel
theorem dX13_ends_20 : decode cX13_ends 20 = .ok (.iconst 0, 1) := by decide +kernel
theorem dX13_ends_21 : decode cX13_ends 21 = .ok (.ireturn, 1) := by decide +kernel
theorem dX13_ends_22 : decode cX13_ends 22 = .ok (.aload_n 0, 1) := by decide +kernel
theorem dX13_ends_23 : decode cX13_ends 23 = .ok (.invokevirtual 52, 3) := by decide +kernel
theorem dX13_ends_26 : decode cX13_ends 26 = .ok (.iload_n 1, 1) := by decide +kernel
theorem dX13_ends_27 : decode cX13_ends 27 = .ok (.ireturn, 1) := by decide +kernel
set_option maxRecDepth 20000 in
theorem ggX13_undo_X13_goes : GoodIn wsX13_undo wsX13_goes := goodIn_r _ [8, 9, 10, 11, 7, 12, 13, 17, 18, 19, 20, 21, 22, 23, 24, 25, 26, 27, 28, 29, 30, 31, 32, 33, 34] (by decide +kernel) (by decide +kernel)
set_option maxRecDepth 20000 in
theorem gX13_undo_X13_goes : GoodIn wsX13_undo (wsV RX13 55 RX13 yX13_goes wsX13_goes) := goodIn_app (goodIn_of _ (by decide +kernel)) ggX13_undo_X13_goes
set_option maxRecDepth 20000 in
theorem ggX13_undo_X13_copies : GoodIn wsX13_undo wsX13_copies := goodIn_ca (goodIn_r _ [16] (by decide +kernel) (by decide +kernel)) (goodIn_sub (fun _ h => List.mem_cons_of_mem _ (List.mem_append_right _ h)) (by decide +kernel))
set_option maxRecDepth 20000 in
theorem gX13_undo_X13_copies : GoodIn wsX13_undo (va_wsS RX13 45 yX13_copies wsX13_copies) := goodIn_app (goodIn_of _ (by decide +kernel)) ggX13_undo_X13_copies
theorem dX13_undo_0 : decode cX13_undo 0 = .ok (.aload_n 0, 1) := by decide +kernel
theorem dX13_undo_1 : decode cX13_undo 1 = .ok (.aload_n 0, 1) := by decide +kernel
theorem dX13_undo_2 : decode cX13_undo 2 = .ok (.getfield 49, 3) := by decide +kernel
theorem dX13_undo_5 : decode cX13_undo 5 = .ok (.ifCond .le 7, 3) := by decide +kernel
theorem dX13_undo_8 : decode cX13_undo 8 = .ok (.iconst 1, 1) := by decide +kernel
theorem dX13_undo_9 : decode cX13_undo 9 = .ok (.goto 4, 3) := by decide +kernel
theorem dX13_undo_12 : decode cX13_undo 12 = .ok (.iconst 0, 1) := by decide +kernel
theorem dX13_undo_13 : decode cX13_undo 13 = .ok (.invokevirtual 55, 3) := by decide +kernel
theorem dX13_undo_16 : decode cX13_undo 16 = .ok (.ifCond .ne 5, 3) := by decide +kernel
theorem dX13_undo_19 : decode cX13_undo 19 = .ok (.iconst 0, 1) := by decide +kernel
theorem dX13_undo_20 : decode cX13_undo 20 = .ok (.ireturn, 1) := by decide +kernel
theorem dX13_undo_21 : decode cX13_undo 21 = .ok (.aload_n 0, 1) := by decide +kernel
theorem dX13_undo_22 : decode cX13_undo 22 = .ok (.dup, 1) := by decide +kernel
theorem dX13_undo_23 : decode cX13_undo 23 = .ok (.getfield 49, 3) := by decide +kernel
theorem dX13_undo_26 : decode cX13_undo 26 = .ok (.iconst 1, 1) := by decide +kernel
theorem dX13_undo_27 : decode cX13_undo 27 = .ok (.isub, 1) := by decide +kernel
theorem dX13_undo_28 : decode cX13_undo 28 = .ok (.putfield 49, 3) := by decide +kernel
theorem dX13_undo_31 : decode cX13_undo 31 = .ok (.aload_n 0, 1) := by decide +kernel
theorem dX13_undo_32 : decode cX13_undo 32 = .ok (.getfield 19, 3) := by decide +kernel
theorem dX13_undo_35 : decode cX13_undo 35 = .ok (.aload_n 0, 1) := by decide +kernel
theorem dX13_undo_36 : decode cX13_undo 36 = .ok (.getfield 49, 3) := by decide +kernel
theorem dX13_undo_39 : decode cX13_undo 39 = .ok (.bipush 72, 2) := by decide +kernel
theorem dX13_undo_41 : decode cX13_undo 41 = .ok (.imul, 1) := by decide +kernel
theorem dX13_undo_42 : decode cX13_undo 42 = .ok (.aload_n 0, 1) := by decide +kernel
theorem dX13_undo_43 : decode cX13_undo 43 = .ok (.getfield 9, 3) := by decide +kernel
theorem dX13_undo_46 : decode cX13_undo 46 = .ok (.iconst 0, 1) := by decide +kernel
theorem dX13_undo_47 : decode cX13_undo 47 = .ok (.invokestatic 45, 3) := by decide +kernel
theorem dX13_undo_50 : decode cX13_undo 50 = .ok (.aload_n 0, 1) := by decide +kernel
theorem dX13_undo_51 : decode cX13_undo 51 = .ok (.getfield 49, 3) := by decide +kernel
theorem dX13_undo_54 : decode cX13_undo 54 = .ok (.ireturn, 1) := by decide +kernel
set_option maxRecDepth 20000 in
theorem ggX13_save_X13_copies : GoodIn wsX13_save wsX13_copies := goodIn_ca (goodIn_r _ [8] (by decide +kernel) (by decide +kernel)) (goodIn_sub (fun _ h => List.mem_cons_of_mem _ (List.mem_append_right _ h)) (by decide +kernel))
set_option maxRecDepth 20000 in
theorem gX13_save_X13_copies : GoodIn wsX13_save (va_wsS RX13 45 yX13_copies wsX13_copies) := goodIn_app (goodIn_of _ (by decide +kernel)) ggX13_save_X13_copies
theorem dX13_save_0 : decode cX13_save 0 = .ok (.aload_n 0, 1) := by decide +kernel
theorem dX13_save_1 : decode cX13_save 1 = .ok (.iconst 0, 1) := by decide +kernel
theorem dX13_save_2 : decode cX13_save 2 = .ok (.putfield 38, 3) := by decide +kernel
theorem dX13_save_5 : decode cX13_save 5 = .ok (.aload_n 0, 1) := by decide +kernel
theorem dX13_save_6 : decode cX13_save 6 = .ok (.getfield 9, 3) := by decide +kernel
theorem dX13_save_9 : decode cX13_save 9 = .ok (.iconst 0, 1) := by decide +kernel
theorem dX13_save_10 : decode cX13_save 10 = .ok (.aload_n 0, 1) := by decide +kernel
theorem dX13_save_11 : decode cX13_save 11 = .ok (.getfield 16, 3) := by decide +kernel
theorem dX13_save_14 : decode cX13_save 14 = .ok (.iconst 0, 1) := by decide +kernel
theorem dX13_save_15 : decode cX13_save 15 = .ok (.invokestatic 45, 3) := by decide +kernel
theorem dX13_save_18 : decode cX13_save 18 = .ok (.aload_n 0, 1) := by decide +kernel
theorem dX13_save_19 : decode cX13_save 19 = .ok (.iconst 1, 1) := by decide +kernel
theorem dX13_save_20 : decode cX13_save 20 = .ok (.putfield 59, 3) := by decide +kernel
theorem dX13_save_23 : decode cX13_save 23 = .ok (.return_, 1) := by decide +kernel
set_option maxRecDepth 20000 in
theorem ggX13_restore_X13_goes : GoodIn wsX13_restore wsX13_goes := goodIn_r _ [9, 10, 11, 12, 8, 13, 14, 18, 19, 20, 21, 22, 23, 24, 25, 26, 27, 28, 29, 30, 31, 32, 33, 34, 35] (by decide +kernel) (by decide +kernel)
set_option maxRecDepth 20000 in
theorem gX13_restore_X13_goes : GoodIn wsX13_restore (wsV RX13 55 RX13 yX13_goes wsX13_goes) := goodIn_app (goodIn_of _ (by decide +kernel)) ggX13_restore_X13_goes
set_option maxRecDepth 20000 in
theorem ggX13_restore_X13_copies : GoodIn wsX13_restore wsX13_copies := goodIn_ca (goodIn_r _ [17] (by decide +kernel) (by decide +kernel)) (goodIn_sub (fun _ h => List.mem_cons_of_mem _ (List.mem_append_right _ h)) (by decide +kernel))
set_option maxRecDepth 20000 in
theorem gX13_restore_X13_copies : GoodIn wsX13_restore (va_wsS RX13 45 yX13_copies wsX13_copies) := goodIn_app (goodIn_of _ (by decide +kernel)) ggX13_restore_X13_copies
theorem dX13_restore_0 : decode cX13_restore 0 = .ok (.aload_n 0, 1) := by decide +kernel
theorem dX13_restore_1 : decode cX13_restore 1 = .ok (.aload_n 0, 1) := by decide +kernel
theorem dX13_restore_2 : decode cX13_restore 2 = .ok (.getfield 59, 3) := by decide +kernel
theorem dX13_restore_5 : decode cX13_restore 5 = .ok (.invokevirtual 55, 3) := by decide +kernel
theorem dX13_restore_8 : decode cX13_restore 8 = .ok (.ifCond .eq 21, 3) := by decide +kernel
theorem dX13_restore_11 : decode cX13_restore 11 = .ok (.aload_n 0, 1) := by decide +kernel
theorem dX13_restore_12 : decode cX13_restore 12 = .ok (.getfield 16, 3) := by decide +kernel
theorem dX13_restore_15 : decode cX13_restore 15 = .ok (.iconst 0, 1) := by decide +kernel
theorem dX13_restore_16 : decode cX13_restore 16 = .ok (.aload_n 0, 1) := by decide +kernel
theorem dX13_restore_17 : decode cX13_restore 17 = .ok (.getfield 9, 3) := by decide +kernel
theorem dX13_restore_20 : decode cX13_restore 20 = .ok (.iconst 0, 1) := by decide +kernel
theorem dX13_restore_21 : decode cX13_restore 21 = .ok (.invokestatic 45, 3) := by decide +kernel
theorem dX13_restore_24 : decode cX13_restore 24 = .ok (.aload_n 0, 1) := by decide +kernel
theorem dX13_restore_25 : decode cX13_restore 25 = .ok (.iconst 0, 1) := by decide +kernel
theorem dX13_restore_26 : decode cX13_restore 26 = .ok (.putfield 49, 3) := by decide +kernel
theorem dX13_restore_29 : decode cX13_restore 29 = .ok (.return_, 1) := by decide +kernel
theorem dX13_modulo_0 : decode cX13_modulo 0 = .ok (.iload_n 0, 1) := by decide +kernel
theorem dX13_modulo_1 : decode cX13_modulo 1 = .ok (.bipush 97, 2) := by decide +kernel
theorem dX13_modulo_3 : decode cX13_modulo 3 = .ok (.irem, 1) := by decide +kernel
theorem dX13_modulo_4 : decode cX13_modulo 4 = .ok (.bipush 97, 2) := by decide +kernel
theorem dX13_modulo_6 : decode cX13_modulo 6 = .ok (.iadd, 1) := by decide +kernel
theorem dX13_modulo_7 : decode cX13_modulo 7 = .ok (.bipush 97, 2) := by decide +kernel
theorem dX13_modulo_9 : decode cX13_modulo 9 = .ok (.irem, 1) := by decide +kernel
theorem dX13_modulo_10 : decode cX13_modulo 10 = .ok (.ireturn, 1) := by decide +kernel
theorem dX13_inverseOf_0 : decode cX13_inverseOf 0 = .ok (.iconst 1, 1) := by decide +kernel
theorem dX13_inverseOf_1 : decode cX13_inverseOf 1 = .ok (.istore_n 1, 1) := by decide +kernel
theorem dX13_inverseOf_2 : decode cX13_inverseOf 2 = .ok (.iconst 2, 1) := by decide +kernel
theorem dX13_inverseOf_3 : decode cX13_inverseOf 3 = .ok (.istore_n 2, 1) := by decide +kernel
theorem dX13_inverseOf_4 : decode cX13_inverseOf 4 = .ok (.iload_n 2, 1) := by decide +kernel
theorem dX13_inverseOf_5 : decode cX13_inverseOf 5 = .ok (.bipush 97, 2) := by decide +kernel
theorem dX13_inverseOf_7 : decode cX13_inverseOf 7 = .ok (.if_icmp .ge 25, 3) := by decide +kernel
theorem dX13_inverseOf_10 : decode cX13_inverseOf 10 = .ok (.iload_n 0, 1) := by decide +kernel
theorem dX13_inverseOf_11 : decode cX13_inverseOf 11 = .ok (.iload_n 2, 1) := by decide +kernel
theorem dX13_inverseOf_12 : decode cX13_inverseOf 12 = .ok (.imul, 1) := by decide +kernel
theorem dX13_inverseOf_13 : decode cX13_inverseOf 13 = .ok (.bipush 97, 2) := by decide +kernel
theorem dX13_inverseOf_15 : decode cX13_inverseOf 15 = .ok (.irem, 1) := by decide +kernel
theorem dX13_inverseOf_16 : decode cX13_inverseOf 16 = .ok (.iconst 1, 1) := by decide +kernel
theorem dX13_inverseOf_17 : decode cX13_inverseOf 17 = .ok (.if_icmp .ne 7, 3) := by decide +kernel
theorem dX13_inverseOf_20 : decode cX13_inverseOf 20 = .ok (.iload_n 2, 1) := by decide +kernel
theorem dX13_inverseOf_21 : decode cX13_inverseOf 21 = .ok (.goto 4, 3) := by decide +kernel
theorem dX13_inverseOf_24 : decode cX13_inverseOf 24 = .ok (.iload_n 1, 1) := by decide +kernel
theorem dX13_inverseOf_25 : decode cX13_inverseOf 25 = .ok (.istore_n 1, 1) := by decide +kernel
theorem dX13_inverseOf_26 : decode cX13_inverseOf 26 = .ok (.iinc 2 1, 3) := by decide +kernel
theorem dX13_inverseOf_29 : decode cX13_inverseOf 29 = .ok (.goto (-25), 3) := by decide +kernel
theorem dX13_inverseOf_32 : decode cX13_inverseOf 32 = .ok (.iload_n 1, 1) := by decide +kernel
theorem dX13_inverseOf_33 : decode cX13_inverseOf 33 = .ok (.ireturn, 1) := by decide +kernel
set_option maxRecDepth 20000 in
theorem ggX13_isBird_X13_isIn : GoodIn wsX13_isBird wsX13_isIn := goodIn_r _ [5] (by decide +kernel) (by decide +kernel)
set_option maxRecDepth 20000 in
theorem gX13_isBird_X13_isIn : GoodIn wsX13_isBird (va_wsS RX13 63 yX13_isIn wsX13_isIn) := goodIn_app (goodIn_of _ (by decide +kernel)) ggX13_isBird_X13_isIn
theorem dX13_isBird_0 : decode cX13_isBird 0 = .ok (.iload_n 1, 1) := by decide +kernel
theorem dX13_isBird_1 : decode cX13_isBird 1 = .ok (.iconst 0, 1) := by decide +kernel
theorem dX13_isBird_2 : decode cX13_isBird 2 = .ok (.aload_n 0, 1) := by decide +kernel
theorem dX13_isBird_3 : decode cX13_isBird 3 = .ok (.getfield 9, 3) := by decide +kernel
theorem dX13_isBird_6 : decode cX13_isBird 6 = .ok (.iconst 0, 1) := by decide +kernel
theorem dX13_isBird_7 : decode cX13_isBird 7 = .ok (.iaload, 1) := by decide +kernel
theorem dX13_isBird_8 : decode cX13_isBird 8 = .ok (.iconst 1, 1) := by decide +kernel
theorem dX13_isBird_9 : decode cX13_isBird 9 = .ok (.isub, 1) := by decide +kernel
theorem dX13_isBird_10 : decode cX13_isBird 10 = .ok (.invokestatic 63, 3) := by decide +kernel
theorem dX13_isBird_13 : decode cX13_isBird 13 = .ok (.ireturn, 1) := by decide +kernel
set_option maxRecDepth 20000 in
theorem ggX13_isNest_X13_isIn : GoodIn wsX13_isNest wsX13_isIn := goodIn_r _ [4] (by decide +kernel) (by decide +kernel)
set_option maxRecDepth 20000 in
theorem gX13_isNest_X13_isIn : GoodIn wsX13_isNest (va_wsS RX13 63 yX13_isIn wsX13_isIn) := goodIn_app (goodIn_of _ (by decide +kernel)) ggX13_isNest_X13_isIn
theorem dX13_isNest_0 : decode cX13_isNest 0 = .ok (.iload_n 0, 1) := by decide +kernel
theorem dX13_isNest_1 : decode cX13_isNest 1 = .ok (.iconst 0, 1) := by decide +kernel
theorem dX13_isNest_2 : decode cX13_isNest 2 = .ok (.iconst 3, 1) := by decide +kernel
theorem dX13_isNest_3 : decode cX13_isNest 3 = .ok (.invokestatic 63, 3) := by decide +kernel
theorem dX13_isNest_6 : decode cX13_isNest 6 = .ok (.ireturn, 1) := by decide +kernel
set_option maxRecDepth 20000 in
theorem ggX13_isNumber_X13_isIn : GoodIn wsX13_isNumber wsX13_isIn := goodIn_r _ [4] (by decide +kernel) (by decide +kernel)
set_option maxRecDepth 20000 in
theorem gX13_isNumber_X13_isIn : GoodIn wsX13_isNumber (va_wsS RX13 63 yX13_isIn wsX13_isIn) := goodIn_app (goodIn_of _ (by decide +kernel)) ggX13_isNumber_X13_isIn
theorem dX13_isNumber_0 : decode cX13_isNumber 0 = .ok (.iload_n 0, 1) := by decide +kernel
theorem dX13_isNumber_1 : decode cX13_isNumber 1 = .ok (.iconst 0, 1) := by decide +kernel
theorem dX13_isNumber_2 : decode cX13_isNumber 2 = .ok (.bipush 96, 2) := by decide +kernel
theorem dX13_isNumber_4 : decode cX13_isNumber 4 = .ok (.invokestatic 63, 3) := by decide +kernel
theorem dX13_isNumber_7 : decode cX13_isNumber 7 = .ok (.ireturn, 1) := by decide +kernel
set_option maxRecDepth 20000 in
theorem ggX13_find_X13_of : GoodIn wsX13_find wsX13_of := goodIn_ca (goodIn_r _ [6, 1, 7, 8, 9, 10, 11, 12, 13, 14, 15, 16, 17, 18, 19, 20, 21, 22, 23, 24, 25, 26, 27, 28] (by decide +kernel) (by decide +kernel)) (goodIn_sub (fun _ h => List.mem_cons_of_mem _ (List.mem_append_right _ h)) (by decide +kernel))
set_option maxRecDepth 20000 in
theorem gX13_find_X13_of : GoodIn wsX13_find (wsV RX13 67 RX13 yX13_of wsX13_of) := goodIn_app (goodIn_of _ (by decide +kernel)) ggX13_find_X13_of
theorem dX13_find_0 : decode cX13_find 0 = .ok (.iconst (-1), 1) := by decide +kernel
theorem dX13_find_1 : decode cX13_find 1 = .ok (.istore_n 2, 1) := by decide +kernel
theorem dX13_find_2 : decode cX13_find 2 = .ok (.iconst 0, 1) := by decide +kernel
theorem dX13_find_3 : decode cX13_find 3 = .ok (.istore_n 3, 1) := by decide +kernel
theorem dX13_find_4 : decode cX13_find 4 = .ok (.iload_n 3, 1) := by decide +kernel
theorem dX13_find_5 : decode cX13_find 5 = .ok (.aload_n 0, 1) := by decide +kernel
theorem dX13_find_6 : decode cX13_find 6 = .ok (.getfield 9, 3) := by decide +kernel
theorem dX13_find_9 : decode cX13_find 9 = .ok (.iconst 1, 1) := by decide +kernel
theorem dX13_find_10 : decode cX13_find 10 = .ok (.iaload, 1) := by decide +kernel
theorem dX13_find_11 : decode cX13_find 11 = .ok (.if_icmp .ge 25, 3) := by decide +kernel
theorem dX13_find_14 : decode cX13_find 14 = .ok (.aload_n 0, 1) := by decide +kernel
theorem dX13_find_15 : decode cX13_find 15 = .ok (.iload_n 3, 1) := by decide +kernel
theorem dX13_find_16 : decode cX13_find 16 = .ok (.iconst 0, 1) := by decide +kernel
theorem dX13_find_17 : decode cX13_find 17 = .ok (.invokevirtual 67, 3) := by decide +kernel
theorem dX13_find_20 : decode cX13_find 20 = .ok (.iload_n 1, 1) := by decide +kernel
theorem dX13_find_21 : decode cX13_find 21 = .ok (.if_icmp .ne 7, 3) := by decide +kernel
theorem dX13_find_24 : decode cX13_find 24 = .ok (.iload_n 3, 1) := by decide +kernel
theorem dX13_find_25 : decode cX13_find 25 = .ok (.goto 4, 3) := by decide +kernel
theorem dX13_find_28 : decode cX13_find 28 = .ok (.iload_n 2, 1) := by decide +kernel
theorem dX13_find_29 : decode cX13_find 29 = .ok (.istore_n 2, 1) := by decide +kernel
theorem dX13_find_30 : decode cX13_find 30 = .ok (.iinc 3 1, 3) := by decide +kernel
theorem dX13_find_33 : decode cX13_find 33 = .ok (.goto (-29), 3) := by decide +kernel
theorem dX13_find_36 : decode cX13_find 36 = .ok (.iload_n 2, 1) := by decide +kernel
theorem dX13_find_37 : decode cX13_find 37 = .ok (.ireturn, 1) := by decide +kernel
theorem dX13_of_0 : decode cX13_of 0 = .ok (.aload_n 0, 1) := by decide +kernel
theorem dX13_of_1 : decode cX13_of 1 = .ok (.getfield 9, 3) := by decide +kernel
theorem dX13_of_4 : decode cX13_of 4 = .ok (.bipush 12, 2) := by decide +kernel
theorem dX13_of_6 : decode cX13_of 6 = .ok (.bipush 10, 2) := by decide +kernel
theorem dX13_of_8 : decode cX13_of 8 = .ok (.iconst 0, 1) := by decide +kernel
theorem dX13_of_9 : decode cX13_of 9 = .ok (.iload_n 1, 1) := by decide +kernel
theorem dX13_of_10 : decode cX13_of 10 = .ok (.invokestatic 71, 3) := by decide +kernel
theorem dX13_of_13 : decode cX13_of 13 = .ok (.imul, 1) := by decide +kernel
theorem dX13_of_14 : decode cX13_of 14 = .ok (.iadd, 1) := by decide +kernel
theorem dX13_of_15 : decode cX13_of 15 = .ok (.iload_n 2, 1) := by decide +kernel
theorem dX13_of_16 : decode cX13_of 16 = .ok (.iadd, 1) := by decide +kernel
theorem dX13_of_17 : decode cX13_of 17 = .ok (.iaload, 1) := by decide +kernel
theorem dX13_of_18 : decode cX13_of 18 = .ok (.ireturn, 1) := by decide +kernel
set_option maxRecDepth 20000 in
theorem ggX13_shareOf_X13_isBird : GoodIn wsX13_shareOf wsX13_isBird := goodIn_ca (goodIn_r _ [5, 6, 7, 8, 4, 9, 18, 19, 20, 21, 22, 23, 24, 25, 26, 27, 28, 29, 30, 31, 32, 33, 34, 35] (by decide +kernel) (by decide +kernel)) (goodIn_sub (fun _ h => List.mem_cons_of_mem _ (List.mem_append_right _ h)) (by decide +kernel))
set_option maxRecDepth 20000 in
theorem gX13_shareOf_X13_isBird : GoodIn wsX13_shareOf (wsV RX13 76 RX13 yX13_isBird wsX13_isBird) := goodIn_app (goodIn_of _ (by decide +kernel)) ggX13_shareOf_X13_isBird
set_option maxRecDepth 20000 in
theorem ggX13_shareOf_X13_of : GoodIn wsX13_shareOf wsX13_of := goodIn_ca (goodIn_r _ [13, 6, 14, 15, 16, 17, 18, 19, 20, 21, 22, 23, 24, 25, 26, 27, 28, 29, 30, 31, 32, 33, 34, 35] (by decide +kernel) (by decide +kernel)) (goodIn_sub (fun _ h => List.mem_cons_of_mem _ (List.mem_append_right _ h)) (by decide +kernel))
set_option maxRecDepth 20000 in
theorem gX13_shareOf_X13_of : GoodIn wsX13_shareOf (wsV RX13 67 RX13 yX13_of wsX13_of) := goodIn_app (goodIn_of _ (by decide +kernel)) ggX13_shareOf_X13_of
theorem dX13_shareOf_0 : decode cX13_shareOf 0 = .ok (.aload_n 0, 1) := by decide +kernel
theorem dX13_shareOf_1 : decode cX13_shareOf 1 = .ok (.iload_n 1, 1) := by decide +kernel
theorem dX13_shareOf_2 : decode cX13_shareOf 2 = .ok (.invokevirtual 76, 3) := by decide +kernel
theorem dX13_shareOf_5 : decode cX13_shareOf 5 = .ok (.ifCond .eq 19, 3) := by decide +kernel
theorem dX13_shareOf_8 : decode cX13_shareOf 8 = .ok (.iload_n 2, 1) := by decide +kernel
theorem dX13_shareOf_9 : decode cX13_shareOf 9 = .ok (.iconst (-1), 1) := by decide +kernel
theorem dX13_shareOf_10 : decode cX13_shareOf 10 = .ok (.if_icmp .eq 14, 3) := by decide +kernel
theorem dX13_shareOf_13 : decode cX13_shareOf 13 = .ok (.aload_n 0, 1) := by decide +kernel
theorem dX13_shareOf_14 : decode cX13_shareOf 14 = .ok (.iload_n 2, 1) := by decide +kernel
theorem dX13_shareOf_15 : decode cX13_shareOf 15 = .ok (.iconst 2, 1) := by decide +kernel
theorem dX13_shareOf_16 : decode cX13_shareOf 16 = .ok (.iload_n 1, 1) := by decide +kernel
theorem dX13_shareOf_17 : decode cX13_shareOf 17 = .ok (.iadd, 1) := by decide +kernel
theorem dX13_shareOf_18 : decode cX13_shareOf 18 = .ok (.invokevirtual 67, 3) := by decide +kernel
theorem dX13_shareOf_21 : decode cX13_shareOf 21 = .ok (.goto 4, 3) := by decide +kernel
theorem dX13_shareOf_24 : decode cX13_shareOf 24 = .ok (.iconst (-1), 1) := by decide +kernel
theorem dX13_shareOf_25 : decode cX13_shareOf 25 = .ok (.ireturn, 1) := by decide +kernel
set_option maxRecDepth 20000 in
theorem ggX13_holdersOf_X13_shareOf : GoodIn wsX13_holdersOf wsX13_shareOf := goodIn_ca (goodIn_r _ [6, 7, 8, 9, 5, 10, 1, 11, 12, 13, 14, 15, 16, 17, 18, 19, 20, 21, 22, 23, 24, 25, 26, 27, 28, 29, 30, 31, 32, 33, 34, 35, 36, 37, 38, 39] (by decide +kernel) (by decide +kernel)) (goodIn_sub (fun _ h => List.mem_cons_of_mem _ (List.mem_append_right _ h)) (by decide +kernel))
set_option maxRecDepth 20000 in
theorem gX13_holdersOf_X13_shareOf : GoodIn wsX13_holdersOf (wsV RX13 80 RX13 yX13_shareOf wsX13_shareOf) := goodIn_app (goodIn_of _ (by decide +kernel)) ggX13_holdersOf_X13_shareOf
theorem dX13_holdersOf_0 : decode cX13_holdersOf 0 = .ok (.iconst 0, 1) := by decide +kernel
theorem dX13_holdersOf_1 : decode cX13_holdersOf 1 = .ok (.istore_n 2, 1) := by decide +kernel
theorem dX13_holdersOf_2 : decode cX13_holdersOf 2 = .ok (.iconst 0, 1) := by decide +kernel
theorem dX13_holdersOf_3 : decode cX13_holdersOf 3 = .ok (.istore_n 3, 1) := by decide +kernel
theorem dX13_holdersOf_4 : decode cX13_holdersOf 4 = .ok (.iload_n 3, 1) := by decide +kernel
theorem dX13_holdersOf_5 : decode cX13_holdersOf 5 = .ok (.aload_n 0, 1) := by decide +kernel
theorem dX13_holdersOf_6 : decode cX13_holdersOf 6 = .ok (.getfield 9, 3) := by decide +kernel
theorem dX13_holdersOf_9 : decode cX13_holdersOf 9 = .ok (.iconst 0, 1) := by decide +kernel
theorem dX13_holdersOf_10 : decode cX13_holdersOf 10 = .ok (.iaload, 1) := by decide +kernel
theorem dX13_holdersOf_11 : decode cX13_holdersOf 11 = .ok (.if_icmp .ge 29, 3) := by decide +kernel
theorem dX13_holdersOf_14 : decode cX13_holdersOf 14 = .ok (.iload_n 2, 1) := by decide +kernel
theorem dX13_holdersOf_15 : decode cX13_holdersOf 15 = .ok (.aload_n 0, 1) := by decide +kernel
theorem dX13_holdersOf_16 : decode cX13_holdersOf 16 = .ok (.iload_n 3, 1) := by decide +kernel
theorem dX13_holdersOf_17 : decode cX13_holdersOf 17 = .ok (.iload_n 1, 1) := by decide +kernel
theorem dX13_holdersOf_18 : decode cX13_holdersOf 18 = .ok (.invokevirtual 80, 3) := by decide +kernel
theorem dX13_holdersOf_21 : decode cX13_holdersOf 21 = .ok (.iconst (-1), 1) := by decide +kernel
theorem dX13_holdersOf_22 : decode cX13_holdersOf 22 = .ok (.if_icmp .ne 7, 3) := by decide +kernel
theorem dX13_holdersOf_25 : decode cX13_holdersOf 25 = .ok (.iconst 0, 1) := by decide +kernel
theorem dX13_holdersOf_26 : decode cX13_holdersOf 26 = .ok (.goto 6, 3) := by decide +kernel
theorem dX13_holdersOf_29 : decode cX13_holdersOf 29 = .ok (.iconst 1, 1) := by decide +kernel
theorem dX13_holdersOf_30 : decode cX13_holdersOf 30 = .ok (.iload_n 3, 1) := by decide +kernel
theorem dX13_holdersOf_31 : decode cX13_holdersOf 31 = .ok (.ishl, 1) := by decide +kernel
theorem dX13_holdersOf_32 : decode cX13_holdersOf 32 = .ok (.ior, 1) := by decide +kernel
theorem dX13_holdersOf_33 : decode cX13_holdersOf 33 = .ok (.istore_n 2, 1) := by decide +kernel
theorem dX13_holdersOf_34 : decode cX13_holdersOf 34 = .ok (.iinc 3 1, 3) := by decide +kernel
theorem dX13_holdersOf_37 : decode cX13_holdersOf 37 = .ok (.goto (-33), 3) := by decide +kernel
theorem dX13_holdersOf_40 : decode cX13_holdersOf 40 = .ok (.iload_n 2, 1) := by decide +kernel
theorem dX13_holdersOf_41 : decode cX13_holdersOf 41 = .ok (.ireturn, 1) := by decide +kernel
set_option maxRecDepth 20000 in
theorem ggX13_firstOf_J6_bitCount_0f7a4 : GoodIn wsX13_firstOf wsJ6_bitCount_0f7a4 := goodIn_r _ [4, 5, 6, 7] (by decide +kernel) (by decide +kernel)
set_option maxRecDepth 20000 in
theorem gX13_firstOf_J6_bitCount_0f7a4 : GoodIn wsX13_firstOf (va_wsS RX13 83 yJ6_bitCount_0f7a4 wsJ6_bitCount_0f7a4) := goodIn_app (goodIn_of _ (by decide +kernel)) ggX13_firstOf_J6_bitCount_0f7a4
theorem dX13_firstOf_0 : decode cX13_firstOf 0 = .ok (.iconst 0, 1) := by decide +kernel
theorem dX13_firstOf_1 : decode cX13_firstOf 1 = .ok (.istore_n 2, 1) := by decide +kernel
theorem dX13_firstOf_2 : decode cX13_firstOf 2 = .ok (.iconst 0, 1) := by decide +kernel
theorem dX13_firstOf_3 : decode cX13_firstOf 3 = .ok (.istore_n 3, 1) := by decide +kernel
theorem dX13_firstOf_4 : decode cX13_firstOf 4 = .ok (.iload_n 3, 1) := by decide +kernel
theorem dX13_firstOf_5 : decode cX13_firstOf 5 = .ok (.bipush 8, 2) := by decide +kernel
theorem dX13_firstOf_7 : decode cX13_firstOf 7 = .ok (.if_icmp .ge 25, 3) := by decide +kernel
theorem dX13_firstOf_10 : decode cX13_firstOf 10 = .ok (.iload_n 2, 1) := by decide +kernel
theorem dX13_firstOf_11 : decode cX13_firstOf 11 = .ok (.invokestatic 83, 3) := by decide +kernel
theorem dX13_firstOf_14 : decode cX13_firstOf 14 = .ok (.iload_n 1, 1) := by decide +kernel
theorem dX13_firstOf_15 : decode cX13_firstOf 15 = .ok (.if_icmp .ge 17, 3) := by decide +kernel
theorem dX13_firstOf_18 : decode cX13_firstOf 18 = .ok (.iload_n 2, 1) := by decide +kernel
theorem dX13_firstOf_19 : decode cX13_firstOf 19 = .ok (.iload_n 0, 1) := by decide +kernel
theorem dX13_firstOf_20 : decode cX13_firstOf 20 = .ok (.iconst 1, 1) := by decide +kernel
theorem dX13_firstOf_21 : decode cX13_firstOf 21 = .ok (.iload_n 3, 1) := by decide +kernel
theorem dX13_firstOf_22 : decode cX13_firstOf 22 = .ok (.ishl, 1) := by decide +kernel
theorem dX13_firstOf_23 : decode cX13_firstOf 23 = .ok (.iand, 1) := by decide +kernel
theorem dX13_firstOf_24 : decode cX13_firstOf 24 = .ok (.ior, 1) := by decide +kernel
theorem dX13_firstOf_25 : decode cX13_firstOf 25 = .ok (.istore_n 2, 1) := by decide +kernel
theorem dX13_firstOf_26 : decode cX13_firstOf 26 = .ok (.iinc 3 1, 3) := by decide +kernel
theorem dX13_firstOf_29 : decode cX13_firstOf 29 = .ok (.goto (-25), 3) := by decide +kernel
theorem dX13_firstOf_32 : decode cX13_firstOf 32 = .ok (.iload_n 2, 1) := by decide +kernel
theorem dX13_firstOf_33 : decode cX13_firstOf 33 = .ok (.ireturn, 1) := by decide +kernel
set_option maxRecDepth 20000 in
theorem ggX13_leading_X13_holdersOf : GoodIn wsX13_leading wsX13_holdersOf := goodIn_ca (goodIn_r _ [5, 6, 7, 8, 9, 4, 10, 11, 12, 13, 14, 15, 16, 17, 18, 19, 20, 21, 22, 23, 24, 25, 36, 37, 38, 39, 40, 41, 42, 43, 44, 45, 46, 47, 48, 49, 50, 51, 52, 53] (by decide +kernel) (by decide +kernel)) (goodIn_sub (fun _ h => List.mem_cons_of_mem _ (List.mem_append_right _ h)) (by decide +kernel))
set_option maxRecDepth 20000 in
theorem gX13_leading_X13_holdersOf : GoodIn wsX13_leading (wsV RX13 89 RX13 yX13_holdersOf wsX13_holdersOf) := goodIn_app (goodIn_of _ (by decide +kernel)) ggX13_leading_X13_holdersOf
set_option maxRecDepth 20000 in
theorem ggX13_leading_X13_of : GoodIn wsX13_leading wsX13_of := goodIn_ca (goodIn_r _ [21, 6, 22, 23, 24, 25, 36, 37, 38, 39, 40, 41, 42, 43, 44, 45, 46, 47, 48, 49, 50, 51, 52, 53] (by decide +kernel) (by decide +kernel)) (goodIn_sub (fun _ h => List.mem_cons_of_mem _ (List.mem_append_right _ h)) (by decide +kernel))
set_option maxRecDepth 20000 in
theorem gX13_leading_X13_of : GoodIn wsX13_leading (wsV RX13 67 RX13 yX13_of wsX13_of) := goodIn_app (goodIn_of _ (by decide +kernel)) ggX13_leading_X13_of
set_option maxRecDepth 20000 in
theorem ggX13_leading_X13_firstOf : GoodIn wsX13_leading wsX13_firstOf := goodIn_r _ [28, 29, 30, 31, 32, 33, 34, 35] (by decide +kernel) (by decide +kernel)
set_option maxRecDepth 20000 in
theorem gX13_leading_X13_firstOf : GoodIn wsX13_leading (va_wsS RX13 92 yX13_firstOf wsX13_firstOf) := goodIn_app (goodIn_of _ (by decide +kernel)) ggX13_leading_X13_firstOf
theorem dX13_leading_0 : decode cX13_leading 0 = .ok (.aload_n 0, 1) := by decide +kernel
theorem dX13_leading_1 : decode cX13_leading 1 = .ok (.iload_n 1, 1) := by decide +kernel
theorem dX13_leading_2 : decode cX13_leading 2 = .ok (.invokevirtual 89, 3) := by decide +kernel
theorem dX13_leading_5 : decode cX13_leading 5 = .ok (.aload_n 0, 1) := by decide +kernel
theorem dX13_leading_6 : decode cX13_leading 6 = .ok (.iload_n 1, 1) := by decide +kernel
theorem dX13_leading_7 : decode cX13_leading 7 = .ok (.iconst 1, 1) := by decide +kernel
theorem dX13_leading_8 : decode cX13_leading 8 = .ok (.invokevirtual 67, 3) := by decide +kernel
theorem dX13_leading_11 : decode cX13_leading 11 = .ok (.invokestatic 92, 3) := by decide +kernel
theorem dX13_leading_14 : decode cX13_leading 14 = .ok (.ireturn, 1) := by decide +kernel
set_option maxRecDepth 20000 in
theorem ggX13_isEnough_X13_holdersOf : GoodIn wsX13_isEnough wsX13_holdersOf := goodIn_ca (goodIn_r _ [5, 6, 7, 8, 9, 4, 10, 11, 12, 13, 14, 15, 16, 17, 18, 19, 20, 21, 22, 23, 24, 25, 33, 34, 35, 36, 37, 38, 39, 40, 41, 42, 43, 44, 45, 46, 47, 48, 49, 50] (by decide +kernel) (by decide +kernel)) (goodIn_sub (fun _ h => List.mem_cons_of_mem _ (List.mem_append_right _ h)) (by decide +kernel))
set_option maxRecDepth 20000 in
theorem gX13_isEnough_X13_holdersOf : GoodIn wsX13_isEnough (wsV RX13 89 RX13 yX13_holdersOf wsX13_holdersOf) := goodIn_app (goodIn_of _ (by decide +kernel)) ggX13_isEnough_X13_holdersOf
set_option maxRecDepth 20000 in
theorem ggX13_isEnough_J6_bitCount_0f7a4 : GoodIn wsX13_isEnough wsJ6_bitCount_0f7a4 := goodIn_r _ [29, 30, 31, 32] (by decide +kernel) (by decide +kernel)
set_option maxRecDepth 20000 in
theorem gX13_isEnough_J6_bitCount_0f7a4 : GoodIn wsX13_isEnough (va_wsS RX13 83 yJ6_bitCount_0f7a4 wsJ6_bitCount_0f7a4) := goodIn_app (goodIn_of _ (by decide +kernel)) ggX13_isEnough_J6_bitCount_0f7a4
set_option maxRecDepth 20000 in
theorem ggX13_isEnough_X13_of : GoodIn wsX13_isEnough wsX13_of := goodIn_ca (goodIn_r _ [21, 6, 22, 23, 24, 25, 33, 34, 35, 36, 37, 38, 39, 40, 41, 42, 43, 44, 45, 46, 47, 48, 49, 50] (by decide +kernel) (by decide +kernel)) (goodIn_sub (fun _ h => List.mem_cons_of_mem _ (List.mem_append_right _ h)) (by decide +kernel))
set_option maxRecDepth 20000 in
theorem gX13_isEnough_X13_of : GoodIn wsX13_isEnough (wsV RX13 67 RX13 yX13_of wsX13_of) := goodIn_app (goodIn_of _ (by decide +kernel)) ggX13_isEnough_X13_of
theorem dX13_isEnough_0 : decode cX13_isEnough 0 = .ok (.iload_n 1, 1) := by decide +kernel
theorem dX13_isEnough_1 : decode cX13_isEnough 1 = .ok (.iconst (-1), 1) := by decide +kernel
theorem dX13_isEnough_2 : decode cX13_isEnough 2 = .ok (.if_icmp .eq 24, 3) := by decide +kernel
theorem dX13_isEnough_5 : decode cX13_isEnough 5 = .ok (.aload_n 0, 1) := by decide +kernel
theorem dX13_isEnough_6 : decode cX13_isEnough 6 = .ok (.iload_n 1, 1) := by decide +kernel
theorem dX13_isEnough_7 : decode cX13_isEnough 7 = .ok (.invokevirtual 89, 3) := by decide +kernel
theorem dX13_isEnough_10 : decode cX13_isEnough 10 = .ok (.invokestatic 83, 3) := by decide +kernel
theorem dX13_isEnough_13 : decode cX13_isEnough 13 = .ok (.aload_n 0, 1) := by decide +kernel
theorem dX13_isEnough_14 : decode cX13_isEnough 14 = .ok (.iload_n 1, 1) := by decide +kernel
theorem dX13_isEnough_15 : decode cX13_isEnough 15 = .ok (.iconst 1, 1) := by decide +kernel
theorem dX13_isEnough_16 : decode cX13_isEnough 16 = .ok (.invokevirtual 67, 3) := by decide +kernel
theorem dX13_isEnough_19 : decode cX13_isEnough 19 = .ok (.if_icmp .lt 7, 3) := by decide +kernel
theorem dX13_isEnough_22 : decode cX13_isEnough 22 = .ok (.iconst 1, 1) := by decide +kernel
theorem dX13_isEnough_23 : decode cX13_isEnough 23 = .ok (.goto 4, 3) := by decide +kernel
theorem dX13_isEnough_26 : decode cX13_isEnough 26 = .ok (.iconst 0, 1) := by decide +kernel
theorem dX13_isEnough_27 : decode cX13_isEnough 27 = .ok (.ireturn, 1) := by decide +kernel
set_option maxRecDepth 20000 in
theorem ggX13_valueAt_X13_of : GoodIn wsX13_valueAt wsX13_of := goodIn_ca (goodIn_r _ [5, 6, 7, 8, 9, 10, 20, 21, 22, 23, 24, 25, 26, 27, 28, 29, 30, 31, 32, 33, 34, 35, 36, 37] (by decide +kernel) (by decide +kernel)) (goodIn_sub (fun _ h => List.mem_cons_of_mem _ (List.mem_append_right _ h)) (by decide +kernel))
set_option maxRecDepth 20000 in
theorem gX13_valueAt_X13_of : GoodIn wsX13_valueAt (wsV RX13 67 RX13 yX13_of wsX13_of) := goodIn_app (goodIn_of _ (by decide +kernel)) ggX13_valueAt_X13_of
set_option maxRecDepth 20000 in
theorem ggX13_valueAt_X13_factor : GoodIn wsX13_valueAt wsX13_factor := goodIn_r _ [13, 14, 15, 4, 16, 17, 18, 19] (by decide +kernel) (by decide +kernel)
set_option maxRecDepth 20000 in
theorem gX13_valueAt_X13_factor : GoodIn wsX13_valueAt (va_wsS RX13 95 yX13_factor wsX13_factor) := goodIn_app (goodIn_of _ (by decide +kernel)) ggX13_valueAt_X13_factor
theorem dX13_valueAt_0 : decode cX13_valueAt 0 = .ok (.iconst 0, 1) := by decide +kernel
theorem dX13_valueAt_1 : decode cX13_valueAt 1 = .ok (.istore 4, 2) := by decide +kernel
theorem dX13_valueAt_3 : decode cX13_valueAt 3 = .ok (.iconst 0, 1) := by decide +kernel
theorem dX13_valueAt_4 : decode cX13_valueAt 4 = .ok (.istore 5, 2) := by decide +kernel
theorem dX13_valueAt_6 : decode cX13_valueAt 6 = .ok (.iload 5, 2) := by decide +kernel
theorem dX13_valueAt_8 : decode cX13_valueAt 8 = .ok (.bipush 8, 2) := by decide +kernel
theorem dX13_valueAt_10 : decode cX13_valueAt 10 = .ok (.if_icmp .ge 44, 3) := by decide +kernel
theorem dX13_valueAt_13 : decode cX13_valueAt 13 = .ok (.iload_n 2, 1) := by decide +kernel
theorem dX13_valueAt_14 : decode cX13_valueAt 14 = .ok (.iload 5, 2) := by decide +kernel
theorem dX13_valueAt_16 : decode cX13_valueAt 16 = .ok (.ishr, 1) := by decide +kernel
theorem dX13_valueAt_17 : decode cX13_valueAt 17 = .ok (.iconst 1, 1) := by decide +kernel
theorem dX13_valueAt_18 : decode cX13_valueAt 18 = .ok (.iand, 1) := by decide +kernel
theorem dX13_valueAt_19 : decode cX13_valueAt 19 = .ok (.iconst 1, 1) := by decide +kernel
theorem dX13_valueAt_20 : decode cX13_valueAt 20 = .ok (.if_icmp .ne 28, 3) := by decide +kernel
theorem dX13_valueAt_23 : decode cX13_valueAt 23 = .ok (.iload 4, 2) := by decide +kernel
theorem dX13_valueAt_25 : decode cX13_valueAt 25 = .ok (.aload_n 0, 1) := by decide +kernel
theorem dX13_valueAt_26 : decode cX13_valueAt 26 = .ok (.iload_n 1, 1) := by decide +kernel
theorem dX13_valueAt_27 : decode cX13_valueAt 27 = .ok (.iconst 2, 1) := by decide +kernel
theorem dX13_valueAt_28 : decode cX13_valueAt 28 = .ok (.iload 5, 2) := by decide +kernel
theorem dX13_valueAt_30 : decode cX13_valueAt 30 = .ok (.iadd, 1) := by decide +kernel
theorem dX13_valueAt_31 : decode cX13_valueAt 31 = .ok (.invokevirtual 67, 3) := by decide +kernel
theorem dX13_valueAt_34 : decode cX13_valueAt 34 = .ok (.iload_n 2, 1) := by decide +kernel
theorem dX13_valueAt_35 : decode cX13_valueAt 35 = .ok (.iload 5, 2) := by decide +kernel
theorem dX13_valueAt_37 : decode cX13_valueAt 37 = .ok (.iload_n 3, 1) := by decide +kernel
theorem dX13_valueAt_38 : decode cX13_valueAt 38 = .ok (.invokestatic 95, 3) := by decide +kernel
theorem dX13_valueAt_41 : decode cX13_valueAt 41 = .ok (.imul, 1) := by decide +kernel
theorem dX13_valueAt_42 : decode cX13_valueAt 42 = .ok (.iadd, 1) := by decide +kernel
theorem dX13_valueAt_43 : decode cX13_valueAt 43 = .ok (.bipush 97, 2) := by decide +kernel
theorem dX13_valueAt_45 : decode cX13_valueAt 45 = .ok (.irem, 1) := by decide +kernel
theorem dX13_valueAt_46 : decode cX13_valueAt 46 = .ok (.istore 4, 2) := by decide +kernel
theorem dX13_valueAt_48 : decode cX13_valueAt 48 = .ok (.iinc 5 1, 3) := by decide +kernel
theorem dX13_valueAt_51 : decode cX13_valueAt 51 = .ok (.goto (-45), 3) := by decide +kernel
theorem dX13_valueAt_54 : decode cX13_valueAt 54 = .ok (.iload 4, 2) := by decide +kernel
theorem dX13_valueAt_56 : decode cX13_valueAt 56 = .ok (.ireturn, 1) := by decide +kernel
set_option maxRecDepth 20000 in
theorem ggX13_factor_X13_modulo : GoodIn wsX13_factor wsX13_modulo := goodIn_r _ [4] (by decide +kernel) (by decide +kernel)
set_option maxRecDepth 20000 in
theorem gX13_factor_X13_modulo : GoodIn wsX13_factor (va_wsS RX13 99 yX13_modulo wsX13_modulo) := goodIn_app (goodIn_of _ (by decide +kernel)) ggX13_factor_X13_modulo
set_option maxRecDepth 20000 in
theorem ggX13_factor_X13_inverseOf : GoodIn wsX13_factor wsX13_inverseOf := goodIn_r _ [7] (by decide +kernel) (by decide +kernel)
set_option maxRecDepth 20000 in
theorem gX13_factor_X13_inverseOf : GoodIn wsX13_factor (va_wsS RX13 102 yX13_inverseOf wsX13_inverseOf) := goodIn_app (goodIn_of _ (by decide +kernel)) ggX13_factor_X13_inverseOf
theorem dX13_factor_0 : decode cX13_factor 0 = .ok (.iconst 1, 1) := by decide +kernel
theorem dX13_factor_1 : decode cX13_factor 1 = .ok (.istore_n 3, 1) := by decide +kernel
theorem dX13_factor_2 : decode cX13_factor 2 = .ok (.iconst 1, 1) := by decide +kernel
theorem dX13_factor_3 : decode cX13_factor 3 = .ok (.istore 4, 2) := by decide +kernel
theorem dX13_factor_5 : decode cX13_factor 5 = .ok (.iconst 0, 1) := by decide +kernel
theorem dX13_factor_6 : decode cX13_factor 6 = .ok (.istore 5, 2) := by decide +kernel
theorem dX13_factor_8 : decode cX13_factor 8 = .ok (.iload 5, 2) := by decide +kernel
theorem dX13_factor_10 : decode cX13_factor 10 = .ok (.bipush 8, 2) := by decide +kernel
theorem dX13_factor_12 : decode cX13_factor 12 = .ok (.if_icmp .ge 55, 3) := by decide +kernel
theorem dX13_factor_15 : decode cX13_factor 15 = .ok (.iload 5, 2) := by decide +kernel
theorem dX13_factor_17 : decode cX13_factor 17 = .ok (.iload_n 1, 1) := by decide +kernel
theorem dX13_factor_18 : decode cX13_factor 18 = .ok (.if_icmp .eq 43, 3) := by decide +kernel
theorem dX13_factor_21 : decode cX13_factor 21 = .ok (.iload_n 0, 1) := by decide +kernel
theorem dX13_factor_22 : decode cX13_factor 22 = .ok (.iload 5, 2) := by decide +kernel
theorem dX13_factor_24 : decode cX13_factor 24 = .ok (.ishr, 1) := by decide +kernel
theorem dX13_factor_25 : decode cX13_factor 25 = .ok (.iconst 1, 1) := by decide +kernel
theorem dX13_factor_26 : decode cX13_factor 26 = .ok (.iand, 1) := by decide +kernel
theorem dX13_factor_27 : decode cX13_factor 27 = .ok (.iconst 1, 1) := by decide +kernel
theorem dX13_factor_28 : decode cX13_factor 28 = .ok (.if_icmp .ne 33, 3) := by decide +kernel
theorem dX13_factor_31 : decode cX13_factor 31 = .ok (.iload_n 3, 1) := by decide +kernel
theorem dX13_factor_32 : decode cX13_factor 32 = .ok (.iload_n 2, 1) := by decide +kernel
theorem dX13_factor_33 : decode cX13_factor 33 = .ok (.iload 5, 2) := by decide +kernel
theorem dX13_factor_35 : decode cX13_factor 35 = .ok (.isub, 1) := by decide +kernel
theorem dX13_factor_36 : decode cX13_factor 36 = .ok (.iconst 1, 1) := by decide +kernel
theorem dX13_factor_37 : decode cX13_factor 37 = .ok (.isub, 1) := by decide +kernel
theorem dX13_factor_38 : decode cX13_factor 38 = .ok (.invokestatic 99, 3) := by decide +kernel
theorem dX13_factor_41 : decode cX13_factor 41 = .ok (.imul, 1) := by decide +kernel
theorem dX13_factor_42 : decode cX13_factor 42 = .ok (.bipush 97, 2) := by decide +kernel
theorem dX13_factor_44 : decode cX13_factor 44 = .ok (.irem, 1) := by decide +kernel
theorem dX13_factor_45 : decode cX13_factor 45 = .ok (.istore_n 3, 1) := by decide +kernel
theorem dX13_factor_46 : decode cX13_factor 46 = .ok (.iload 4, 2) := by decide +kernel
theorem dX13_factor_48 : decode cX13_factor 48 = .ok (.iload_n 1, 1) := by decide +kernel
theorem dX13_factor_49 : decode cX13_factor 49 = .ok (.iload 5, 2) := by decide +kernel
theorem dX13_factor_51 : decode cX13_factor 51 = .ok (.isub, 1) := by decide +kernel
theorem dX13_factor_52 : decode cX13_factor 52 = .ok (.invokestatic 99, 3) := by decide +kernel
theorem dX13_factor_55 : decode cX13_factor 55 = .ok (.imul, 1) := by decide +kernel
theorem dX13_factor_56 : decode cX13_factor 56 = .ok (.bipush 97, 2) := by decide +kernel
theorem dX13_factor_58 : decode cX13_factor 58 = .ok (.irem, 1) := by decide +kernel
theorem dX13_factor_59 : decode cX13_factor 59 = .ok (.istore 4, 2) := by decide +kernel
theorem dX13_factor_61 : decode cX13_factor 61 = .ok (.iinc 5 1, 3) := by decide +kernel
theorem dX13_factor_64 : decode cX13_factor 64 = .ok (.goto (-56), 3) := by decide +kernel
theorem dX13_factor_67 : decode cX13_factor 67 = .ok (.iload_n 3, 1) := by decide +kernel
theorem dX13_factor_68 : decode cX13_factor 68 = .ok (.iload 4, 2) := by decide +kernel
theorem dX13_factor_70 : decode cX13_factor 70 = .ok (.invokestatic 102, 3) := by decide +kernel
theorem dX13_factor_73 : decode cX13_factor 73 = .ok (.imul, 1) := by decide +kernel
theorem dX13_factor_74 : decode cX13_factor 74 = .ok (.bipush 97, 2) := by decide +kernel
theorem dX13_factor_76 : decode cX13_factor 76 = .ok (.irem, 1) := by decide +kernel
theorem dX13_factor_77 : decode cX13_factor 77 = .ok (.ireturn, 1) := by decide +kernel
set_option maxRecDepth 20000 in
theorem ggX13_unfit_X13_valueAt : GoodIn wsX13_unfit wsX13_valueAt := goodIn_ca (goodIn_r _ [5, 6, 7, 8, 4, 9, 10, 11, 12, 13, 14, 15, 16, 17, 18, 19, 20, 21, 22, 23, 24, 25, 26, 27, 28, 29, 30, 31, 32, 33, 34, 35, 36, 37, 38, 39, 40, 41] (by decide +kernel) (by decide +kernel)) (goodIn_sub (fun _ h => List.mem_cons_of_mem _ (List.mem_append_right _ h)) (by decide +kernel))
set_option maxRecDepth 20000 in
theorem gX13_unfit_X13_valueAt : GoodIn wsX13_unfit (wsV RX13 105 RX13 yX13_valueAt wsX13_valueAt) := goodIn_app (goodIn_of _ (by decide +kernel)) ggX13_unfit_X13_valueAt
set_option maxRecDepth 20000 in
theorem ggX13_unfit_X13_of : GoodIn wsX13_unfit wsX13_of := goodIn_ca (goodIn_r _ [9, 10, 11, 12, 13, 14, 24, 25, 26, 27, 28, 29, 30, 31, 32, 33, 34, 35, 36, 37, 38, 39, 40, 41] (by decide +kernel) (by decide +kernel)) (goodIn_sub (fun _ h => List.mem_cons_of_mem _ (List.mem_append_right _ h)) (by decide +kernel))
set_option maxRecDepth 20000 in
theorem gX13_unfit_X13_of : GoodIn wsX13_unfit (wsV RX13 67 RX13 yX13_of wsX13_of) := goodIn_app (goodIn_of _ (by decide +kernel)) ggX13_unfit_X13_of
theorem dX13_unfit_0 : decode cX13_unfit 0 = .ok (.iconst 0, 1) := by decide +kernel
theorem dX13_unfit_1 : decode cX13_unfit 1 = .ok (.istore 4, 2) := by decide +kernel
theorem dX13_unfit_3 : decode cX13_unfit 3 = .ok (.iconst 0, 1) := by decide +kernel
theorem dX13_unfit_4 : decode cX13_unfit 4 = .ok (.istore 5, 2) := by decide +kernel
theorem dX13_unfit_6 : decode cX13_unfit 6 = .ok (.iload 5, 2) := by decide +kernel
theorem dX13_unfit_8 : decode cX13_unfit 8 = .ok (.bipush 8, 2) := by decide +kernel
theorem dX13_unfit_10 : decode cX13_unfit 10 = .ok (.if_icmp .ge 51, 3) := by decide +kernel
theorem dX13_unfit_13 : decode cX13_unfit 13 = .ok (.iload 4, 2) := by decide +kernel
theorem dX13_unfit_15 : decode cX13_unfit 15 = .ok (.iload_n 2, 1) := by decide +kernel
theorem dX13_unfit_16 : decode cX13_unfit 16 = .ok (.iload 5, 2) := by decide +kernel
theorem dX13_unfit_18 : decode cX13_unfit 18 = .ok (.ishr, 1) := by decide +kernel
theorem dX13_unfit_19 : decode cX13_unfit 19 = .ok (.iconst 1, 1) := by decide +kernel
theorem dX13_unfit_20 : decode cX13_unfit 20 = .ok (.iand, 1) := by decide +kernel
theorem dX13_unfit_21 : decode cX13_unfit 21 = .ok (.iconst 1, 1) := by decide +kernel
theorem dX13_unfit_22 : decode cX13_unfit 22 = .ok (.if_icmp .ne 29, 3) := by decide +kernel
theorem dX13_unfit_25 : decode cX13_unfit 25 = .ok (.aload_n 0, 1) := by decide +kernel
theorem dX13_unfit_26 : decode cX13_unfit 26 = .ok (.iload_n 1, 1) := by decide +kernel
theorem dX13_unfit_27 : decode cX13_unfit 27 = .ok (.iload_n 3, 1) := by decide +kernel
theorem dX13_unfit_28 : decode cX13_unfit 28 = .ok (.iload 5, 2) := by decide +kernel
theorem dX13_unfit_30 : decode cX13_unfit 30 = .ok (.iconst 1, 1) := by decide +kernel
theorem dX13_unfit_31 : decode cX13_unfit 31 = .ok (.iadd, 1) := by decide +kernel
theorem dX13_unfit_32 : decode cX13_unfit 32 = .ok (.invokevirtual 105, 3) := by decide +kernel
theorem dX13_unfit_35 : decode cX13_unfit 35 = .ok (.aload_n 0, 1) := by decide +kernel
theorem dX13_unfit_36 : decode cX13_unfit 36 = .ok (.iload_n 1, 1) := by decide +kernel
theorem dX13_unfit_37 : decode cX13_unfit 37 = .ok (.iconst 2, 1) := by decide +kernel
theorem dX13_unfit_38 : decode cX13_unfit 38 = .ok (.iload 5, 2) := by decide +kernel
theorem dX13_unfit_40 : decode cX13_unfit 40 = .ok (.iadd, 1) := by decide +kernel
theorem dX13_unfit_41 : decode cX13_unfit 41 = .ok (.invokevirtual 67, 3) := by decide +kernel
theorem dX13_unfit_44 : decode cX13_unfit 44 = .ok (.if_icmp .eq 7, 3) := by decide +kernel
theorem dX13_unfit_47 : decode cX13_unfit 47 = .ok (.iconst 1, 1) := by decide +kernel
theorem dX13_unfit_48 : decode cX13_unfit 48 = .ok (.goto 4, 3) := by decide +kernel
theorem dX13_unfit_51 : decode cX13_unfit 51 = .ok (.iconst 0, 1) := by decide +kernel
theorem dX13_unfit_52 : decode cX13_unfit 52 = .ok (.iadd, 1) := by decide +kernel
theorem dX13_unfit_53 : decode cX13_unfit 53 = .ok (.istore 4, 2) := by decide +kernel
theorem dX13_unfit_55 : decode cX13_unfit 55 = .ok (.iinc 5 1, 3) := by decide +kernel
theorem dX13_unfit_58 : decode cX13_unfit 58 = .ok (.goto (-52), 3) := by decide +kernel
theorem dX13_unfit_61 : decode cX13_unfit 61 = .ok (.iload 4, 2) := by decide +kernel
theorem dX13_unfit_63 : decode cX13_unfit 63 = .ok (.ireturn, 1) := by decide +kernel
set_option maxRecDepth 20000 in
theorem ggX13_adds_X13_isNest : GoodIn wsX13_adds wsX13_isNest := goodIn_r _ [5, 6, 7, 4, 8] (by decide +kernel) (by decide +kernel)
set_option maxRecDepth 20000 in
theorem gX13_adds_X13_isNest : GoodIn wsX13_adds (va_wsS RX13 108 yX13_isNest wsX13_isNest) := goodIn_app (goodIn_of _ (by decide +kernel)) ggX13_adds_X13_isNest
set_option maxRecDepth 20000 in
theorem ggX13_adds_X13_allows : GoodIn wsX13_adds wsX13_allows := goodIn_r _ [12, 13, 14, 15, 16, 17, 18, 19, 20, 21, 22, 23, 24, 25, 26, 27, 28, 29, 30, 31] (by decide +kernel) (by decide +kernel)
set_option maxRecDepth 20000 in
theorem gX13_adds_X13_allows : GoodIn wsX13_adds (wsV RX13 41 RX13 yX13_allows wsX13_allows) := goodIn_app (goodIn_of _ (by decide +kernel)) ggX13_adds_X13_allows
theorem dX13_adds_0 : decode cX13_adds 0 = .ok (.aload_n 0, 1) := by decide +kernel
theorem dX13_adds_1 : decode cX13_adds 1 = .ok (.iload_n 1, 1) := by decide +kernel
theorem dX13_adds_2 : decode cX13_adds 2 = .ok (.invokestatic 108, 3) := by decide +kernel
theorem dX13_adds_5 : decode cX13_adds 5 = .ok (.aload_n 0, 1) := by decide +kernel
theorem dX13_adds_6 : decode cX13_adds 6 = .ok (.getfield 9, 3) := by decide +kernel
theorem dX13_adds_9 : decode cX13_adds 9 = .ok (.iconst 0, 1) := by decide +kernel
theorem dX13_adds_10 : decode cX13_adds 10 = .ok (.iaload, 1) := by decide +kernel
theorem dX13_adds_11 : decode cX13_adds 11 = .ok (.bipush 8, 2) := by decide +kernel
theorem dX13_adds_13 : decode cX13_adds 13 = .ok (.if_icmp .ge 7, 3) := by decide +kernel
theorem dX13_adds_16 : decode cX13_adds 16 = .ok (.iconst 1, 1) := by decide +kernel
theorem dX13_adds_17 : decode cX13_adds 17 = .ok (.goto 4, 3) := by decide +kernel
theorem dX13_adds_20 : decode cX13_adds 20 = .ok (.iconst 0, 1) := by decide +kernel
theorem dX13_adds_21 : decode cX13_adds 21 = .ok (.iconst 1, 1) := by decide +kernel
theorem dX13_adds_22 : decode cX13_adds 22 = .ok (.iconst 1, 1) := by decide +kernel
theorem dX13_adds_23 : decode cX13_adds 23 = .ok (.invokevirtual 41, 3) := by decide +kernel
theorem dX13_adds_26 : decode cX13_adds 26 = .ok (.ifCond .ne 5, 3) := by decide +kernel
theorem dX13_adds_29 : decode cX13_adds 29 = .ok (.iconst 0, 1) := by decide +kernel
theorem dX13_adds_30 : decode cX13_adds 30 = .ok (.ireturn, 1) := by decide +kernel
theorem dX13_adds_31 : decode cX13_adds 31 = .ok (.aload_n 0, 1) := by decide +kernel
theorem dX13_adds_32 : decode cX13_adds 32 = .ok (.getfield 9, 3) := by decide +kernel
theorem dX13_adds_35 : decode cX13_adds 35 = .ok (.iconst 4, 1) := by decide +kernel
theorem dX13_adds_36 : decode cX13_adds 36 = .ok (.aload_n 0, 1) := by decide +kernel
theorem dX13_adds_37 : decode cX13_adds 37 = .ok (.getfield 9, 3) := by decide +kernel
theorem dX13_adds_40 : decode cX13_adds 40 = .ok (.iconst 0, 1) := by decide +kernel
theorem dX13_adds_41 : decode cX13_adds 41 = .ok (.iaload, 1) := by decide +kernel
theorem dX13_adds_42 : decode cX13_adds 42 = .ok (.iadd, 1) := by decide +kernel
theorem dX13_adds_43 : decode cX13_adds 43 = .ok (.iload_n 1, 1) := by decide +kernel
theorem dX13_adds_44 : decode cX13_adds 44 = .ok (.iastore, 1) := by decide +kernel
theorem dX13_adds_45 : decode cX13_adds 45 = .ok (.iconst 0, 1) := by decide +kernel
theorem dX13_adds_46 : decode cX13_adds 46 = .ok (.istore_n 2, 1) := by decide +kernel
theorem dX13_adds_47 : decode cX13_adds 47 = .ok (.iload_n 2, 1) := by decide +kernel
theorem dX13_adds_48 : decode cX13_adds 48 = .ok (.aload_n 0, 1) := by decide +kernel
theorem dX13_adds_49 : decode cX13_adds 49 = .ok (.getfield 9, 3) := by decide +kernel
theorem dX13_adds_52 : decode cX13_adds 52 = .ok (.iconst 1, 1) := by decide +kernel
theorem dX13_adds_53 : decode cX13_adds 53 = .ok (.iaload, 1) := by decide +kernel
theorem dX13_adds_54 : decode cX13_adds 54 = .ok (.if_icmp .ge 31, 3) := by decide +kernel
theorem dX13_adds_57 : decode cX13_adds 57 = .ok (.aload_n 0, 1) := by decide +kernel
theorem dX13_adds_58 : decode cX13_adds 58 = .ok (.getfield 9, 3) := by decide +kernel
theorem dX13_adds_61 : decode cX13_adds 61 = .ok (.bipush 12, 2) := by decide +kernel
theorem dX13_adds_63 : decode cX13_adds 63 = .ok (.bipush 10, 2) := by decide +kernel
theorem dX13_adds_65 : decode cX13_adds 65 = .ok (.iload_n 2, 1) := by decide +kernel
theorem dX13_adds_66 : decode cX13_adds 66 = .ok (.imul, 1) := by decide +kernel
theorem dX13_adds_67 : decode cX13_adds 67 = .ok (.iadd, 1) := by decide +kernel
theorem dX13_adds_68 : decode cX13_adds 68 = .ok (.iconst 2, 1) := by decide +kernel
theorem dX13_adds_69 : decode cX13_adds 69 = .ok (.iadd, 1) := by decide +kernel
theorem dX13_adds_70 : decode cX13_adds 70 = .ok (.aload_n 0, 1) := by decide +kernel
theorem dX13_adds_71 : decode cX13_adds 71 = .ok (.getfield 9, 3) := by decide +kernel
theorem dX13_adds_74 : decode cX13_adds 74 = .ok (.iconst 0, 1) := by decide +kernel
theorem dX13_adds_75 : decode cX13_adds 75 = .ok (.iaload, 1) := by decide +kernel
theorem dX13_adds_76 : decode cX13_adds 76 = .ok (.iadd, 1) := by decide +kernel
theorem dX13_adds_77 : decode cX13_adds 77 = .ok (.iconst (-1), 1) := by decide +kernel
theorem dX13_adds_78 : decode cX13_adds 78 = .ok (.iastore, 1) := by decide +kernel
theorem dX13_adds_79 : decode cX13_adds 79 = .ok (.iinc 2 1, 3) := by decide +kernel
theorem dX13_adds_82 : decode cX13_adds 82 = .ok (.goto (-35), 3) := by decide +kernel
theorem dX13_adds_85 : decode cX13_adds 85 = .ok (.aload_n 0, 1) := by decide +kernel
theorem dX13_adds_86 : decode cX13_adds 86 = .ok (.getfield 9, 3) := by decide +kernel
theorem dX13_adds_89 : decode cX13_adds 89 = .ok (.iconst 0, 1) := by decide +kernel
theorem dX13_adds_90 : decode cX13_adds 90 = .ok (.dup2, 1) := by decide +kernel
theorem dX13_adds_91 : decode cX13_adds 91 = .ok (.iaload, 1) := by decide +kernel
theorem dX13_adds_92 : decode cX13_adds 92 = .ok (.iconst 1, 1) := by decide +kernel
theorem dX13_adds_93 : decode cX13_adds 93 = .ok (.iadd, 1) := by decide +kernel
theorem dX13_adds_94 : decode cX13_adds 94 = .ok (.iastore, 1) := by decide +kernel
theorem dX13_adds_95 : decode cX13_adds 95 = .ok (.aload_n 0, 1) := by decide +kernel
theorem dX13_adds_96 : decode cX13_adds 96 = .ok (.getfield 9, 3) := by decide +kernel
theorem dX13_adds_99 : decode cX13_adds 99 = .ok (.iconst 0, 1) := by decide +kernel
theorem dX13_adds_100 : decode cX13_adds 100 = .ok (.iaload, 1) := by decide +kernel
theorem dX13_adds_101 : decode cX13_adds 101 = .ok (.iconst 1, 1) := by decide +kernel
theorem dX13_adds_102 : decode cX13_adds 102 = .ok (.isub, 1) := by decide +kernel
theorem dX13_adds_103 : decode cX13_adds 103 = .ok (.ireturn, 1) := by decide +kernel
set_option maxRecDepth 20000 in
theorem ggX13_addBird_X13_begins : GoodIn wsX13_addBird wsX13_begins := goodIn_ca (goodIn_r _ [5, 6, 7, 8, 9, 4, 10, 36, 37, 38, 39, 40, 41, 42, 43, 44, 45, 46, 47, 48, 49, 50, 51, 52, 53] (by decide +kernel) (by decide +kernel)) (goodIn_sub (fun _ h => List.mem_cons_of_mem _ (List.mem_append_right _ h)) (by decide +kernel))
set_option maxRecDepth 20000 in
theorem gX13_addBird_X13_begins : GoodIn wsX13_addBird (wsV RX13 111 RX13 yX13_begins wsX13_begins) := goodIn_app (goodIn_of _ (by decide +kernel)) ggX13_addBird_X13_begins
set_option maxRecDepth 20000 in
theorem ggX13_addBird_X13_adds : GoodIn wsX13_addBird wsX13_adds := goodIn_ca (goodIn_r _ [14, 6, 15, 16, 4, 17, 18, 19, 20, 21, 22, 23, 24, 25, 36, 37, 38, 39, 40, 41, 42, 43, 44, 45, 46, 47, 48, 49, 50, 51, 52, 53] (by decide +kernel) (by decide +kernel)) (goodIn_sub (fun _ h => List.mem_cons_of_mem _ (List.mem_append_right _ h)) (by decide +kernel))
set_option maxRecDepth 20000 in
theorem gX13_addBird_X13_adds : GoodIn wsX13_addBird (wsV RX13 114 RX13 yX13_adds wsX13_adds) := goodIn_app (goodIn_of _ (by decide +kernel)) ggX13_addBird_X13_adds
set_option maxRecDepth 20000 in
theorem ggX13_addBird_X13_ends : GoodIn wsX13_addBird wsX13_ends := goodIn_ca (goodIn_r _ [29, 25, 7, 6, 8, 9, 4, 10, 30, 31, 32, 33, 34, 35, 36, 37, 38, 39, 40, 41, 42, 43, 44, 45, 46, 47, 48, 49, 50, 51, 52, 53] (by decide +kernel) (by decide +kernel)) (goodIn_sub (fun _ h => List.mem_cons_of_mem _ (List.mem_append_right _ h)) (by decide +kernel))
set_option maxRecDepth 20000 in
theorem gX13_addBird_X13_ends : GoodIn wsX13_addBird (wsV RX13 117 RX13 yX13_ends wsX13_ends) := goodIn_app (goodIn_of _ (by decide +kernel)) ggX13_addBird_X13_ends
theorem dX13_addBird_0 : decode cX13_addBird 0 = .ok (.aload_n 0, 1) := by decide +kernel
theorem dX13_addBird_1 : decode cX13_addBird 1 = .ok (.invokevirtual 111, 3) := by decide +kernel
theorem dX13_addBird_4 : decode cX13_addBird 4 = .ok (.aload_n 0, 1) := by decide +kernel
theorem dX13_addBird_5 : decode cX13_addBird 5 = .ok (.aload_n 0, 1) := by decide +kernel
theorem dX13_addBird_6 : decode cX13_addBird 6 = .ok (.iload_n 1, 1) := by decide +kernel
theorem dX13_addBird_7 : decode cX13_addBird 7 = .ok (.invokevirtual 114, 3) := by decide +kernel
theorem dX13_addBird_10 : decode cX13_addBird 10 = .ok (.invokevirtual 117, 3) := by decide +kernel
theorem dX13_addBird_13 : decode cX13_addBird 13 = .ok (.ireturn, 1) := by decide +kernel
set_option maxRecDepth 20000 in
theorem ggX13_moves_X13_isBird : GoodIn wsX13_moves wsX13_isBird := goodIn_ca (goodIn_r _ [6, 1, 7, 8, 5, 9, 18, 19, 20, 21, 22, 23, 24, 25, 26, 27, 28, 29, 30, 31, 32, 33, 34, 35] (by decide +kernel) (by decide +kernel)) (goodIn_sub (fun _ h => List.mem_cons_of_mem _ (List.mem_append_right _ h)) (by decide +kernel))
set_option maxRecDepth 20000 in
theorem gX13_moves_X13_isBird : GoodIn wsX13_moves (wsV RX13 76 RX13 yX13_isBird wsX13_isBird) := goodIn_app (goodIn_of _ (by decide +kernel)) ggX13_moves_X13_isBird
set_option maxRecDepth 20000 in
theorem ggX13_moves_X13_isNest : GoodIn wsX13_moves wsX13_isNest := goodIn_r _ [12, 7, 8, 5, 9] (by decide +kernel) (by decide +kernel)
set_option maxRecDepth 20000 in
theorem gX13_moves_X13_isNest : GoodIn wsX13_moves (va_wsS RX13 108 yX13_isNest wsX13_isNest) := goodIn_app (goodIn_of _ (by decide +kernel)) ggX13_moves_X13_isNest
set_option maxRecDepth 20000 in
theorem ggX13_moves_X13_allows : GoodIn wsX13_moves wsX13_allows := goodIn_r _ [16, 17, 18, 19, 20, 21, 22, 23, 24, 25, 26, 27, 28, 29, 30, 31, 32, 33, 34, 35] (by decide +kernel) (by decide +kernel)
set_option maxRecDepth 20000 in
theorem gX13_moves_X13_allows : GoodIn wsX13_moves (wsV RX13 41 RX13 yX13_allows wsX13_allows) := goodIn_app (goodIn_of _ (by decide +kernel)) ggX13_moves_X13_allows
theorem dX13_moves_0 : decode cX13_moves 0 = .ok (.aload_n 0, 1) := by decide +kernel
theorem dX13_moves_1 : decode cX13_moves 1 = .ok (.aload_n 0, 1) := by decide +kernel
theorem dX13_moves_2 : decode cX13_moves 2 = .ok (.iload_n 1, 1) := by decide +kernel
theorem dX13_moves_3 : decode cX13_moves 3 = .ok (.invokevirtual 76, 3) := by decide +kernel
theorem dX13_moves_6 : decode cX13_moves 6 = .ok (.iload_n 2, 1) := by decide +kernel
theorem dX13_moves_7 : decode cX13_moves 7 = .ok (.invokestatic 108, 3) := by decide +kernel
theorem dX13_moves_10 : decode cX13_moves 10 = .ok (.iconst 1, 1) := by decide +kernel
theorem dX13_moves_11 : decode cX13_moves 11 = .ok (.iconst 1, 1) := by decide +kernel
theorem dX13_moves_12 : decode cX13_moves 12 = .ok (.invokevirtual 41, 3) := by decide +kernel
theorem dX13_moves_15 : decode cX13_moves 15 = .ok (.ifCond .ne 5, 3) := by decide +kernel
theorem dX13_moves_18 : decode cX13_moves 18 = .ok (.iconst 0, 1) := by decide +kernel
theorem dX13_moves_19 : decode cX13_moves 19 = .ok (.ireturn, 1) := by decide +kernel
theorem dX13_moves_20 : decode cX13_moves 20 = .ok (.aload_n 0, 1) := by decide +kernel
theorem dX13_moves_21 : decode cX13_moves 21 = .ok (.getfield 9, 3) := by decide +kernel
theorem dX13_moves_24 : decode cX13_moves 24 = .ok (.iconst 4, 1) := by decide +kernel
theorem dX13_moves_25 : decode cX13_moves 25 = .ok (.iload_n 1, 1) := by decide +kernel
theorem dX13_moves_26 : decode cX13_moves 26 = .ok (.iadd, 1) := by decide +kernel
theorem dX13_moves_27 : decode cX13_moves 27 = .ok (.iaload, 1) := by decide +kernel
theorem dX13_moves_28 : decode cX13_moves 28 = .ok (.istore_n 3, 1) := by decide +kernel
theorem dX13_moves_29 : decode cX13_moves 29 = .ok (.aload_n 0, 1) := by decide +kernel
theorem dX13_moves_30 : decode cX13_moves 30 = .ok (.getfield 9, 3) := by decide +kernel
theorem dX13_moves_33 : decode cX13_moves 33 = .ok (.iconst 4, 1) := by decide +kernel
theorem dX13_moves_34 : decode cX13_moves 34 = .ok (.iload_n 1, 1) := by decide +kernel
theorem dX13_moves_35 : decode cX13_moves 35 = .ok (.iadd, 1) := by decide +kernel
theorem dX13_moves_36 : decode cX13_moves 36 = .ok (.iload_n 2, 1) := by decide +kernel
theorem dX13_moves_37 : decode cX13_moves 37 = .ok (.iastore, 1) := by decide +kernel
theorem dX13_moves_38 : decode cX13_moves 38 = .ok (.iload_n 3, 1) := by decide +kernel
theorem dX13_moves_39 : decode cX13_moves 39 = .ok (.ireturn, 1) := by decide +kernel
set_option maxRecDepth 20000 in
theorem ggX13_move_X13_begins : GoodIn wsX13_move wsX13_begins := goodIn_ca (goodIn_r _ [5, 6, 7, 8, 9, 4, 10, 40, 41, 42, 43, 44, 45, 46, 47, 48, 49, 50, 51, 52, 53, 54, 55, 56, 57] (by decide +kernel) (by decide +kernel)) (goodIn_sub (fun _ h => List.mem_cons_of_mem _ (List.mem_append_right _ h)) (by decide +kernel))
set_option maxRecDepth 20000 in
theorem gX13_move_X13_begins : GoodIn wsX13_move (wsV RX13 111 RX13 yX13_begins wsX13_begins) := goodIn_app (goodIn_of _ (by decide +kernel)) ggX13_move_X13_begins
set_option maxRecDepth 20000 in
theorem ggX13_move_X13_moves : GoodIn wsX13_move wsX13_moves := goodIn_ca (goodIn_r _ [14, 6, 15, 16, 17, 4, 18, 19, 20, 21, 22, 23, 24, 25, 26, 27, 28, 29, 40, 41, 42, 43, 44, 45, 46, 47, 48, 49, 50, 51, 52, 53, 54, 55, 56, 57] (by decide +kernel) (by decide +kernel)) (goodIn_sub (fun _ h => List.mem_cons_of_mem _ (List.mem_append_right _ h)) (by decide +kernel))
set_option maxRecDepth 20000 in
theorem gX13_move_X13_moves : GoodIn wsX13_move (wsV RX13 120 RX13 yX13_moves wsX13_moves) := goodIn_app (goodIn_of _ (by decide +kernel)) ggX13_move_X13_moves
set_option maxRecDepth 20000 in
theorem ggX13_move_X13_ends : GoodIn wsX13_move wsX13_ends := goodIn_ca (goodIn_r _ [33, 29, 7, 6, 8, 9, 4, 10, 34, 35, 36, 37, 38, 39, 40, 41, 42, 43, 44, 45, 46, 47, 48, 49, 50, 51, 52, 53, 54, 55, 56, 57] (by decide +kernel) (by decide +kernel)) (goodIn_sub (fun _ h => List.mem_cons_of_mem _ (List.mem_append_right _ h)) (by decide +kernel))
set_option maxRecDepth 20000 in
theorem gX13_move_X13_ends : GoodIn wsX13_move (wsV RX13 117 RX13 yX13_ends wsX13_ends) := goodIn_app (goodIn_of _ (by decide +kernel)) ggX13_move_X13_ends
theorem dX13_move_0 : decode cX13_move 0 = .ok (.aload_n 0, 1) := by decide +kernel
theorem dX13_move_1 : decode cX13_move 1 = .ok (.invokevirtual 111, 3) := by decide +kernel
theorem dX13_move_4 : decode cX13_move 4 = .ok (.aload_n 0, 1) := by decide +kernel
theorem dX13_move_5 : decode cX13_move 5 = .ok (.aload_n 0, 1) := by decide +kernel
theorem dX13_move_6 : decode cX13_move 6 = .ok (.iload_n 1, 1) := by decide +kernel
theorem dX13_move_7 : decode cX13_move 7 = .ok (.iload_n 2, 1) := by decide +kernel
theorem dX13_move_8 : decode cX13_move 8 = .ok (.invokevirtual 120, 3) := by decide +kernel
theorem dX13_move_11 : decode cX13_move 11 = .ok (.invokevirtual 117, 3) := by decide +kernel
theorem dX13_move_14 : decode cX13_move 14 = .ok (.ireturn, 1) := by decide +kernel
theorem dX13_spread_0 : decode cX13_spread 0 = .ok (.iload_n 0, 1) := by decide +kernel
theorem dX13_spread_1 : decode cX13_spread 1 = .ok (.istore 5, 2) := by decide +kernel
theorem dX13_spread_3 : decode cX13_spread 3 = .ok (.iconst 1, 1) := by decide +kernel
theorem dX13_spread_4 : decode cX13_spread 4 = .ok (.istore 6, 2) := by decide +kernel
theorem dX13_spread_6 : decode cX13_spread 6 = .ok (.iconst 1, 1) := by decide +kernel
theorem dX13_spread_7 : decode cX13_spread 7 = .ok (.istore 7, 2) := by decide +kernel
theorem dX13_spread_9 : decode cX13_spread 9 = .ok (.iload 7, 2) := by decide +kernel
theorem dX13_spread_11 : decode cX13_spread 11 = .ok (.iload_n 3, 1) := by decide +kernel
theorem dX13_spread_12 : decode cX13_spread 12 = .ok (.if_icmp .ge 39, 3) := by decide +kernel
theorem dX13_spread_15 : decode cX13_spread 15 = .ok (.iload 6, 2) := by decide +kernel
theorem dX13_spread_17 : decode cX13_spread 17 = .ok (.iload 4, 2) := by decide +kernel
theorem dX13_spread_19 : decode cX13_spread 19 = .ok (.imul, 1) := by decide +kernel
theorem dX13_spread_20 : decode cX13_spread 20 = .ok (.bipush 97, 2) := by decide +kernel
theorem dX13_spread_22 : decode cX13_spread 22 = .ok (.irem, 1) := by decide +kernel
theorem dX13_spread_23 : decode cX13_spread 23 = .ok (.istore 6, 2) := by decide +kernel
theorem dX13_spread_25 : decode cX13_spread 25 = .ok (.iload 5, 2) := by decide +kernel
theorem dX13_spread_27 : decode cX13_spread 27 = .ok (.iload_n 1, 1) := by decide +kernel
theorem dX13_spread_28 : decode cX13_spread 28 = .ok (.iload 7, 2) := by decide +kernel
theorem dX13_spread_30 : decode cX13_spread 30 = .ok (.imul, 1) := by decide +kernel
theorem dX13_spread_31 : decode cX13_spread 31 = .ok (.iload_n 2, 1) := by decide +kernel
theorem dX13_spread_32 : decode cX13_spread 32 = .ok (.iadd, 1) := by decide +kernel
theorem dX13_spread_33 : decode cX13_spread 33 = .ok (.bipush 97, 2) := by decide +kernel
theorem dX13_spread_35 : decode cX13_spread 35 = .ok (.irem, 1) := by decide +kernel
theorem dX13_spread_36 : decode cX13_spread 36 = .ok (.iload 6, 2) := by decide +kernel
theorem dX13_spread_38 : decode cX13_spread 38 = .ok (.imul, 1) := by decide +kernel
theorem dX13_spread_39 : decode cX13_spread 39 = .ok (.iadd, 1) := by decide +kernel
theorem dX13_spread_40 : decode cX13_spread 40 = .ok (.bipush 97, 2) := by decide +kernel
theorem dX13_spread_42 : decode cX13_spread 42 = .ok (.irem, 1) := by decide +kernel
theorem dX13_spread_43 : decode cX13_spread 43 = .ok (.istore 5, 2) := by decide +kernel
theorem dX13_spread_45 : decode cX13_spread 45 = .ok (.iinc 7 1, 3) := by decide +kernel
theorem dX13_spread_48 : decode cX13_spread 48 = .ok (.goto (-39), 3) := by decide +kernel
theorem dX13_spread_51 : decode cX13_spread 51 = .ok (.iload 5, 2) := by decide +kernel
theorem dX13_spread_53 : decode cX13_spread 53 = .ok (.ireturn, 1) := by decide +kernel
set_option maxRecDepth 20000 in
theorem ggX13_splits_X13_isNumber : GoodIn wsX13_splits wsX13_isNumber := goodIn_r _ [5, 6, 7, 4, 8] (by decide +kernel) (by decide +kernel)
set_option maxRecDepth 20000 in
theorem gX13_splits_X13_isNumber : GoodIn wsX13_splits (va_wsS RX13 123 yX13_isNumber wsX13_isNumber) := goodIn_app (goodIn_of _ (by decide +kernel)) ggX13_splits_X13_isNumber
set_option maxRecDepth 20000 in
theorem ggX13_splits_X13_isIn : GoodIn wsX13_splits wsX13_isIn := goodIn_r _ [8] (by decide +kernel) (by decide +kernel)
set_option maxRecDepth 20000 in
theorem gX13_splits_X13_isIn : GoodIn wsX13_splits (va_wsS RX13 63 yX13_isIn wsX13_isIn) := goodIn_app (goodIn_of _ (by decide +kernel)) ggX13_splits_X13_isIn
set_option maxRecDepth 20000 in
theorem ggX13_splits_X13_allows : GoodIn wsX13_splits wsX13_allows := goodIn_r _ [12, 13, 21, 22, 23, 24, 25, 26, 27, 28, 29, 30, 31, 32, 33, 34, 35, 36, 37, 38] (by decide +kernel) (by decide +kernel)
set_option maxRecDepth 20000 in
theorem gX13_splits_X13_allows : GoodIn wsX13_splits (wsV RX13 41 RX13 yX13_allows wsX13_allows) := goodIn_app (goodIn_of _ (by decide +kernel)) ggX13_splits_X13_allows
set_option maxRecDepth 20000 in
theorem ggX13_splits_X13_isBird : GoodIn wsX13_splits wsX13_isBird := goodIn_ca (goodIn_r _ [17, 1, 6, 7, 4, 8, 21, 22, 23, 24, 25, 26, 27, 28, 29, 30, 31, 32, 33, 34, 35, 36, 37, 38] (by decide +kernel) (by decide +kernel)) (goodIn_sub (fun _ h => List.mem_cons_of_mem _ (List.mem_append_right _ h)) (by decide +kernel))
set_option maxRecDepth 20000 in
theorem gX13_splits_X13_isBird : GoodIn wsX13_splits (wsV RX13 76 RX13 yX13_isBird wsX13_isBird) := goodIn_app (goodIn_of _ (by decide +kernel)) ggX13_splits_X13_isBird
set_option maxRecDepth 20000 in
theorem ggX13_splits_X13_spread : GoodIn wsX13_splits wsX13_spread := goodIn_r _ [20] (by decide +kernel) (by decide +kernel)
set_option maxRecDepth 20000 in
theorem gX13_splits_X13_spread : GoodIn wsX13_splits (va_wsS RX13 126 yX13_spread wsX13_spread) := goodIn_app (goodIn_of _ (by decide +kernel)) ggX13_splits_X13_spread
theorem dX13_splits_0 : decode cX13_splits 0 = .ok (.iload_n 1, 1) := by decide +kernel
theorem dX13_splits_1 : decode cX13_splits 1 = .ok (.invokestatic 123, 3) := by decide +kernel
theorem dX13_splits_4 : decode cX13_splits 4 = .ok (.ifCond .eq 23, 3) := by decide +kernel
theorem dX13_splits_7 : decode cX13_splits 7 = .ok (.iload_n 2, 1) := by decide +kernel
theorem dX13_splits_8 : decode cX13_splits 8 = .ok (.iconst 1, 1) := by decide +kernel
theorem dX13_splits_9 : decode cX13_splits 9 = .ok (.iconst 4, 1) := by decide +kernel
theorem dX13_splits_10 : decode cX13_splits 10 = .ok (.invokestatic 63, 3) := by decide +kernel
theorem dX13_splits_13 : decode cX13_splits 13 = .ok (.ifCond .eq 14, 3) := by decide +kernel
theorem dX13_splits_16 : decode cX13_splits 16 = .ok (.iload_n 3, 1) := by decide +kernel
theorem dX13_splits_17 : decode cX13_splits 17 = .ok (.invokestatic 123, 3) := by decide +kernel
theorem dX13_splits_20 : decode cX13_splits 20 = .ok (.ifCond .eq 7, 3) := by decide +kernel
theorem dX13_splits_23 : decode cX13_splits 23 = .ok (.iconst 1, 1) := by decide +kernel
theorem dX13_splits_24 : decode cX13_splits 24 = .ok (.goto 4, 3) := by decide +kernel
theorem dX13_splits_27 : decode cX13_splits 27 = .ok (.iconst 0, 1) := by decide +kernel
theorem dX13_splits_28 : decode cX13_splits 28 = .ok (.istore 4, 2) := by decide +kernel
theorem dX13_splits_30 : decode cX13_splits 30 = .ok (.aload_n 0, 1) := by decide +kernel
theorem dX13_splits_31 : decode cX13_splits 31 = .ok (.iload 4, 2) := by decide +kernel
theorem dX13_splits_33 : decode cX13_splits 33 = .ok (.aload_n 0, 1) := by decide +kernel
theorem dX13_splits_34 : decode cX13_splits 34 = .ok (.getfield 9, 3) := by decide +kernel
theorem dX13_splits_37 : decode cX13_splits 37 = .ok (.iconst 1, 1) := by decide +kernel
theorem dX13_splits_38 : decode cX13_splits 38 = .ok (.iaload, 1) := by decide +kernel
theorem dX13_splits_39 : decode cX13_splits 39 = .ok (.bipush 6, 2) := by decide +kernel
theorem dX13_splits_41 : decode cX13_splits 41 = .ok (.if_icmp .ge 17, 3) := by decide +kernel
theorem dX13_splits_44 : decode cX13_splits 44 = .ok (.aload_n 0, 1) := by decide +kernel
theorem dX13_splits_45 : decode cX13_splits 45 = .ok (.getfield 9, 3) := by decide +kernel
theorem dX13_splits_48 : decode cX13_splits 48 = .ok (.iconst 0, 1) := by decide +kernel
theorem dX13_splits_49 : decode cX13_splits 49 = .ok (.iaload, 1) := by decide +kernel
theorem dX13_splits_50 : decode cX13_splits 50 = .ok (.iload_n 2, 1) := by decide +kernel
theorem dX13_splits_51 : decode cX13_splits 51 = .ok (.if_icmp .lt 7, 3) := by decide +kernel
theorem dX13_splits_54 : decode cX13_splits 54 = .ok (.iconst 1, 1) := by decide +kernel
theorem dX13_splits_55 : decode cX13_splits 55 = .ok (.goto 4, 3) := by decide +kernel
theorem dX13_splits_58 : decode cX13_splits 58 = .ok (.iconst 0, 1) := by decide +kernel
theorem dX13_splits_59 : decode cX13_splits 59 = .ok (.iconst 1, 1) := by decide +kernel
theorem dX13_splits_60 : decode cX13_splits 60 = .ok (.iconst 1, 1) := by decide +kernel
theorem dX13_splits_61 : decode cX13_splits 61 = .ok (.invokevirtual 41, 3) := by decide +kernel
theorem dX13_splits_64 : decode cX13_splits 64 = .ok (.ifCond .ne 5, 3) := by decide +kernel
theorem dX13_splits_67 : decode cX13_splits 67 = .ok (.iconst 0, 1) := by decide +kernel
theorem dX13_splits_68 : decode cX13_splits 68 = .ok (.ireturn, 1) := by decide +kernel
theorem dX13_splits_69 : decode cX13_splits 69 = .ok (.bipush 12, 2) := by decide +kernel
theorem dX13_splits_71 : decode cX13_splits 71 = .ok (.bipush 10, 2) := by decide +kernel
theorem dX13_splits_73 : decode cX13_splits 73 = .ok (.aload_n 0, 1) := by decide +kernel
theorem dX13_splits_74 : decode cX13_splits 74 = .ok (.getfield 9, 3) := by decide +kernel
theorem dX13_splits_77 : decode cX13_splits 77 = .ok (.iconst 1, 1) := by decide +kernel
theorem dX13_splits_78 : decode cX13_splits 78 = .ok (.iaload, 1) := by decide +kernel
theorem dX13_splits_79 : decode cX13_splits 79 = .ok (.imul, 1) := by decide +kernel
theorem dX13_splits_80 : decode cX13_splits 80 = .ok (.iadd, 1) := by decide +kernel
theorem dX13_splits_81 : decode cX13_splits 81 = .ok (.istore 5, 2) := by decide +kernel
theorem dX13_splits_83 : decode cX13_splits 83 = .ok (.aload_n 0, 1) := by decide +kernel
theorem dX13_splits_84 : decode cX13_splits 84 = .ok (.getfield 9, 3) := by decide +kernel
theorem dX13_splits_87 : decode cX13_splits 87 = .ok (.iconst 2, 1) := by decide +kernel
theorem dX13_splits_88 : decode cX13_splits 88 = .ok (.dup2, 1) := by decide +kernel
theorem dX13_splits_89 : decode cX13_splits 89 = .ok (.iaload, 1) := by decide +kernel
theorem dX13_splits_90 : decode cX13_splits 90 = .ok (.iconst 1, 1) := by decide +kernel
theorem dX13_splits_91 : decode cX13_splits 91 = .ok (.iadd, 1) := by decide +kernel
theorem dX13_splits_92 : decode cX13_splits 92 = .ok (.iastore, 1) := by decide +kernel
theorem dX13_splits_93 : decode cX13_splits 93 = .ok (.aload_n 0, 1) := by decide +kernel
theorem dX13_splits_94 : decode cX13_splits 94 = .ok (.getfield 9, 3) := by decide +kernel
theorem dX13_splits_97 : decode cX13_splits 97 = .ok (.iload 5, 2) := by decide +kernel
theorem dX13_splits_99 : decode cX13_splits 99 = .ok (.iconst 0, 1) := by decide +kernel
theorem dX13_splits_100 : decode cX13_splits 100 = .ok (.iadd, 1) := by decide +kernel
theorem dX13_splits_101 : decode cX13_splits 101 = .ok (.aload_n 0, 1) := by decide +kernel
theorem dX13_splits_102 : decode cX13_splits 102 = .ok (.getfield 9, 3) := by decide +kernel
theorem dX13_splits_105 : decode cX13_splits 105 = .ok (.iconst 2, 1) := by decide +kernel
theorem dX13_splits_106 : decode cX13_splits 106 = .ok (.iaload, 1) := by decide +kernel
theorem dX13_splits_107 : decode cX13_splits 107 = .ok (.iastore, 1) := by decide +kernel
theorem dX13_splits_108 : decode cX13_splits 108 = .ok (.aload_n 0, 1) := by decide +kernel
theorem dX13_splits_109 : decode cX13_splits 109 = .ok (.getfield 9, 3) := by decide +kernel
theorem dX13_splits_112 : decode cX13_splits 112 = .ok (.iload 5, 2) := by decide +kernel
theorem dX13_splits_114 : decode cX13_splits 114 = .ok (.iconst 1, 1) := by decide +kernel
theorem dX13_splits_115 : decode cX13_splits 115 = .ok (.iadd, 1) := by decide +kernel
theorem dX13_splits_116 : decode cX13_splits 116 = .ok (.iload_n 2, 1) := by decide +kernel
theorem dX13_splits_117 : decode cX13_splits 117 = .ok (.iastore, 1) := by decide +kernel
theorem dX13_splits_118 : decode cX13_splits 118 = .ok (.iconst 0, 1) := by decide +kernel
theorem dX13_splits_119 : decode cX13_splits 119 = .ok (.istore 6, 2) := by decide +kernel
theorem dX13_splits_121 : decode cX13_splits 121 = .ok (.iload 6, 2) := by decide +kernel
theorem dX13_splits_123 : decode cX13_splits 123 = .ok (.bipush 8, 2) := by decide +kernel
theorem dX13_splits_125 : decode cX13_splits 125 = .ok (.if_icmp .ge 51, 3) := by decide +kernel
theorem dX13_splits_128 : decode cX13_splits 128 = .ok (.aload_n 0, 1) := by decide +kernel
theorem dX13_splits_129 : decode cX13_splits 129 = .ok (.getfield 9, 3) := by decide +kernel
theorem dX13_splits_132 : decode cX13_splits 132 = .ok (.iload 5, 2) := by decide +kernel
theorem dX13_splits_134 : decode cX13_splits 134 = .ok (.iconst 2, 1) := by decide +kernel
theorem dX13_splits_135 : decode cX13_splits 135 = .ok (.iadd, 1) := by decide +kernel
theorem dX13_splits_136 : decode cX13_splits 136 = .ok (.iload 6, 2) := by decide +kernel
theorem dX13_splits_138 : decode cX13_splits 138 = .ok (.iadd, 1) := by decide +kernel
theorem dX13_splits_139 : decode cX13_splits 139 = .ok (.aload_n 0, 1) := by decide +kernel
theorem dX13_splits_140 : decode cX13_splits 140 = .ok (.iload 6, 2) := by decide +kernel
theorem dX13_splits_142 : decode cX13_splits 142 = .ok (.invokevirtual 76, 3) := by decide +kernel
theorem dX13_splits_145 : decode cX13_splits 145 = .ok (.ifCond .eq 23, 3) := by decide +kernel
theorem dX13_splits_148 : decode cX13_splits 148 = .ok (.iload_n 1, 1) := by decide +kernel
theorem dX13_splits_149 : decode cX13_splits 149 = .ok (.iload_n 3, 1) := by decide +kernel
theorem dX13_splits_150 : decode cX13_splits 150 = .ok (.bipush 7, 2) := by decide +kernel
theorem dX13_splits_152 : decode cX13_splits 152 = .ok (.iload_n 1, 1) := by decide +kernel
theorem dX13_splits_153 : decode cX13_splits 153 = .ok (.imul, 1) := by decide +kernel
theorem dX13_splits_154 : decode cX13_splits 154 = .ok (.bipush 13, 2) := by decide +kernel
theorem dX13_splits_156 : decode cX13_splits 156 = .ok (.iadd, 1) := by decide +kernel
theorem dX13_splits_157 : decode cX13_splits 157 = .ok (.iload_n 2, 1) := by decide +kernel
theorem dX13_splits_158 : decode cX13_splits 158 = .ok (.iload 6, 2) := by decide +kernel
theorem dX13_splits_160 : decode cX13_splits 160 = .ok (.iconst 1, 1) := by decide +kernel
theorem dX13_splits_161 : decode cX13_splits 161 = .ok (.iadd, 1) := by decide +kernel
theorem dX13_splits_162 : decode cX13_splits 162 = .ok (.invokestatic 126, 3) := by decide +kernel
theorem dX13_splits_165 : decode cX13_splits 165 = .ok (.goto 4, 3) := by decide +kernel
theorem dX13_splits_168 : decode cX13_splits 168 = .ok (.iconst (-1), 1) := by decide +kernel
theorem dX13_splits_169 : decode cX13_splits 169 = .ok (.iastore, 1) := by decide +kernel
theorem dX13_splits_170 : decode cX13_splits 170 = .ok (.iinc 6 1, 3) := by decide +kernel
theorem dX13_splits_173 : decode cX13_splits 173 = .ok (.goto (-52), 3) := by decide +kernel
theorem dX13_splits_176 : decode cX13_splits 176 = .ok (.aload_n 0, 1) := by decide +kernel
theorem dX13_splits_177 : decode cX13_splits 177 = .ok (.getfield 9, 3) := by decide +kernel
theorem dX13_splits_180 : decode cX13_splits 180 = .ok (.iconst 1, 1) := by decide +kernel
theorem dX13_splits_181 : decode cX13_splits 181 = .ok (.dup2, 1) := by decide +kernel
theorem dX13_splits_182 : decode cX13_splits 182 = .ok (.iaload, 1) := by decide +kernel
theorem dX13_splits_183 : decode cX13_splits 183 = .ok (.iconst 1, 1) := by decide +kernel
theorem dX13_splits_184 : decode cX13_splits 184 = .ok (.iadd, 1) := by decide +kernel
theorem dX13_splits_185 : decode cX13_splits 185 = .ok (.iastore, 1) := by decide +kernel
theorem dX13_splits_186 : decode cX13_splits 186 = .ok (.aload_n 0, 1) := by decide +kernel
theorem dX13_splits_187 : decode cX13_splits 187 = .ok (.getfield 9, 3) := by decide +kernel
theorem dX13_splits_190 : decode cX13_splits 190 = .ok (.iconst 2, 1) := by decide +kernel
theorem dX13_splits_191 : decode cX13_splits 191 = .ok (.iaload, 1) := by decide +kernel
theorem dX13_splits_192 : decode cX13_splits 192 = .ok (.ireturn, 1) := by decide +kernel
set_option maxRecDepth 20000 in
theorem ggX13_split_X13_begins : GoodIn wsX13_split wsX13_begins := goodIn_ca (goodIn_r _ [5, 6, 7, 8, 9, 4, 10, 43, 44, 45, 46, 47, 48, 49, 50, 51, 52, 53, 54, 55, 56, 57, 58, 59, 60] (by decide +kernel) (by decide +kernel)) (goodIn_sub (fun _ h => List.mem_cons_of_mem _ (List.mem_append_right _ h)) (by decide +kernel))
set_option maxRecDepth 20000 in
theorem gX13_split_X13_begins : GoodIn wsX13_split (wsV RX13 111 RX13 yX13_begins wsX13_begins) := goodIn_app (goodIn_of _ (by decide +kernel)) ggX13_split_X13_begins
set_option maxRecDepth 20000 in
theorem ggX13_split_X13_splits : GoodIn wsX13_split wsX13_splits := goodIn_ca (goodIn_r _ [14, 6, 15, 16, 4, 17, 18, 19, 20, 21, 22, 23, 24, 25, 26, 27, 28, 29, 30, 31, 32, 43, 44, 45, 46, 47, 48, 49, 50, 51, 52, 53, 54, 55, 56, 57, 58, 59, 60] (by decide +kernel) (by decide +kernel)) (goodIn_sub (fun _ h => List.mem_cons_of_mem _ (List.mem_append_right _ h)) (by decide +kernel))
set_option maxRecDepth 20000 in
theorem gX13_split_X13_splits : GoodIn wsX13_split (wsV RX13 130 RX13 yX13_splits wsX13_splits) := goodIn_app (goodIn_of _ (by decide +kernel)) ggX13_split_X13_splits
set_option maxRecDepth 20000 in
theorem ggX13_split_X13_ends : GoodIn wsX13_split wsX13_ends := goodIn_ca (goodIn_r _ [36, 25, 7, 6, 8, 9, 4, 10, 37, 38, 39, 40, 41, 42, 43, 44, 45, 46, 47, 48, 49, 50, 51, 52, 53, 54, 55, 56, 57, 58, 59, 60] (by decide +kernel) (by decide +kernel)) (goodIn_sub (fun _ h => List.mem_cons_of_mem _ (List.mem_append_right _ h)) (by decide +kernel))
set_option maxRecDepth 20000 in
theorem gX13_split_X13_ends : GoodIn wsX13_split (wsV RX13 117 RX13 yX13_ends wsX13_ends) := goodIn_app (goodIn_of _ (by decide +kernel)) ggX13_split_X13_ends
theorem dX13_split_0 : decode cX13_split 0 = .ok (.aload_n 0, 1) := by decide +kernel
theorem dX13_split_1 : decode cX13_split 1 = .ok (.invokevirtual 111, 3) := by decide +kernel
theorem dX13_split_4 : decode cX13_split 4 = .ok (.aload_n 0, 1) := by decide +kernel
theorem dX13_split_5 : decode cX13_split 5 = .ok (.aload_n 0, 1) := by decide +kernel
theorem dX13_split_6 : decode cX13_split 6 = .ok (.iload_n 1, 1) := by decide +kernel
theorem dX13_split_7 : decode cX13_split 7 = .ok (.iload_n 2, 1) := by decide +kernel
theorem dX13_split_8 : decode cX13_split 8 = .ok (.iload_n 3, 1) := by decide +kernel
theorem dX13_split_9 : decode cX13_split 9 = .ok (.invokevirtual 130, 3) := by decide +kernel
theorem dX13_split_12 : decode cX13_split 12 = .ok (.invokevirtual 117, 3) := by decide +kernel
theorem dX13_split_15 : decode cX13_split 15 = .ok (.ireturn, 1) := by decide +kernel
set_option maxRecDepth 20000 in
theorem ggX13_loses_X13_find : GoodIn wsX13_loses wsX13_find := goodIn_ca (goodIn_r _ [6, 1, 7, 8, 9, 5, 10, 11, 12, 13, 14, 42, 43, 44, 45, 46, 47, 48, 49, 50, 51, 52, 53, 54, 55, 56, 57, 58, 59] (by decide +kernel) (by decide +kernel)) (goodIn_sub (fun _ h => List.mem_cons_of_mem _ (List.mem_append_right _ h)) (by decide +kernel))
set_option maxRecDepth 20000 in
theorem gX13_loses_X13_find : GoodIn wsX13_loses (wsV RX13 133 RX13 yX13_find wsX13_find) := goodIn_app (goodIn_of _ (by decide +kernel)) ggX13_loses_X13_find
set_option maxRecDepth 20000 in
theorem ggX13_loses_X13_isBird : GoodIn wsX13_loses wsX13_isBird := goodIn_ca (goodIn_r _ [18, 1, 19, 20, 5, 21, 42, 43, 44, 45, 46, 47, 48, 49, 50, 51, 52, 53, 54, 55, 56, 57, 58, 59] (by decide +kernel) (by decide +kernel)) (goodIn_sub (fun _ h => List.mem_cons_of_mem _ (List.mem_append_right _ h)) (by decide +kernel))
set_option maxRecDepth 20000 in
theorem gX13_loses_X13_isBird : GoodIn wsX13_loses (wsV RX13 76 RX13 yX13_isBird wsX13_isBird) := goodIn_app (goodIn_of _ (by decide +kernel)) ggX13_loses_X13_isBird
set_option maxRecDepth 20000 in
theorem ggX13_loses_X13_shareOf : GoodIn wsX13_loses wsX13_shareOf := goodIn_ca (goodIn_r _ [25, 15, 16, 17, 5, 18, 1, 19, 20, 21, 7, 8, 9, 10, 11, 12, 13, 14, 42, 43, 44, 45, 46, 47, 48, 49, 50, 51, 52, 53, 54, 55, 56, 57, 58, 59] (by decide +kernel) (by decide +kernel)) (goodIn_sub (fun _ h => List.mem_cons_of_mem _ (List.mem_append_right _ h)) (by decide +kernel))
set_option maxRecDepth 20000 in
theorem gX13_loses_X13_shareOf : GoodIn wsX13_loses (wsV RX13 80 RX13 yX13_shareOf wsX13_shareOf) := goodIn_app (goodIn_of _ (by decide +kernel)) ggX13_loses_X13_shareOf
set_option maxRecDepth 20000 in
theorem ggX13_loses_X13_allows : GoodIn wsX13_loses wsX13_allows := goodIn_r _ [29, 30, 42, 43, 44, 45, 46, 47, 48, 49, 50, 51, 52, 53, 54, 55, 56, 57, 58, 59] (by decide +kernel) (by decide +kernel)
set_option maxRecDepth 20000 in
theorem gX13_loses_X13_allows : GoodIn wsX13_loses (wsV RX13 41 RX13 yX13_allows wsX13_allows) := goodIn_app (goodIn_of _ (by decide +kernel)) ggX13_loses_X13_allows
set_option maxRecDepth 20000 in
theorem ggX13_loses_X13_holdersOf : GoodIn wsX13_loses wsX13_holdersOf := goodIn_ca (goodIn_r _ [34, 1, 22, 23, 24, 5, 25, 15, 16, 17, 18, 19, 20, 21, 7, 8, 9, 10, 11, 12, 13, 14, 42, 43, 44, 45, 46, 47, 48, 49, 50, 51, 52, 53, 54, 55, 56, 57, 58, 59] (by decide +kernel) (by decide +kernel)) (goodIn_sub (fun _ h => List.mem_cons_of_mem _ (List.mem_append_right _ h)) (by decide +kernel))
set_option maxRecDepth 20000 in
theorem gX13_loses_X13_holdersOf : GoodIn wsX13_loses (wsV RX13 89 RX13 yX13_holdersOf wsX13_holdersOf) := goodIn_app (goodIn_of _ (by decide +kernel)) ggX13_loses_X13_holdersOf
set_option maxRecDepth 20000 in
theorem ggX13_loses_J6_bitCount_0f7a4 : GoodIn wsX13_loses wsJ6_bitCount_0f7a4 := goodIn_r _ [38, 39, 40, 41] (by decide +kernel) (by decide +kernel)
set_option maxRecDepth 20000 in
theorem gX13_loses_J6_bitCount_0f7a4 : GoodIn wsX13_loses (va_wsS RX13 83 yJ6_bitCount_0f7a4 wsJ6_bitCount_0f7a4) := goodIn_app (goodIn_of _ (by decide +kernel)) ggX13_loses_J6_bitCount_0f7a4
theorem dX13_loses_0 : decode cX13_loses 0 = .ok (.aload_n 0, 1) := by decide +kernel
theorem dX13_loses_1 : decode cX13_loses 1 = .ok (.iload_n 2, 1) := by decide +kernel
theorem dX13_loses_2 : decode cX13_loses 2 = .ok (.invokevirtual 133, 3) := by decide +kernel
theorem dX13_loses_5 : decode cX13_loses 5 = .ok (.istore_n 3, 1) := by decide +kernel
theorem dX13_loses_6 : decode cX13_loses 6 = .ok (.aload_n 0, 1) := by decide +kernel
theorem dX13_loses_7 : decode cX13_loses 7 = .ok (.aload_n 0, 1) := by decide +kernel
theorem dX13_loses_8 : decode cX13_loses 8 = .ok (.iload_n 1, 1) := by decide +kernel
theorem dX13_loses_9 : decode cX13_loses 9 = .ok (.invokevirtual 76, 3) := by decide +kernel
theorem dX13_loses_12 : decode cX13_loses 12 = .ok (.iload_n 3, 1) := by decide +kernel
theorem dX13_loses_13 : decode cX13_loses 13 = .ok (.iconst (-1), 1) := by decide +kernel
theorem dX13_loses_14 : decode cX13_loses 14 = .ok (.if_icmp .eq 7, 3) := by decide +kernel
theorem dX13_loses_17 : decode cX13_loses 17 = .ok (.iconst 1, 1) := by decide +kernel
theorem dX13_loses_18 : decode cX13_loses 18 = .ok (.goto 4, 3) := by decide +kernel
theorem dX13_loses_21 : decode cX13_loses 21 = .ok (.iconst 0, 1) := by decide +kernel
theorem dX13_loses_22 : decode cX13_loses 22 = .ok (.aload_n 0, 1) := by decide +kernel
theorem dX13_loses_23 : decode cX13_loses 23 = .ok (.iload_n 1, 1) := by decide +kernel
theorem dX13_loses_24 : decode cX13_loses 24 = .ok (.iload_n 3, 1) := by decide +kernel
theorem dX13_loses_25 : decode cX13_loses 25 = .ok (.invokevirtual 80, 3) := by decide +kernel
theorem dX13_loses_28 : decode cX13_loses 28 = .ok (.iconst (-1), 1) := by decide +kernel
theorem dX13_loses_29 : decode cX13_loses 29 = .ok (.if_icmp .eq 7, 3) := by decide +kernel
theorem dX13_loses_32 : decode cX13_loses 32 = .ok (.iconst 1, 1) := by decide +kernel
theorem dX13_loses_33 : decode cX13_loses 33 = .ok (.goto 4, 3) := by decide +kernel
theorem dX13_loses_36 : decode cX13_loses 36 = .ok (.iconst 0, 1) := by decide +kernel
theorem dX13_loses_37 : decode cX13_loses 37 = .ok (.iconst 1, 1) := by decide +kernel
theorem dX13_loses_38 : decode cX13_loses 38 = .ok (.invokevirtual 41, 3) := by decide +kernel
theorem dX13_loses_41 : decode cX13_loses 41 = .ok (.ifCond .ne 5, 3) := by decide +kernel
theorem dX13_loses_44 : decode cX13_loses 44 = .ok (.iconst 0, 1) := by decide +kernel
theorem dX13_loses_45 : decode cX13_loses 45 = .ok (.ireturn, 1) := by decide +kernel
theorem dX13_loses_46 : decode cX13_loses 46 = .ok (.aload_n 0, 1) := by decide +kernel
theorem dX13_loses_47 : decode cX13_loses 47 = .ok (.getfield 9, 3) := by decide +kernel
theorem dX13_loses_50 : decode cX13_loses 50 = .ok (.bipush 12, 2) := by decide +kernel
theorem dX13_loses_52 : decode cX13_loses 52 = .ok (.bipush 10, 2) := by decide +kernel
theorem dX13_loses_54 : decode cX13_loses 54 = .ok (.iload_n 3, 1) := by decide +kernel
theorem dX13_loses_55 : decode cX13_loses 55 = .ok (.imul, 1) := by decide +kernel
theorem dX13_loses_56 : decode cX13_loses 56 = .ok (.iadd, 1) := by decide +kernel
theorem dX13_loses_57 : decode cX13_loses 57 = .ok (.iconst 2, 1) := by decide +kernel
theorem dX13_loses_58 : decode cX13_loses 58 = .ok (.iadd, 1) := by decide +kernel
theorem dX13_loses_59 : decode cX13_loses 59 = .ok (.iload_n 1, 1) := by decide +kernel
theorem dX13_loses_60 : decode cX13_loses 60 = .ok (.iadd, 1) := by decide +kernel
theorem dX13_loses_61 : decode cX13_loses 61 = .ok (.iconst (-1), 1) := by decide +kernel
theorem dX13_loses_62 : decode cX13_loses 62 = .ok (.iastore, 1) := by decide +kernel
theorem dX13_loses_63 : decode cX13_loses 63 = .ok (.aload_n 0, 1) := by decide +kernel
theorem dX13_loses_64 : decode cX13_loses 64 = .ok (.getfield 9, 3) := by decide +kernel
theorem dX13_loses_67 : decode cX13_loses 67 = .ok (.iconst 3, 1) := by decide +kernel
theorem dX13_loses_68 : decode cX13_loses 68 = .ok (.dup2, 1) := by decide +kernel
theorem dX13_loses_69 : decode cX13_loses 69 = .ok (.iaload, 1) := by decide +kernel
theorem dX13_loses_70 : decode cX13_loses 70 = .ok (.iconst 1, 1) := by decide +kernel
theorem dX13_loses_71 : decode cX13_loses 71 = .ok (.iadd, 1) := by decide +kernel
theorem dX13_loses_72 : decode cX13_loses 72 = .ok (.iastore, 1) := by decide +kernel
theorem dX13_loses_73 : decode cX13_loses 73 = .ok (.aload_n 0, 1) := by decide +kernel
theorem dX13_loses_74 : decode cX13_loses 74 = .ok (.iload_n 3, 1) := by decide +kernel
theorem dX13_loses_75 : decode cX13_loses 75 = .ok (.invokevirtual 89, 3) := by decide +kernel
theorem dX13_loses_78 : decode cX13_loses 78 = .ok (.invokestatic 83, 3) := by decide +kernel
theorem dX13_loses_81 : decode cX13_loses 81 = .ok (.ireturn, 1) := by decide +kernel
set_option maxRecDepth 20000 in
theorem ggX13_lose_X13_begins : GoodIn wsX13_lose wsX13_begins := goodIn_ca (goodIn_r _ [5, 6, 7, 8, 9, 4, 10, 64, 65, 66, 67, 68, 69, 70, 71, 72, 73, 74, 75, 76, 77, 78, 79, 80, 81] (by decide +kernel) (by decide +kernel)) (goodIn_sub (fun _ h => List.mem_cons_of_mem _ (List.mem_append_right _ h)) (by decide +kernel))
set_option maxRecDepth 20000 in
theorem gX13_lose_X13_begins : GoodIn wsX13_lose (wsV RX13 111 RX13 yX13_begins wsX13_begins) := goodIn_app (goodIn_of _ (by decide +kernel)) ggX13_lose_X13_begins
set_option maxRecDepth 20000 in
theorem ggX13_lose_X13_loses : GoodIn wsX13_lose wsX13_loses := goodIn_ca (goodIn_r _ [14, 6, 15, 16, 17, 4, 18, 19, 20, 21, 22, 23, 24, 25, 26, 27, 28, 29, 30, 31, 32, 33, 34, 35, 36, 37, 38, 39, 40, 41, 42, 43, 44, 45, 46, 47, 48, 49, 50, 51, 52, 53, 64, 65, 66, 67, 68, 69, 70, 71, 72, 73, 74, 75, 76, 77, 78, 79, 80, 81] (by decide +kernel) (by decide +kernel)) (goodIn_sub (fun _ h => List.mem_cons_of_mem _ (List.mem_append_right _ h)) (by decide +kernel))
set_option maxRecDepth 20000 in
theorem gX13_lose_X13_loses : GoodIn wsX13_lose (wsV RX13 136 RX13 yX13_loses wsX13_loses) := goodIn_app (goodIn_of _ (by decide +kernel)) ggX13_lose_X13_loses
set_option maxRecDepth 20000 in
theorem ggX13_lose_X13_ends : GoodIn wsX13_lose wsX13_ends := goodIn_ca (goodIn_r _ [57, 42, 7, 6, 8, 9, 4, 10, 58, 59, 60, 61, 62, 63, 64, 65, 66, 67, 68, 69, 70, 71, 72, 73, 74, 75, 76, 77, 78, 79, 80, 81] (by decide +kernel) (by decide +kernel)) (goodIn_sub (fun _ h => List.mem_cons_of_mem _ (List.mem_append_right _ h)) (by decide +kernel))
set_option maxRecDepth 20000 in
theorem gX13_lose_X13_ends : GoodIn wsX13_lose (wsV RX13 117 RX13 yX13_ends wsX13_ends) := goodIn_app (goodIn_of _ (by decide +kernel)) ggX13_lose_X13_ends
theorem dX13_lose_0 : decode cX13_lose 0 = .ok (.aload_n 0, 1) := by decide +kernel
theorem dX13_lose_1 : decode cX13_lose 1 = .ok (.invokevirtual 111, 3) := by decide +kernel
theorem dX13_lose_4 : decode cX13_lose 4 = .ok (.aload_n 0, 1) := by decide +kernel
theorem dX13_lose_5 : decode cX13_lose 5 = .ok (.aload_n 0, 1) := by decide +kernel
theorem dX13_lose_6 : decode cX13_lose 6 = .ok (.iload_n 1, 1) := by decide +kernel
theorem dX13_lose_7 : decode cX13_lose 7 = .ok (.iload_n 2, 1) := by decide +kernel
theorem dX13_lose_8 : decode cX13_lose 8 = .ok (.invokevirtual 136, 3) := by decide +kernel
theorem dX13_lose_11 : decode cX13_lose 11 = .ok (.invokevirtual 117, 3) := by decide +kernel
theorem dX13_lose_14 : decode cX13_lose 14 = .ok (.ireturn, 1) := by decide +kernel
set_option maxRecDepth 20000 in
theorem ggX13_spoils_X13_find : GoodIn wsX13_spoils wsX13_find := goodIn_ca (goodIn_r _ [6, 1, 7, 8, 9, 5, 10, 11, 12, 13, 14, 31, 32, 33, 34, 35, 36, 37, 38, 39, 40, 41, 42, 43, 44, 45, 46, 47, 48] (by decide +kernel) (by decide +kernel)) (goodIn_sub (fun _ h => List.mem_cons_of_mem _ (List.mem_append_right _ h)) (by decide +kernel))
set_option maxRecDepth 20000 in
theorem gX13_spoils_X13_find : GoodIn wsX13_spoils (wsV RX13 133 RX13 yX13_find wsX13_find) := goodIn_app (goodIn_of _ (by decide +kernel)) ggX13_spoils_X13_find
set_option maxRecDepth 20000 in
theorem ggX13_spoils_X13_shareOf : GoodIn wsX13_spoils wsX13_shareOf := goodIn_ca (goodIn_r _ [18, 19, 20, 21, 5, 22, 1, 23, 24, 25, 7, 8, 9, 10, 11, 12, 13, 14, 31, 32, 33, 34, 35, 36, 37, 38, 39, 40, 41, 42, 43, 44, 45, 46, 47, 48] (by decide +kernel) (by decide +kernel)) (goodIn_sub (fun _ h => List.mem_cons_of_mem _ (List.mem_append_right _ h)) (by decide +kernel))
set_option maxRecDepth 20000 in
theorem gX13_spoils_X13_shareOf : GoodIn wsX13_spoils (wsV RX13 80 RX13 yX13_shareOf wsX13_shareOf) := goodIn_app (goodIn_of _ (by decide +kernel)) ggX13_spoils_X13_shareOf
set_option maxRecDepth 20000 in
theorem ggX13_spoils_X13_isBird : GoodIn wsX13_spoils wsX13_isBird := goodIn_ca (goodIn_r _ [22, 1, 23, 24, 5, 25, 31, 32, 33, 34, 35, 36, 37, 38, 39, 40, 41, 42, 43, 44, 45, 46, 47, 48] (by decide +kernel) (by decide +kernel)) (goodIn_sub (fun _ h => List.mem_cons_of_mem _ (List.mem_append_right _ h)) (by decide +kernel))
set_option maxRecDepth 20000 in
theorem gX13_spoils_X13_isBird : GoodIn wsX13_spoils (wsV RX13 76 RX13 yX13_isBird wsX13_isBird) := goodIn_app (goodIn_of _ (by decide +kernel)) ggX13_spoils_X13_isBird
set_option maxRecDepth 20000 in
theorem ggX13_spoils_X13_isIn : GoodIn wsX13_spoils wsX13_isIn := goodIn_r _ [25] (by decide +kernel) (by decide +kernel)
set_option maxRecDepth 20000 in
theorem gX13_spoils_X13_isIn : GoodIn wsX13_spoils (va_wsS RX13 63 yX13_isIn wsX13_isIn) := goodIn_app (goodIn_of _ (by decide +kernel)) ggX13_spoils_X13_isIn
set_option maxRecDepth 20000 in
theorem ggX13_spoils_X13_allows : GoodIn wsX13_spoils wsX13_allows := goodIn_r _ [29, 30, 31, 32, 33, 34, 35, 36, 37, 38, 39, 40, 41, 42, 43, 44, 45, 46, 47, 48] (by decide +kernel) (by decide +kernel)
set_option maxRecDepth 20000 in
theorem gX13_spoils_X13_allows : GoodIn wsX13_spoils (wsV RX13 41 RX13 yX13_allows wsX13_allows) := goodIn_app (goodIn_of _ (by decide +kernel)) ggX13_spoils_X13_allows
theorem dX13_spoils_0 : decode cX13_spoils 0 = .ok (.aload_n 0, 1) := by decide +kernel
theorem dX13_spoils_1 : decode cX13_spoils 1 = .ok (.iload_n 2, 1) := by decide +kernel
theorem dX13_spoils_2 : decode cX13_spoils 2 = .ok (.invokevirtual 133, 3) := by decide +kernel
theorem dX13_spoils_5 : decode cX13_spoils 5 = .ok (.istore 4, 2) := by decide +kernel
theorem dX13_spoils_7 : decode cX13_spoils 7 = .ok (.aload_n 0, 1) := by decide +kernel
theorem dX13_spoils_8 : decode cX13_spoils 8 = .ok (.iload_n 1, 1) := by decide +kernel
theorem dX13_spoils_9 : decode cX13_spoils 9 = .ok (.iload 4, 2) := by decide +kernel
theorem dX13_spoils_11 : decode cX13_spoils 11 = .ok (.invokevirtual 80, 3) := by decide +kernel
theorem dX13_spoils_14 : decode cX13_spoils 14 = .ok (.istore 5, 2) := by decide +kernel
theorem dX13_spoils_16 : decode cX13_spoils 16 = .ok (.aload_n 0, 1) := by decide +kernel
theorem dX13_spoils_17 : decode cX13_spoils 17 = .ok (.aload_n 0, 1) := by decide +kernel
theorem dX13_spoils_18 : decode cX13_spoils 18 = .ok (.iload_n 1, 1) := by decide +kernel
theorem dX13_spoils_19 : decode cX13_spoils 19 = .ok (.invokevirtual 76, 3) := by decide +kernel
theorem dX13_spoils_22 : decode cX13_spoils 22 = .ok (.iload 4, 2) := by decide +kernel
theorem dX13_spoils_24 : decode cX13_spoils 24 = .ok (.iconst (-1), 1) := by decide +kernel
theorem dX13_spoils_25 : decode cX13_spoils 25 = .ok (.if_icmp .eq 7, 3) := by decide +kernel
theorem dX13_spoils_28 : decode cX13_spoils 28 = .ok (.iconst 1, 1) := by decide +kernel
theorem dX13_spoils_29 : decode cX13_spoils 29 = .ok (.goto 4, 3) := by decide +kernel
theorem dX13_spoils_32 : decode cX13_spoils 32 = .ok (.iconst 0, 1) := by decide +kernel
theorem dX13_spoils_33 : decode cX13_spoils 33 = .ok (.iload_n 3, 1) := by decide +kernel
theorem dX13_spoils_34 : decode cX13_spoils 34 = .ok (.iconst 1, 1) := by decide +kernel
theorem dX13_spoils_35 : decode cX13_spoils 35 = .ok (.bipush 96, 2) := by decide +kernel
theorem dX13_spoils_37 : decode cX13_spoils 37 = .ok (.invokestatic 63, 3) := by decide +kernel
theorem dX13_spoils_40 : decode cX13_spoils 40 = .ok (.iload 5, 2) := by decide +kernel
theorem dX13_spoils_42 : decode cX13_spoils 42 = .ok (.iconst (-1), 1) := by decide +kernel
theorem dX13_spoils_43 : decode cX13_spoils 43 = .ok (.if_icmp .eq 7, 3) := by decide +kernel
theorem dX13_spoils_46 : decode cX13_spoils 46 = .ok (.iconst 1, 1) := by decide +kernel
theorem dX13_spoils_47 : decode cX13_spoils 47 = .ok (.goto 4, 3) := by decide +kernel
theorem dX13_spoils_50 : decode cX13_spoils 50 = .ok (.iconst 0, 1) := by decide +kernel
theorem dX13_spoils_51 : decode cX13_spoils 51 = .ok (.invokevirtual 41, 3) := by decide +kernel
theorem dX13_spoils_54 : decode cX13_spoils 54 = .ok (.ifCond .ne 5, 3) := by decide +kernel
theorem dX13_spoils_57 : decode cX13_spoils 57 = .ok (.iconst 0, 1) := by decide +kernel
theorem dX13_spoils_58 : decode cX13_spoils 58 = .ok (.ireturn, 1) := by decide +kernel
theorem dX13_spoils_59 : decode cX13_spoils 59 = .ok (.iload 5, 2) := by decide +kernel
theorem dX13_spoils_61 : decode cX13_spoils 61 = .ok (.iload_n 3, 1) := by decide +kernel
theorem dX13_spoils_62 : decode cX13_spoils 62 = .ok (.iadd, 1) := by decide +kernel
theorem dX13_spoils_63 : decode cX13_spoils 63 = .ok (.bipush 97, 2) := by decide +kernel
theorem dX13_spoils_65 : decode cX13_spoils 65 = .ok (.irem, 1) := by decide +kernel
theorem dX13_spoils_66 : decode cX13_spoils 66 = .ok (.istore 6, 2) := by decide +kernel
theorem dX13_spoils_68 : decode cX13_spoils 68 = .ok (.aload_n 0, 1) := by decide +kernel
theorem dX13_spoils_69 : decode cX13_spoils 69 = .ok (.getfield 9, 3) := by decide +kernel
theorem dX13_spoils_72 : decode cX13_spoils 72 = .ok (.bipush 12, 2) := by decide +kernel
theorem dX13_spoils_74 : decode cX13_spoils 74 = .ok (.bipush 10, 2) := by decide +kernel
theorem dX13_spoils_76 : decode cX13_spoils 76 = .ok (.iload 4, 2) := by decide +kernel
theorem dX13_spoils_78 : decode cX13_spoils 78 = .ok (.imul, 1) := by decide +kernel
theorem dX13_spoils_79 : decode cX13_spoils 79 = .ok (.iadd, 1) := by decide +kernel
theorem dX13_spoils_80 : decode cX13_spoils 80 = .ok (.iconst 2, 1) := by decide +kernel
theorem dX13_spoils_81 : decode cX13_spoils 81 = .ok (.iadd, 1) := by decide +kernel
theorem dX13_spoils_82 : decode cX13_spoils 82 = .ok (.iload_n 1, 1) := by decide +kernel
theorem dX13_spoils_83 : decode cX13_spoils 83 = .ok (.iadd, 1) := by decide +kernel
theorem dX13_spoils_84 : decode cX13_spoils 84 = .ok (.iload 6, 2) := by decide +kernel
theorem dX13_spoils_86 : decode cX13_spoils 86 = .ok (.iastore, 1) := by decide +kernel
theorem dX13_spoils_87 : decode cX13_spoils 87 = .ok (.iload 6, 2) := by decide +kernel
theorem dX13_spoils_89 : decode cX13_spoils 89 = .ok (.ireturn, 1) := by decide +kernel
set_option maxRecDepth 20000 in
theorem ggX13_spoil_X13_begins : GoodIn wsX13_spoil wsX13_begins := goodIn_ca (goodIn_r _ [5, 6, 7, 8, 9, 4, 10, 53, 54, 55, 56, 57, 58, 59, 60, 61, 62, 63, 64, 65, 66, 67, 68, 69, 70] (by decide +kernel) (by decide +kernel)) (goodIn_sub (fun _ h => List.mem_cons_of_mem _ (List.mem_append_right _ h)) (by decide +kernel))
set_option maxRecDepth 20000 in
theorem gX13_spoil_X13_begins : GoodIn wsX13_spoil (wsV RX13 111 RX13 yX13_begins wsX13_begins) := goodIn_app (goodIn_of _ (by decide +kernel)) ggX13_spoil_X13_begins
set_option maxRecDepth 20000 in
theorem ggX13_spoil_X13_spoils : GoodIn wsX13_spoil wsX13_spoils := goodIn_ca (goodIn_r _ [14, 6, 15, 16, 17, 4, 18, 19, 20, 21, 22, 23, 24, 25, 26, 27, 28, 29, 30, 31, 32, 33, 34, 35, 36, 37, 38, 39, 40, 41, 42, 53, 54, 55, 56, 57, 58, 59, 60, 61, 62, 63, 64, 65, 66, 67, 68, 69, 70] (by decide +kernel) (by decide +kernel)) (goodIn_sub (fun _ h => List.mem_cons_of_mem _ (List.mem_append_right _ h)) (by decide +kernel))
set_option maxRecDepth 20000 in
theorem gX13_spoil_X13_spoils : GoodIn wsX13_spoil (wsV RX13 139 RX13 yX13_spoils wsX13_spoils) := goodIn_app (goodIn_of _ (by decide +kernel)) ggX13_spoil_X13_spoils
set_option maxRecDepth 20000 in
theorem ggX13_spoil_X13_ends : GoodIn wsX13_spoil wsX13_ends := goodIn_ca (goodIn_r _ [46, 42, 7, 6, 8, 9, 4, 10, 47, 48, 49, 50, 51, 52, 53, 54, 55, 56, 57, 58, 59, 60, 61, 62, 63, 64, 65, 66, 67, 68, 69, 70] (by decide +kernel) (by decide +kernel)) (goodIn_sub (fun _ h => List.mem_cons_of_mem _ (List.mem_append_right _ h)) (by decide +kernel))
set_option maxRecDepth 20000 in
theorem gX13_spoil_X13_ends : GoodIn wsX13_spoil (wsV RX13 117 RX13 yX13_ends wsX13_ends) := goodIn_app (goodIn_of _ (by decide +kernel)) ggX13_spoil_X13_ends
theorem dX13_spoil_0 : decode cX13_spoil 0 = .ok (.aload_n 0, 1) := by decide +kernel
theorem dX13_spoil_1 : decode cX13_spoil 1 = .ok (.invokevirtual 111, 3) := by decide +kernel
theorem dX13_spoil_4 : decode cX13_spoil 4 = .ok (.aload_n 0, 1) := by decide +kernel
theorem dX13_spoil_5 : decode cX13_spoil 5 = .ok (.aload_n 0, 1) := by decide +kernel
theorem dX13_spoil_6 : decode cX13_spoil 6 = .ok (.iload_n 1, 1) := by decide +kernel
theorem dX13_spoil_7 : decode cX13_spoil 7 = .ok (.iload_n 2, 1) := by decide +kernel
theorem dX13_spoil_8 : decode cX13_spoil 8 = .ok (.iload_n 3, 1) := by decide +kernel
theorem dX13_spoil_9 : decode cX13_spoil 9 = .ok (.invokevirtual 139, 3) := by decide +kernel
theorem dX13_spoil_12 : decode cX13_spoil 12 = .ok (.invokevirtual 117, 3) := by decide +kernel
theorem dX13_spoil_15 : decode cX13_spoil 15 = .ok (.ireturn, 1) := by decide +kernel
set_option maxRecDepth 20000 in
theorem ggX13_issues_X13_find : GoodIn wsX13_issues wsX13_find := goodIn_ca (goodIn_r _ [6, 1, 7, 8, 9, 5, 10, 11, 12, 13, 14, 66, 67, 68, 69, 70, 71, 72, 73, 74, 75, 76, 77, 78, 79, 80, 81, 82, 83] (by decide +kernel) (by decide +kernel)) (goodIn_sub (fun _ h => List.mem_cons_of_mem _ (List.mem_append_right _ h)) (by decide +kernel))
set_option maxRecDepth 20000 in
theorem gX13_issues_X13_find : GoodIn wsX13_issues (wsV RX13 133 RX13 yX13_find wsX13_find) := goodIn_app (goodIn_of _ (by decide +kernel)) ggX13_issues_X13_find
set_option maxRecDepth 20000 in
theorem ggX13_issues_X13_isBird : GoodIn wsX13_issues wsX13_isBird := goodIn_ca (goodIn_r _ [18, 1, 19, 20, 5, 21, 66, 67, 68, 69, 70, 71, 72, 73, 74, 75, 76, 77, 78, 79, 80, 81, 82, 83] (by decide +kernel) (by decide +kernel)) (goodIn_sub (fun _ h => List.mem_cons_of_mem _ (List.mem_append_right _ h)) (by decide +kernel))
set_option maxRecDepth 20000 in
theorem gX13_issues_X13_isBird : GoodIn wsX13_issues (wsV RX13 76 RX13 yX13_isBird wsX13_isBird) := goodIn_app (goodIn_of _ (by decide +kernel)) ggX13_issues_X13_isBird
set_option maxRecDepth 20000 in
theorem ggX13_issues_X13_shareOf : GoodIn wsX13_issues wsX13_shareOf := goodIn_ca (goodIn_r _ [25, 15, 16, 17, 5, 18, 1, 19, 20, 21, 7, 8, 9, 10, 11, 12, 13, 14, 66, 67, 68, 69, 70, 71, 72, 73, 74, 75, 76, 77, 78, 79, 80, 81, 82, 83] (by decide +kernel) (by decide +kernel)) (goodIn_sub (fun _ h => List.mem_cons_of_mem _ (List.mem_append_right _ h)) (by decide +kernel))
set_option maxRecDepth 20000 in
theorem gX13_issues_X13_shareOf : GoodIn wsX13_issues (wsV RX13 80 RX13 yX13_shareOf wsX13_shareOf) := goodIn_app (goodIn_of _ (by decide +kernel)) ggX13_issues_X13_shareOf
set_option maxRecDepth 20000 in
theorem ggX13_issues_X13_isEnough : GoodIn wsX13_issues wsX13_isEnough := goodIn_ca (goodIn_r _ [29, 30, 31, 32, 5, 33, 1, 22, 23, 24, 25, 15, 16, 17, 18, 19, 20, 21, 7, 8, 9, 10, 11, 12, 13, 14, 34, 35, 36, 37, 38, 39, 40, 66, 67, 68, 69, 70, 71, 72, 73, 74, 75, 76, 77, 78, 79, 80, 81, 82, 83] (by decide +kernel) (by decide +kernel)) (goodIn_sub (fun _ h => List.mem_cons_of_mem _ (List.mem_append_right _ h)) (by decide +kernel))
set_option maxRecDepth 20000 in
theorem gX13_issues_X13_isEnough : GoodIn wsX13_issues (wsV RX13 142 RX13 yX13_isEnough wsX13_isEnough) := goodIn_app (goodIn_of _ (by decide +kernel)) ggX13_issues_X13_isEnough
set_option maxRecDepth 20000 in
theorem ggX13_issues_X13_allows : GoodIn wsX13_issues wsX13_allows := goodIn_r _ [44, 45, 66, 67, 68, 69, 70, 71, 72, 73, 74, 75, 76, 77, 78, 79, 80, 81, 82, 83] (by decide +kernel) (by decide +kernel)
set_option maxRecDepth 20000 in
theorem gX13_issues_X13_allows : GoodIn wsX13_issues (wsV RX13 41 RX13 yX13_allows wsX13_allows) := goodIn_app (goodIn_of _ (by decide +kernel)) ggX13_issues_X13_allows
set_option maxRecDepth 20000 in
theorem ggX13_issues_X13_leading : GoodIn wsX13_issues wsX13_leading := goodIn_ca (goodIn_r _ [49, 30, 31, 32, 5, 33, 1, 22, 23, 24, 25, 15, 16, 17, 18, 19, 20, 21, 7, 8, 9, 10, 11, 12, 13, 14, 50, 51, 52, 34, 35, 36, 37, 38, 39, 40, 66, 67, 68, 69, 70, 71, 72, 73, 74, 75, 76, 77, 78, 79, 80, 81, 82, 83] (by decide +kernel) (by decide +kernel)) (goodIn_sub (fun _ h => List.mem_cons_of_mem _ (List.mem_append_right _ h)) (by decide +kernel))
set_option maxRecDepth 20000 in
theorem gX13_issues_X13_leading : GoodIn wsX13_issues (wsV RX13 145 RX13 yX13_leading wsX13_leading) := goodIn_app (goodIn_of _ (by decide +kernel)) ggX13_issues_X13_leading
set_option maxRecDepth 20000 in
theorem ggX13_issues_X13_valueAt : GoodIn wsX13_issues wsX13_valueAt := goodIn_ca (goodIn_r _ [56, 7, 8, 9, 5, 10, 1, 11, 12, 13, 14, 57, 58, 59, 60, 61, 62, 63, 64, 65, 66, 67, 68, 69, 70, 71, 72, 73, 74, 75, 76, 77, 78, 79, 80, 81, 82, 83] (by decide +kernel) (by decide +kernel)) (goodIn_sub (fun _ h => List.mem_cons_of_mem _ (List.mem_append_right _ h)) (by decide +kernel))
set_option maxRecDepth 20000 in
theorem gX13_issues_X13_valueAt : GoodIn wsX13_issues (wsV RX13 105 RX13 yX13_valueAt wsX13_valueAt) := goodIn_app (goodIn_of _ (by decide +kernel)) ggX13_issues_X13_valueAt
theorem dX13_issues_0 : decode cX13_issues 0 = .ok (.aload_n 0, 1) := by decide +kernel
theorem dX13_issues_1 : decode cX13_issues 1 = .ok (.iload_n 2, 1) := by decide +kernel
theorem dX13_issues_2 : decode cX13_issues 2 = .ok (.invokevirtual 133, 3) := by decide +kernel
theorem dX13_issues_5 : decode cX13_issues 5 = .ok (.istore_n 3, 1) := by decide +kernel
theorem dX13_issues_6 : decode cX13_issues 6 = .ok (.aload_n 0, 1) := by decide +kernel
theorem dX13_issues_7 : decode cX13_issues 7 = .ok (.aload_n 0, 1) := by decide +kernel
theorem dX13_issues_8 : decode cX13_issues 8 = .ok (.iload_n 1, 1) := by decide +kernel
theorem dX13_issues_9 : decode cX13_issues 9 = .ok (.invokevirtual 76, 3) := by decide +kernel
theorem dX13_issues_12 : decode cX13_issues 12 = .ok (.iload_n 3, 1) := by decide +kernel
theorem dX13_issues_13 : decode cX13_issues 13 = .ok (.iconst (-1), 1) := by decide +kernel
theorem dX13_issues_14 : decode cX13_issues 14 = .ok (.if_icmp .eq 7, 3) := by decide +kernel
theorem dX13_issues_17 : decode cX13_issues 17 = .ok (.iconst 1, 1) := by decide +kernel
theorem dX13_issues_18 : decode cX13_issues 18 = .ok (.goto 4, 3) := by decide +kernel
theorem dX13_issues_21 : decode cX13_issues 21 = .ok (.iconst 0, 1) := by decide +kernel
theorem dX13_issues_22 : decode cX13_issues 22 = .ok (.aload_n 0, 1) := by decide +kernel
theorem dX13_issues_23 : decode cX13_issues 23 = .ok (.iload_n 1, 1) := by decide +kernel
theorem dX13_issues_24 : decode cX13_issues 24 = .ok (.iload_n 3, 1) := by decide +kernel
theorem dX13_issues_25 : decode cX13_issues 25 = .ok (.invokevirtual 80, 3) := by decide +kernel
theorem dX13_issues_28 : decode cX13_issues 28 = .ok (.iconst (-1), 1) := by decide +kernel
theorem dX13_issues_29 : decode cX13_issues 29 = .ok (.if_icmp .ne 7, 3) := by decide +kernel
theorem dX13_issues_32 : decode cX13_issues 32 = .ok (.iconst 1, 1) := by decide +kernel
theorem dX13_issues_33 : decode cX13_issues 33 = .ok (.goto 4, 3) := by decide +kernel
theorem dX13_issues_36 : decode cX13_issues 36 = .ok (.iconst 0, 1) := by decide +kernel
theorem dX13_issues_37 : decode cX13_issues 37 = .ok (.aload_n 0, 1) := by decide +kernel
theorem dX13_issues_38 : decode cX13_issues 38 = .ok (.iload_n 3, 1) := by decide +kernel
theorem dX13_issues_39 : decode cX13_issues 39 = .ok (.invokevirtual 142, 3) := by decide +kernel
theorem dX13_issues_42 : decode cX13_issues 42 = .ok (.invokevirtual 41, 3) := by decide +kernel
theorem dX13_issues_45 : decode cX13_issues 45 = .ok (.ifCond .ne 5, 3) := by decide +kernel
theorem dX13_issues_48 : decode cX13_issues 48 = .ok (.iconst 0, 1) := by decide +kernel
theorem dX13_issues_49 : decode cX13_issues 49 = .ok (.ireturn, 1) := by decide +kernel
theorem dX13_issues_50 : decode cX13_issues 50 = .ok (.aload_n 0, 1) := by decide +kernel
theorem dX13_issues_51 : decode cX13_issues 51 = .ok (.iload_n 3, 1) := by decide +kernel
theorem dX13_issues_52 : decode cX13_issues 52 = .ok (.aload_n 0, 1) := by decide +kernel
theorem dX13_issues_53 : decode cX13_issues 53 = .ok (.iload_n 3, 1) := by decide +kernel
theorem dX13_issues_54 : decode cX13_issues 54 = .ok (.invokevirtual 145, 3) := by decide +kernel
theorem dX13_issues_57 : decode cX13_issues 57 = .ok (.iload_n 1, 1) := by decide +kernel
theorem dX13_issues_58 : decode cX13_issues 58 = .ok (.iconst 1, 1) := by decide +kernel
theorem dX13_issues_59 : decode cX13_issues 59 = .ok (.iadd, 1) := by decide +kernel
theorem dX13_issues_60 : decode cX13_issues 60 = .ok (.invokevirtual 105, 3) := by decide +kernel
theorem dX13_issues_63 : decode cX13_issues 63 = .ok (.istore 4, 2) := by decide +kernel
theorem dX13_issues_65 : decode cX13_issues 65 = .ok (.aload_n 0, 1) := by decide +kernel
theorem dX13_issues_66 : decode cX13_issues 66 = .ok (.getfield 9, 3) := by decide +kernel
theorem dX13_issues_69 : decode cX13_issues 69 = .ok (.bipush 12, 2) := by decide +kernel
theorem dX13_issues_71 : decode cX13_issues 71 = .ok (.bipush 10, 2) := by decide +kernel
theorem dX13_issues_73 : decode cX13_issues 73 = .ok (.iload_n 3, 1) := by decide +kernel
theorem dX13_issues_74 : decode cX13_issues 74 = .ok (.imul, 1) := by decide +kernel
theorem dX13_issues_75 : decode cX13_issues 75 = .ok (.iadd, 1) := by decide +kernel
theorem dX13_issues_76 : decode cX13_issues 76 = .ok (.iconst 2, 1) := by decide +kernel
theorem dX13_issues_77 : decode cX13_issues 77 = .ok (.iadd, 1) := by decide +kernel
theorem dX13_issues_78 : decode cX13_issues 78 = .ok (.iload_n 1, 1) := by decide +kernel
theorem dX13_issues_79 : decode cX13_issues 79 = .ok (.iadd, 1) := by decide +kernel
theorem dX13_issues_80 : decode cX13_issues 80 = .ok (.iload 4, 2) := by decide +kernel
theorem dX13_issues_82 : decode cX13_issues 82 = .ok (.iastore, 1) := by decide +kernel
theorem dX13_issues_83 : decode cX13_issues 83 = .ok (.iload 4, 2) := by decide +kernel
theorem dX13_issues_85 : decode cX13_issues 85 = .ok (.ireturn, 1) := by decide +kernel
set_option maxRecDepth 20000 in
theorem ggX13_issue_X13_begins : GoodIn wsX13_issue wsX13_begins := goodIn_ca (goodIn_r _ [5, 6, 7, 8, 9, 4, 10, 88, 89, 90, 91, 92, 93, 94, 95, 96, 97, 98, 99, 100, 101, 102, 103, 104, 105] (by decide +kernel) (by decide +kernel)) (goodIn_sub (fun _ h => List.mem_cons_of_mem _ (List.mem_append_right _ h)) (by decide +kernel))
set_option maxRecDepth 20000 in
theorem gX13_issue_X13_begins : GoodIn wsX13_issue (wsV RX13 111 RX13 yX13_begins wsX13_begins) := goodIn_app (goodIn_of _ (by decide +kernel)) ggX13_issue_X13_begins
set_option maxRecDepth 20000 in
theorem ggX13_issue_X13_issues : GoodIn wsX13_issue wsX13_issues := goodIn_ca (goodIn_r _ [14, 6, 15, 16, 17, 4, 18, 19, 20, 21, 22, 23, 24, 25, 26, 27, 28, 29, 30, 31, 32, 33, 34, 35, 36, 37, 38, 39, 40, 41, 42, 43, 44, 45, 46, 47, 48, 49, 50, 51, 52, 53, 54, 55, 56, 57, 58, 59, 60, 61, 62, 63, 64, 65, 66, 67, 68, 69, 70, 71, 72, 73, 74, 75, 76, 77, 88, 89, 90, 91, 92, 93, 94, 95, 96, 97, 98, 99, 100, 101, 102, 103, 104, 105] (by decide +kernel) (by decide +kernel)) (goodIn_sub (fun _ h => List.mem_cons_of_mem _ (List.mem_append_right _ h)) (by decide +kernel))
set_option maxRecDepth 20000 in
theorem gX13_issue_X13_issues : GoodIn wsX13_issue (wsV RX13 148 RX13 yX13_issues wsX13_issues) := goodIn_app (goodIn_of _ (by decide +kernel)) ggX13_issue_X13_issues
set_option maxRecDepth 20000 in
theorem ggX13_issue_X13_ends : GoodIn wsX13_issue wsX13_ends := goodIn_ca (goodIn_r _ [81, 57, 7, 6, 8, 9, 4, 10, 82, 83, 84, 85, 86, 87, 88, 89, 90, 91, 92, 93, 94, 95, 96, 97, 98, 99, 100, 101, 102, 103, 104, 105] (by decide +kernel) (by decide +kernel)) (goodIn_sub (fun _ h => List.mem_cons_of_mem _ (List.mem_append_right _ h)) (by decide +kernel))
set_option maxRecDepth 20000 in
theorem gX13_issue_X13_ends : GoodIn wsX13_issue (wsV RX13 117 RX13 yX13_ends wsX13_ends) := goodIn_app (goodIn_of _ (by decide +kernel)) ggX13_issue_X13_ends
theorem dX13_issue_0 : decode cX13_issue 0 = .ok (.aload_n 0, 1) := by decide +kernel
theorem dX13_issue_1 : decode cX13_issue 1 = .ok (.invokevirtual 111, 3) := by decide +kernel
theorem dX13_issue_4 : decode cX13_issue 4 = .ok (.aload_n 0, 1) := by decide +kernel
theorem dX13_issue_5 : decode cX13_issue 5 = .ok (.aload_n 0, 1) := by decide +kernel
theorem dX13_issue_6 : decode cX13_issue 6 = .ok (.iload_n 1, 1) := by decide +kernel
theorem dX13_issue_7 : decode cX13_issue 7 = .ok (.iload_n 2, 1) := by decide +kernel
theorem dX13_issue_8 : decode cX13_issue 8 = .ok (.invokevirtual 148, 3) := by decide +kernel
theorem dX13_issue_11 : decode cX13_issue 11 = .ok (.invokevirtual 117, 3) := by decide +kernel
theorem dX13_issue_14 : decode cX13_issue 14 = .ok (.ireturn, 1) := by decide +kernel
set_option maxRecDepth 20000 in
theorem ggX13_refreshes_X13_find : GoodIn wsX13_refreshes wsX13_find := goodIn_ca (goodIn_r _ [6, 1, 7, 8, 9, 5, 10, 11, 12, 13, 14, 37, 38, 39, 40, 41, 42, 43, 44, 45, 46, 47, 48, 49, 50, 51, 52, 53, 54] (by decide +kernel) (by decide +kernel)) (goodIn_sub (fun _ h => List.mem_cons_of_mem _ (List.mem_append_right _ h)) (by decide +kernel))
set_option maxRecDepth 20000 in
theorem gX13_refreshes_X13_find : GoodIn wsX13_refreshes (wsV RX13 133 RX13 yX13_find wsX13_find) := goodIn_app (goodIn_of _ (by decide +kernel)) ggX13_refreshes_X13_find
set_option maxRecDepth 20000 in
theorem ggX13_refreshes_X13_isNumber : GoodIn wsX13_refreshes wsX13_isNumber := goodIn_r _ [17, 18, 19, 5, 20] (by decide +kernel) (by decide +kernel)
set_option maxRecDepth 20000 in
theorem gX13_refreshes_X13_isNumber : GoodIn wsX13_refreshes (va_wsS RX13 123 yX13_isNumber wsX13_isNumber) := goodIn_app (goodIn_of _ (by decide +kernel)) ggX13_refreshes_X13_isNumber
set_option maxRecDepth 20000 in
theorem ggX13_refreshes_X13_allows : GoodIn wsX13_refreshes wsX13_allows := goodIn_r _ [24, 25, 37, 38, 39, 40, 41, 42, 43, 44, 45, 46, 47, 48, 49, 50, 51, 52, 53, 54] (by decide +kernel) (by decide +kernel)
set_option maxRecDepth 20000 in
theorem gX13_refreshes_X13_allows : GoodIn wsX13_refreshes (wsV RX13 41 RX13 yX13_allows wsX13_allows) := goodIn_app (goodIn_of _ (by decide +kernel)) ggX13_refreshes_X13_allows
set_option maxRecDepth 20000 in
theorem ggX13_refreshes_X13_shareOf : GoodIn wsX13_refreshes wsX13_shareOf := goodIn_ca (goodIn_r _ [29, 30, 31, 32, 5, 33, 1, 18, 19, 20, 7, 8, 9, 10, 11, 12, 13, 14, 37, 38, 39, 40, 41, 42, 43, 44, 45, 46, 47, 48, 49, 50, 51, 52, 53, 54] (by decide +kernel) (by decide +kernel)) (goodIn_sub (fun _ h => List.mem_cons_of_mem _ (List.mem_append_right _ h)) (by decide +kernel))
set_option maxRecDepth 20000 in
theorem gX13_refreshes_X13_shareOf : GoodIn wsX13_refreshes (wsV RX13 80 RX13 yX13_shareOf wsX13_shareOf) := goodIn_app (goodIn_of _ (by decide +kernel)) ggX13_refreshes_X13_shareOf
set_option maxRecDepth 20000 in
theorem ggX13_refreshes_X13_of : GoodIn wsX13_refreshes wsX13_of := goodIn_ca (goodIn_r _ [10, 1, 11, 12, 13, 14, 37, 38, 39, 40, 41, 42, 43, 44, 45, 46, 47, 48, 49, 50, 51, 52, 53, 54] (by decide +kernel) (by decide +kernel)) (goodIn_sub (fun _ h => List.mem_cons_of_mem _ (List.mem_append_right _ h)) (by decide +kernel))
set_option maxRecDepth 20000 in
theorem gX13_refreshes_X13_of : GoodIn wsX13_refreshes (wsV RX13 67 RX13 yX13_of wsX13_of) := goodIn_app (goodIn_of _ (by decide +kernel)) ggX13_refreshes_X13_of
set_option maxRecDepth 20000 in
theorem ggX13_refreshes_X13_spread : GoodIn wsX13_refreshes wsX13_spread := goodIn_r _ [36] (by decide +kernel) (by decide +kernel)
set_option maxRecDepth 20000 in
theorem gX13_refreshes_X13_spread : GoodIn wsX13_refreshes (va_wsS RX13 126 yX13_spread wsX13_spread) := goodIn_app (goodIn_of _ (by decide +kernel)) ggX13_refreshes_X13_spread
theorem dX13_refreshes_0 : decode cX13_refreshes 0 = .ok (.aload_n 0, 1) := by decide +kernel
theorem dX13_refreshes_1 : decode cX13_refreshes 1 = .ok (.iload_n 1, 1) := by decide +kernel
theorem dX13_refreshes_2 : decode cX13_refreshes 2 = .ok (.invokevirtual 133, 3) := by decide +kernel
theorem dX13_refreshes_5 : decode cX13_refreshes 5 = .ok (.istore_n 3, 1) := by decide +kernel
theorem dX13_refreshes_6 : decode cX13_refreshes 6 = .ok (.aload_n 0, 1) := by decide +kernel
theorem dX13_refreshes_7 : decode cX13_refreshes 7 = .ok (.iload_n 3, 1) := by decide +kernel
theorem dX13_refreshes_8 : decode cX13_refreshes 8 = .ok (.iconst (-1), 1) := by decide +kernel
theorem dX13_refreshes_9 : decode cX13_refreshes 9 = .ok (.if_icmp .eq 7, 3) := by decide +kernel
theorem dX13_refreshes_12 : decode cX13_refreshes 12 = .ok (.iconst 1, 1) := by decide +kernel
theorem dX13_refreshes_13 : decode cX13_refreshes 13 = .ok (.goto 4, 3) := by decide +kernel
theorem dX13_refreshes_16 : decode cX13_refreshes 16 = .ok (.iconst 0, 1) := by decide +kernel
theorem dX13_refreshes_17 : decode cX13_refreshes 17 = .ok (.iload_n 2, 1) := by decide +kernel
theorem dX13_refreshes_18 : decode cX13_refreshes 18 = .ok (.invokestatic 123, 3) := by decide +kernel
theorem dX13_refreshes_21 : decode cX13_refreshes 21 = .ok (.iconst 1, 1) := by decide +kernel
theorem dX13_refreshes_22 : decode cX13_refreshes 22 = .ok (.iconst 1, 1) := by decide +kernel
theorem dX13_refreshes_23 : decode cX13_refreshes 23 = .ok (.invokevirtual 41, 3) := by decide +kernel
theorem dX13_refreshes_26 : decode cX13_refreshes 26 = .ok (.ifCond .ne 5, 3) := by decide +kernel
theorem dX13_refreshes_29 : decode cX13_refreshes 29 = .ok (.iconst 0, 1) := by decide +kernel
theorem dX13_refreshes_30 : decode cX13_refreshes 30 = .ok (.ireturn, 1) := by decide +kernel
theorem dX13_refreshes_31 : decode cX13_refreshes 31 = .ok (.iconst 0, 1) := by decide +kernel
theorem dX13_refreshes_32 : decode cX13_refreshes 32 = .ok (.istore 4, 2) := by decide +kernel
theorem dX13_refreshes_34 : decode cX13_refreshes 34 = .ok (.iconst 0, 1) := by decide +kernel
theorem dX13_refreshes_35 : decode cX13_refreshes 35 = .ok (.istore 5, 2) := by decide +kernel
theorem dX13_refreshes_37 : decode cX13_refreshes 37 = .ok (.iload 5, 2) := by decide +kernel
theorem dX13_refreshes_39 : decode cX13_refreshes 39 = .ok (.aload_n 0, 1) := by decide +kernel
theorem dX13_refreshes_40 : decode cX13_refreshes 40 = .ok (.getfield 9, 3) := by decide +kernel
theorem dX13_refreshes_43 : decode cX13_refreshes 43 = .ok (.iconst 0, 1) := by decide +kernel
theorem dX13_refreshes_44 : decode cX13_refreshes 44 = .ok (.iaload, 1) := by decide +kernel
theorem dX13_refreshes_45 : decode cX13_refreshes 45 = .ok (.if_icmp .ge 96, 3) := by decide +kernel
theorem dX13_refreshes_48 : decode cX13_refreshes 48 = .ok (.aload_n 0, 1) := by decide +kernel
theorem dX13_refreshes_49 : decode cX13_refreshes 49 = .ok (.iload 5, 2) := by decide +kernel
theorem dX13_refreshes_51 : decode cX13_refreshes 51 = .ok (.iload_n 3, 1) := by decide +kernel
theorem dX13_refreshes_52 : decode cX13_refreshes 52 = .ok (.invokevirtual 80, 3) := by decide +kernel
theorem dX13_refreshes_55 : decode cX13_refreshes 55 = .ok (.istore 6, 2) := by decide +kernel
theorem dX13_refreshes_57 : decode cX13_refreshes 57 = .ok (.iload 6, 2) := by decide +kernel
theorem dX13_refreshes_59 : decode cX13_refreshes 59 = .ok (.iconst (-1), 1) := by decide +kernel
theorem dX13_refreshes_60 : decode cX13_refreshes 60 = .ok (.if_icmp .ne 7, 3) := by decide +kernel
theorem dX13_refreshes_63 : decode cX13_refreshes 63 = .ok (.iconst 0, 1) := by decide +kernel
theorem dX13_refreshes_64 : decode cX13_refreshes 64 = .ok (.goto 19, 3) := by decide +kernel
theorem dX13_refreshes_67 : decode cX13_refreshes 67 = .ok (.iconst 0, 1) := by decide +kernel
theorem dX13_refreshes_68 : decode cX13_refreshes 68 = .ok (.iload_n 2, 1) := by decide +kernel
theorem dX13_refreshes_69 : decode cX13_refreshes 69 = .ok (.iconst 5, 1) := by decide +kernel
theorem dX13_refreshes_70 : decode cX13_refreshes 70 = .ok (.aload_n 0, 1) := by decide +kernel
theorem dX13_refreshes_71 : decode cX13_refreshes 71 = .ok (.iload_n 3, 1) := by decide +kernel
theorem dX13_refreshes_72 : decode cX13_refreshes 72 = .ok (.iconst 1, 1) := by decide +kernel
theorem dX13_refreshes_73 : decode cX13_refreshes 73 = .ok (.invokevirtual 67, 3) := by decide +kernel
theorem dX13_refreshes_76 : decode cX13_refreshes 76 = .ok (.iload 5, 2) := by decide +kernel
theorem dX13_refreshes_78 : decode cX13_refreshes 78 = .ok (.iconst 1, 1) := by decide +kernel
theorem dX13_refreshes_79 : decode cX13_refreshes 79 = .ok (.iadd, 1) := by decide +kernel
theorem dX13_refreshes_80 : decode cX13_refreshes 80 = .ok (.invokestatic 126, 3) := by decide +kernel
theorem dX13_refreshes_83 : decode cX13_refreshes 83 = .ok (.istore 7, 2) := by decide +kernel
theorem dX13_refreshes_85 : decode cX13_refreshes 85 = .ok (.iload 4, 2) := by decide +kernel
theorem dX13_refreshes_87 : decode cX13_refreshes 87 = .ok (.iload 7, 2) := by decide +kernel
theorem dX13_refreshes_89 : decode cX13_refreshes 89 = .ok (.ifCond .ne 7, 3) := by decide +kernel
theorem dX13_refreshes_92 : decode cX13_refreshes 92 = .ok (.iconst 0, 1) := by decide +kernel
theorem dX13_refreshes_93 : decode cX13_refreshes 93 = .ok (.goto 4, 3) := by decide +kernel
theorem dX13_refreshes_96 : decode cX13_refreshes 96 = .ok (.iconst 1, 1) := by decide +kernel
theorem dX13_refreshes_97 : decode cX13_refreshes 97 = .ok (.iadd, 1) := by decide +kernel
theorem dX13_refreshes_98 : decode cX13_refreshes 98 = .ok (.istore 4, 2) := by decide +kernel
theorem dX13_refreshes_100 : decode cX13_refreshes 100 = .ok (.aload_n 0, 1) := by decide +kernel
theorem dX13_refreshes_101 : decode cX13_refreshes 101 = .ok (.getfield 9, 3) := by decide +kernel
theorem dX13_refreshes_104 : decode cX13_refreshes 104 = .ok (.bipush 12, 2) := by decide +kernel
theorem dX13_refreshes_106 : decode cX13_refreshes 106 = .ok (.bipush 10, 2) := by decide +kernel
theorem dX13_refreshes_108 : decode cX13_refreshes 108 = .ok (.iload_n 3, 1) := by decide +kernel
theorem dX13_refreshes_109 : decode cX13_refreshes 109 = .ok (.imul, 1) := by decide +kernel
theorem dX13_refreshes_110 : decode cX13_refreshes 110 = .ok (.iadd, 1) := by decide +kernel
theorem dX13_refreshes_111 : decode cX13_refreshes 111 = .ok (.iconst 2, 1) := by decide +kernel
theorem dX13_refreshes_112 : decode cX13_refreshes 112 = .ok (.iadd, 1) := by decide +kernel
theorem dX13_refreshes_113 : decode cX13_refreshes 113 = .ok (.iload 5, 2) := by decide +kernel
theorem dX13_refreshes_115 : decode cX13_refreshes 115 = .ok (.iadd, 1) := by decide +kernel
theorem dX13_refreshes_116 : decode cX13_refreshes 116 = .ok (.iload 6, 2) := by decide +kernel
theorem dX13_refreshes_118 : decode cX13_refreshes 118 = .ok (.iconst (-1), 1) := by decide +kernel
theorem dX13_refreshes_119 : decode cX13_refreshes 119 = .ok (.if_icmp .ne 7, 3) := by decide +kernel
theorem dX13_refreshes_122 : decode cX13_refreshes 122 = .ok (.iconst (-1), 1) := by decide +kernel
theorem dX13_refreshes_123 : decode cX13_refreshes 123 = .ok (.goto 11, 3) := by decide +kernel
theorem dX13_refreshes_126 : decode cX13_refreshes 126 = .ok (.iload 6, 2) := by decide +kernel
theorem dX13_refreshes_128 : decode cX13_refreshes 128 = .ok (.iload 7, 2) := by decide +kernel
theorem dX13_refreshes_130 : decode cX13_refreshes 130 = .ok (.iadd, 1) := by decide +kernel
theorem dX13_refreshes_131 : decode cX13_refreshes 131 = .ok (.bipush 97, 2) := by decide +kernel
theorem dX13_refreshes_133 : decode cX13_refreshes 133 = .ok (.irem, 1) := by decide +kernel
theorem dX13_refreshes_134 : decode cX13_refreshes 134 = .ok (.iastore, 1) := by decide +kernel
theorem dX13_refreshes_135 : decode cX13_refreshes 135 = .ok (.iinc 5 1, 3) := by decide +kernel
theorem dX13_refreshes_138 : decode cX13_refreshes 138 = .ok (.goto (-101), 3) := by decide +kernel
theorem dX13_refreshes_141 : decode cX13_refreshes 141 = .ok (.iload 4, 2) := by decide +kernel
theorem dX13_refreshes_143 : decode cX13_refreshes 143 = .ok (.ireturn, 1) := by decide +kernel
set_option maxRecDepth 20000 in
theorem ggX13_refresh_X13_begins : GoodIn wsX13_refresh wsX13_begins := goodIn_ca (goodIn_r _ [5, 6, 7, 8, 9, 4, 10, 59, 60, 61, 62, 63, 64, 65, 66, 67, 68, 69, 70, 71, 72, 73, 74, 75, 76] (by decide +kernel) (by decide +kernel)) (goodIn_sub (fun _ h => List.mem_cons_of_mem _ (List.mem_append_right _ h)) (by decide +kernel))
set_option maxRecDepth 20000 in
theorem gX13_refresh_X13_begins : GoodIn wsX13_refresh (wsV RX13 111 RX13 yX13_begins wsX13_begins) := goodIn_app (goodIn_of _ (by decide +kernel)) ggX13_refresh_X13_begins
set_option maxRecDepth 20000 in
theorem ggX13_refresh_X13_refreshes : GoodIn wsX13_refresh wsX13_refreshes := goodIn_ca (goodIn_r _ [14, 6, 15, 16, 17, 4, 18, 19, 20, 21, 22, 23, 24, 25, 26, 27, 28, 29, 30, 31, 32, 33, 34, 35, 36, 37, 38, 39, 40, 41, 42, 43, 44, 45, 46, 47, 48, 59, 60, 61, 62, 63, 64, 65, 66, 67, 68, 69, 70, 71, 72, 73, 74, 75, 76] (by decide +kernel) (by decide +kernel)) (goodIn_sub (fun _ h => List.mem_cons_of_mem _ (List.mem_append_right _ h)) (by decide +kernel))
set_option maxRecDepth 20000 in
theorem gX13_refresh_X13_refreshes : GoodIn wsX13_refresh (wsV RX13 151 RX13 yX13_refreshes wsX13_refreshes) := goodIn_app (goodIn_of _ (by decide +kernel)) ggX13_refresh_X13_refreshes
set_option maxRecDepth 20000 in
theorem ggX13_refresh_X13_ends : GoodIn wsX13_refresh wsX13_ends := goodIn_ca (goodIn_r _ [52, 37, 7, 6, 8, 9, 4, 10, 53, 54, 55, 56, 57, 58, 59, 60, 61, 62, 63, 64, 65, 66, 67, 68, 69, 70, 71, 72, 73, 74, 75, 76] (by decide +kernel) (by decide +kernel)) (goodIn_sub (fun _ h => List.mem_cons_of_mem _ (List.mem_append_right _ h)) (by decide +kernel))
set_option maxRecDepth 20000 in
theorem gX13_refresh_X13_ends : GoodIn wsX13_refresh (wsV RX13 117 RX13 yX13_ends wsX13_ends) := goodIn_app (goodIn_of _ (by decide +kernel)) ggX13_refresh_X13_ends
theorem dX13_refresh_0 : decode cX13_refresh 0 = .ok (.aload_n 0, 1) := by decide +kernel
theorem dX13_refresh_1 : decode cX13_refresh 1 = .ok (.invokevirtual 111, 3) := by decide +kernel
theorem dX13_refresh_4 : decode cX13_refresh 4 = .ok (.aload_n 0, 1) := by decide +kernel
theorem dX13_refresh_5 : decode cX13_refresh 5 = .ok (.aload_n 0, 1) := by decide +kernel
theorem dX13_refresh_6 : decode cX13_refresh 6 = .ok (.iload_n 1, 1) := by decide +kernel
theorem dX13_refresh_7 : decode cX13_refresh 7 = .ok (.iload_n 2, 1) := by decide +kernel
theorem dX13_refresh_8 : decode cX13_refresh 8 = .ok (.invokevirtual 151, 3) := by decide +kernel
theorem dX13_refresh_11 : decode cX13_refresh 11 = .ok (.invokevirtual 117, 3) := by decide +kernel
theorem dX13_refresh_14 : decode cX13_refresh 14 = .ok (.ireturn, 1) := by decide +kernel
set_option maxRecDepth 20000 in
theorem ggX13_forgets_X13_find : GoodIn wsX13_forgets wsX13_find := goodIn_ca (goodIn_r _ [6, 1, 7, 8, 9, 5, 10, 11, 12, 13, 14, 46, 47, 48, 49, 50, 51, 52, 53, 54, 55, 56, 57, 58, 59, 60, 61, 62, 63] (by decide +kernel) (by decide +kernel)) (goodIn_sub (fun _ h => List.mem_cons_of_mem _ (List.mem_append_right _ h)) (by decide +kernel))
set_option maxRecDepth 20000 in
theorem gX13_forgets_X13_find : GoodIn wsX13_forgets (wsV RX13 133 RX13 yX13_find wsX13_find) := goodIn_app (goodIn_of _ (by decide +kernel)) ggX13_forgets_X13_find
set_option maxRecDepth 20000 in
theorem ggX13_forgets_X13_goes : GoodIn wsX13_forgets wsX13_goes := goodIn_r _ [18, 19, 20, 21, 5, 22, 23, 46, 47, 48, 49, 50, 51, 52, 53, 54, 55, 56, 57, 58, 59, 60, 61, 62, 63] (by decide +kernel) (by decide +kernel)
set_option maxRecDepth 20000 in
theorem gX13_forgets_X13_goes : GoodIn wsX13_forgets (wsV RX13 55 RX13 yX13_goes wsX13_goes) := goodIn_app (goodIn_of _ (by decide +kernel)) ggX13_forgets_X13_goes
set_option maxRecDepth 20000 in
theorem ggX13_forgets_X13_holdersOf : GoodIn wsX13_forgets wsX13_holdersOf := goodIn_ca (goodIn_r _ [27, 1, 28, 29, 30, 5, 31, 32, 33, 34, 35, 36, 37, 38, 7, 8, 9, 10, 11, 12, 13, 14, 46, 47, 48, 49, 50, 51, 52, 53, 54, 55, 56, 57, 58, 59, 60, 61, 62, 63] (by decide +kernel) (by decide +kernel)) (goodIn_sub (fun _ h => List.mem_cons_of_mem _ (List.mem_append_right _ h)) (by decide +kernel))
set_option maxRecDepth 20000 in
theorem gX13_forgets_X13_holdersOf : GoodIn wsX13_forgets (wsV RX13 89 RX13 yX13_holdersOf wsX13_holdersOf) := goodIn_app (goodIn_of _ (by decide +kernel)) ggX13_forgets_X13_holdersOf
set_option maxRecDepth 20000 in
theorem ggX13_forgets_J6_bitCount_0f7a4 : GoodIn wsX13_forgets wsJ6_bitCount_0f7a4 := goodIn_r _ [42, 43, 44, 45] (by decide +kernel) (by decide +kernel)
set_option maxRecDepth 20000 in
theorem gX13_forgets_J6_bitCount_0f7a4 : GoodIn wsX13_forgets (va_wsS RX13 83 yJ6_bitCount_0f7a4 wsJ6_bitCount_0f7a4) := goodIn_app (goodIn_of _ (by decide +kernel)) ggX13_forgets_J6_bitCount_0f7a4
theorem dX13_forgets_0 : decode cX13_forgets 0 = .ok (.aload_n 0, 1) := by decide +kernel
theorem dX13_forgets_1 : decode cX13_forgets 1 = .ok (.iload_n 1, 1) := by decide +kernel
theorem dX13_forgets_2 : decode cX13_forgets 2 = .ok (.invokevirtual 133, 3) := by decide +kernel
theorem dX13_forgets_5 : decode cX13_forgets 5 = .ok (.istore_n 2, 1) := by decide +kernel
theorem dX13_forgets_6 : decode cX13_forgets 6 = .ok (.aload_n 0, 1) := by decide +kernel
theorem dX13_forgets_7 : decode cX13_forgets 7 = .ok (.iload_n 2, 1) := by decide +kernel
theorem dX13_forgets_8 : decode cX13_forgets 8 = .ok (.iconst (-1), 1) := by decide +kernel
theorem dX13_forgets_9 : decode cX13_forgets 9 = .ok (.if_icmp .eq 7, 3) := by decide +kernel
theorem dX13_forgets_12 : decode cX13_forgets 12 = .ok (.iconst 1, 1) := by decide +kernel
theorem dX13_forgets_13 : decode cX13_forgets 13 = .ok (.goto 4, 3) := by decide +kernel
theorem dX13_forgets_16 : decode cX13_forgets 16 = .ok (.iconst 0, 1) := by decide +kernel
theorem dX13_forgets_17 : decode cX13_forgets 17 = .ok (.invokevirtual 55, 3) := by decide +kernel
theorem dX13_forgets_20 : decode cX13_forgets 20 = .ok (.ifCond .ne 5, 3) := by decide +kernel
theorem dX13_forgets_23 : decode cX13_forgets 23 = .ok (.iconst 0, 1) := by decide +kernel
theorem dX13_forgets_24 : decode cX13_forgets 24 = .ok (.ireturn, 1) := by decide +kernel
theorem dX13_forgets_25 : decode cX13_forgets 25 = .ok (.aload_n 0, 1) := by decide +kernel
theorem dX13_forgets_26 : decode cX13_forgets 26 = .ok (.iload_n 2, 1) := by decide +kernel
theorem dX13_forgets_27 : decode cX13_forgets 27 = .ok (.invokevirtual 89, 3) := by decide +kernel
theorem dX13_forgets_30 : decode cX13_forgets 30 = .ok (.invokestatic 83, 3) := by decide +kernel
theorem dX13_forgets_33 : decode cX13_forgets 33 = .ok (.istore_n 3, 1) := by decide +kernel
theorem dX13_forgets_34 : decode cX13_forgets 34 = .ok (.bipush 12, 2) := by decide +kernel
theorem dX13_forgets_36 : decode cX13_forgets 36 = .ok (.bipush 10, 2) := by decide +kernel
theorem dX13_forgets_38 : decode cX13_forgets 38 = .ok (.iload_n 2, 1) := by decide +kernel
theorem dX13_forgets_39 : decode cX13_forgets 39 = .ok (.imul, 1) := by decide +kernel
theorem dX13_forgets_40 : decode cX13_forgets 40 = .ok (.iadd, 1) := by decide +kernel
theorem dX13_forgets_41 : decode cX13_forgets 41 = .ok (.istore 4, 2) := by decide +kernel
theorem dX13_forgets_43 : decode cX13_forgets 43 = .ok (.iload 4, 2) := by decide +kernel
theorem dX13_forgets_45 : decode cX13_forgets 45 = .ok (.bipush 62, 2) := by decide +kernel
theorem dX13_forgets_47 : decode cX13_forgets 47 = .ok (.if_icmp .ge 26, 3) := by decide +kernel
theorem dX13_forgets_50 : decode cX13_forgets 50 = .ok (.aload_n 0, 1) := by decide +kernel
theorem dX13_forgets_51 : decode cX13_forgets 51 = .ok (.getfield 9, 3) := by decide +kernel
theorem dX13_forgets_54 : decode cX13_forgets 54 = .ok (.iload 4, 2) := by decide +kernel
theorem dX13_forgets_56 : decode cX13_forgets 56 = .ok (.aload_n 0, 1) := by decide +kernel
theorem dX13_forgets_57 : decode cX13_forgets 57 = .ok (.getfield 9, 3) := by decide +kernel
theorem dX13_forgets_60 : decode cX13_forgets 60 = .ok (.iload 4, 2) := by decide +kernel
theorem dX13_forgets_62 : decode cX13_forgets 62 = .ok (.bipush 10, 2) := by decide +kernel
theorem dX13_forgets_64 : decode cX13_forgets 64 = .ok (.iadd, 1) := by decide +kernel
theorem dX13_forgets_65 : decode cX13_forgets 65 = .ok (.iaload, 1) := by decide +kernel
theorem dX13_forgets_66 : decode cX13_forgets 66 = .ok (.iastore, 1) := by decide +kernel
theorem dX13_forgets_67 : decode cX13_forgets 67 = .ok (.iinc 4 1, 3) := by decide +kernel
theorem dX13_forgets_70 : decode cX13_forgets 70 = .ok (.goto (-27), 3) := by decide +kernel
theorem dX13_forgets_73 : decode cX13_forgets 73 = .ok (.aload_n 0, 1) := by decide +kernel
theorem dX13_forgets_74 : decode cX13_forgets 74 = .ok (.getfield 9, 3) := by decide +kernel
theorem dX13_forgets_77 : decode cX13_forgets 77 = .ok (.iconst 1, 1) := by decide +kernel
theorem dX13_forgets_78 : decode cX13_forgets 78 = .ok (.dup2, 1) := by decide +kernel
theorem dX13_forgets_79 : decode cX13_forgets 79 = .ok (.iaload, 1) := by decide +kernel
theorem dX13_forgets_80 : decode cX13_forgets 80 = .ok (.iconst 1, 1) := by decide +kernel
theorem dX13_forgets_81 : decode cX13_forgets 81 = .ok (.isub, 1) := by decide +kernel
theorem dX13_forgets_82 : decode cX13_forgets 82 = .ok (.iastore, 1) := by decide +kernel
theorem dX13_forgets_83 : decode cX13_forgets 83 = .ok (.iload_n 3, 1) := by decide +kernel
theorem dX13_forgets_84 : decode cX13_forgets 84 = .ok (.ireturn, 1) := by decide +kernel
set_option maxRecDepth 20000 in
theorem ggX13_forget_X13_begins : GoodIn wsX13_forget wsX13_begins := goodIn_ca (goodIn_r _ [5, 6, 7, 8, 9, 4, 10, 68, 69, 70, 71, 72, 73, 74, 75, 76, 77, 78, 79, 80, 81, 82, 83, 84, 85] (by decide +kernel) (by decide +kernel)) (goodIn_sub (fun _ h => List.mem_cons_of_mem _ (List.mem_append_right _ h)) (by decide +kernel))
set_option maxRecDepth 20000 in
theorem gX13_forget_X13_begins : GoodIn wsX13_forget (wsV RX13 111 RX13 yX13_begins wsX13_begins) := goodIn_app (goodIn_of _ (by decide +kernel)) ggX13_forget_X13_begins
set_option maxRecDepth 20000 in
theorem ggX13_forget_X13_forgets : GoodIn wsX13_forget wsX13_forgets := goodIn_ca (goodIn_r _ [14, 6, 15, 16, 17, 4, 18, 19, 20, 21, 22, 23, 24, 25, 26, 27, 28, 29, 30, 31, 32, 33, 34, 35, 36, 37, 38, 39, 40, 41, 42, 43, 44, 45, 46, 47, 48, 49, 50, 51, 52, 53, 54, 55, 56, 57, 68, 69, 70, 71, 72, 73, 74, 75, 76, 77, 78, 79, 80, 81, 82, 83, 84, 85] (by decide +kernel) (by decide +kernel)) (goodIn_sub (fun _ h => List.mem_cons_of_mem _ (List.mem_append_right _ h)) (by decide +kernel))
set_option maxRecDepth 20000 in
theorem gX13_forget_X13_forgets : GoodIn wsX13_forget (wsV RX13 154 RX13 yX13_forgets wsX13_forgets) := goodIn_app (goodIn_of _ (by decide +kernel)) ggX13_forget_X13_forgets
set_option maxRecDepth 20000 in
theorem ggX13_forget_X13_ends : GoodIn wsX13_forget wsX13_ends := goodIn_ca (goodIn_r _ [61, 35, 7, 6, 8, 9, 4, 10, 62, 63, 64, 65, 66, 67, 68, 69, 70, 71, 72, 73, 74, 75, 76, 77, 78, 79, 80, 81, 82, 83, 84, 85] (by decide +kernel) (by decide +kernel)) (goodIn_sub (fun _ h => List.mem_cons_of_mem _ (List.mem_append_right _ h)) (by decide +kernel))
set_option maxRecDepth 20000 in
theorem gX13_forget_X13_ends : GoodIn wsX13_forget (wsV RX13 117 RX13 yX13_ends wsX13_ends) := goodIn_app (goodIn_of _ (by decide +kernel)) ggX13_forget_X13_ends
theorem dX13_forget_0 : decode cX13_forget 0 = .ok (.aload_n 0, 1) := by decide +kernel
theorem dX13_forget_1 : decode cX13_forget 1 = .ok (.invokevirtual 111, 3) := by decide +kernel
theorem dX13_forget_4 : decode cX13_forget 4 = .ok (.aload_n 0, 1) := by decide +kernel
theorem dX13_forget_5 : decode cX13_forget 5 = .ok (.aload_n 0, 1) := by decide +kernel
theorem dX13_forget_6 : decode cX13_forget 6 = .ok (.iload_n 1, 1) := by decide +kernel
theorem dX13_forget_7 : decode cX13_forget 7 = .ok (.invokevirtual 154, 3) := by decide +kernel
theorem dX13_forget_10 : decode cX13_forget 10 = .ok (.invokevirtual 117, 3) := by decide +kernel
theorem dX13_forget_13 : decode cX13_forget 13 = .ok (.ireturn, 1) := by decide +kernel
theorem dX13_birdCount_0 : decode cX13_birdCount 0 = .ok (.aload_n 0, 1) := by decide +kernel
theorem dX13_birdCount_1 : decode cX13_birdCount 1 = .ok (.iconst 0, 1) := by decide +kernel
theorem dX13_birdCount_2 : decode cX13_birdCount 2 = .ok (.putfield 38, 3) := by decide +kernel
theorem dX13_birdCount_5 : decode cX13_birdCount 5 = .ok (.aload_n 0, 1) := by decide +kernel
theorem dX13_birdCount_6 : decode cX13_birdCount 6 = .ok (.getfield 9, 3) := by decide +kernel
theorem dX13_birdCount_9 : decode cX13_birdCount 9 = .ok (.iconst 0, 1) := by decide +kernel
theorem dX13_birdCount_10 : decode cX13_birdCount 10 = .ok (.iaload, 1) := by decide +kernel
theorem dX13_birdCount_11 : decode cX13_birdCount 11 = .ok (.ireturn, 1) := by decide +kernel
set_option maxRecDepth 20000 in
theorem ggX13_nestOf_X13_isBird : GoodIn wsX13_nestOf wsX13_isBird := goodIn_ca (goodIn_r _ [6, 1, 7, 8, 5, 9, 19, 20, 21, 22, 23, 24, 25, 26, 27, 28, 29, 30, 31, 32, 33, 34, 35, 36] (by decide +kernel) (by decide +kernel)) (goodIn_sub (fun _ h => List.mem_cons_of_mem _ (List.mem_append_right _ h)) (by decide +kernel))
set_option maxRecDepth 20000 in
theorem gX13_nestOf_X13_isBird : GoodIn wsX13_nestOf (wsV RX13 76 RX13 yX13_isBird wsX13_isBird) := goodIn_app (goodIn_of _ (by decide +kernel)) ggX13_nestOf_X13_isBird
set_option maxRecDepth 20000 in
theorem ggX13_nestOf_X13_goes : GoodIn wsX13_nestOf wsX13_goes := goodIn_r _ [13, 14, 15, 16, 5, 17, 18, 19, 20, 21, 22, 23, 24, 25, 26, 27, 28, 29, 30, 31, 32, 33, 34, 35, 36] (by decide +kernel) (by decide +kernel)
set_option maxRecDepth 20000 in
theorem gX13_nestOf_X13_goes : GoodIn wsX13_nestOf (wsV RX13 55 RX13 yX13_goes wsX13_goes) := goodIn_app (goodIn_of _ (by decide +kernel)) ggX13_nestOf_X13_goes
theorem dX13_nestOf_0 : decode cX13_nestOf 0 = .ok (.aload_n 0, 1) := by decide +kernel
theorem dX13_nestOf_1 : decode cX13_nestOf 1 = .ok (.aload_n 0, 1) := by decide +kernel
theorem dX13_nestOf_2 : decode cX13_nestOf 2 = .ok (.iload_n 1, 1) := by decide +kernel
theorem dX13_nestOf_3 : decode cX13_nestOf 3 = .ok (.invokevirtual 76, 3) := by decide +kernel
theorem dX13_nestOf_6 : decode cX13_nestOf 6 = .ok (.invokevirtual 55, 3) := by decide +kernel
theorem dX13_nestOf_9 : decode cX13_nestOf 9 = .ok (.ifCond .eq 14, 3) := by decide +kernel
theorem dX13_nestOf_12 : decode cX13_nestOf 12 = .ok (.aload_n 0, 1) := by decide +kernel
theorem dX13_nestOf_13 : decode cX13_nestOf 13 = .ok (.getfield 9, 3) := by decide +kernel
theorem dX13_nestOf_16 : decode cX13_nestOf 16 = .ok (.iconst 4, 1) := by decide +kernel
theorem dX13_nestOf_17 : decode cX13_nestOf 17 = .ok (.iload_n 1, 1) := by decide +kernel
theorem dX13_nestOf_18 : decode cX13_nestOf 18 = .ok (.iadd, 1) := by decide +kernel
theorem dX13_nestOf_19 : decode cX13_nestOf 19 = .ok (.iaload, 1) := by decide +kernel
theorem dX13_nestOf_20 : decode cX13_nestOf 20 = .ok (.goto 4, 3) := by decide +kernel
theorem dX13_nestOf_23 : decode cX13_nestOf 23 = .ok (.iconst 0, 1) := by decide +kernel
theorem dX13_nestOf_24 : decode cX13_nestOf 24 = .ok (.ireturn, 1) := by decide +kernel
set_option maxRecDepth 20000 in
theorem ggX13_birdsIn_X13_isNest : GoodIn wsX13_birdsIn wsX13_isNest := goodIn_r _ [5, 6, 7, 4, 8] (by decide +kernel) (by decide +kernel)
set_option maxRecDepth 20000 in
theorem gX13_birdsIn_X13_isNest : GoodIn wsX13_birdsIn (va_wsS RX13 108 yX13_isNest wsX13_isNest) := goodIn_app (goodIn_of _ (by decide +kernel)) ggX13_birdsIn_X13_isNest
set_option maxRecDepth 20000 in
theorem ggX13_birdsIn_X13_goes : GoodIn wsX13_birdsIn wsX13_goes := goodIn_r _ [12, 13, 14, 15, 4, 16, 17, 18, 19, 20, 21, 22, 23, 24, 25, 26, 27, 28, 29, 30, 31, 32, 33, 34, 35] (by decide +kernel) (by decide +kernel)
set_option maxRecDepth 20000 in
theorem gX13_birdsIn_X13_goes : GoodIn wsX13_birdsIn (wsV RX13 55 RX13 yX13_goes wsX13_goes) := goodIn_app (goodIn_of _ (by decide +kernel)) ggX13_birdsIn_X13_goes
theorem dX13_birdsIn_0 : decode cX13_birdsIn 0 = .ok (.iconst 0, 1) := by decide +kernel
theorem dX13_birdsIn_1 : decode cX13_birdsIn 1 = .ok (.istore_n 2, 1) := by decide +kernel
theorem dX13_birdsIn_2 : decode cX13_birdsIn 2 = .ok (.iconst 0, 1) := by decide +kernel
theorem dX13_birdsIn_3 : decode cX13_birdsIn 3 = .ok (.istore_n 3, 1) := by decide +kernel
theorem dX13_birdsIn_4 : decode cX13_birdsIn 4 = .ok (.iload_n 3, 1) := by decide +kernel
theorem dX13_birdsIn_5 : decode cX13_birdsIn 5 = .ok (.aload_n 0, 1) := by decide +kernel
theorem dX13_birdsIn_6 : decode cX13_birdsIn 6 = .ok (.getfield 9, 3) := by decide +kernel
theorem dX13_birdsIn_9 : decode cX13_birdsIn 9 = .ok (.iconst 0, 1) := by decide +kernel
theorem dX13_birdsIn_10 : decode cX13_birdsIn 10 = .ok (.iaload, 1) := by decide +kernel
theorem dX13_birdsIn_11 : decode cX13_birdsIn 11 = .ok (.if_icmp .ge 29, 3) := by decide +kernel
theorem dX13_birdsIn_14 : decode cX13_birdsIn 14 = .ok (.iload_n 2, 1) := by decide +kernel
theorem dX13_birdsIn_15 : decode cX13_birdsIn 15 = .ok (.aload_n 0, 1) := by decide +kernel
theorem dX13_birdsIn_16 : decode cX13_birdsIn 16 = .ok (.getfield 9, 3) := by decide +kernel
theorem dX13_birdsIn_19 : decode cX13_birdsIn 19 = .ok (.iconst 4, 1) := by decide +kernel
theorem dX13_birdsIn_20 : decode cX13_birdsIn 20 = .ok (.iload_n 3, 1) := by decide +kernel
theorem dX13_birdsIn_21 : decode cX13_birdsIn 21 = .ok (.iadd, 1) := by decide +kernel
theorem dX13_birdsIn_22 : decode cX13_birdsIn 22 = .ok (.iaload, 1) := by decide +kernel
theorem dX13_birdsIn_23 : decode cX13_birdsIn 23 = .ok (.iload_n 1, 1) := by decide +kernel
theorem dX13_birdsIn_24 : decode cX13_birdsIn 24 = .ok (.if_icmp .ne 7, 3) := by decide +kernel
theorem dX13_birdsIn_27 : decode cX13_birdsIn 27 = .ok (.iconst 1, 1) := by decide +kernel
theorem dX13_birdsIn_28 : decode cX13_birdsIn 28 = .ok (.goto 4, 3) := by decide +kernel
theorem dX13_birdsIn_31 : decode cX13_birdsIn 31 = .ok (.iconst 0, 1) := by decide +kernel
theorem dX13_birdsIn_32 : decode cX13_birdsIn 32 = .ok (.iadd, 1) := by decide +kernel
theorem dX13_birdsIn_33 : decode cX13_birdsIn 33 = .ok (.istore_n 2, 1) := by decide +kernel
theorem dX13_birdsIn_34 : decode cX13_birdsIn 34 = .ok (.iinc 3 1, 3) := by decide +kernel
theorem dX13_birdsIn_37 : decode cX13_birdsIn 37 = .ok (.goto (-33), 3) := by decide +kernel
theorem dX13_birdsIn_40 : decode cX13_birdsIn 40 = .ok (.aload_n 0, 1) := by decide +kernel
theorem dX13_birdsIn_41 : decode cX13_birdsIn 41 = .ok (.iload_n 1, 1) := by decide +kernel
theorem dX13_birdsIn_42 : decode cX13_birdsIn 42 = .ok (.invokestatic 108, 3) := by decide +kernel
theorem dX13_birdsIn_45 : decode cX13_birdsIn 45 = .ok (.invokevirtual 55, 3) := by decide +kernel
theorem dX13_birdsIn_48 : decode cX13_birdsIn 48 = .ok (.ifCond .eq 7, 3) := by decide +kernel
theorem dX13_birdsIn_51 : decode cX13_birdsIn 51 = .ok (.iload_n 2, 1) := by decide +kernel
theorem dX13_birdsIn_52 : decode cX13_birdsIn 52 = .ok (.goto 4, 3) := by decide +kernel
theorem dX13_birdsIn_55 : decode cX13_birdsIn 55 = .ok (.iconst 0, 1) := by decide +kernel
theorem dX13_birdsIn_56 : decode cX13_birdsIn 56 = .ok (.ireturn, 1) := by decide +kernel
set_option maxRecDepth 20000 in
theorem ggX13_sharesWith_X13_shareOf : GoodIn wsX13_sharesWith wsX13_shareOf := goodIn_ca (goodIn_r _ [6, 7, 8, 9, 5, 10, 1, 11, 12, 13, 14, 15, 16, 17, 18, 19, 20, 21, 22, 23, 24, 25, 26, 27, 28, 29, 30, 31, 32, 33, 34, 35, 36, 37, 38, 39] (by decide +kernel) (by decide +kernel)) (goodIn_sub (fun _ h => List.mem_cons_of_mem _ (List.mem_append_right _ h)) (by decide +kernel))
set_option maxRecDepth 20000 in
theorem gX13_sharesWith_X13_shareOf : GoodIn wsX13_sharesWith (wsV RX13 80 RX13 yX13_shareOf wsX13_shareOf) := goodIn_app (goodIn_of _ (by decide +kernel)) ggX13_sharesWith_X13_shareOf
theorem dX13_sharesWith_0 : decode cX13_sharesWith 0 = .ok (.iconst 0, 1) := by decide +kernel
theorem dX13_sharesWith_1 : decode cX13_sharesWith 1 = .ok (.istore_n 2, 1) := by decide +kernel
theorem dX13_sharesWith_2 : decode cX13_sharesWith 2 = .ok (.iconst 0, 1) := by decide +kernel
theorem dX13_sharesWith_3 : decode cX13_sharesWith 3 = .ok (.istore_n 3, 1) := by decide +kernel
theorem dX13_sharesWith_4 : decode cX13_sharesWith 4 = .ok (.iload_n 3, 1) := by decide +kernel
theorem dX13_sharesWith_5 : decode cX13_sharesWith 5 = .ok (.aload_n 0, 1) := by decide +kernel
theorem dX13_sharesWith_6 : decode cX13_sharesWith 6 = .ok (.getfield 9, 3) := by decide +kernel
theorem dX13_sharesWith_9 : decode cX13_sharesWith 9 = .ok (.iconst 1, 1) := by decide +kernel
theorem dX13_sharesWith_10 : decode cX13_sharesWith 10 = .ok (.iaload, 1) := by decide +kernel
theorem dX13_sharesWith_11 : decode cX13_sharesWith 11 = .ok (.if_icmp .ge 27, 3) := by decide +kernel
theorem dX13_sharesWith_14 : decode cX13_sharesWith 14 = .ok (.iload_n 2, 1) := by decide +kernel
theorem dX13_sharesWith_15 : decode cX13_sharesWith 15 = .ok (.aload_n 0, 1) := by decide +kernel
theorem dX13_sharesWith_16 : decode cX13_sharesWith 16 = .ok (.iload_n 1, 1) := by decide +kernel
theorem dX13_sharesWith_17 : decode cX13_sharesWith 17 = .ok (.iload_n 3, 1) := by decide +kernel
theorem dX13_sharesWith_18 : decode cX13_sharesWith 18 = .ok (.invokevirtual 80, 3) := by decide +kernel
theorem dX13_sharesWith_21 : decode cX13_sharesWith 21 = .ok (.iconst (-1), 1) := by decide +kernel
theorem dX13_sharesWith_22 : decode cX13_sharesWith 22 = .ok (.if_icmp .ne 7, 3) := by decide +kernel
theorem dX13_sharesWith_25 : decode cX13_sharesWith 25 = .ok (.iconst 0, 1) := by decide +kernel
theorem dX13_sharesWith_26 : decode cX13_sharesWith 26 = .ok (.goto 4, 3) := by decide +kernel
theorem dX13_sharesWith_29 : decode cX13_sharesWith 29 = .ok (.iconst 1, 1) := by decide +kernel
theorem dX13_sharesWith_30 : decode cX13_sharesWith 30 = .ok (.iadd, 1) := by decide +kernel
theorem dX13_sharesWith_31 : decode cX13_sharesWith 31 = .ok (.istore_n 2, 1) := by decide +kernel
theorem dX13_sharesWith_32 : decode cX13_sharesWith 32 = .ok (.iinc 3 1, 3) := by decide +kernel
theorem dX13_sharesWith_35 : decode cX13_sharesWith 35 = .ok (.goto (-31), 3) := by decide +kernel
theorem dX13_sharesWith_38 : decode cX13_sharesWith 38 = .ok (.iload_n 2, 1) := by decide +kernel
theorem dX13_sharesWith_39 : decode cX13_sharesWith 39 = .ok (.ireturn, 1) := by decide +kernel
set_option maxRecDepth 20000 in
theorem ggX13_sharesOf_X13_isBird : GoodIn wsX13_sharesOf wsX13_isBird := goodIn_ca (goodIn_r _ [5, 6, 7, 8, 4, 9, 35, 36, 37, 38, 39, 40, 41, 42, 43, 44, 45, 46, 47, 48, 49, 50, 51, 52] (by decide +kernel) (by decide +kernel)) (goodIn_sub (fun _ h => List.mem_cons_of_mem _ (List.mem_append_right _ h)) (by decide +kernel))
set_option maxRecDepth 20000 in
theorem gX13_sharesOf_X13_isBird : GoodIn wsX13_sharesOf (wsV RX13 76 RX13 yX13_isBird wsX13_isBird) := goodIn_app (goodIn_of _ (by decide +kernel)) ggX13_sharesOf_X13_isBird
set_option maxRecDepth 20000 in
theorem ggX13_sharesOf_X13_goes : GoodIn wsX13_sharesOf wsX13_goes := goodIn_r _ [13, 14, 15, 16, 4, 17, 18, 35, 36, 37, 38, 39, 40, 41, 42, 43, 44, 45, 46, 47, 48, 49, 50, 51, 52] (by decide +kernel) (by decide +kernel)
set_option maxRecDepth 20000 in
theorem gX13_sharesOf_X13_goes : GoodIn wsX13_sharesOf (wsV RX13 55 RX13 yX13_goes wsX13_goes) := goodIn_app (goodIn_of _ (by decide +kernel)) ggX13_sharesOf_X13_goes
set_option maxRecDepth 20000 in
theorem ggX13_sharesOf_X13_sharesWith : GoodIn wsX13_sharesOf wsX13_sharesWith := goodIn_ca (goodIn_r _ [22, 6, 23, 24, 25, 4, 26, 1, 2, 3, 5, 7, 8, 9, 27, 28, 29, 30, 31, 32, 33, 34, 35, 36, 37, 38, 39, 40, 41, 42, 43, 44, 45, 46, 47, 48, 49, 50, 51, 52] (by decide +kernel) (by decide +kernel)) (goodIn_sub (fun _ h => List.mem_cons_of_mem _ (List.mem_append_right _ h)) (by decide +kernel))
set_option maxRecDepth 20000 in
theorem gX13_sharesOf_X13_sharesWith : GoodIn wsX13_sharesOf (wsV RX13 157 RX13 yX13_sharesWith wsX13_sharesWith) := goodIn_app (goodIn_of _ (by decide +kernel)) ggX13_sharesOf_X13_sharesWith
theorem dX13_sharesOf_0 : decode cX13_sharesOf 0 = .ok (.aload_n 0, 1) := by decide +kernel
theorem dX13_sharesOf_1 : decode cX13_sharesOf 1 = .ok (.aload_n 0, 1) := by decide +kernel
theorem dX13_sharesOf_2 : decode cX13_sharesOf 2 = .ok (.iload_n 1, 1) := by decide +kernel
theorem dX13_sharesOf_3 : decode cX13_sharesOf 3 = .ok (.invokevirtual 76, 3) := by decide +kernel
theorem dX13_sharesOf_6 : decode cX13_sharesOf 6 = .ok (.invokevirtual 55, 3) := by decide +kernel
theorem dX13_sharesOf_9 : decode cX13_sharesOf 9 = .ok (.ifCond .eq 11, 3) := by decide +kernel
theorem dX13_sharesOf_12 : decode cX13_sharesOf 12 = .ok (.aload_n 0, 1) := by decide +kernel
theorem dX13_sharesOf_13 : decode cX13_sharesOf 13 = .ok (.iload_n 1, 1) := by decide +kernel
theorem dX13_sharesOf_14 : decode cX13_sharesOf 14 = .ok (.invokevirtual 157, 3) := by decide +kernel
theorem dX13_sharesOf_17 : decode cX13_sharesOf 17 = .ok (.goto 4, 3) := by decide +kernel
theorem dX13_sharesOf_20 : decode cX13_sharesOf 20 = .ok (.iconst 0, 1) := by decide +kernel
theorem dX13_sharesOf_21 : decode cX13_sharesOf 21 = .ok (.ireturn, 1) := by decide +kernel
set_option maxRecDepth 20000 in
theorem ggX13_birdAtRank_X13_sharesWith : GoodIn wsX13_birdAtRank wsX13_sharesWith := goodIn_ca (goodIn_r _ [6, 1, 7, 8, 9, 5, 10, 11, 12, 13, 14, 15, 16, 17, 18, 19, 20, 21, 22, 23, 24, 25, 35, 36, 37, 38, 39, 40, 41, 42, 43, 44, 45, 46, 47, 48, 49, 50, 51, 52] (by decide +kernel) (by decide +kernel)) (goodIn_sub (fun _ h => List.mem_cons_of_mem _ (List.mem_append_right _ h)) (by decide +kernel))
set_option maxRecDepth 20000 in
theorem gX13_birdAtRank_X13_sharesWith : GoodIn wsX13_birdAtRank (wsV RX13 157 RX13 yX13_sharesWith wsX13_sharesWith) := goodIn_app (goodIn_of _ (by decide +kernel)) ggX13_birdAtRank_X13_sharesWith
set_option maxRecDepth 20000 in
theorem ggX13_birdAtRank_X13_goes : GoodIn wsX13_birdAtRank wsX13_goes := goodIn_r _ [29, 30, 31, 32, 5, 33, 34, 35, 36, 37, 38, 39, 40, 41, 42, 43, 44, 45, 46, 47, 48, 49, 50, 51, 52] (by decide +kernel) (by decide +kernel)
set_option maxRecDepth 20000 in
theorem gX13_birdAtRank_X13_goes : GoodIn wsX13_birdAtRank (wsV RX13 55 RX13 yX13_goes wsX13_goes) := goodIn_app (goodIn_of _ (by decide +kernel)) ggX13_birdAtRank_X13_goes
theorem dX13_birdAtRank_0 : decode cX13_birdAtRank 0 = .ok (.iconst (-1), 1) := by decide +kernel
theorem dX13_birdAtRank_1 : decode cX13_birdAtRank 1 = .ok (.istore_n 2, 1) := by decide +kernel
theorem dX13_birdAtRank_2 : decode cX13_birdAtRank 2 = .ok (.iconst 0, 1) := by decide +kernel
theorem dX13_birdAtRank_3 : decode cX13_birdAtRank 3 = .ok (.istore_n 3, 1) := by decide +kernel
theorem dX13_birdAtRank_4 : decode cX13_birdAtRank 4 = .ok (.iload_n 3, 1) := by decide +kernel
theorem dX13_birdAtRank_5 : decode cX13_birdAtRank 5 = .ok (.aload_n 0, 1) := by decide +kernel
theorem dX13_birdAtRank_6 : decode cX13_birdAtRank 6 = .ok (.getfield 9, 3) := by decide +kernel
theorem dX13_birdAtRank_9 : decode cX13_birdAtRank 9 = .ok (.iconst 0, 1) := by decide +kernel
theorem dX13_birdAtRank_10 : decode cX13_birdAtRank 10 = .ok (.iaload, 1) := by decide +kernel
theorem dX13_birdAtRank_11 : decode cX13_birdAtRank 11 = .ok (.if_icmp .ge 114, 3) := by decide +kernel
theorem dX13_birdAtRank_14 : decode cX13_birdAtRank 14 = .ok (.iconst 0, 1) := by decide +kernel
theorem dX13_birdAtRank_15 : decode cX13_birdAtRank 15 = .ok (.istore 4, 2) := by decide +kernel
theorem dX13_birdAtRank_17 : decode cX13_birdAtRank 17 = .ok (.iconst 0, 1) := by decide +kernel
theorem dX13_birdAtRank_18 : decode cX13_birdAtRank 18 = .ok (.istore 5, 2) := by decide +kernel
theorem dX13_birdAtRank_20 : decode cX13_birdAtRank 20 = .ok (.iload 5, 2) := by decide +kernel
theorem dX13_birdAtRank_22 : decode cX13_birdAtRank 22 = .ok (.aload_n 0, 1) := by decide +kernel
theorem dX13_birdAtRank_23 : decode cX13_birdAtRank 23 = .ok (.getfield 9, 3) := by decide +kernel
theorem dX13_birdAtRank_26 : decode cX13_birdAtRank 26 = .ok (.iconst 0, 1) := by decide +kernel
theorem dX13_birdAtRank_27 : decode cX13_birdAtRank 27 = .ok (.iaload, 1) := by decide +kernel
theorem dX13_birdAtRank_28 : decode cX13_birdAtRank 28 = .ok (.if_icmp .ge 79, 3) := by decide +kernel
theorem dX13_birdAtRank_31 : decode cX13_birdAtRank 31 = .ok (.aload_n 0, 1) := by decide +kernel
theorem dX13_birdAtRank_32 : decode cX13_birdAtRank 32 = .ok (.iload 5, 2) := by decide +kernel
theorem dX13_birdAtRank_34 : decode cX13_birdAtRank 34 = .ok (.invokevirtual 157, 3) := by decide +kernel
theorem dX13_birdAtRank_37 : decode cX13_birdAtRank 37 = .ok (.aload_n 0, 1) := by decide +kernel
theorem dX13_birdAtRank_38 : decode cX13_birdAtRank 38 = .ok (.iload_n 3, 1) := by decide +kernel
theorem dX13_birdAtRank_39 : decode cX13_birdAtRank 39 = .ok (.invokevirtual 157, 3) := by decide +kernel
theorem dX13_birdAtRank_42 : decode cX13_birdAtRank 42 = .ok (.isub, 1) := by decide +kernel
theorem dX13_birdAtRank_43 : decode cX13_birdAtRank 43 = .ok (.istore 6, 2) := by decide +kernel
theorem dX13_birdAtRank_45 : decode cX13_birdAtRank 45 = .ok (.aload_n 0, 1) := by decide +kernel
theorem dX13_birdAtRank_46 : decode cX13_birdAtRank 46 = .ok (.getfield 9, 3) := by decide +kernel
theorem dX13_birdAtRank_49 : decode cX13_birdAtRank 49 = .ok (.iconst 4, 1) := by decide +kernel
theorem dX13_birdAtRank_50 : decode cX13_birdAtRank 50 = .ok (.iload_n 3, 1) := by decide +kernel
theorem dX13_birdAtRank_51 : decode cX13_birdAtRank 51 = .ok (.iadd, 1) := by decide +kernel
theorem dX13_birdAtRank_52 : decode cX13_birdAtRank 52 = .ok (.iaload, 1) := by decide +kernel
theorem dX13_birdAtRank_53 : decode cX13_birdAtRank 53 = .ok (.aload_n 0, 1) := by decide +kernel
theorem dX13_birdAtRank_54 : decode cX13_birdAtRank 54 = .ok (.getfield 9, 3) := by decide +kernel
theorem dX13_birdAtRank_57 : decode cX13_birdAtRank 57 = .ok (.iconst 4, 1) := by decide +kernel
theorem dX13_birdAtRank_58 : decode cX13_birdAtRank 58 = .ok (.iload 5, 2) := by decide +kernel
theorem dX13_birdAtRank_60 : decode cX13_birdAtRank 60 = .ok (.iadd, 1) := by decide +kernel
theorem dX13_birdAtRank_61 : decode cX13_birdAtRank 61 = .ok (.iaload, 1) := by decide +kernel
theorem dX13_birdAtRank_62 : decode cX13_birdAtRank 62 = .ok (.isub, 1) := by decide +kernel
theorem dX13_birdAtRank_63 : decode cX13_birdAtRank 63 = .ok (.istore 7, 2) := by decide +kernel
theorem dX13_birdAtRank_65 : decode cX13_birdAtRank 65 = .ok (.iload 4, 2) := by decide +kernel
theorem dX13_birdAtRank_67 : decode cX13_birdAtRank 67 = .ok (.iload 6, 2) := by decide +kernel
theorem dX13_birdAtRank_69 : decode cX13_birdAtRank 69 = .ok (.ifCond .gt 24, 3) := by decide +kernel
theorem dX13_birdAtRank_72 : decode cX13_birdAtRank 72 = .ok (.iload 6, 2) := by decide +kernel
theorem dX13_birdAtRank_74 : decode cX13_birdAtRank 74 = .ok (.ifCond .ne 23, 3) := by decide +kernel
theorem dX13_birdAtRank_77 : decode cX13_birdAtRank 77 = .ok (.iload 7, 2) := by decide +kernel
theorem dX13_birdAtRank_79 : decode cX13_birdAtRank 79 = .ok (.ifCond .gt 14, 3) := by decide +kernel
theorem dX13_birdAtRank_82 : decode cX13_birdAtRank 82 = .ok (.iload 7, 2) := by decide +kernel
theorem dX13_birdAtRank_84 : decode cX13_birdAtRank 84 = .ok (.ifCond .ne 13, 3) := by decide +kernel
theorem dX13_birdAtRank_87 : decode cX13_birdAtRank 87 = .ok (.iload 5, 2) := by decide +kernel
theorem dX13_birdAtRank_89 : decode cX13_birdAtRank 89 = .ok (.iload_n 3, 1) := by decide +kernel
theorem dX13_birdAtRank_90 : decode cX13_birdAtRank 90 = .ok (.if_icmp .ge 7, 3) := by decide +kernel
theorem dX13_birdAtRank_93 : decode cX13_birdAtRank 93 = .ok (.iconst 1, 1) := by decide +kernel
theorem dX13_birdAtRank_94 : decode cX13_birdAtRank 94 = .ok (.goto 4, 3) := by decide +kernel
theorem dX13_birdAtRank_97 : decode cX13_birdAtRank 97 = .ok (.iconst 0, 1) := by decide +kernel
theorem dX13_birdAtRank_98 : decode cX13_birdAtRank 98 = .ok (.iadd, 1) := by decide +kernel
theorem dX13_birdAtRank_99 : decode cX13_birdAtRank 99 = .ok (.istore 4, 2) := by decide +kernel
theorem dX13_birdAtRank_101 : decode cX13_birdAtRank 101 = .ok (.iinc 5 1, 3) := by decide +kernel
theorem dX13_birdAtRank_104 : decode cX13_birdAtRank 104 = .ok (.goto (-84), 3) := by decide +kernel
theorem dX13_birdAtRank_107 : decode cX13_birdAtRank 107 = .ok (.iload 4, 2) := by decide +kernel
theorem dX13_birdAtRank_109 : decode cX13_birdAtRank 109 = .ok (.iload_n 1, 1) := by decide +kernel
theorem dX13_birdAtRank_110 : decode cX13_birdAtRank 110 = .ok (.if_icmp .ne 7, 3) := by decide +kernel
theorem dX13_birdAtRank_113 : decode cX13_birdAtRank 113 = .ok (.iload_n 3, 1) := by decide +kernel
theorem dX13_birdAtRank_114 : decode cX13_birdAtRank 114 = .ok (.goto 4, 3) := by decide +kernel
theorem dX13_birdAtRank_117 : decode cX13_birdAtRank 117 = .ok (.iload_n 2, 1) := by decide +kernel
theorem dX13_birdAtRank_118 : decode cX13_birdAtRank 118 = .ok (.istore_n 2, 1) := by decide +kernel
theorem dX13_birdAtRank_119 : decode cX13_birdAtRank 119 = .ok (.iinc 3 1, 3) := by decide +kernel
theorem dX13_birdAtRank_122 : decode cX13_birdAtRank 122 = .ok (.goto (-118), 3) := by decide +kernel
theorem dX13_birdAtRank_125 : decode cX13_birdAtRank 125 = .ok (.aload_n 0, 1) := by decide +kernel
theorem dX13_birdAtRank_126 : decode cX13_birdAtRank 126 = .ok (.iload_n 2, 1) := by decide +kernel
theorem dX13_birdAtRank_127 : decode cX13_birdAtRank 127 = .ok (.iconst (-1), 1) := by decide +kernel
theorem dX13_birdAtRank_128 : decode cX13_birdAtRank 128 = .ok (.if_icmp .eq 7, 3) := by decide +kernel
theorem dX13_birdAtRank_131 : decode cX13_birdAtRank 131 = .ok (.iconst 1, 1) := by decide +kernel
theorem dX13_birdAtRank_132 : decode cX13_birdAtRank 132 = .ok (.goto 4, 3) := by decide +kernel
theorem dX13_birdAtRank_135 : decode cX13_birdAtRank 135 = .ok (.iconst 0, 1) := by decide +kernel
theorem dX13_birdAtRank_136 : decode cX13_birdAtRank 136 = .ok (.invokevirtual 55, 3) := by decide +kernel
theorem dX13_birdAtRank_139 : decode cX13_birdAtRank 139 = .ok (.ifCond .eq 7, 3) := by decide +kernel
theorem dX13_birdAtRank_142 : decode cX13_birdAtRank 142 = .ok (.iload_n 2, 1) := by decide +kernel
theorem dX13_birdAtRank_143 : decode cX13_birdAtRank 143 = .ok (.goto 4, 3) := by decide +kernel
theorem dX13_birdAtRank_146 : decode cX13_birdAtRank 146 = .ok (.iconst 0, 1) := by decide +kernel
theorem dX13_birdAtRank_147 : decode cX13_birdAtRank 147 = .ok (.ireturn, 1) := by decide +kernel
theorem dX13_secretCount_0 : decode cX13_secretCount 0 = .ok (.aload_n 0, 1) := by decide +kernel
theorem dX13_secretCount_1 : decode cX13_secretCount 1 = .ok (.iconst 0, 1) := by decide +kernel
theorem dX13_secretCount_2 : decode cX13_secretCount 2 = .ok (.putfield 38, 3) := by decide +kernel
theorem dX13_secretCount_5 : decode cX13_secretCount 5 = .ok (.aload_n 0, 1) := by decide +kernel
theorem dX13_secretCount_6 : decode cX13_secretCount 6 = .ok (.getfield 9, 3) := by decide +kernel
theorem dX13_secretCount_9 : decode cX13_secretCount 9 = .ok (.iconst 1, 1) := by decide +kernel
theorem dX13_secretCount_10 : decode cX13_secretCount 10 = .ok (.iaload, 1) := by decide +kernel
theorem dX13_secretCount_11 : decode cX13_secretCount 11 = .ok (.ireturn, 1) := by decide +kernel
set_option maxRecDepth 20000 in
theorem ggX13_exists_X13_find : GoodIn wsX13_exists wsX13_find := goodIn_ca (goodIn_r _ [6, 7, 8, 9, 10, 5, 11, 12, 13, 14, 15, 16, 17, 18, 19, 20, 21, 22, 23, 24, 25, 26, 27, 28, 29, 30, 31, 32, 33] (by decide +kernel) (by decide +kernel)) (goodIn_sub (fun _ h => List.mem_cons_of_mem _ (List.mem_append_right _ h)) (by decide +kernel))
set_option maxRecDepth 20000 in
theorem gX13_exists_X13_find : GoodIn wsX13_exists (wsV RX13 133 RX13 yX13_find wsX13_find) := goodIn_app (goodIn_of _ (by decide +kernel)) ggX13_exists_X13_find
theorem dX13_exists_0 : decode cX13_exists 0 = .ok (.aload_n 0, 1) := by decide +kernel
theorem dX13_exists_1 : decode cX13_exists 1 = .ok (.iconst 0, 1) := by decide +kernel
theorem dX13_exists_2 : decode cX13_exists 2 = .ok (.putfield 38, 3) := by decide +kernel
theorem dX13_exists_5 : decode cX13_exists 5 = .ok (.aload_n 0, 1) := by decide +kernel
theorem dX13_exists_6 : decode cX13_exists 6 = .ok (.iload_n 1, 1) := by decide +kernel
theorem dX13_exists_7 : decode cX13_exists 7 = .ok (.invokevirtual 133, 3) := by decide +kernel
theorem dX13_exists_10 : decode cX13_exists 10 = .ok (.iconst (-1), 1) := by decide +kernel
theorem dX13_exists_11 : decode cX13_exists 11 = .ok (.if_icmp .eq 7, 3) := by decide +kernel
theorem dX13_exists_14 : decode cX13_exists 14 = .ok (.iconst 1, 1) := by decide +kernel
theorem dX13_exists_15 : decode cX13_exists 15 = .ok (.goto 4, 3) := by decide +kernel
theorem dX13_exists_18 : decode cX13_exists 18 = .ok (.iconst 0, 1) := by decide +kernel
theorem dX13_exists_19 : decode cX13_exists 19 = .ok (.ireturn, 1) := by decide +kernel
set_option maxRecDepth 20000 in
theorem ggX13_secretAt_X13_isIn : GoodIn wsX13_secretAt wsX13_isIn := goodIn_r _ [5] (by decide +kernel) (by decide +kernel)
set_option maxRecDepth 20000 in
theorem gX13_secretAt_X13_isIn : GoodIn wsX13_secretAt (va_wsS RX13 63 yX13_isIn wsX13_isIn) := goodIn_app (goodIn_of _ (by decide +kernel)) ggX13_secretAt_X13_isIn
set_option maxRecDepth 20000 in
theorem ggX13_secretAt_X13_goes : GoodIn wsX13_secretAt wsX13_goes := goodIn_r _ [9, 10, 11, 12, 4, 13, 14, 23, 24, 25, 26, 27, 28, 29, 30, 31, 32, 33, 34, 35, 36, 37, 38, 39, 40] (by decide +kernel) (by decide +kernel)
set_option maxRecDepth 20000 in
theorem gX13_secretAt_X13_goes : GoodIn wsX13_secretAt (wsV RX13 55 RX13 yX13_goes wsX13_goes) := goodIn_app (goodIn_of _ (by decide +kernel)) ggX13_secretAt_X13_goes
set_option maxRecDepth 20000 in
theorem ggX13_secretAt_X13_of : GoodIn wsX13_secretAt wsX13_of := goodIn_ca (goodIn_r _ [18, 1, 19, 20, 21, 22, 23, 24, 25, 26, 27, 28, 29, 30, 31, 32, 33, 34, 35, 36, 37, 38, 39, 40] (by decide +kernel) (by decide +kernel)) (goodIn_sub (fun _ h => List.mem_cons_of_mem _ (List.mem_append_right _ h)) (by decide +kernel))
set_option maxRecDepth 20000 in
theorem gX13_secretAt_X13_of : GoodIn wsX13_secretAt (wsV RX13 67 RX13 yX13_of wsX13_of) := goodIn_app (goodIn_of _ (by decide +kernel)) ggX13_secretAt_X13_of
theorem dX13_secretAt_0 : decode cX13_secretAt 0 = .ok (.aload_n 0, 1) := by decide +kernel
theorem dX13_secretAt_1 : decode cX13_secretAt 1 = .ok (.iload_n 1, 1) := by decide +kernel
theorem dX13_secretAt_2 : decode cX13_secretAt 2 = .ok (.iconst 0, 1) := by decide +kernel
theorem dX13_secretAt_3 : decode cX13_secretAt 3 = .ok (.aload_n 0, 1) := by decide +kernel
theorem dX13_secretAt_4 : decode cX13_secretAt 4 = .ok (.getfield 9, 3) := by decide +kernel
theorem dX13_secretAt_7 : decode cX13_secretAt 7 = .ok (.iconst 1, 1) := by decide +kernel
theorem dX13_secretAt_8 : decode cX13_secretAt 8 = .ok (.iaload, 1) := by decide +kernel
theorem dX13_secretAt_9 : decode cX13_secretAt 9 = .ok (.iconst 1, 1) := by decide +kernel
theorem dX13_secretAt_10 : decode cX13_secretAt 10 = .ok (.isub, 1) := by decide +kernel
theorem dX13_secretAt_11 : decode cX13_secretAt 11 = .ok (.invokestatic 63, 3) := by decide +kernel
theorem dX13_secretAt_14 : decode cX13_secretAt 14 = .ok (.invokevirtual 55, 3) := by decide +kernel
theorem dX13_secretAt_17 : decode cX13_secretAt 17 = .ok (.ifCond .eq 12, 3) := by decide +kernel
theorem dX13_secretAt_20 : decode cX13_secretAt 20 = .ok (.aload_n 0, 1) := by decide +kernel
theorem dX13_secretAt_21 : decode cX13_secretAt 21 = .ok (.iload_n 1, 1) := by decide +kernel
theorem dX13_secretAt_22 : decode cX13_secretAt 22 = .ok (.iconst 0, 1) := by decide +kernel
theorem dX13_secretAt_23 : decode cX13_secretAt 23 = .ok (.invokevirtual 67, 3) := by decide +kernel
theorem dX13_secretAt_26 : decode cX13_secretAt 26 = .ok (.goto 4, 3) := by decide +kernel
theorem dX13_secretAt_29 : decode cX13_secretAt 29 = .ok (.iconst 0, 1) := by decide +kernel
theorem dX13_secretAt_30 : decode cX13_secretAt 30 = .ok (.ireturn, 1) := by decide +kernel
set_option maxRecDepth 20000 in
theorem ggX13_threshold_X13_find : GoodIn wsX13_threshold wsX13_find := goodIn_ca (goodIn_r _ [5, 6, 7, 8, 9, 4, 10, 11, 12, 13, 14, 24, 25, 26, 27, 28, 29, 30, 31, 32, 33, 34, 35, 36, 37, 38, 39, 40, 41] (by decide +kernel) (by decide +kernel)) (goodIn_sub (fun _ h => List.mem_cons_of_mem _ (List.mem_append_right _ h)) (by decide +kernel))
set_option maxRecDepth 20000 in
theorem gX13_threshold_X13_find : GoodIn wsX13_threshold (wsV RX13 133 RX13 yX13_find wsX13_find) := goodIn_app (goodIn_of _ (by decide +kernel)) ggX13_threshold_X13_find
set_option maxRecDepth 20000 in
theorem ggX13_threshold_X13_goes : GoodIn wsX13_threshold wsX13_goes := goodIn_r _ [18, 19, 20, 21, 4, 22, 23, 24, 25, 26, 27, 28, 29, 30, 31, 32, 33, 34, 35, 36, 37, 38, 39, 40, 41] (by decide +kernel) (by decide +kernel)
set_option maxRecDepth 20000 in
theorem gX13_threshold_X13_goes : GoodIn wsX13_threshold (wsV RX13 55 RX13 yX13_goes wsX13_goes) := goodIn_app (goodIn_of _ (by decide +kernel)) ggX13_threshold_X13_goes
set_option maxRecDepth 20000 in
theorem ggX13_threshold_X13_of : GoodIn wsX13_threshold wsX13_of := goodIn_ca (goodIn_r _ [10, 6, 11, 12, 13, 14, 24, 25, 26, 27, 28, 29, 30, 31, 32, 33, 34, 35, 36, 37, 38, 39, 40, 41] (by decide +kernel) (by decide +kernel)) (goodIn_sub (fun _ h => List.mem_cons_of_mem _ (List.mem_append_right _ h)) (by decide +kernel))
set_option maxRecDepth 20000 in
theorem gX13_threshold_X13_of : GoodIn wsX13_threshold (wsV RX13 67 RX13 yX13_of wsX13_of) := goodIn_app (goodIn_of _ (by decide +kernel)) ggX13_threshold_X13_of
theorem dX13_threshold_0 : decode cX13_threshold 0 = .ok (.aload_n 0, 1) := by decide +kernel
theorem dX13_threshold_1 : decode cX13_threshold 1 = .ok (.iload_n 1, 1) := by decide +kernel
theorem dX13_threshold_2 : decode cX13_threshold 2 = .ok (.invokevirtual 133, 3) := by decide +kernel
theorem dX13_threshold_5 : decode cX13_threshold 5 = .ok (.istore_n 2, 1) := by decide +kernel
theorem dX13_threshold_6 : decode cX13_threshold 6 = .ok (.aload_n 0, 1) := by decide +kernel
theorem dX13_threshold_7 : decode cX13_threshold 7 = .ok (.iload_n 2, 1) := by decide +kernel
theorem dX13_threshold_8 : decode cX13_threshold 8 = .ok (.iconst (-1), 1) := by decide +kernel
theorem dX13_threshold_9 : decode cX13_threshold 9 = .ok (.if_icmp .eq 7, 3) := by decide +kernel
theorem dX13_threshold_12 : decode cX13_threshold 12 = .ok (.iconst 1, 1) := by decide +kernel
theorem dX13_threshold_13 : decode cX13_threshold 13 = .ok (.goto 4, 3) := by decide +kernel
theorem dX13_threshold_16 : decode cX13_threshold 16 = .ok (.iconst 0, 1) := by decide +kernel
theorem dX13_threshold_17 : decode cX13_threshold 17 = .ok (.invokevirtual 55, 3) := by decide +kernel
theorem dX13_threshold_20 : decode cX13_threshold 20 = .ok (.ifCond .eq 12, 3) := by decide +kernel
theorem dX13_threshold_23 : decode cX13_threshold 23 = .ok (.aload_n 0, 1) := by decide +kernel
theorem dX13_threshold_24 : decode cX13_threshold 24 = .ok (.iload_n 2, 1) := by decide +kernel
theorem dX13_threshold_25 : decode cX13_threshold 25 = .ok (.iconst 1, 1) := by decide +kernel
theorem dX13_threshold_26 : decode cX13_threshold 26 = .ok (.invokevirtual 67, 3) := by decide +kernel
theorem dX13_threshold_29 : decode cX13_threshold 29 = .ok (.goto 4, 3) := by decide +kernel
theorem dX13_threshold_32 : decode cX13_threshold 32 = .ok (.iconst 0, 1) := by decide +kernel
theorem dX13_threshold_33 : decode cX13_threshold 33 = .ok (.ireturn, 1) := by decide +kernel
set_option maxRecDepth 20000 in
theorem ggX13_holds_X13_find : GoodIn wsX13_holds wsX13_find := goodIn_ca (goodIn_r _ [5, 6, 7, 8, 9, 4, 10, 11, 12, 13, 14, 31, 32, 33, 34, 35, 36, 37, 38, 39, 40, 41, 42, 43, 44, 45, 46, 47, 48] (by decide +kernel) (by decide +kernel)) (goodIn_sub (fun _ h => List.mem_cons_of_mem _ (List.mem_append_right _ h)) (by decide +kernel))
set_option maxRecDepth 20000 in
theorem gX13_holds_X13_find : GoodIn wsX13_holds (wsV RX13 133 RX13 yX13_find wsX13_find) := goodIn_app (goodIn_of _ (by decide +kernel)) ggX13_holds_X13_find
set_option maxRecDepth 20000 in
theorem ggX13_holds_X13_isBird : GoodIn wsX13_holds wsX13_isBird := goodIn_ca (goodIn_r _ [18, 6, 19, 20, 4, 21, 31, 32, 33, 34, 35, 36, 37, 38, 39, 40, 41, 42, 43, 44, 45, 46, 47, 48] (by decide +kernel) (by decide +kernel)) (goodIn_sub (fun _ h => List.mem_cons_of_mem _ (List.mem_append_right _ h)) (by decide +kernel))
set_option maxRecDepth 20000 in
theorem gX13_holds_X13_isBird : GoodIn wsX13_holds (wsV RX13 76 RX13 yX13_isBird wsX13_isBird) := goodIn_app (goodIn_of _ (by decide +kernel)) ggX13_holds_X13_isBird
set_option maxRecDepth 20000 in
theorem ggX13_holds_X13_allows : GoodIn wsX13_holds wsX13_allows := goodIn_r _ [25, 26, 31, 32, 33, 34, 35, 36, 37, 38, 39, 40, 41, 42, 43, 44, 45, 46, 47, 48] (by decide +kernel) (by decide +kernel)
set_option maxRecDepth 20000 in
theorem gX13_holds_X13_allows : GoodIn wsX13_holds (wsV RX13 41 RX13 yX13_allows wsX13_allows) := goodIn_app (goodIn_of _ (by decide +kernel)) ggX13_holds_X13_allows
set_option maxRecDepth 20000 in
theorem ggX13_holds_X13_shareOf : GoodIn wsX13_holds wsX13_shareOf := goodIn_ca (goodIn_r _ [30, 15, 16, 17, 4, 18, 6, 19, 20, 21, 7, 8, 9, 10, 11, 12, 13, 14, 31, 32, 33, 34, 35, 36, 37, 38, 39, 40, 41, 42, 43, 44, 45, 46, 47, 48] (by decide +kernel) (by decide +kernel)) (goodIn_sub (fun _ h => List.mem_cons_of_mem _ (List.mem_append_right _ h)) (by decide +kernel))
set_option maxRecDepth 20000 in
theorem gX13_holds_X13_shareOf : GoodIn wsX13_holds (wsV RX13 80 RX13 yX13_shareOf wsX13_shareOf) := goodIn_app (goodIn_of _ (by decide +kernel)) ggX13_holds_X13_shareOf
theorem dX13_holds_0 : decode cX13_holds 0 = .ok (.aload_n 0, 1) := by decide +kernel
theorem dX13_holds_1 : decode cX13_holds 1 = .ok (.iload_n 2, 1) := by decide +kernel
theorem dX13_holds_2 : decode cX13_holds 2 = .ok (.invokevirtual 133, 3) := by decide +kernel
theorem dX13_holds_5 : decode cX13_holds 5 = .ok (.istore_n 3, 1) := by decide +kernel
theorem dX13_holds_6 : decode cX13_holds 6 = .ok (.aload_n 0, 1) := by decide +kernel
theorem dX13_holds_7 : decode cX13_holds 7 = .ok (.aload_n 0, 1) := by decide +kernel
theorem dX13_holds_8 : decode cX13_holds 8 = .ok (.iload_n 1, 1) := by decide +kernel
theorem dX13_holds_9 : decode cX13_holds 9 = .ok (.invokevirtual 76, 3) := by decide +kernel
theorem dX13_holds_12 : decode cX13_holds 12 = .ok (.iload_n 3, 1) := by decide +kernel
theorem dX13_holds_13 : decode cX13_holds 13 = .ok (.iconst (-1), 1) := by decide +kernel
theorem dX13_holds_14 : decode cX13_holds 14 = .ok (.if_icmp .eq 7, 3) := by decide +kernel
theorem dX13_holds_17 : decode cX13_holds 17 = .ok (.iconst 1, 1) := by decide +kernel
theorem dX13_holds_18 : decode cX13_holds 18 = .ok (.goto 4, 3) := by decide +kernel
theorem dX13_holds_21 : decode cX13_holds 21 = .ok (.iconst 0, 1) := by decide +kernel
theorem dX13_holds_22 : decode cX13_holds 22 = .ok (.iconst 1, 1) := by decide +kernel
theorem dX13_holds_23 : decode cX13_holds 23 = .ok (.iconst 1, 1) := by decide +kernel
theorem dX13_holds_24 : decode cX13_holds 24 = .ok (.invokevirtual 41, 3) := by decide +kernel
theorem dX13_holds_27 : decode cX13_holds 27 = .ok (.ifCond .eq 17, 3) := by decide +kernel
theorem dX13_holds_30 : decode cX13_holds 30 = .ok (.aload_n 0, 1) := by decide +kernel
theorem dX13_holds_31 : decode cX13_holds 31 = .ok (.iload_n 1, 1) := by decide +kernel
theorem dX13_holds_32 : decode cX13_holds 32 = .ok (.iload_n 3, 1) := by decide +kernel
theorem dX13_holds_33 : decode cX13_holds 33 = .ok (.invokevirtual 80, 3) := by decide +kernel
theorem dX13_holds_36 : decode cX13_holds 36 = .ok (.iconst (-1), 1) := by decide +kernel
theorem dX13_holds_37 : decode cX13_holds 37 = .ok (.if_icmp .eq 7, 3) := by decide +kernel
theorem dX13_holds_40 : decode cX13_holds 40 = .ok (.iconst 1, 1) := by decide +kernel
theorem dX13_holds_41 : decode cX13_holds 41 = .ok (.goto 4, 3) := by decide +kernel
theorem dX13_holds_44 : decode cX13_holds 44 = .ok (.iconst 0, 1) := by decide +kernel
theorem dX13_holds_45 : decode cX13_holds 45 = .ok (.ireturn, 1) := by decide +kernel
set_option maxRecDepth 20000 in
theorem ggX13_share_X13_find : GoodIn wsX13_share wsX13_find := goodIn_ca (goodIn_r _ [5, 6, 7, 8, 9, 4, 10, 11, 12, 13, 14, 31, 32, 33, 34, 35, 36, 37, 38, 39, 40, 41, 42, 43, 44, 45, 46, 47, 48] (by decide +kernel) (by decide +kernel)) (goodIn_sub (fun _ h => List.mem_cons_of_mem _ (List.mem_append_right _ h)) (by decide +kernel))
set_option maxRecDepth 20000 in
theorem gX13_share_X13_find : GoodIn wsX13_share (wsV RX13 133 RX13 yX13_find wsX13_find) := goodIn_app (goodIn_of _ (by decide +kernel)) ggX13_share_X13_find
set_option maxRecDepth 20000 in
theorem ggX13_share_X13_shareOf : GoodIn wsX13_share wsX13_shareOf := goodIn_ca (goodIn_r _ [18, 19, 20, 21, 4, 22, 6, 23, 24, 25, 7, 8, 9, 10, 11, 12, 13, 14, 31, 32, 33, 34, 35, 36, 37, 38, 39, 40, 41, 42, 43, 44, 45, 46, 47, 48] (by decide +kernel) (by decide +kernel)) (goodIn_sub (fun _ h => List.mem_cons_of_mem _ (List.mem_append_right _ h)) (by decide +kernel))
set_option maxRecDepth 20000 in
theorem gX13_share_X13_shareOf : GoodIn wsX13_share (wsV RX13 80 RX13 yX13_shareOf wsX13_shareOf) := goodIn_app (goodIn_of _ (by decide +kernel)) ggX13_share_X13_shareOf
set_option maxRecDepth 20000 in
theorem ggX13_share_X13_isBird : GoodIn wsX13_share wsX13_isBird := goodIn_ca (goodIn_r _ [22, 6, 23, 24, 4, 25, 31, 32, 33, 34, 35, 36, 37, 38, 39, 40, 41, 42, 43, 44, 45, 46, 47, 48] (by decide +kernel) (by decide +kernel)) (goodIn_sub (fun _ h => List.mem_cons_of_mem _ (List.mem_append_right _ h)) (by decide +kernel))
set_option maxRecDepth 20000 in
theorem gX13_share_X13_isBird : GoodIn wsX13_share (wsV RX13 76 RX13 yX13_isBird wsX13_isBird) := goodIn_app (goodIn_of _ (by decide +kernel)) ggX13_share_X13_isBird
set_option maxRecDepth 20000 in
theorem ggX13_share_X13_allows : GoodIn wsX13_share wsX13_allows := goodIn_r _ [29, 30, 31, 32, 33, 34, 35, 36, 37, 38, 39, 40, 41, 42, 43, 44, 45, 46, 47, 48] (by decide +kernel) (by decide +kernel)
set_option maxRecDepth 20000 in
theorem gX13_share_X13_allows : GoodIn wsX13_share (wsV RX13 41 RX13 yX13_allows wsX13_allows) := goodIn_app (goodIn_of _ (by decide +kernel)) ggX13_share_X13_allows
theorem dX13_share_0 : decode cX13_share 0 = .ok (.aload_n 0, 1) := by decide +kernel
theorem dX13_share_1 : decode cX13_share 1 = .ok (.iload_n 2, 1) := by decide +kernel
theorem dX13_share_2 : decode cX13_share 2 = .ok (.invokevirtual 133, 3) := by decide +kernel
theorem dX13_share_5 : decode cX13_share 5 = .ok (.istore_n 3, 1) := by decide +kernel
theorem dX13_share_6 : decode cX13_share 6 = .ok (.aload_n 0, 1) := by decide +kernel
theorem dX13_share_7 : decode cX13_share 7 = .ok (.iload_n 1, 1) := by decide +kernel
theorem dX13_share_8 : decode cX13_share 8 = .ok (.iload_n 3, 1) := by decide +kernel
theorem dX13_share_9 : decode cX13_share 9 = .ok (.invokevirtual 80, 3) := by decide +kernel
theorem dX13_share_12 : decode cX13_share 12 = .ok (.istore 4, 2) := by decide +kernel
theorem dX13_share_14 : decode cX13_share 14 = .ok (.aload_n 0, 1) := by decide +kernel
theorem dX13_share_15 : decode cX13_share 15 = .ok (.aload_n 0, 1) := by decide +kernel
theorem dX13_share_16 : decode cX13_share 16 = .ok (.iload_n 1, 1) := by decide +kernel
theorem dX13_share_17 : decode cX13_share 17 = .ok (.invokevirtual 76, 3) := by decide +kernel
theorem dX13_share_20 : decode cX13_share 20 = .ok (.iload_n 3, 1) := by decide +kernel
theorem dX13_share_21 : decode cX13_share 21 = .ok (.iconst (-1), 1) := by decide +kernel
theorem dX13_share_22 : decode cX13_share 22 = .ok (.if_icmp .eq 7, 3) := by decide +kernel
theorem dX13_share_25 : decode cX13_share 25 = .ok (.iconst 1, 1) := by decide +kernel
theorem dX13_share_26 : decode cX13_share 26 = .ok (.goto 4, 3) := by decide +kernel
theorem dX13_share_29 : decode cX13_share 29 = .ok (.iconst 0, 1) := by decide +kernel
theorem dX13_share_30 : decode cX13_share 30 = .ok (.iload 4, 2) := by decide +kernel
theorem dX13_share_32 : decode cX13_share 32 = .ok (.iconst (-1), 1) := by decide +kernel
theorem dX13_share_33 : decode cX13_share 33 = .ok (.if_icmp .eq 7, 3) := by decide +kernel
theorem dX13_share_36 : decode cX13_share 36 = .ok (.iconst 1, 1) := by decide +kernel
theorem dX13_share_37 : decode cX13_share 37 = .ok (.goto 4, 3) := by decide +kernel
theorem dX13_share_40 : decode cX13_share 40 = .ok (.iconst 0, 1) := by decide +kernel
theorem dX13_share_41 : decode cX13_share 41 = .ok (.iconst 1, 1) := by decide +kernel
theorem dX13_share_42 : decode cX13_share 42 = .ok (.invokevirtual 41, 3) := by decide +kernel
theorem dX13_share_45 : decode cX13_share 45 = .ok (.ifCond .eq 8, 3) := by decide +kernel
theorem dX13_share_48 : decode cX13_share 48 = .ok (.iload 4, 2) := by decide +kernel
theorem dX13_share_50 : decode cX13_share 50 = .ok (.goto 4, 3) := by decide +kernel
theorem dX13_share_53 : decode cX13_share 53 = .ok (.iconst 0, 1) := by decide +kernel
theorem dX13_share_54 : decode cX13_share 54 = .ok (.ireturn, 1) := by decide +kernel
set_option maxRecDepth 20000 in
theorem ggX13_holders_X13_find : GoodIn wsX13_holders wsX13_find := goodIn_ca (goodIn_r _ [5, 6, 7, 8, 9, 4, 10, 11, 12, 13, 14, 46, 47, 48, 49, 50, 51, 52, 53, 54, 55, 56, 57, 58, 59, 60, 61, 62, 63] (by decide +kernel) (by decide +kernel)) (goodIn_sub (fun _ h => List.mem_cons_of_mem _ (List.mem_append_right _ h)) (by decide +kernel))
set_option maxRecDepth 20000 in
theorem gX13_holders_X13_find : GoodIn wsX13_holders (wsV RX13 133 RX13 yX13_find wsX13_find) := goodIn_app (goodIn_of _ (by decide +kernel)) ggX13_holders_X13_find
set_option maxRecDepth 20000 in
theorem ggX13_holders_X13_goes : GoodIn wsX13_holders wsX13_goes := goodIn_r _ [18, 19, 20, 21, 4, 22, 23, 46, 47, 48, 49, 50, 51, 52, 53, 54, 55, 56, 57, 58, 59, 60, 61, 62, 63] (by decide +kernel) (by decide +kernel)
set_option maxRecDepth 20000 in
theorem gX13_holders_X13_goes : GoodIn wsX13_holders (wsV RX13 55 RX13 yX13_goes wsX13_goes) := goodIn_app (goodIn_of _ (by decide +kernel)) ggX13_holders_X13_goes
set_option maxRecDepth 20000 in
theorem ggX13_holders_X13_holdersOf : GoodIn wsX13_holders wsX13_holdersOf := goodIn_ca (goodIn_r _ [27, 6, 28, 29, 30, 4, 31, 32, 33, 34, 35, 36, 37, 38, 7, 8, 9, 10, 11, 12, 13, 14, 46, 47, 48, 49, 50, 51, 52, 53, 54, 55, 56, 57, 58, 59, 60, 61, 62, 63] (by decide +kernel) (by decide +kernel)) (goodIn_sub (fun _ h => List.mem_cons_of_mem _ (List.mem_append_right _ h)) (by decide +kernel))
set_option maxRecDepth 20000 in
theorem gX13_holders_X13_holdersOf : GoodIn wsX13_holders (wsV RX13 89 RX13 yX13_holdersOf wsX13_holdersOf) := goodIn_app (goodIn_of _ (by decide +kernel)) ggX13_holders_X13_holdersOf
set_option maxRecDepth 20000 in
theorem ggX13_holders_J6_bitCount_0f7a4 : GoodIn wsX13_holders wsJ6_bitCount_0f7a4 := goodIn_r _ [42, 43, 44, 45] (by decide +kernel) (by decide +kernel)
set_option maxRecDepth 20000 in
theorem gX13_holders_J6_bitCount_0f7a4 : GoodIn wsX13_holders (va_wsS RX13 83 yJ6_bitCount_0f7a4 wsJ6_bitCount_0f7a4) := goodIn_app (goodIn_of _ (by decide +kernel)) ggX13_holders_J6_bitCount_0f7a4
theorem dX13_holders_0 : decode cX13_holders 0 = .ok (.aload_n 0, 1) := by decide +kernel
theorem dX13_holders_1 : decode cX13_holders 1 = .ok (.iload_n 1, 1) := by decide +kernel
theorem dX13_holders_2 : decode cX13_holders 2 = .ok (.invokevirtual 133, 3) := by decide +kernel
theorem dX13_holders_5 : decode cX13_holders 5 = .ok (.istore_n 2, 1) := by decide +kernel
theorem dX13_holders_6 : decode cX13_holders 6 = .ok (.aload_n 0, 1) := by decide +kernel
theorem dX13_holders_7 : decode cX13_holders 7 = .ok (.iload_n 2, 1) := by decide +kernel
theorem dX13_holders_8 : decode cX13_holders 8 = .ok (.iconst (-1), 1) := by decide +kernel
theorem dX13_holders_9 : decode cX13_holders 9 = .ok (.if_icmp .eq 7, 3) := by decide +kernel
theorem dX13_holders_12 : decode cX13_holders 12 = .ok (.iconst 1, 1) := by decide +kernel
theorem dX13_holders_13 : decode cX13_holders 13 = .ok (.goto 4, 3) := by decide +kernel
theorem dX13_holders_16 : decode cX13_holders 16 = .ok (.iconst 0, 1) := by decide +kernel
theorem dX13_holders_17 : decode cX13_holders 17 = .ok (.invokevirtual 55, 3) := by decide +kernel
theorem dX13_holders_20 : decode cX13_holders 20 = .ok (.ifCond .eq 14, 3) := by decide +kernel
theorem dX13_holders_23 : decode cX13_holders 23 = .ok (.aload_n 0, 1) := by decide +kernel
theorem dX13_holders_24 : decode cX13_holders 24 = .ok (.iload_n 2, 1) := by decide +kernel
theorem dX13_holders_25 : decode cX13_holders 25 = .ok (.invokevirtual 89, 3) := by decide +kernel
theorem dX13_holders_28 : decode cX13_holders 28 = .ok (.invokestatic 83, 3) := by decide +kernel
theorem dX13_holders_31 : decode cX13_holders 31 = .ok (.goto 4, 3) := by decide +kernel
theorem dX13_holders_34 : decode cX13_holders 34 = .ok (.iconst 0, 1) := by decide +kernel
theorem dX13_holders_35 : decode cX13_holders 35 = .ok (.ireturn, 1) := by decide +kernel
set_option maxRecDepth 20000 in
theorem ggX13_spareShares_X13_find : GoodIn wsX13_spareShares wsX13_find := goodIn_ca (goodIn_r _ [5, 6, 7, 8, 9, 4, 10, 11, 12, 13, 14, 46, 47, 48, 49, 50, 51, 52, 53, 54, 55, 56, 57, 58, 59, 60, 61, 62, 63] (by decide +kernel) (by decide +kernel)) (goodIn_sub (fun _ h => List.mem_cons_of_mem _ (List.mem_append_right _ h)) (by decide +kernel))
set_option maxRecDepth 20000 in
theorem gX13_spareShares_X13_find : GoodIn wsX13_spareShares (wsV RX13 133 RX13 yX13_find wsX13_find) := goodIn_app (goodIn_of _ (by decide +kernel)) ggX13_spareShares_X13_find
set_option maxRecDepth 20000 in
theorem ggX13_spareShares_X13_goes : GoodIn wsX13_spareShares wsX13_goes := goodIn_r _ [18, 19, 20, 21, 4, 22, 23, 46, 47, 48, 49, 50, 51, 52, 53, 54, 55, 56, 57, 58, 59, 60, 61, 62, 63] (by decide +kernel) (by decide +kernel)
set_option maxRecDepth 20000 in
theorem gX13_spareShares_X13_goes : GoodIn wsX13_spareShares (wsV RX13 55 RX13 yX13_goes wsX13_goes) := goodIn_app (goodIn_of _ (by decide +kernel)) ggX13_spareShares_X13_goes
set_option maxRecDepth 20000 in
theorem ggX13_spareShares_X13_holdersOf : GoodIn wsX13_spareShares wsX13_holdersOf := goodIn_ca (goodIn_r _ [27, 6, 28, 29, 30, 4, 31, 32, 33, 34, 35, 36, 37, 38, 7, 8, 9, 10, 11, 12, 13, 14, 46, 47, 48, 49, 50, 51, 52, 53, 54, 55, 56, 57, 58, 59, 60, 61, 62, 63] (by decide +kernel) (by decide +kernel)) (goodIn_sub (fun _ h => List.mem_cons_of_mem _ (List.mem_append_right _ h)) (by decide +kernel))
set_option maxRecDepth 20000 in
theorem gX13_spareShares_X13_holdersOf : GoodIn wsX13_spareShares (wsV RX13 89 RX13 yX13_holdersOf wsX13_holdersOf) := goodIn_app (goodIn_of _ (by decide +kernel)) ggX13_spareShares_X13_holdersOf
set_option maxRecDepth 20000 in
theorem ggX13_spareShares_J6_bitCount_0f7a4 : GoodIn wsX13_spareShares wsJ6_bitCount_0f7a4 := goodIn_r _ [42, 43, 44, 45] (by decide +kernel) (by decide +kernel)
set_option maxRecDepth 20000 in
theorem gX13_spareShares_J6_bitCount_0f7a4 : GoodIn wsX13_spareShares (va_wsS RX13 83 yJ6_bitCount_0f7a4 wsJ6_bitCount_0f7a4) := goodIn_app (goodIn_of _ (by decide +kernel)) ggX13_spareShares_J6_bitCount_0f7a4
set_option maxRecDepth 20000 in
theorem ggX13_spareShares_X13_of : GoodIn wsX13_spareShares wsX13_of := goodIn_ca (goodIn_r _ [10, 6, 11, 12, 13, 14, 46, 47, 48, 49, 50, 51, 52, 53, 54, 55, 56, 57, 58, 59, 60, 61, 62, 63] (by decide +kernel) (by decide +kernel)) (goodIn_sub (fun _ h => List.mem_cons_of_mem _ (List.mem_append_right _ h)) (by decide +kernel))
set_option maxRecDepth 20000 in
theorem gX13_spareShares_X13_of : GoodIn wsX13_spareShares (wsV RX13 67 RX13 yX13_of wsX13_of) := goodIn_app (goodIn_of _ (by decide +kernel)) ggX13_spareShares_X13_of
theorem dX13_spareShares_0 : decode cX13_spareShares 0 = .ok (.aload_n 0, 1) := by decide +kernel
theorem dX13_spareShares_1 : decode cX13_spareShares 1 = .ok (.iload_n 1, 1) := by decide +kernel
theorem dX13_spareShares_2 : decode cX13_spareShares 2 = .ok (.invokevirtual 133, 3) := by decide +kernel
theorem dX13_spareShares_5 : decode cX13_spareShares 5 = .ok (.istore_n 2, 1) := by decide +kernel
theorem dX13_spareShares_6 : decode cX13_spareShares 6 = .ok (.aload_n 0, 1) := by decide +kernel
theorem dX13_spareShares_7 : decode cX13_spareShares 7 = .ok (.iload_n 2, 1) := by decide +kernel
theorem dX13_spareShares_8 : decode cX13_spareShares 8 = .ok (.iconst (-1), 1) := by decide +kernel
theorem dX13_spareShares_9 : decode cX13_spareShares 9 = .ok (.if_icmp .eq 7, 3) := by decide +kernel
theorem dX13_spareShares_12 : decode cX13_spareShares 12 = .ok (.iconst 1, 1) := by decide +kernel
theorem dX13_spareShares_13 : decode cX13_spareShares 13 = .ok (.goto 4, 3) := by decide +kernel
theorem dX13_spareShares_16 : decode cX13_spareShares 16 = .ok (.iconst 0, 1) := by decide +kernel
theorem dX13_spareShares_17 : decode cX13_spareShares 17 = .ok (.invokevirtual 55, 3) := by decide +kernel
theorem dX13_spareShares_20 : decode cX13_spareShares 20 = .ok (.ifCond .eq 21, 3) := by decide +kernel
theorem dX13_spareShares_23 : decode cX13_spareShares 23 = .ok (.aload_n 0, 1) := by decide +kernel
theorem dX13_spareShares_24 : decode cX13_spareShares 24 = .ok (.iload_n 2, 1) := by decide +kernel
theorem dX13_spareShares_25 : decode cX13_spareShares 25 = .ok (.invokevirtual 89, 3) := by decide +kernel
theorem dX13_spareShares_28 : decode cX13_spareShares 28 = .ok (.invokestatic 83, 3) := by decide +kernel
theorem dX13_spareShares_31 : decode cX13_spareShares 31 = .ok (.aload_n 0, 1) := by decide +kernel
theorem dX13_spareShares_32 : decode cX13_spareShares 32 = .ok (.iload_n 2, 1) := by decide +kernel
theorem dX13_spareShares_33 : decode cX13_spareShares 33 = .ok (.iconst 1, 1) := by decide +kernel
theorem dX13_spareShares_34 : decode cX13_spareShares 34 = .ok (.invokevirtual 67, 3) := by decide +kernel
theorem dX13_spareShares_37 : decode cX13_spareShares 37 = .ok (.isub, 1) := by decide +kernel
theorem dX13_spareShares_38 : decode cX13_spareShares 38 = .ok (.goto 4, 3) := by decide +kernel
theorem dX13_spareShares_41 : decode cX13_spareShares 41 = .ok (.iconst 0, 1) := by decide +kernel
theorem dX13_spareShares_42 : decode cX13_spareShares 42 = .ok (.ireturn, 1) := by decide +kernel
set_option maxRecDepth 20000 in
theorem ggX13_canNestRebuild_X13_find : GoodIn wsX13_canNestRebuild wsX13_find := goodIn_ca (goodIn_r _ [6, 1, 7, 8, 9, 5, 10, 11, 12, 13, 14, 34, 35, 36, 37, 38, 39, 40, 41, 42, 43, 44, 45, 46, 47, 48, 49, 50, 51] (by decide +kernel) (by decide +kernel)) (goodIn_sub (fun _ h => List.mem_cons_of_mem _ (List.mem_append_right _ h)) (by decide +kernel))
set_option maxRecDepth 20000 in
theorem gX13_canNestRebuild_X13_find : GoodIn wsX13_canNestRebuild (wsV RX13 133 RX13 yX13_find wsX13_find) := goodIn_app (goodIn_of _ (by decide +kernel)) ggX13_canNestRebuild_X13_find
set_option maxRecDepth 20000 in
theorem ggX13_canNestRebuild_X13_shareOf : GoodIn wsX13_canNestRebuild wsX13_shareOf := goodIn_ca (goodIn_r _ [18, 19, 20, 21, 5, 22, 1, 23, 24, 25, 7, 8, 9, 10, 11, 12, 13, 14, 34, 35, 36, 37, 38, 39, 40, 41, 42, 43, 44, 45, 46, 47, 48, 49, 50, 51] (by decide +kernel) (by decide +kernel)) (goodIn_sub (fun _ h => List.mem_cons_of_mem _ (List.mem_append_right _ h)) (by decide +kernel))
set_option maxRecDepth 20000 in
theorem gX13_canNestRebuild_X13_shareOf : GoodIn wsX13_canNestRebuild (wsV RX13 80 RX13 yX13_shareOf wsX13_shareOf) := goodIn_app (goodIn_of _ (by decide +kernel)) ggX13_canNestRebuild_X13_shareOf
set_option maxRecDepth 20000 in
theorem ggX13_canNestRebuild_X13_isNest : GoodIn wsX13_canNestRebuild wsX13_isNest := goodIn_r _ [28, 23, 24, 5, 25] (by decide +kernel) (by decide +kernel)
set_option maxRecDepth 20000 in
theorem gX13_canNestRebuild_X13_isNest : GoodIn wsX13_canNestRebuild (va_wsS RX13 108 yX13_isNest wsX13_isNest) := goodIn_app (goodIn_of _ (by decide +kernel)) ggX13_canNestRebuild_X13_isNest
set_option maxRecDepth 20000 in
theorem ggX13_canNestRebuild_X13_allows : GoodIn wsX13_canNestRebuild wsX13_allows := goodIn_r _ [32, 33, 34, 35, 36, 37, 38, 39, 40, 41, 42, 43, 44, 45, 46, 47, 48, 49, 50, 51] (by decide +kernel) (by decide +kernel)
set_option maxRecDepth 20000 in
theorem gX13_canNestRebuild_X13_allows : GoodIn wsX13_canNestRebuild (wsV RX13 41 RX13 yX13_allows wsX13_allows) := goodIn_app (goodIn_of _ (by decide +kernel)) ggX13_canNestRebuild_X13_allows
set_option maxRecDepth 20000 in
theorem ggX13_canNestRebuild_X13_of : GoodIn wsX13_canNestRebuild wsX13_of := goodIn_ca (goodIn_r _ [10, 1, 11, 12, 13, 14, 34, 35, 36, 37, 38, 39, 40, 41, 42, 43, 44, 45, 46, 47, 48, 49, 50, 51] (by decide +kernel) (by decide +kernel)) (goodIn_sub (fun _ h => List.mem_cons_of_mem _ (List.mem_append_right _ h)) (by decide +kernel))
set_option maxRecDepth 20000 in
theorem gX13_canNestRebuild_X13_of : GoodIn wsX13_canNestRebuild (wsV RX13 67 RX13 yX13_of wsX13_of) := goodIn_app (goodIn_of _ (by decide +kernel)) ggX13_canNestRebuild_X13_of
theorem dX13_canNestRebuild_0 : decode cX13_canNestRebuild 0 = .ok (.aload_n 0, 1) := by decide +kernel
theorem dX13_canNestRebuild_1 : decode cX13_canNestRebuild 1 = .ok (.iload_n 2, 1) := by decide +kernel
theorem dX13_canNestRebuild_2 : decode cX13_canNestRebuild 2 = .ok (.invokevirtual 133, 3) := by decide +kernel
theorem dX13_canNestRebuild_5 : decode cX13_canNestRebuild 5 = .ok (.istore_n 3, 1) := by decide +kernel
theorem dX13_canNestRebuild_6 : decode cX13_canNestRebuild 6 = .ok (.iconst 0, 1) := by decide +kernel
theorem dX13_canNestRebuild_7 : decode cX13_canNestRebuild 7 = .ok (.istore 4, 2) := by decide +kernel
theorem dX13_canNestRebuild_9 : decode cX13_canNestRebuild 9 = .ok (.iconst 0, 1) := by decide +kernel
theorem dX13_canNestRebuild_10 : decode cX13_canNestRebuild 10 = .ok (.istore 5, 2) := by decide +kernel
theorem dX13_canNestRebuild_12 : decode cX13_canNestRebuild 12 = .ok (.iload 5, 2) := by decide +kernel
theorem dX13_canNestRebuild_14 : decode cX13_canNestRebuild 14 = .ok (.aload_n 0, 1) := by decide +kernel
theorem dX13_canNestRebuild_15 : decode cX13_canNestRebuild 15 = .ok (.getfield 9, 3) := by decide +kernel
theorem dX13_canNestRebuild_18 : decode cX13_canNestRebuild 18 = .ok (.iconst 0, 1) := by decide +kernel
theorem dX13_canNestRebuild_19 : decode cX13_canNestRebuild 19 = .ok (.iaload, 1) := by decide +kernel
theorem dX13_canNestRebuild_20 : decode cX13_canNestRebuild 20 = .ok (.if_icmp .ge 43, 3) := by decide +kernel
theorem dX13_canNestRebuild_23 : decode cX13_canNestRebuild 23 = .ok (.iload 4, 2) := by decide +kernel
theorem dX13_canNestRebuild_25 : decode cX13_canNestRebuild 25 = .ok (.aload_n 0, 1) := by decide +kernel
theorem dX13_canNestRebuild_26 : decode cX13_canNestRebuild 26 = .ok (.getfield 9, 3) := by decide +kernel
theorem dX13_canNestRebuild_29 : decode cX13_canNestRebuild 29 = .ok (.iconst 4, 1) := by decide +kernel
theorem dX13_canNestRebuild_30 : decode cX13_canNestRebuild 30 = .ok (.iload 5, 2) := by decide +kernel
theorem dX13_canNestRebuild_32 : decode cX13_canNestRebuild 32 = .ok (.iadd, 1) := by decide +kernel
theorem dX13_canNestRebuild_33 : decode cX13_canNestRebuild 33 = .ok (.iaload, 1) := by decide +kernel
theorem dX13_canNestRebuild_34 : decode cX13_canNestRebuild 34 = .ok (.iload_n 1, 1) := by decide +kernel
theorem dX13_canNestRebuild_35 : decode cX13_canNestRebuild 35 = .ok (.if_icmp .ne 18, 3) := by decide +kernel
theorem dX13_canNestRebuild_38 : decode cX13_canNestRebuild 38 = .ok (.aload_n 0, 1) := by decide +kernel
theorem dX13_canNestRebuild_39 : decode cX13_canNestRebuild 39 = .ok (.iload 5, 2) := by decide +kernel
theorem dX13_canNestRebuild_41 : decode cX13_canNestRebuild 41 = .ok (.iload_n 3, 1) := by decide +kernel
theorem dX13_canNestRebuild_42 : decode cX13_canNestRebuild 42 = .ok (.invokevirtual 80, 3) := by decide +kernel
theorem dX13_canNestRebuild_45 : decode cX13_canNestRebuild 45 = .ok (.iconst (-1), 1) := by decide +kernel
theorem dX13_canNestRebuild_46 : decode cX13_canNestRebuild 46 = .ok (.if_icmp .eq 7, 3) := by decide +kernel
theorem dX13_canNestRebuild_49 : decode cX13_canNestRebuild 49 = .ok (.iconst 1, 1) := by decide +kernel
theorem dX13_canNestRebuild_50 : decode cX13_canNestRebuild 50 = .ok (.goto 4, 3) := by decide +kernel
theorem dX13_canNestRebuild_53 : decode cX13_canNestRebuild 53 = .ok (.iconst 0, 1) := by decide +kernel
theorem dX13_canNestRebuild_54 : decode cX13_canNestRebuild 54 = .ok (.iadd, 1) := by decide +kernel
theorem dX13_canNestRebuild_55 : decode cX13_canNestRebuild 55 = .ok (.istore 4, 2) := by decide +kernel
theorem dX13_canNestRebuild_57 : decode cX13_canNestRebuild 57 = .ok (.iinc 5 1, 3) := by decide +kernel
theorem dX13_canNestRebuild_60 : decode cX13_canNestRebuild 60 = .ok (.goto (-48), 3) := by decide +kernel
theorem dX13_canNestRebuild_63 : decode cX13_canNestRebuild 63 = .ok (.aload_n 0, 1) := by decide +kernel
theorem dX13_canNestRebuild_64 : decode cX13_canNestRebuild 64 = .ok (.iload_n 1, 1) := by decide +kernel
theorem dX13_canNestRebuild_65 : decode cX13_canNestRebuild 65 = .ok (.invokestatic 108, 3) := by decide +kernel
theorem dX13_canNestRebuild_68 : decode cX13_canNestRebuild 68 = .ok (.iload_n 3, 1) := by decide +kernel
theorem dX13_canNestRebuild_69 : decode cX13_canNestRebuild 69 = .ok (.iconst (-1), 1) := by decide +kernel
theorem dX13_canNestRebuild_70 : decode cX13_canNestRebuild 70 = .ok (.if_icmp .eq 7, 3) := by decide +kernel
theorem dX13_canNestRebuild_73 : decode cX13_canNestRebuild 73 = .ok (.iconst 1, 1) := by decide +kernel
theorem dX13_canNestRebuild_74 : decode cX13_canNestRebuild 74 = .ok (.goto 4, 3) := by decide +kernel
theorem dX13_canNestRebuild_77 : decode cX13_canNestRebuild 77 = .ok (.iconst 0, 1) := by decide +kernel
theorem dX13_canNestRebuild_78 : decode cX13_canNestRebuild 78 = .ok (.iconst 1, 1) := by decide +kernel
theorem dX13_canNestRebuild_79 : decode cX13_canNestRebuild 79 = .ok (.iconst 1, 1) := by decide +kernel
theorem dX13_canNestRebuild_80 : decode cX13_canNestRebuild 80 = .ok (.invokevirtual 41, 3) := by decide +kernel
theorem dX13_canNestRebuild_83 : decode cX13_canNestRebuild 83 = .ok (.ifCond .eq 18, 3) := by decide +kernel
theorem dX13_canNestRebuild_86 : decode cX13_canNestRebuild 86 = .ok (.iload 4, 2) := by decide +kernel
theorem dX13_canNestRebuild_88 : decode cX13_canNestRebuild 88 = .ok (.aload_n 0, 1) := by decide +kernel
theorem dX13_canNestRebuild_89 : decode cX13_canNestRebuild 89 = .ok (.iload_n 3, 1) := by decide +kernel
theorem dX13_canNestRebuild_90 : decode cX13_canNestRebuild 90 = .ok (.iconst 1, 1) := by decide +kernel
theorem dX13_canNestRebuild_91 : decode cX13_canNestRebuild 91 = .ok (.invokevirtual 67, 3) := by decide +kernel
theorem dX13_canNestRebuild_94 : decode cX13_canNestRebuild 94 = .ok (.if_icmp .lt 7, 3) := by decide +kernel
theorem dX13_canNestRebuild_97 : decode cX13_canNestRebuild 97 = .ok (.iconst 1, 1) := by decide +kernel
theorem dX13_canNestRebuild_98 : decode cX13_canNestRebuild 98 = .ok (.goto 4, 3) := by decide +kernel
theorem dX13_canNestRebuild_101 : decode cX13_canNestRebuild 101 = .ok (.iconst 0, 1) := by decide +kernel
theorem dX13_canNestRebuild_102 : decode cX13_canNestRebuild 102 = .ok (.ireturn, 1) := by decide +kernel
set_option maxRecDepth 20000 in
theorem ggX13_rebuilt_X13_find : GoodIn wsX13_rebuilt wsX13_find := goodIn_ca (goodIn_r _ [5, 6, 7, 8, 9, 4, 10, 11, 12, 13, 14, 66, 67, 68, 69, 70, 71, 72, 73, 74, 75, 76, 77, 78, 79, 80, 81, 82, 83] (by decide +kernel) (by decide +kernel)) (goodIn_sub (fun _ h => List.mem_cons_of_mem _ (List.mem_append_right _ h)) (by decide +kernel))
set_option maxRecDepth 20000 in
theorem gX13_rebuilt_X13_find : GoodIn wsX13_rebuilt (wsV RX13 133 RX13 yX13_find wsX13_find) := goodIn_app (goodIn_of _ (by decide +kernel)) ggX13_rebuilt_X13_find
set_option maxRecDepth 20000 in
theorem ggX13_rebuilt_X13_isEnough : GoodIn wsX13_rebuilt wsX13_isEnough := goodIn_ca (goodIn_r _ [18, 19, 20, 21, 4, 22, 6, 23, 24, 25, 26, 27, 28, 29, 30, 31, 32, 33, 7, 8, 9, 10, 11, 12, 13, 14, 34, 35, 36, 37, 38, 39, 40, 66, 67, 68, 69, 70, 71, 72, 73, 74, 75, 76, 77, 78, 79, 80, 81, 82, 83] (by decide +kernel) (by decide +kernel)) (goodIn_sub (fun _ h => List.mem_cons_of_mem _ (List.mem_append_right _ h)) (by decide +kernel))
set_option maxRecDepth 20000 in
theorem gX13_rebuilt_X13_isEnough : GoodIn wsX13_rebuilt (wsV RX13 142 RX13 yX13_isEnough wsX13_isEnough) := goodIn_app (goodIn_of _ (by decide +kernel)) ggX13_rebuilt_X13_isEnough
set_option maxRecDepth 20000 in
theorem ggX13_rebuilt_X13_allows : GoodIn wsX13_rebuilt wsX13_allows := goodIn_r _ [44, 45, 66, 67, 68, 69, 70, 71, 72, 73, 74, 75, 76, 77, 78, 79, 80, 81, 82, 83] (by decide +kernel) (by decide +kernel)
set_option maxRecDepth 20000 in
theorem gX13_rebuilt_X13_allows : GoodIn wsX13_rebuilt (wsV RX13 41 RX13 yX13_allows wsX13_allows) := goodIn_app (goodIn_of _ (by decide +kernel)) ggX13_rebuilt_X13_allows
set_option maxRecDepth 20000 in
theorem ggX13_rebuilt_X13_leading : GoodIn wsX13_rebuilt wsX13_leading := goodIn_ca (goodIn_r _ [49, 19, 20, 21, 4, 22, 6, 23, 24, 25, 26, 27, 28, 29, 30, 31, 32, 33, 7, 8, 9, 10, 11, 12, 13, 14, 50, 51, 52, 34, 35, 36, 37, 38, 39, 40, 66, 67, 68, 69, 70, 71, 72, 73, 74, 75, 76, 77, 78, 79, 80, 81, 82, 83] (by decide +kernel) (by decide +kernel)) (goodIn_sub (fun _ h => List.mem_cons_of_mem _ (List.mem_append_right _ h)) (by decide +kernel))
set_option maxRecDepth 20000 in
theorem gX13_rebuilt_X13_leading : GoodIn wsX13_rebuilt (wsV RX13 145 RX13 yX13_leading wsX13_leading) := goodIn_app (goodIn_of _ (by decide +kernel)) ggX13_rebuilt_X13_leading
set_option maxRecDepth 20000 in
theorem ggX13_rebuilt_X13_valueAt : GoodIn wsX13_rebuilt wsX13_valueAt := goodIn_ca (goodIn_r _ [56, 7, 8, 9, 4, 10, 6, 11, 12, 13, 14, 57, 58, 59, 60, 61, 62, 63, 64, 65, 66, 67, 68, 69, 70, 71, 72, 73, 74, 75, 76, 77, 78, 79, 80, 81, 82, 83] (by decide +kernel) (by decide +kernel)) (goodIn_sub (fun _ h => List.mem_cons_of_mem _ (List.mem_append_right _ h)) (by decide +kernel))
set_option maxRecDepth 20000 in
theorem gX13_rebuilt_X13_valueAt : GoodIn wsX13_rebuilt (wsV RX13 105 RX13 yX13_valueAt wsX13_valueAt) := goodIn_app (goodIn_of _ (by decide +kernel)) ggX13_rebuilt_X13_valueAt
theorem dX13_rebuilt_0 : decode cX13_rebuilt 0 = .ok (.aload_n 0, 1) := by decide +kernel
theorem dX13_rebuilt_1 : decode cX13_rebuilt 1 = .ok (.iload_n 1, 1) := by decide +kernel
theorem dX13_rebuilt_2 : decode cX13_rebuilt 2 = .ok (.invokevirtual 133, 3) := by decide +kernel
theorem dX13_rebuilt_5 : decode cX13_rebuilt 5 = .ok (.istore_n 2, 1) := by decide +kernel
theorem dX13_rebuilt_6 : decode cX13_rebuilt 6 = .ok (.aload_n 0, 1) := by decide +kernel
theorem dX13_rebuilt_7 : decode cX13_rebuilt 7 = .ok (.iload_n 2, 1) := by decide +kernel
theorem dX13_rebuilt_8 : decode cX13_rebuilt 8 = .ok (.iconst (-1), 1) := by decide +kernel
theorem dX13_rebuilt_9 : decode cX13_rebuilt 9 = .ok (.if_icmp .eq 7, 3) := by decide +kernel
theorem dX13_rebuilt_12 : decode cX13_rebuilt 12 = .ok (.iconst 1, 1) := by decide +kernel
theorem dX13_rebuilt_13 : decode cX13_rebuilt 13 = .ok (.goto 4, 3) := by decide +kernel
theorem dX13_rebuilt_16 : decode cX13_rebuilt 16 = .ok (.iconst 0, 1) := by decide +kernel
theorem dX13_rebuilt_17 : decode cX13_rebuilt 17 = .ok (.aload_n 0, 1) := by decide +kernel
theorem dX13_rebuilt_18 : decode cX13_rebuilt 18 = .ok (.iload_n 2, 1) := by decide +kernel
theorem dX13_rebuilt_19 : decode cX13_rebuilt 19 = .ok (.invokevirtual 142, 3) := by decide +kernel
theorem dX13_rebuilt_22 : decode cX13_rebuilt 22 = .ok (.iconst 1, 1) := by decide +kernel
theorem dX13_rebuilt_23 : decode cX13_rebuilt 23 = .ok (.iconst 1, 1) := by decide +kernel
theorem dX13_rebuilt_24 : decode cX13_rebuilt 24 = .ok (.invokevirtual 41, 3) := by decide +kernel
theorem dX13_rebuilt_27 : decode cX13_rebuilt 27 = .ok (.ifCond .eq 17, 3) := by decide +kernel
theorem dX13_rebuilt_30 : decode cX13_rebuilt 30 = .ok (.aload_n 0, 1) := by decide +kernel
theorem dX13_rebuilt_31 : decode cX13_rebuilt 31 = .ok (.iload_n 2, 1) := by decide +kernel
theorem dX13_rebuilt_32 : decode cX13_rebuilt 32 = .ok (.aload_n 0, 1) := by decide +kernel
theorem dX13_rebuilt_33 : decode cX13_rebuilt 33 = .ok (.iload_n 2, 1) := by decide +kernel
theorem dX13_rebuilt_34 : decode cX13_rebuilt 34 = .ok (.invokevirtual 145, 3) := by decide +kernel
theorem dX13_rebuilt_37 : decode cX13_rebuilt 37 = .ok (.iconst 0, 1) := by decide +kernel
theorem dX13_rebuilt_38 : decode cX13_rebuilt 38 = .ok (.invokevirtual 105, 3) := by decide +kernel
theorem dX13_rebuilt_41 : decode cX13_rebuilt 41 = .ok (.goto 4, 3) := by decide +kernel
theorem dX13_rebuilt_44 : decode cX13_rebuilt 44 = .ok (.iconst 0, 1) := by decide +kernel
theorem dX13_rebuilt_45 : decode cX13_rebuilt 45 = .ok (.ireturn, 1) := by decide +kernel
set_option maxRecDepth 20000 in
theorem ggX13_rebuild_X13_rebuilt : GoodIn wsX13_rebuild wsX13_rebuilt := goodIn_ca (goodIn_r _ [5, 6, 7, 8, 4, 9, 10, 11, 12, 13, 14, 15, 16, 17, 18, 19, 20, 21, 22, 23, 24, 25, 26, 27, 28, 29, 30, 31, 32, 33, 34, 35, 36, 37, 38, 39, 40, 41, 42, 43, 44, 45, 46, 47, 48, 49, 50, 51, 52, 53, 54, 55, 56, 57, 58, 59, 60, 61, 62, 63, 64, 65, 66, 67, 68, 69, 70, 71, 72, 73, 74, 75, 76, 77, 78, 79, 80, 81, 82, 83, 84, 85, 86, 87] (by decide +kernel) (by decide +kernel)) (goodIn_sub (fun _ h => List.mem_cons_of_mem _ (List.mem_append_right _ h)) (by decide +kernel))
set_option maxRecDepth 20000 in
theorem gX13_rebuild_X13_rebuilt : GoodIn wsX13_rebuild (wsV RX13 160 RX13 yX13_rebuilt wsX13_rebuilt) := goodIn_app (goodIn_of _ (by decide +kernel)) ggX13_rebuild_X13_rebuilt
theorem dX13_rebuild_0 : decode cX13_rebuild 0 = .ok (.aload_n 0, 1) := by decide +kernel
theorem dX13_rebuild_1 : decode cX13_rebuild 1 = .ok (.iload_n 1, 1) := by decide +kernel
theorem dX13_rebuild_2 : decode cX13_rebuild 2 = .ok (.invokevirtual 160, 3) := by decide +kernel
theorem dX13_rebuild_5 : decode cX13_rebuild 5 = .ok (.ireturn, 1) := by decide +kernel
set_option maxRecDepth 20000 in
theorem ggX13_rebuildByElimination_X13_rebuilt : GoodIn wsX13_rebuildByElimination wsX13_rebuilt := goodIn_ca (goodIn_r _ [5, 6, 7, 8, 4, 9, 10, 11, 12, 13, 14, 15, 16, 17, 18, 19, 20, 21, 22, 23, 24, 25, 26, 27, 28, 29, 30, 31, 32, 33, 34, 35, 36, 37, 38, 39, 40, 41, 42, 43, 44, 45, 46, 47, 48, 49, 50, 51, 52, 53, 54, 55, 56, 57, 58, 59, 60, 61, 62, 63, 64, 65, 66, 67, 68, 69, 70, 71, 72, 73, 74, 75, 76, 77, 78, 79, 80, 81, 82, 83, 84, 85, 86, 87] (by decide +kernel) (by decide +kernel)) (goodIn_sub (fun _ h => List.mem_cons_of_mem _ (List.mem_append_right _ h)) (by decide +kernel))
set_option maxRecDepth 20000 in
theorem gX13_rebuildByElimination_X13_rebuilt : GoodIn wsX13_rebuildByElimination (wsV RX13 160 RX13 yX13_rebuilt wsX13_rebuilt) := goodIn_app (goodIn_of _ (by decide +kernel)) ggX13_rebuildByElimination_X13_rebuilt
theorem dX13_rebuildByElimination_0 : decode cX13_rebuildByElimination 0 = .ok (.aload_n 0, 1) := by decide +kernel
theorem dX13_rebuildByElimination_1 : decode cX13_rebuildByElimination 1 = .ok (.iload_n 1, 1) := by decide +kernel
theorem dX13_rebuildByElimination_2 : decode cX13_rebuildByElimination 2 = .ok (.invokevirtual 160, 3) := by decide +kernel
theorem dX13_rebuildByElimination_5 : decode cX13_rebuildByElimination 5 = .ok (.ireturn, 1) := by decide +kernel
set_option maxRecDepth 20000 in
theorem ggX13_unfitShares_X13_find : GoodIn wsX13_unfitShares wsX13_find := goodIn_ca (goodIn_r _ [5, 6, 7, 8, 9, 4, 10, 11, 12, 13, 14, 70, 71, 72, 73, 74, 75, 76, 77, 78, 79, 80, 81, 82, 83, 84, 85, 86, 87] (by decide +kernel) (by decide +kernel)) (goodIn_sub (fun _ h => List.mem_cons_of_mem _ (List.mem_append_right _ h)) (by decide +kernel))
set_option maxRecDepth 20000 in
theorem gX13_unfitShares_X13_find : GoodIn wsX13_unfitShares (wsV RX13 133 RX13 yX13_find wsX13_find) := goodIn_app (goodIn_of _ (by decide +kernel)) ggX13_unfitShares_X13_find
set_option maxRecDepth 20000 in
theorem ggX13_unfitShares_X13_isEnough : GoodIn wsX13_unfitShares wsX13_isEnough := goodIn_ca (goodIn_r _ [18, 19, 20, 21, 4, 22, 6, 23, 24, 25, 26, 27, 28, 29, 30, 31, 32, 33, 7, 8, 9, 10, 11, 12, 13, 14, 34, 35, 36, 37, 38, 39, 40, 70, 71, 72, 73, 74, 75, 76, 77, 78, 79, 80, 81, 82, 83, 84, 85, 86, 87] (by decide +kernel) (by decide +kernel)) (goodIn_sub (fun _ h => List.mem_cons_of_mem _ (List.mem_append_right _ h)) (by decide +kernel))
set_option maxRecDepth 20000 in
theorem gX13_unfitShares_X13_isEnough : GoodIn wsX13_unfitShares (wsV RX13 142 RX13 yX13_isEnough wsX13_isEnough) := goodIn_app (goodIn_of _ (by decide +kernel)) ggX13_unfitShares_X13_isEnough
set_option maxRecDepth 20000 in
theorem ggX13_unfitShares_X13_allows : GoodIn wsX13_unfitShares wsX13_allows := goodIn_r _ [44, 45, 70, 71, 72, 73, 74, 75, 76, 77, 78, 79, 80, 81, 82, 83, 84, 85, 86, 87] (by decide +kernel) (by decide +kernel)
set_option maxRecDepth 20000 in
theorem gX13_unfitShares_X13_allows : GoodIn wsX13_unfitShares (wsV RX13 41 RX13 yX13_allows wsX13_allows) := goodIn_app (goodIn_of _ (by decide +kernel)) ggX13_unfitShares_X13_allows
set_option maxRecDepth 20000 in
theorem ggX13_unfitShares_X13_holdersOf : GoodIn wsX13_unfitShares wsX13_holdersOf := goodIn_ca (goodIn_r _ [22, 6, 23, 24, 25, 4, 26, 27, 28, 29, 30, 31, 32, 33, 7, 8, 9, 10, 11, 12, 13, 14, 70, 71, 72, 73, 74, 75, 76, 77, 78, 79, 80, 81, 82, 83, 84, 85, 86, 87] (by decide +kernel) (by decide +kernel)) (goodIn_sub (fun _ h => List.mem_cons_of_mem _ (List.mem_append_right _ h)) (by decide +kernel))
set_option maxRecDepth 20000 in
theorem gX13_unfitShares_X13_holdersOf : GoodIn wsX13_unfitShares (wsV RX13 89 RX13 yX13_holdersOf wsX13_holdersOf) := goodIn_app (goodIn_of _ (by decide +kernel)) ggX13_unfitShares_X13_holdersOf
set_option maxRecDepth 20000 in
theorem ggX13_unfitShares_X13_leading : GoodIn wsX13_unfitShares wsX13_leading := goodIn_ca (goodIn_r _ [49, 19, 20, 21, 4, 22, 6, 23, 24, 25, 26, 27, 28, 29, 30, 31, 32, 33, 7, 8, 9, 10, 11, 12, 13, 14, 50, 51, 52, 34, 35, 36, 37, 38, 39, 40, 70, 71, 72, 73, 74, 75, 76, 77, 78, 79, 80, 81, 82, 83, 84, 85, 86, 87] (by decide +kernel) (by decide +kernel)) (goodIn_sub (fun _ h => List.mem_cons_of_mem _ (List.mem_append_right _ h)) (by decide +kernel))
set_option maxRecDepth 20000 in
theorem gX13_unfitShares_X13_leading : GoodIn wsX13_unfitShares (wsV RX13 145 RX13 yX13_leading wsX13_leading) := goodIn_app (goodIn_of _ (by decide +kernel)) ggX13_unfitShares_X13_leading
set_option maxRecDepth 20000 in
theorem ggX13_unfitShares_X13_unfit : GoodIn wsX13_unfitShares wsX13_unfit := goodIn_ca (goodIn_r _ [56, 57, 58, 59, 4, 60, 7, 8, 9, 10, 6, 11, 12, 13, 14, 61, 62, 63, 64, 65, 66, 67, 68, 69, 70, 71, 72, 73, 74, 75, 76, 77, 78, 79, 80, 81, 82, 83, 84, 85, 86, 87] (by decide +kernel) (by decide +kernel)) (goodIn_sub (fun _ h => List.mem_cons_of_mem _ (List.mem_append_right _ h)) (by decide +kernel))
set_option maxRecDepth 20000 in
theorem gX13_unfitShares_X13_unfit : GoodIn wsX13_unfitShares (wsV RX13 163 RX13 yX13_unfit wsX13_unfit) := goodIn_app (goodIn_of _ (by decide +kernel)) ggX13_unfitShares_X13_unfit
theorem dX13_unfitShares_0 : decode cX13_unfitShares 0 = .ok (.aload_n 0, 1) := by decide +kernel
theorem dX13_unfitShares_1 : decode cX13_unfitShares 1 = .ok (.iload_n 1, 1) := by decide +kernel
theorem dX13_unfitShares_2 : decode cX13_unfitShares 2 = .ok (.invokevirtual 133, 3) := by decide +kernel
theorem dX13_unfitShares_5 : decode cX13_unfitShares 5 = .ok (.istore_n 2, 1) := by decide +kernel
theorem dX13_unfitShares_6 : decode cX13_unfitShares 6 = .ok (.aload_n 0, 1) := by decide +kernel
theorem dX13_unfitShares_7 : decode cX13_unfitShares 7 = .ok (.iload_n 2, 1) := by decide +kernel
theorem dX13_unfitShares_8 : decode cX13_unfitShares 8 = .ok (.iconst (-1), 1) := by decide +kernel
theorem dX13_unfitShares_9 : decode cX13_unfitShares 9 = .ok (.if_icmp .eq 7, 3) := by decide +kernel
theorem dX13_unfitShares_12 : decode cX13_unfitShares 12 = .ok (.iconst 1, 1) := by decide +kernel
theorem dX13_unfitShares_13 : decode cX13_unfitShares 13 = .ok (.goto 4, 3) := by decide +kernel
theorem dX13_unfitShares_16 : decode cX13_unfitShares 16 = .ok (.iconst 0, 1) := by decide +kernel
theorem dX13_unfitShares_17 : decode cX13_unfitShares 17 = .ok (.aload_n 0, 1) := by decide +kernel
theorem dX13_unfitShares_18 : decode cX13_unfitShares 18 = .ok (.iload_n 2, 1) := by decide +kernel
theorem dX13_unfitShares_19 : decode cX13_unfitShares 19 = .ok (.invokevirtual 142, 3) := by decide +kernel
theorem dX13_unfitShares_22 : decode cX13_unfitShares 22 = .ok (.iconst 1, 1) := by decide +kernel
theorem dX13_unfitShares_23 : decode cX13_unfitShares 23 = .ok (.iconst 1, 1) := by decide +kernel
theorem dX13_unfitShares_24 : decode cX13_unfitShares 24 = .ok (.invokevirtual 41, 3) := by decide +kernel
theorem dX13_unfitShares_27 : decode cX13_unfitShares 27 = .ok (.ifCond .eq 21, 3) := by decide +kernel
theorem dX13_unfitShares_30 : decode cX13_unfitShares 30 = .ok (.aload_n 0, 1) := by decide +kernel
theorem dX13_unfitShares_31 : decode cX13_unfitShares 31 = .ok (.iload_n 2, 1) := by decide +kernel
theorem dX13_unfitShares_32 : decode cX13_unfitShares 32 = .ok (.aload_n 0, 1) := by decide +kernel
theorem dX13_unfitShares_33 : decode cX13_unfitShares 33 = .ok (.iload_n 2, 1) := by decide +kernel
theorem dX13_unfitShares_34 : decode cX13_unfitShares 34 = .ok (.invokevirtual 89, 3) := by decide +kernel
theorem dX13_unfitShares_37 : decode cX13_unfitShares 37 = .ok (.aload_n 0, 1) := by decide +kernel
theorem dX13_unfitShares_38 : decode cX13_unfitShares 38 = .ok (.iload_n 2, 1) := by decide +kernel
theorem dX13_unfitShares_39 : decode cX13_unfitShares 39 = .ok (.invokevirtual 145, 3) := by decide +kernel
theorem dX13_unfitShares_42 : decode cX13_unfitShares 42 = .ok (.invokevirtual 163, 3) := by decide +kernel
theorem dX13_unfitShares_45 : decode cX13_unfitShares 45 = .ok (.goto 4, 3) := by decide +kernel
theorem dX13_unfitShares_48 : decode cX13_unfitShares 48 = .ok (.iconst 0, 1) := by decide +kernel
theorem dX13_unfitShares_49 : decode cX13_unfitShares 49 = .ok (.ireturn, 1) := by decide +kernel
set_option maxRecDepth 20000 in
theorem ggX13_leastUnfitShares_X13_find : GoodIn wsX13_leastUnfitShares wsX13_find := goodIn_ca (goodIn_r _ [9, 10, 11, 12, 13, 8, 14, 15, 16, 3, 17, 66, 67, 68, 69, 70, 71, 72, 73, 74, 75, 76, 77, 78, 79, 80, 81, 82, 83] (by decide +kernel) (by decide +kernel)) (goodIn_sub (fun _ h => List.mem_cons_of_mem _ (List.mem_append_right _ h)) (by decide +kernel))
set_option maxRecDepth 20000 in
theorem gX13_leastUnfitShares_X13_find : GoodIn wsX13_leastUnfitShares (wsV RX13 133 RX13 yX13_find wsX13_find) := goodIn_app (goodIn_of _ (by decide +kernel)) ggX13_leastUnfitShares_X13_find
set_option maxRecDepth 20000 in
theorem ggX13_leastUnfitShares_X13_isEnough : GoodIn wsX13_leastUnfitShares wsX13_isEnough := goodIn_ca (goodIn_r _ [21, 22, 23, 24, 8, 25, 10, 26, 27, 28, 29, 30, 31, 32, 33, 34, 35, 36, 11, 12, 13, 14, 15, 16, 3, 17, 37, 38, 39, 40, 41, 42, 43, 66, 67, 68, 69, 70, 71, 72, 73, 74, 75, 76, 77, 78, 79, 80, 81, 82, 83] (by decide +kernel) (by decide +kernel)) (goodIn_sub (fun _ h => List.mem_cons_of_mem _ (List.mem_append_right _ h)) (by decide +kernel))
set_option maxRecDepth 20000 in
theorem gX13_leastUnfitShares_X13_isEnough : GoodIn wsX13_leastUnfitShares (wsV RX13 142 RX13 yX13_isEnough wsX13_isEnough) := goodIn_app (goodIn_of _ (by decide +kernel)) ggX13_leastUnfitShares_X13_isEnough
set_option maxRecDepth 20000 in
theorem ggX13_leastUnfitShares_X13_allows : GoodIn wsX13_leastUnfitShares wsX13_allows := goodIn_r _ [47, 48, 66, 67, 68, 69, 70, 71, 72, 73, 74, 75, 76, 77, 78, 79, 80, 81, 82, 83] (by decide +kernel) (by decide +kernel)
set_option maxRecDepth 20000 in
theorem gX13_leastUnfitShares_X13_allows : GoodIn wsX13_leastUnfitShares (wsV RX13 41 RX13 yX13_allows wsX13_allows) := goodIn_app (goodIn_of _ (by decide +kernel)) ggX13_leastUnfitShares_X13_allows
set_option maxRecDepth 20000 in
theorem ggX13_leastUnfitShares_X13_holdersOf : GoodIn wsX13_leastUnfitShares wsX13_holdersOf := goodIn_ca (goodIn_r _ [25, 10, 26, 27, 28, 8, 29, 30, 31, 32, 33, 34, 35, 36, 11, 12, 13, 14, 15, 16, 3, 17, 66, 67, 68, 69, 70, 71, 72, 73, 74, 75, 76, 77, 78, 79, 80, 81, 82, 83] (by decide +kernel) (by decide +kernel)) (goodIn_sub (fun _ h => List.mem_cons_of_mem _ (List.mem_append_right _ h)) (by decide +kernel))
set_option maxRecDepth 20000 in
theorem gX13_leastUnfitShares_X13_holdersOf : GoodIn wsX13_leastUnfitShares (wsV RX13 89 RX13 yX13_holdersOf wsX13_holdersOf) := goodIn_app (goodIn_of _ (by decide +kernel)) ggX13_leastUnfitShares_X13_holdersOf
set_option maxRecDepth 20000 in
theorem ggX13_leastUnfitShares_J6_bitCount_0f7a4 : GoodIn wsX13_leastUnfitShares wsJ6_bitCount_0f7a4 := goodIn_r _ [40, 41, 42, 43] (by decide +kernel) (by decide +kernel)
set_option maxRecDepth 20000 in
theorem gX13_leastUnfitShares_J6_bitCount_0f7a4 : GoodIn wsX13_leastUnfitShares (va_wsS RX13 83 yJ6_bitCount_0f7a4 wsJ6_bitCount_0f7a4) := goodIn_app (goodIn_of _ (by decide +kernel)) ggX13_leastUnfitShares_J6_bitCount_0f7a4
set_option maxRecDepth 20000 in
theorem ggX13_leastUnfitShares_X13_of : GoodIn wsX13_leastUnfitShares wsX13_of := goodIn_ca (goodIn_r _ [14, 10, 15, 16, 3, 17, 66, 67, 68, 69, 70, 71, 72, 73, 74, 75, 76, 77, 78, 79, 80, 81, 82, 83] (by decide +kernel) (by decide +kernel)) (goodIn_sub (fun _ h => List.mem_cons_of_mem _ (List.mem_append_right _ h)) (by decide +kernel))
set_option maxRecDepth 20000 in
theorem gX13_leastUnfitShares_X13_of : GoodIn wsX13_leastUnfitShares (wsV RX13 67 RX13 yX13_of wsX13_of) := goodIn_app (goodIn_of _ (by decide +kernel)) ggX13_leastUnfitShares_X13_of
set_option maxRecDepth 20000 in
theorem ggX13_leastUnfitShares_X13_unfit : GoodIn wsX13_leastUnfitShares wsX13_unfit := goodIn_ca (goodIn_r _ [52, 53, 54, 55, 8, 56, 11, 12, 13, 14, 10, 15, 16, 3, 17, 57, 58, 59, 60, 61, 62, 63, 64, 65, 66, 67, 68, 69, 70, 71, 72, 73, 74, 75, 76, 77, 78, 79, 80, 81, 82, 83] (by decide +kernel) (by decide +kernel)) (goodIn_sub (fun _ h => List.mem_cons_of_mem _ (List.mem_append_right _ h)) (by decide +kernel))
set_option maxRecDepth 20000 in
theorem gX13_leastUnfitShares_X13_unfit : GoodIn wsX13_leastUnfitShares (wsV RX13 163 RX13 yX13_unfit wsX13_unfit) := goodIn_app (goodIn_of _ (by decide +kernel)) ggX13_leastUnfitShares_X13_unfit
theorem dX13_leastUnfitShares_0 : decode cX13_leastUnfitShares 0 = .ok (.aload_n 0, 1) := by decide +kernel
theorem dX13_leastUnfitShares_1 : decode cX13_leastUnfitShares 1 = .ok (.iload_n 1, 1) := by decide +kernel
theorem dX13_leastUnfitShares_2 : decode cX13_leastUnfitShares 2 = .ok (.invokevirtual 133, 3) := by decide +kernel
theorem dX13_leastUnfitShares_5 : decode cX13_leastUnfitShares 5 = .ok (.istore_n 2, 1) := by decide +kernel
theorem dX13_leastUnfitShares_6 : decode cX13_leastUnfitShares 6 = .ok (.aload_n 0, 1) := by decide +kernel
theorem dX13_leastUnfitShares_7 : decode cX13_leastUnfitShares 7 = .ok (.iload_n 2, 1) := by decide +kernel
theorem dX13_leastUnfitShares_8 : decode cX13_leastUnfitShares 8 = .ok (.iconst (-1), 1) := by decide +kernel
theorem dX13_leastUnfitShares_9 : decode cX13_leastUnfitShares 9 = .ok (.if_icmp .eq 7, 3) := by decide +kernel
theorem dX13_leastUnfitShares_12 : decode cX13_leastUnfitShares 12 = .ok (.iconst 1, 1) := by decide +kernel
theorem dX13_leastUnfitShares_13 : decode cX13_leastUnfitShares 13 = .ok (.goto 4, 3) := by decide +kernel
theorem dX13_leastUnfitShares_16 : decode cX13_leastUnfitShares 16 = .ok (.iconst 0, 1) := by decide +kernel
theorem dX13_leastUnfitShares_17 : decode cX13_leastUnfitShares 17 = .ok (.aload_n 0, 1) := by decide +kernel
theorem dX13_leastUnfitShares_18 : decode cX13_leastUnfitShares 18 = .ok (.iload_n 2, 1) := by decide +kernel
theorem dX13_leastUnfitShares_19 : decode cX13_leastUnfitShares 19 = .ok (.invokevirtual 142, 3) := by decide +kernel
theorem dX13_leastUnfitShares_22 : decode cX13_leastUnfitShares 22 = .ok (.iconst 1, 1) := by decide +kernel
theorem dX13_leastUnfitShares_23 : decode cX13_leastUnfitShares 23 = .ok (.iconst 1, 1) := by decide +kernel
theorem dX13_leastUnfitShares_24 : decode cX13_leastUnfitShares 24 = .ok (.invokevirtual 41, 3) := by decide +kernel
theorem dX13_leastUnfitShares_27 : decode cX13_leastUnfitShares 27 = .ok (.ifCond .ne 5, 3) := by decide +kernel
theorem dX13_leastUnfitShares_30 : decode cX13_leastUnfitShares 30 = .ok (.iconst 0, 1) := by decide +kernel
theorem dX13_leastUnfitShares_31 : decode cX13_leastUnfitShares 31 = .ok (.ireturn, 1) := by decide +kernel
theorem dX13_leastUnfitShares_32 : decode cX13_leastUnfitShares 32 = .ok (.aload_n 0, 1) := by decide +kernel
theorem dX13_leastUnfitShares_33 : decode cX13_leastUnfitShares 33 = .ok (.iload_n 2, 1) := by decide +kernel
theorem dX13_leastUnfitShares_34 : decode cX13_leastUnfitShares 34 = .ok (.invokevirtual 89, 3) := by decide +kernel
theorem dX13_leastUnfitShares_37 : decode cX13_leastUnfitShares 37 = .ok (.istore_n 3, 1) := by decide +kernel
theorem dX13_leastUnfitShares_38 : decode cX13_leastUnfitShares 38 = .ok (.bipush 8, 2) := by decide +kernel
theorem dX13_leastUnfitShares_40 : decode cX13_leastUnfitShares 40 = .ok (.istore 4, 2) := by decide +kernel
theorem dX13_leastUnfitShares_42 : decode cX13_leastUnfitShares 42 = .ok (.iconst 1, 1) := by decide +kernel
theorem dX13_leastUnfitShares_43 : decode cX13_leastUnfitShares 43 = .ok (.istore 5, 2) := by decide +kernel
theorem dX13_leastUnfitShares_45 : decode cX13_leastUnfitShares 45 = .ok (.iload 5, 2) := by decide +kernel
theorem dX13_leastUnfitShares_47 : decode cX13_leastUnfitShares 47 = .ok (.sipush 256, 3) := by decide +kernel
theorem dX13_leastUnfitShares_50 : decode cX13_leastUnfitShares 50 = .ok (.if_icmp .ge 64, 3) := by decide +kernel
theorem dX13_leastUnfitShares_53 : decode cX13_leastUnfitShares 53 = .ok (.iload 5, 2) := by decide +kernel
theorem dX13_leastUnfitShares_55 : decode cX13_leastUnfitShares 55 = .ok (.iload_n 3, 1) := by decide +kernel
theorem dX13_leastUnfitShares_56 : decode cX13_leastUnfitShares 56 = .ok (.iconst (-1), 1) := by decide +kernel
theorem dX13_leastUnfitShares_57 : decode cX13_leastUnfitShares 57 = .ok (.ixor, 1) := by decide +kernel
theorem dX13_leastUnfitShares_58 : decode cX13_leastUnfitShares 58 = .ok (.iand, 1) := by decide +kernel
theorem dX13_leastUnfitShares_59 : decode cX13_leastUnfitShares 59 = .ok (.ifCond .ne 21, 3) := by decide +kernel
theorem dX13_leastUnfitShares_62 : decode cX13_leastUnfitShares 62 = .ok (.iload 5, 2) := by decide +kernel
theorem dX13_leastUnfitShares_64 : decode cX13_leastUnfitShares 64 = .ok (.invokestatic 83, 3) := by decide +kernel
theorem dX13_leastUnfitShares_67 : decode cX13_leastUnfitShares 67 = .ok (.aload_n 0, 1) := by decide +kernel
theorem dX13_leastUnfitShares_68 : decode cX13_leastUnfitShares 68 = .ok (.iload_n 2, 1) := by decide +kernel
theorem dX13_leastUnfitShares_69 : decode cX13_leastUnfitShares 69 = .ok (.iconst 1, 1) := by decide +kernel
theorem dX13_leastUnfitShares_70 : decode cX13_leastUnfitShares 70 = .ok (.invokevirtual 67, 3) := by decide +kernel
theorem dX13_leastUnfitShares_73 : decode cX13_leastUnfitShares 73 = .ok (.if_icmp .ne 7, 3) := by decide +kernel
theorem dX13_leastUnfitShares_76 : decode cX13_leastUnfitShares 76 = .ok (.iconst 1, 1) := by decide +kernel
theorem dX13_leastUnfitShares_77 : decode cX13_leastUnfitShares 77 = .ok (.goto 4, 3) := by decide +kernel
theorem dX13_leastUnfitShares_80 : decode cX13_leastUnfitShares 80 = .ok (.iconst 0, 1) := by decide +kernel
theorem dX13_leastUnfitShares_81 : decode cX13_leastUnfitShares 81 = .ok (.istore 6, 2) := by decide +kernel
theorem dX13_leastUnfitShares_83 : decode cX13_leastUnfitShares 83 = .ok (.iload 6, 2) := by decide +kernel
theorem dX13_leastUnfitShares_85 : decode cX13_leastUnfitShares 85 = .ok (.ifCond .eq 19, 3) := by decide +kernel
theorem dX13_leastUnfitShares_88 : decode cX13_leastUnfitShares 88 = .ok (.iload 4, 2) := by decide +kernel
theorem dX13_leastUnfitShares_90 : decode cX13_leastUnfitShares 90 = .ok (.aload_n 0, 1) := by decide +kernel
theorem dX13_leastUnfitShares_91 : decode cX13_leastUnfitShares 91 = .ok (.iload_n 2, 1) := by decide +kernel
theorem dX13_leastUnfitShares_92 : decode cX13_leastUnfitShares 92 = .ok (.iload_n 3, 1) := by decide +kernel
theorem dX13_leastUnfitShares_93 : decode cX13_leastUnfitShares 93 = .ok (.iload 5, 2) := by decide +kernel
theorem dX13_leastUnfitShares_95 : decode cX13_leastUnfitShares 95 = .ok (.invokevirtual 163, 3) := by decide +kernel
theorem dX13_leastUnfitShares_98 : decode cX13_leastUnfitShares 98 = .ok (.invokestatic 166, 3) := by decide +kernel
theorem dX13_leastUnfitShares_101 : decode cX13_leastUnfitShares 101 = .ok (.goto 5, 3) := by decide +kernel
theorem dX13_leastUnfitShares_104 : decode cX13_leastUnfitShares 104 = .ok (.iload 4, 2) := by decide +kernel
theorem dX13_leastUnfitShares_106 : decode cX13_leastUnfitShares 106 = .ok (.istore 4, 2) := by decide +kernel
theorem dX13_leastUnfitShares_108 : decode cX13_leastUnfitShares 108 = .ok (.iinc 5 1, 3) := by decide +kernel
theorem dX13_leastUnfitShares_111 : decode cX13_leastUnfitShares 111 = .ok (.goto (-66), 3) := by decide +kernel
theorem dX13_leastUnfitShares_114 : decode cX13_leastUnfitShares 114 = .ok (.iload 4, 2) := by decide +kernel
theorem dX13_leastUnfitShares_116 : decode cX13_leastUnfitShares 116 = .ok (.ireturn, 1) := by decide +kernel
set_option maxRecDepth 20000 in
theorem ggX13_possible_X13_find : GoodIn wsX13_possible wsX13_find := goodIn_ca (goodIn_r _ [5, 6, 7, 8, 9, 4, 10, 11, 12, 13, 14, 66, 67, 68, 69, 70, 71, 72, 73, 74, 75, 76, 77, 78, 79, 80, 81, 82, 83] (by decide +kernel) (by decide +kernel)) (goodIn_sub (fun _ h => List.mem_cons_of_mem _ (List.mem_append_right _ h)) (by decide +kernel))
set_option maxRecDepth 20000 in
theorem gX13_possible_X13_find : GoodIn wsX13_possible (wsV RX13 133 RX13 yX13_find wsX13_find) := goodIn_app (goodIn_of _ (by decide +kernel)) ggX13_possible_X13_find
set_option maxRecDepth 20000 in
theorem ggX13_possible_X13_holdersOf : GoodIn wsX13_possible wsX13_holdersOf := goodIn_ca (goodIn_r _ [18, 6, 19, 20, 21, 4, 22, 23, 24, 25, 26, 27, 28, 29, 7, 8, 9, 10, 11, 12, 13, 14, 66, 67, 68, 69, 70, 71, 72, 73, 74, 75, 76, 77, 78, 79, 80, 81, 82, 83] (by decide +kernel) (by decide +kernel)) (goodIn_sub (fun _ h => List.mem_cons_of_mem _ (List.mem_append_right _ h)) (by decide +kernel))
set_option maxRecDepth 20000 in
theorem gX13_possible_X13_holdersOf : GoodIn wsX13_possible (wsV RX13 89 RX13 yX13_holdersOf wsX13_holdersOf) := goodIn_app (goodIn_of _ (by decide +kernel)) ggX13_possible_X13_holdersOf
set_option maxRecDepth 20000 in
theorem ggX13_possible_J6_bitCount_0f7a4 : GoodIn wsX13_possible wsJ6_bitCount_0f7a4 := goodIn_r _ [33, 34, 35, 36] (by decide +kernel) (by decide +kernel)
set_option maxRecDepth 20000 in
theorem gX13_possible_J6_bitCount_0f7a4 : GoodIn wsX13_possible (va_wsS RX13 83 yJ6_bitCount_0f7a4 wsJ6_bitCount_0f7a4) := goodIn_app (goodIn_of _ (by decide +kernel)) ggX13_possible_J6_bitCount_0f7a4
set_option maxRecDepth 20000 in
theorem ggX13_possible_X13_isIn : GoodIn wsX13_possible wsX13_isIn := goodIn_r _ [29] (by decide +kernel) (by decide +kernel)
set_option maxRecDepth 20000 in
theorem gX13_possible_X13_isIn : GoodIn wsX13_possible (va_wsS RX13 63 yX13_isIn wsX13_isIn) := goodIn_app (goodIn_of _ (by decide +kernel)) ggX13_possible_X13_isIn
set_option maxRecDepth 20000 in
theorem ggX13_possible_X13_allows : GoodIn wsX13_possible wsX13_allows := goodIn_r _ [40, 41, 66, 67, 68, 69, 70, 71, 72, 73, 74, 75, 76, 77, 78, 79, 80, 81, 82, 83] (by decide +kernel) (by decide +kernel)
set_option maxRecDepth 20000 in
theorem gX13_possible_X13_allows : GoodIn wsX13_possible (wsV RX13 41 RX13 yX13_allows wsX13_allows) := goodIn_app (goodIn_of _ (by decide +kernel)) ggX13_possible_X13_allows
set_option maxRecDepth 20000 in
theorem ggX13_possible_X13_of : GoodIn wsX13_possible wsX13_of := goodIn_ca (goodIn_r _ [10, 6, 11, 12, 13, 14, 66, 67, 68, 69, 70, 71, 72, 73, 74, 75, 76, 77, 78, 79, 80, 81, 82, 83] (by decide +kernel) (by decide +kernel)) (goodIn_sub (fun _ h => List.mem_cons_of_mem _ (List.mem_append_right _ h)) (by decide +kernel))
set_option maxRecDepth 20000 in
theorem gX13_possible_X13_of : GoodIn wsX13_possible (wsV RX13 67 RX13 yX13_of wsX13_of) := goodIn_app (goodIn_of _ (by decide +kernel)) ggX13_possible_X13_of
set_option maxRecDepth 20000 in
theorem ggX13_possible_X13_firstOf : GoodIn wsX13_possible wsX13_firstOf := goodIn_r _ [44, 30, 31, 32, 33, 34, 35, 36] (by decide +kernel) (by decide +kernel)
set_option maxRecDepth 20000 in
theorem gX13_possible_X13_firstOf : GoodIn wsX13_possible (va_wsS RX13 92 yX13_firstOf wsX13_firstOf) := goodIn_app (goodIn_of _ (by decide +kernel)) ggX13_possible_X13_firstOf
set_option maxRecDepth 20000 in
theorem ggX13_possible_X13_leading : GoodIn wsX13_possible wsX13_leading := goodIn_ca (goodIn_r _ [48, 15, 16, 17, 4, 18, 6, 19, 20, 21, 22, 23, 24, 25, 26, 27, 28, 29, 7, 8, 9, 10, 11, 12, 13, 14, 42, 43, 44, 30, 31, 32, 33, 34, 35, 36, 66, 67, 68, 69, 70, 71, 72, 73, 74, 75, 76, 77, 78, 79, 80, 81, 82, 83] (by decide +kernel) (by decide +kernel)) (goodIn_sub (fun _ h => List.mem_cons_of_mem _ (List.mem_append_right _ h)) (by decide +kernel))
set_option maxRecDepth 20000 in
theorem gX13_possible_X13_leading : GoodIn wsX13_possible (wsV RX13 145 RX13 yX13_leading wsX13_leading) := goodIn_app (goodIn_of _ (by decide +kernel)) ggX13_possible_X13_leading
set_option maxRecDepth 20000 in
theorem ggX13_possible_X13_unfit : GoodIn wsX13_possible wsX13_unfit := goodIn_ca (goodIn_r _ [52, 53, 54, 55, 4, 56, 7, 8, 9, 10, 6, 11, 12, 13, 14, 57, 58, 59, 60, 61, 62, 63, 64, 65, 66, 67, 68, 69, 70, 71, 72, 73, 74, 75, 76, 77, 78, 79, 80, 81, 82, 83] (by decide +kernel) (by decide +kernel)) (goodIn_sub (fun _ h => List.mem_cons_of_mem _ (List.mem_append_right _ h)) (by decide +kernel))
set_option maxRecDepth 20000 in
theorem gX13_possible_X13_unfit : GoodIn wsX13_possible (wsV RX13 163 RX13 yX13_unfit wsX13_unfit) := goodIn_app (goodIn_of _ (by decide +kernel)) ggX13_possible_X13_unfit
theorem dX13_possible_0 : decode cX13_possible 0 = .ok (.aload_n 0, 1) := by decide +kernel
theorem dX13_possible_1 : decode cX13_possible 1 = .ok (.iload_n 1, 1) := by decide +kernel
theorem dX13_possible_2 : decode cX13_possible 2 = .ok (.invokevirtual 133, 3) := by decide +kernel
theorem dX13_possible_5 : decode cX13_possible 5 = .ok (.istore_n 3, 1) := by decide +kernel
theorem dX13_possible_6 : decode cX13_possible 6 = .ok (.iload_n 3, 1) := by decide +kernel
theorem dX13_possible_7 : decode cX13_possible 7 = .ok (.iconst (-1), 1) := by decide +kernel
theorem dX13_possible_8 : decode cX13_possible 8 = .ok (.if_icmp .ne 7, 3) := by decide +kernel
theorem dX13_possible_11 : decode cX13_possible 11 = .ok (.iconst 0, 1) := by decide +kernel
theorem dX13_possible_12 : decode cX13_possible 12 = .ok (.goto 8, 3) := by decide +kernel
theorem dX13_possible_15 : decode cX13_possible 15 = .ok (.aload_n 0, 1) := by decide +kernel
theorem dX13_possible_16 : decode cX13_possible 16 = .ok (.iload_n 3, 1) := by decide +kernel
theorem dX13_possible_17 : decode cX13_possible 17 = .ok (.invokevirtual 89, 3) := by decide +kernel
theorem dX13_possible_20 : decode cX13_possible 20 = .ok (.istore 4, 2) := by decide +kernel
theorem dX13_possible_22 : decode cX13_possible 22 = .ok (.aload_n 0, 1) := by decide +kernel
theorem dX13_possible_23 : decode cX13_possible 23 = .ok (.iload_n 3, 1) := by decide +kernel
theorem dX13_possible_24 : decode cX13_possible 24 = .ok (.iconst (-1), 1) := by decide +kernel
theorem dX13_possible_25 : decode cX13_possible 25 = .ok (.if_icmp .eq 7, 3) := by decide +kernel
theorem dX13_possible_28 : decode cX13_possible 28 = .ok (.iconst 1, 1) := by decide +kernel
theorem dX13_possible_29 : decode cX13_possible 29 = .ok (.goto 4, 3) := by decide +kernel
theorem dX13_possible_32 : decode cX13_possible 32 = .ok (.iconst 0, 1) := by decide +kernel
theorem dX13_possible_33 : decode cX13_possible 33 = .ok (.iload_n 2, 1) := by decide +kernel
theorem dX13_possible_34 : decode cX13_possible 34 = .ok (.iconst 0, 1) := by decide +kernel
theorem dX13_possible_35 : decode cX13_possible 35 = .ok (.iload 4, 2) := by decide +kernel
theorem dX13_possible_37 : decode cX13_possible 37 = .ok (.invokestatic 83, 3) := by decide +kernel
theorem dX13_possible_40 : decode cX13_possible 40 = .ok (.invokestatic 63, 3) := by decide +kernel
theorem dX13_possible_43 : decode cX13_possible 43 = .ok (.iconst 1, 1) := by decide +kernel
theorem dX13_possible_44 : decode cX13_possible 44 = .ok (.iconst 1, 1) := by decide +kernel
theorem dX13_possible_45 : decode cX13_possible 45 = .ok (.invokevirtual 41, 3) := by decide +kernel
theorem dX13_possible_48 : decode cX13_possible 48 = .ok (.ifCond .ne 5, 3) := by decide +kernel
theorem dX13_possible_51 : decode cX13_possible 51 = .ok (.iconst 0, 1) := by decide +kernel
theorem dX13_possible_52 : decode cX13_possible 52 = .ok (.ireturn, 1) := by decide +kernel
theorem dX13_possible_53 : decode cX13_possible 53 = .ok (.iload_n 2, 1) := by decide +kernel
theorem dX13_possible_54 : decode cX13_possible 54 = .ok (.aload_n 0, 1) := by decide +kernel
theorem dX13_possible_55 : decode cX13_possible 55 = .ok (.iload_n 3, 1) := by decide +kernel
theorem dX13_possible_56 : decode cX13_possible 56 = .ok (.iconst 1, 1) := by decide +kernel
theorem dX13_possible_57 : decode cX13_possible 57 = .ok (.invokevirtual 67, 3) := by decide +kernel
theorem dX13_possible_60 : decode cX13_possible 60 = .ok (.if_icmp .ge 6, 3) := by decide +kernel
theorem dX13_possible_63 : decode cX13_possible 63 = .ok (.bipush 97, 2) := by decide +kernel
theorem dX13_possible_65 : decode cX13_possible 65 = .ok (.ireturn, 1) := by decide +kernel
theorem dX13_possible_66 : decode cX13_possible 66 = .ok (.aload_n 0, 1) := by decide +kernel
theorem dX13_possible_67 : decode cX13_possible 67 = .ok (.iload_n 3, 1) := by decide +kernel
theorem dX13_possible_68 : decode cX13_possible 68 = .ok (.iload 4, 2) := by decide +kernel
theorem dX13_possible_70 : decode cX13_possible 70 = .ok (.iload_n 2, 1) := by decide +kernel
theorem dX13_possible_71 : decode cX13_possible 71 = .ok (.invokestatic 92, 3) := by decide +kernel
theorem dX13_possible_74 : decode cX13_possible 74 = .ok (.aload_n 0, 1) := by decide +kernel
theorem dX13_possible_75 : decode cX13_possible 75 = .ok (.iload_n 3, 1) := by decide +kernel
theorem dX13_possible_76 : decode cX13_possible 76 = .ok (.invokevirtual 145, 3) := by decide +kernel
theorem dX13_possible_79 : decode cX13_possible 79 = .ok (.invokevirtual 163, 3) := by decide +kernel
theorem dX13_possible_82 : decode cX13_possible 82 = .ok (.ifCond .ne 7, 3) := by decide +kernel
theorem dX13_possible_85 : decode cX13_possible 85 = .ok (.iconst 1, 1) := by decide +kernel
theorem dX13_possible_86 : decode cX13_possible 86 = .ok (.goto 4, 3) := by decide +kernel
theorem dX13_possible_89 : decode cX13_possible 89 = .ok (.iconst 0, 1) := by decide +kernel
theorem dX13_possible_90 : decode cX13_possible 90 = .ok (.ireturn, 1) := by decide +kernel
set_option maxRecDepth 20000 in
theorem ggX13_possibleValues_X13_possible : GoodIn wsX13_possibleValues wsX13_possible := goodIn_ca (goodIn_r _ [5, 6, 7, 8, 4, 9, 10, 11, 12, 13, 14, 15, 16, 17, 18, 19, 20, 21, 22, 23, 24, 25, 26, 27, 28, 29, 30, 31, 32, 33, 34, 35, 36, 37, 38, 39, 40, 41, 42, 43, 44, 45, 46, 47, 48, 49, 50, 51, 52, 53, 54, 55, 56, 57, 58, 59, 60, 61, 62, 63, 64, 65, 66, 67, 68, 69, 70, 71, 72, 73, 74, 75, 76, 77, 78, 79, 80, 81, 82, 83, 84, 85, 86, 87] (by decide +kernel) (by decide +kernel)) (goodIn_sub (fun _ h => List.mem_cons_of_mem _ (List.mem_append_right _ h)) (by decide +kernel))
set_option maxRecDepth 20000 in
theorem gX13_possibleValues_X13_possible : GoodIn wsX13_possibleValues (wsV RX13 169 RX13 yX13_possible wsX13_possible) := goodIn_app (goodIn_of _ (by decide +kernel)) ggX13_possibleValues_X13_possible
theorem dX13_possibleValues_0 : decode cX13_possibleValues 0 = .ok (.aload_n 0, 1) := by decide +kernel
theorem dX13_possibleValues_1 : decode cX13_possibleValues 1 = .ok (.iload_n 1, 1) := by decide +kernel
theorem dX13_possibleValues_2 : decode cX13_possibleValues 2 = .ok (.iload_n 2, 1) := by decide +kernel
theorem dX13_possibleValues_3 : decode cX13_possibleValues 3 = .ok (.invokevirtual 169, 3) := by decide +kernel
theorem dX13_possibleValues_6 : decode cX13_possibleValues 6 = .ok (.ireturn, 1) := by decide +kernel
set_option maxRecDepth 20000 in
theorem ggX13_possibleValuesByTrying_X13_possible : GoodIn wsX13_possibleValuesByTrying wsX13_possible := goodIn_ca (goodIn_r _ [5, 6, 7, 8, 4, 9, 10, 11, 12, 13, 14, 15, 16, 17, 18, 19, 20, 21, 22, 23, 24, 25, 26, 27, 28, 29, 30, 31, 32, 33, 34, 35, 36, 37, 38, 39, 40, 41, 42, 43, 44, 45, 46, 47, 48, 49, 50, 51, 52, 53, 54, 55, 56, 57, 58, 59, 60, 61, 62, 63, 64, 65, 66, 67, 68, 69, 70, 71, 72, 73, 74, 75, 76, 77, 78, 79, 80, 81, 82, 83, 84, 85, 86, 87] (by decide +kernel) (by decide +kernel)) (goodIn_sub (fun _ h => List.mem_cons_of_mem _ (List.mem_append_right _ h)) (by decide +kernel))
set_option maxRecDepth 20000 in
theorem gX13_possibleValuesByTrying_X13_possible : GoodIn wsX13_possibleValuesByTrying (wsV RX13 169 RX13 yX13_possible wsX13_possible) := goodIn_app (goodIn_of _ (by decide +kernel)) ggX13_possibleValuesByTrying_X13_possible
theorem dX13_possibleValuesByTrying_0 : decode cX13_possibleValuesByTrying 0 = .ok (.aload_n 0, 1) := by decide +kernel
theorem dX13_possibleValuesByTrying_1 : decode cX13_possibleValuesByTrying 1 = .ok (.iload_n 1, 1) := by decide +kernel
theorem dX13_possibleValuesByTrying_2 : decode cX13_possibleValuesByTrying 2 = .ok (.iload_n 2, 1) := by decide +kernel
theorem dX13_possibleValuesByTrying_3 : decode cX13_possibleValuesByTrying 3 = .ok (.invokevirtual 169, 3) := by decide +kernel
theorem dX13_possibleValuesByTrying_6 : decode cX13_possibleValuesByTrying 6 = .ok (.ireturn, 1) := by decide +kernel
set_option maxRecDepth 20000 in
theorem ggX13_inverse_X13_isIn : GoodIn wsX13_inverse wsX13_isIn := goodIn_r _ [4] (by decide +kernel) (by decide +kernel)
set_option maxRecDepth 20000 in
theorem gX13_inverse_X13_isIn : GoodIn wsX13_inverse (va_wsS RX13 63 yX13_isIn wsX13_isIn) := goodIn_app (goodIn_of _ (by decide +kernel)) ggX13_inverse_X13_isIn
set_option maxRecDepth 20000 in
theorem ggX13_inverse_X13_goes : GoodIn wsX13_inverse wsX13_goes := goodIn_r _ [8, 9, 10, 11, 3, 12, 13, 17, 18, 19, 20, 21, 22, 23, 24, 25, 26, 27, 28, 29, 30, 31, 32, 33, 34] (by decide +kernel) (by decide +kernel)
set_option maxRecDepth 20000 in
theorem gX13_inverse_X13_goes : GoodIn wsX13_inverse (wsV RX13 55 RX13 yX13_goes wsX13_goes) := goodIn_app (goodIn_of _ (by decide +kernel)) ggX13_inverse_X13_goes
set_option maxRecDepth 20000 in
theorem ggX13_inverse_X13_inverseOf : GoodIn wsX13_inverse wsX13_inverseOf := goodIn_r _ [16] (by decide +kernel) (by decide +kernel)
set_option maxRecDepth 20000 in
theorem gX13_inverse_X13_inverseOf : GoodIn wsX13_inverse (va_wsS RX13 102 yX13_inverseOf wsX13_inverseOf) := goodIn_app (goodIn_of _ (by decide +kernel)) ggX13_inverse_X13_inverseOf
theorem dX13_inverse_0 : decode cX13_inverse 0 = .ok (.aload_n 0, 1) := by decide +kernel
theorem dX13_inverse_1 : decode cX13_inverse 1 = .ok (.iload_n 1, 1) := by decide +kernel
theorem dX13_inverse_2 : decode cX13_inverse 2 = .ok (.iconst 1, 1) := by decide +kernel
theorem dX13_inverse_3 : decode cX13_inverse 3 = .ok (.bipush 96, 2) := by decide +kernel
theorem dX13_inverse_5 : decode cX13_inverse 5 = .ok (.invokestatic 63, 3) := by decide +kernel
theorem dX13_inverse_8 : decode cX13_inverse 8 = .ok (.invokevirtual 55, 3) := by decide +kernel
theorem dX13_inverse_11 : decode cX13_inverse 11 = .ok (.ifCond .eq 10, 3) := by decide +kernel
theorem dX13_inverse_14 : decode cX13_inverse 14 = .ok (.iload_n 1, 1) := by decide +kernel
theorem dX13_inverse_15 : decode cX13_inverse 15 = .ok (.invokestatic 102, 3) := by decide +kernel
theorem dX13_inverse_18 : decode cX13_inverse 18 = .ok (.goto 4, 3) := by decide +kernel
theorem dX13_inverse_21 : decode cX13_inverse 21 = .ok (.iconst 0, 1) := by decide +kernel
theorem dX13_inverse_22 : decode cX13_inverse 22 = .ok (.ireturn, 1) := by decide +kernel
set_option maxRecDepth 20000 in
theorem ggX13_allShares_X13_sharesWith : GoodIn wsX13_allShares wsX13_sharesWith := goodIn_ca (goodIn_r _ [6, 1, 7, 8, 9, 5, 10, 11, 12, 13, 14, 15, 16, 17, 18, 19, 20, 21, 22, 23, 24, 25, 26, 27, 28, 29, 30, 31, 32, 33, 34, 35, 36, 37, 38, 39, 40, 41, 42, 43] (by decide +kernel) (by decide +kernel)) (goodIn_sub (fun _ h => List.mem_cons_of_mem _ (List.mem_append_right _ h)) (by decide +kernel))
set_option maxRecDepth 20000 in
theorem gX13_allShares_X13_sharesWith : GoodIn wsX13_allShares (wsV RX13 157 RX13 yX13_sharesWith wsX13_sharesWith) := goodIn_app (goodIn_of _ (by decide +kernel)) ggX13_allShares_X13_sharesWith
theorem dX13_allShares_0 : decode cX13_allShares 0 = .ok (.iconst 0, 1) := by decide +kernel
theorem dX13_allShares_1 : decode cX13_allShares 1 = .ok (.istore_n 1, 1) := by decide +kernel
theorem dX13_allShares_2 : decode cX13_allShares 2 = .ok (.iconst 0, 1) := by decide +kernel
theorem dX13_allShares_3 : decode cX13_allShares 3 = .ok (.istore_n 2, 1) := by decide +kernel
theorem dX13_allShares_4 : decode cX13_allShares 4 = .ok (.iload_n 2, 1) := by decide +kernel
theorem dX13_allShares_5 : decode cX13_allShares 5 = .ok (.aload_n 0, 1) := by decide +kernel
theorem dX13_allShares_6 : decode cX13_allShares 6 = .ok (.getfield 9, 3) := by decide +kernel
theorem dX13_allShares_9 : decode cX13_allShares 9 = .ok (.iconst 0, 1) := by decide +kernel
theorem dX13_allShares_10 : decode cX13_allShares 10 = .ok (.iaload, 1) := by decide +kernel
theorem dX13_allShares_11 : decode cX13_allShares 11 = .ok (.if_icmp .ge 17, 3) := by decide +kernel
theorem dX13_allShares_14 : decode cX13_allShares 14 = .ok (.iload_n 1, 1) := by decide +kernel
theorem dX13_allShares_15 : decode cX13_allShares 15 = .ok (.aload_n 0, 1) := by decide +kernel
theorem dX13_allShares_16 : decode cX13_allShares 16 = .ok (.iload_n 2, 1) := by decide +kernel
theorem dX13_allShares_17 : decode cX13_allShares 17 = .ok (.invokevirtual 157, 3) := by decide +kernel
theorem dX13_allShares_20 : decode cX13_allShares 20 = .ok (.iadd, 1) := by decide +kernel
theorem dX13_allShares_21 : decode cX13_allShares 21 = .ok (.istore_n 1, 1) := by decide +kernel
theorem dX13_allShares_22 : decode cX13_allShares 22 = .ok (.iinc 2 1, 3) := by decide +kernel
theorem dX13_allShares_25 : decode cX13_allShares 25 = .ok (.goto (-21), 3) := by decide +kernel
theorem dX13_allShares_28 : decode cX13_allShares 28 = .ok (.iload_n 1, 1) := by decide +kernel
theorem dX13_allShares_29 : decode cX13_allShares 29 = .ok (.ireturn, 1) := by decide +kernel
set_option maxRecDepth 20000 in
theorem ggX13_shareTotal_X13_allShares : GoodIn wsX13_shareTotal wsX13_allShares := goodIn_ca (goodIn_r _ [6, 7, 8, 9, 10, 5, 11, 12, 13, 14, 15, 16, 17, 18, 19, 20, 21, 22, 23, 24, 25, 26, 27, 28, 29, 30, 31, 32, 33, 34, 35, 36, 37, 38, 39, 40, 41, 42, 43, 44, 45, 46, 47, 48] (by decide +kernel) (by decide +kernel)) (goodIn_sub (fun _ h => List.mem_cons_of_mem _ (List.mem_append_right _ h)) (by decide +kernel))
set_option maxRecDepth 20000 in
theorem gX13_shareTotal_X13_allShares : GoodIn wsX13_shareTotal (wsV RX13 172 RX13 yX13_allShares wsX13_allShares) := goodIn_app (goodIn_of _ (by decide +kernel)) ggX13_shareTotal_X13_allShares
theorem dX13_shareTotal_0 : decode cX13_shareTotal 0 = .ok (.aload_n 0, 1) := by decide +kernel
theorem dX13_shareTotal_1 : decode cX13_shareTotal 1 = .ok (.iconst 0, 1) := by decide +kernel
theorem dX13_shareTotal_2 : decode cX13_shareTotal 2 = .ok (.putfield 38, 3) := by decide +kernel
theorem dX13_shareTotal_5 : decode cX13_shareTotal 5 = .ok (.aload_n 0, 1) := by decide +kernel
theorem dX13_shareTotal_6 : decode cX13_shareTotal 6 = .ok (.invokevirtual 172, 3) := by decide +kernel
theorem dX13_shareTotal_9 : decode cX13_shareTotal 9 = .ok (.ireturn, 1) := by decide +kernel
theorem dX13_lostTotal_0 : decode cX13_lostTotal 0 = .ok (.aload_n 0, 1) := by decide +kernel
theorem dX13_lostTotal_1 : decode cX13_lostTotal 1 = .ok (.iconst 0, 1) := by decide +kernel
theorem dX13_lostTotal_2 : decode cX13_lostTotal 2 = .ok (.putfield 38, 3) := by decide +kernel
theorem dX13_lostTotal_5 : decode cX13_lostTotal 5 = .ok (.aload_n 0, 1) := by decide +kernel
theorem dX13_lostTotal_6 : decode cX13_lostTotal 6 = .ok (.getfield 9, 3) := by decide +kernel
theorem dX13_lostTotal_9 : decode cX13_lostTotal 9 = .ok (.iconst 3, 1) := by decide +kernel
theorem dX13_lostTotal_10 : decode cX13_lostTotal 10 = .ok (.iaload, 1) := by decide +kernel
theorem dX13_lostTotal_11 : decode cX13_lostTotal 11 = .ok (.i2l, 1) := by decide +kernel
theorem dX13_lostTotal_12 : decode cX13_lostTotal 12 = .ok (.lreturn, 1) := by decide +kernel
set_option maxRecDepth 20000 in
theorem ggX13_meanShares_X13_goes : GoodIn wsX13_meanShares wsX13_goes := goodIn_r _ [6, 7, 8, 9, 5, 10, 11, 39, 40, 41, 42, 43, 44, 45, 46, 47, 48, 49, 50, 51, 52, 53, 54, 55, 56] (by decide +kernel) (by decide +kernel)
set_option maxRecDepth 20000 in
theorem gX13_meanShares_X13_goes : GoodIn wsX13_meanShares (wsV RX13 55 RX13 yX13_goes wsX13_goes) := goodIn_app (goodIn_of _ (by decide +kernel)) ggX13_meanShares_X13_goes
set_option maxRecDepth 20000 in
theorem ggX13_meanShares_X13_allShares : GoodIn wsX13_meanShares wsX13_allShares := goodIn_ca (goodIn_r _ [15, 1, 16, 17, 18, 5, 19, 20, 21, 22, 23, 24, 25, 26, 27, 28, 29, 30, 31, 32, 33, 34, 35, 36, 37, 38, 39, 40, 41, 42, 43, 44, 45, 46, 47, 48, 49, 50, 51, 52, 53, 54, 55, 56] (by decide +kernel) (by decide +kernel)) (goodIn_sub (fun _ h => List.mem_cons_of_mem _ (List.mem_append_right _ h)) (by decide +kernel))
set_option maxRecDepth 20000 in
theorem gX13_meanShares_X13_allShares : GoodIn wsX13_meanShares (wsV RX13 172 RX13 yX13_allShares wsX13_allShares) := goodIn_app (goodIn_of _ (by decide +kernel)) ggX13_meanShares_X13_allShares
theorem dX13_meanShares_0 : decode cX13_meanShares 0 = .ok (.aload_n 0, 1) := by decide +kernel
theorem dX13_meanShares_1 : decode cX13_meanShares 1 = .ok (.aload_n 0, 1) := by decide +kernel
theorem dX13_meanShares_2 : decode cX13_meanShares 2 = .ok (.getfield 9, 3) := by decide +kernel
theorem dX13_meanShares_5 : decode cX13_meanShares 5 = .ok (.iconst 0, 1) := by decide +kernel
theorem dX13_meanShares_6 : decode cX13_meanShares 6 = .ok (.iaload, 1) := by decide +kernel
theorem dX13_meanShares_7 : decode cX13_meanShares 7 = .ok (.ifCond .le 7, 3) := by decide +kernel
theorem dX13_meanShares_10 : decode cX13_meanShares 10 = .ok (.iconst 1, 1) := by decide +kernel
theorem dX13_meanShares_11 : decode cX13_meanShares 11 = .ok (.goto 4, 3) := by decide +kernel
theorem dX13_meanShares_14 : decode cX13_meanShares 14 = .ok (.iconst 0, 1) := by decide +kernel
theorem dX13_meanShares_15 : decode cX13_meanShares 15 = .ok (.invokevirtual 55, 3) := by decide +kernel
theorem dX13_meanShares_18 : decode cX13_meanShares 18 = .ok (.ifCond .eq 19, 3) := by decide +kernel
theorem dX13_meanShares_21 : decode cX13_meanShares 21 = .ok (.aload_n 0, 1) := by decide +kernel
theorem dX13_meanShares_22 : decode cX13_meanShares 22 = .ok (.invokevirtual 172, 3) := by decide +kernel
theorem dX13_meanShares_25 : decode cX13_meanShares 25 = .ok (.i2d, 1) := by decide +kernel
theorem dX13_meanShares_26 : decode cX13_meanShares 26 = .ok (.aload_n 0, 1) := by decide +kernel
theorem dX13_meanShares_27 : decode cX13_meanShares 27 = .ok (.getfield 9, 3) := by decide +kernel
theorem dX13_meanShares_30 : decode cX13_meanShares 30 = .ok (.iconst 0, 1) := by decide +kernel
theorem dX13_meanShares_31 : decode cX13_meanShares 31 = .ok (.iaload, 1) := by decide +kernel
theorem dX13_meanShares_32 : decode cX13_meanShares 32 = .ok (.i2d, 1) := by decide +kernel
theorem dX13_meanShares_33 : decode cX13_meanShares 33 = .ok (.ddiv, 1) := by decide +kernel
theorem dX13_meanShares_34 : decode cX13_meanShares 34 = .ok (.goto 4, 3) := by decide +kernel
theorem dX13_meanShares_37 : decode cX13_meanShares 37 = .ok (.dconst 0, 1) := by decide +kernel
theorem dX13_meanShares_38 : decode cX13_meanShares 38 = .ok (.dreturn, 1) := by decide +kernel
set_option maxRecDepth 20000 in
theorem ggX13_rebuildableShare_X13_isEnough : GoodIn wsX13_rebuildableShare wsX13_isEnough := goodIn_ca (goodIn_r _ [6, 7, 8, 9, 5, 10, 1, 11, 12, 13, 14, 15, 16, 17, 18, 19, 20, 21, 22, 23, 24, 25, 26, 27, 28, 29, 30, 31, 32, 33, 34, 35, 36, 46, 47, 48, 49, 50, 51, 52, 53, 54, 55, 56, 57, 58, 59, 60, 61, 62, 63] (by decide +kernel) (by decide +kernel)) (goodIn_sub (fun _ h => List.mem_cons_of_mem _ (List.mem_append_right _ h)) (by decide +kernel))
set_option maxRecDepth 20000 in
theorem gX13_rebuildableShare_X13_isEnough : GoodIn wsX13_rebuildableShare (wsV RX13 142 RX13 yX13_isEnough wsX13_isEnough) := goodIn_app (goodIn_of _ (by decide +kernel)) ggX13_rebuildableShare_X13_isEnough
set_option maxRecDepth 20000 in
theorem ggX13_rebuildableShare_X13_goes : GoodIn wsX13_rebuildableShare wsX13_goes := goodIn_r _ [40, 41, 42, 43, 5, 44, 45, 46, 47, 48, 49, 50, 51, 52, 53, 54, 55, 56, 57, 58, 59, 60, 61, 62, 63] (by decide +kernel) (by decide +kernel)
set_option maxRecDepth 20000 in
theorem gX13_rebuildableShare_X13_goes : GoodIn wsX13_rebuildableShare (wsV RX13 55 RX13 yX13_goes wsX13_goes) := goodIn_app (goodIn_of _ (by decide +kernel)) ggX13_rebuildableShare_X13_goes
theorem dX13_rebuildableShare_0 : decode cX13_rebuildableShare 0 = .ok (.iconst 0, 1) := by decide +kernel
theorem dX13_rebuildableShare_1 : decode cX13_rebuildableShare 1 = .ok (.istore_n 1, 1) := by decide +kernel
theorem dX13_rebuildableShare_2 : decode cX13_rebuildableShare 2 = .ok (.iconst 0, 1) := by decide +kernel
theorem dX13_rebuildableShare_3 : decode cX13_rebuildableShare 3 = .ok (.istore_n 2, 1) := by decide +kernel
theorem dX13_rebuildableShare_4 : decode cX13_rebuildableShare 4 = .ok (.iload_n 2, 1) := by decide +kernel
theorem dX13_rebuildableShare_5 : decode cX13_rebuildableShare 5 = .ok (.aload_n 0, 1) := by decide +kernel
theorem dX13_rebuildableShare_6 : decode cX13_rebuildableShare 6 = .ok (.getfield 9, 3) := by decide +kernel
theorem dX13_rebuildableShare_9 : decode cX13_rebuildableShare 9 = .ok (.iconst 1, 1) := by decide +kernel
theorem dX13_rebuildableShare_10 : decode cX13_rebuildableShare 10 = .ok (.iaload, 1) := by decide +kernel
theorem dX13_rebuildableShare_11 : decode cX13_rebuildableShare 11 = .ok (.if_icmp .ge 25, 3) := by decide +kernel
theorem dX13_rebuildableShare_14 : decode cX13_rebuildableShare 14 = .ok (.iload_n 1, 1) := by decide +kernel
theorem dX13_rebuildableShare_15 : decode cX13_rebuildableShare 15 = .ok (.aload_n 0, 1) := by decide +kernel
theorem dX13_rebuildableShare_16 : decode cX13_rebuildableShare 16 = .ok (.iload_n 2, 1) := by decide +kernel
theorem dX13_rebuildableShare_17 : decode cX13_rebuildableShare 17 = .ok (.invokevirtual 142, 3) := by decide +kernel
theorem dX13_rebuildableShare_20 : decode cX13_rebuildableShare 20 = .ok (.ifCond .eq 7, 3) := by decide +kernel
theorem dX13_rebuildableShare_23 : decode cX13_rebuildableShare 23 = .ok (.iconst 1, 1) := by decide +kernel
theorem dX13_rebuildableShare_24 : decode cX13_rebuildableShare 24 = .ok (.goto 4, 3) := by decide +kernel
theorem dX13_rebuildableShare_27 : decode cX13_rebuildableShare 27 = .ok (.iconst 0, 1) := by decide +kernel
theorem dX13_rebuildableShare_28 : decode cX13_rebuildableShare 28 = .ok (.iadd, 1) := by decide +kernel
theorem dX13_rebuildableShare_29 : decode cX13_rebuildableShare 29 = .ok (.istore_n 1, 1) := by decide +kernel
theorem dX13_rebuildableShare_30 : decode cX13_rebuildableShare 30 = .ok (.iinc 2 1, 3) := by decide +kernel
theorem dX13_rebuildableShare_33 : decode cX13_rebuildableShare 33 = .ok (.goto (-29), 3) := by decide +kernel
theorem dX13_rebuildableShare_36 : decode cX13_rebuildableShare 36 = .ok (.aload_n 0, 1) := by decide +kernel
theorem dX13_rebuildableShare_37 : decode cX13_rebuildableShare 37 = .ok (.aload_n 0, 1) := by decide +kernel
theorem dX13_rebuildableShare_38 : decode cX13_rebuildableShare 38 = .ok (.getfield 9, 3) := by decide +kernel
theorem dX13_rebuildableShare_41 : decode cX13_rebuildableShare 41 = .ok (.iconst 1, 1) := by decide +kernel
theorem dX13_rebuildableShare_42 : decode cX13_rebuildableShare 42 = .ok (.iaload, 1) := by decide +kernel
theorem dX13_rebuildableShare_43 : decode cX13_rebuildableShare 43 = .ok (.ifCond .le 7, 3) := by decide +kernel
theorem dX13_rebuildableShare_46 : decode cX13_rebuildableShare 46 = .ok (.iconst 1, 1) := by decide +kernel
theorem dX13_rebuildableShare_47 : decode cX13_rebuildableShare 47 = .ok (.goto 4, 3) := by decide +kernel
theorem dX13_rebuildableShare_50 : decode cX13_rebuildableShare 50 = .ok (.iconst 0, 1) := by decide +kernel
theorem dX13_rebuildableShare_51 : decode cX13_rebuildableShare 51 = .ok (.invokevirtual 55, 3) := by decide +kernel
theorem dX13_rebuildableShare_54 : decode cX13_rebuildableShare 54 = .ok (.ifCond .eq 16, 3) := by decide +kernel
theorem dX13_rebuildableShare_57 : decode cX13_rebuildableShare 57 = .ok (.iload_n 1, 1) := by decide +kernel
theorem dX13_rebuildableShare_58 : decode cX13_rebuildableShare 58 = .ok (.i2f, 1) := by decide +kernel
theorem dX13_rebuildableShare_59 : decode cX13_rebuildableShare 59 = .ok (.aload_n 0, 1) := by decide +kernel
theorem dX13_rebuildableShare_60 : decode cX13_rebuildableShare 60 = .ok (.getfield 9, 3) := by decide +kernel
theorem dX13_rebuildableShare_63 : decode cX13_rebuildableShare 63 = .ok (.iconst 1, 1) := by decide +kernel
theorem dX13_rebuildableShare_64 : decode cX13_rebuildableShare 64 = .ok (.iaload, 1) := by decide +kernel
theorem dX13_rebuildableShare_65 : decode cX13_rebuildableShare 65 = .ok (.i2f, 1) := by decide +kernel
theorem dX13_rebuildableShare_66 : decode cX13_rebuildableShare 66 = .ok (.fdiv, 1) := by decide +kernel
theorem dX13_rebuildableShare_67 : decode cX13_rebuildableShare 67 = .ok (.goto 4, 3) := by decide +kernel
theorem dX13_rebuildableShare_70 : decode cX13_rebuildableShare 70 = .ok (.fconst 0, 1) := by decide +kernel
theorem dX13_rebuildableShare_71 : decode cX13_rebuildableShare 71 = .ok (.freturn, 1) := by decide +kernel
theorem dX13_isConsistent_0 : decode cX13_isConsistent 0 = .ok (.aload_n 0, 1) := by decide +kernel
theorem dX13_isConsistent_1 : decode cX13_isConsistent 1 = .ok (.iconst 0, 1) := by decide +kernel
theorem dX13_isConsistent_2 : decode cX13_isConsistent 2 = .ok (.putfield 38, 3) := by decide +kernel
theorem dX13_isConsistent_5 : decode cX13_isConsistent 5 = .ok (.iconst 1, 1) := by decide +kernel
theorem dX13_isConsistent_6 : decode cX13_isConsistent 6 = .ok (.ireturn, 1) := by decide +kernel
theorem dX13_put_0 : decode cX13_put 0 = .ok (.aload_n 0, 1) := by decide +kernel
theorem dX13_put_1 : decode cX13_put 1 = .ok (.getfield 32, 3) := by decide +kernel
theorem dX13_put_4 : decode cX13_put 4 = .ok (.iload_n 1, 1) := by decide +kernel
theorem dX13_put_5 : decode cX13_put 5 = .ok (.iload_n 2, 1) := by decide +kernel
theorem dX13_put_6 : decode cX13_put 6 = .ok (.iastore, 1) := by decide +kernel
theorem dX13_put_7 : decode cX13_put 7 = .ok (.iload_n 1, 1) := by decide +kernel
theorem dX13_put_8 : decode cX13_put 8 = .ok (.iconst 1, 1) := by decide +kernel
theorem dX13_put_9 : decode cX13_put 9 = .ok (.iadd, 1) := by decide +kernel
theorem dX13_put_10 : decode cX13_put 10 = .ok (.ireturn, 1) := by decide +kernel
set_option maxRecDepth 20000 in
theorem ggX13_writesNumber_X13_put : GoodIn wsX13_writesNumber wsX13_put := goodIn_ca (goodIn_r _ [5, 6, 7, 8, 9, 10, 11, 12, 13, 14, 15, 16, 17, 18, 19, 20, 21, 22, 23, 24] (by decide +kernel) (by decide +kernel)) (goodIn_sub (fun _ h => List.mem_cons_of_mem _ (List.mem_append_right _ h)) (by decide +kernel))
set_option maxRecDepth 20000 in
theorem gX13_writesNumber_X13_put : GoodIn wsX13_writesNumber (wsV RX13 176 RX13 yX13_put wsX13_put) := goodIn_app (goodIn_of _ (by decide +kernel)) ggX13_writesNumber_X13_put
theorem dX13_writesNumber_0 : decode cX13_writesNumber 0 = .ok (.iload_n 1, 1) := by decide +kernel
theorem dX13_writesNumber_1 : decode cX13_writesNumber 1 = .ok (.istore_n 3, 1) := by decide +kernel
theorem dX13_writesNumber_2 : decode cX13_writesNumber 2 = .ok (.iconst 1, 1) := by decide +kernel
theorem dX13_writesNumber_3 : decode cX13_writesNumber 3 = .ok (.istore 4, 2) := by decide +kernel
theorem dX13_writesNumber_5 : decode cX13_writesNumber 5 = .ok (.iload_n 2, 1) := by decide +kernel
theorem dX13_writesNumber_6 : decode cX13_writesNumber 6 = .ok (.iload 4, 2) := by decide +kernel
theorem dX13_writesNumber_8 : decode cX13_writesNumber 8 = .ok (.idiv, 1) := by decide +kernel
theorem dX13_writesNumber_9 : decode cX13_writesNumber 9 = .ok (.bipush 9, 2) := by decide +kernel
theorem dX13_writesNumber_11 : decode cX13_writesNumber 11 = .ok (.if_icmp .le 13, 3) := by decide +kernel
theorem dX13_writesNumber_14 : decode cX13_writesNumber 14 = .ok (.iload 4, 2) := by decide +kernel
theorem dX13_writesNumber_16 : decode cX13_writesNumber 16 = .ok (.bipush 10, 2) := by decide +kernel
theorem dX13_writesNumber_18 : decode cX13_writesNumber 18 = .ok (.imul, 1) := by decide +kernel
theorem dX13_writesNumber_19 : decode cX13_writesNumber 19 = .ok (.istore 4, 2) := by decide +kernel
theorem dX13_writesNumber_21 : decode cX13_writesNumber 21 = .ok (.goto (-16), 3) := by decide +kernel
theorem dX13_writesNumber_24 : decode cX13_writesNumber 24 = .ok (.iload 4, 2) := by decide +kernel
theorem dX13_writesNumber_26 : decode cX13_writesNumber 26 = .ok (.istore 5, 2) := by decide +kernel
theorem dX13_writesNumber_28 : decode cX13_writesNumber 28 = .ok (.iload 5, 2) := by decide +kernel
theorem dX13_writesNumber_30 : decode cX13_writesNumber 30 = .ok (.ifCond .le 29, 3) := by decide +kernel
theorem dX13_writesNumber_33 : decode cX13_writesNumber 33 = .ok (.aload_n 0, 1) := by decide +kernel
theorem dX13_writesNumber_34 : decode cX13_writesNumber 34 = .ok (.iload_n 3, 1) := by decide +kernel
theorem dX13_writesNumber_35 : decode cX13_writesNumber 35 = .ok (.bipush 48, 2) := by decide +kernel
theorem dX13_writesNumber_37 : decode cX13_writesNumber 37 = .ok (.iload_n 2, 1) := by decide +kernel
theorem dX13_writesNumber_38 : decode cX13_writesNumber 38 = .ok (.iload 5, 2) := by decide +kernel
theorem dX13_writesNumber_40 : decode cX13_writesNumber 40 = .ok (.idiv, 1) := by decide +kernel
theorem dX13_writesNumber_41 : decode cX13_writesNumber 41 = .ok (.bipush 10, 2) := by decide +kernel
theorem dX13_writesNumber_43 : decode cX13_writesNumber 43 = .ok (.irem, 1) := by decide +kernel
theorem dX13_writesNumber_44 : decode cX13_writesNumber 44 = .ok (.iadd, 1) := by decide +kernel
theorem dX13_writesNumber_45 : decode cX13_writesNumber 45 = .ok (.invokevirtual 176, 3) := by decide +kernel
theorem dX13_writesNumber_48 : decode cX13_writesNumber 48 = .ok (.istore_n 3, 1) := by decide +kernel
theorem dX13_writesNumber_49 : decode cX13_writesNumber 49 = .ok (.iload 5, 2) := by decide +kernel
theorem dX13_writesNumber_51 : decode cX13_writesNumber 51 = .ok (.bipush 10, 2) := by decide +kernel
theorem dX13_writesNumber_53 : decode cX13_writesNumber 53 = .ok (.idiv, 1) := by decide +kernel
theorem dX13_writesNumber_54 : decode cX13_writesNumber 54 = .ok (.istore 5, 2) := by decide +kernel
theorem dX13_writesNumber_56 : decode cX13_writesNumber 56 = .ok (.goto (-28), 3) := by decide +kernel
theorem dX13_writesNumber_59 : decode cX13_writesNumber 59 = .ok (.iload_n 3, 1) := by decide +kernel
theorem dX13_writesNumber_60 : decode cX13_writesNumber 60 = .ok (.ireturn, 1) := by decide +kernel
set_option maxRecDepth 20000 in
theorem ggX13_writeSecret_X13_find : GoodIn wsX13_writeSecret wsX13_find := goodIn_ca (goodIn_r _ [7, 1, 8, 9, 10, 6, 11, 12, 13, 14, 15, 45, 46, 47, 48, 49, 50, 51, 52, 53, 54, 55, 56, 57, 58, 59, 60, 61, 62] (by decide +kernel) (by decide +kernel)) (goodIn_sub (fun _ h => List.mem_cons_of_mem _ (List.mem_append_left _ (List.mem_append_right _ h))) (by decide +kernel))
set_option maxRecDepth 20000 in
theorem gX13_writeSecret_X13_find : GoodIn wsX13_writeSecret (wsV RX13 133 RX13 yX13_find wsX13_find) := goodIn_app (goodIn_of _ (by decide +kernel)) ggX13_writeSecret_X13_find
set_option maxRecDepth 20000 in
theorem ggX13_writeSecret_X13_goes : GoodIn wsX13_writeSecret wsX13_goes := goodIn_r _ [19, 20, 21, 22, 6, 23, 24, 45, 46, 47, 48, 49, 50, 51, 52, 53, 54, 55, 56, 57, 58, 59, 60, 61, 62] (by decide +kernel) (by decide +kernel)
set_option maxRecDepth 20000 in
theorem gX13_writeSecret_X13_goes : GoodIn wsX13_writeSecret (wsV RX13 55 RX13 yX13_goes wsX13_goes) := goodIn_app (goodIn_of _ (by decide +kernel)) ggX13_writeSecret_X13_goes
set_option maxRecDepth 20000 in
theorem ggX13_writeSecret_X13_writesNumber : GoodIn wsX13_writeSecret wsX13_writesNumber := goodIn_ca (goodIn_ca (goodIn_r _ [28, 29, 30, 31, 6, 32, 33, 45, 46, 47, 48, 49, 50, 51, 52, 53, 54, 55, 56, 57, 58, 59, 60, 61, 62] (by decide +kernel) (by decide +kernel)) (goodIn_sub (fun _ h => List.mem_cons_of_mem _ (List.mem_append_right _ h)) (by decide +kernel))) (goodIn_sub (fun _ h => List.mem_cons_of_mem _ (List.mem_append_left _ (List.mem_append_right _ h))) (by decide +kernel))
set_option maxRecDepth 20000 in
theorem gX13_writeSecret_X13_writesNumber : GoodIn wsX13_writeSecret (wsV RX13 179 RX13 yX13_writesNumber wsX13_writesNumber) := goodIn_app (goodIn_of _ (by decide +kernel)) ggX13_writeSecret_X13_writesNumber
set_option maxRecDepth 20000 in
theorem ggX13_writeSecret_X13_put : GoodIn wsX13_writeSecret wsX13_put := goodIn_ca (goodIn_r _ [32, 33, 45, 46, 47, 48, 49, 50, 51, 52, 53, 54, 55, 56, 57, 58, 59, 60, 61, 62] (by decide +kernel) (by decide +kernel)) (goodIn_sub (fun _ h => List.mem_cons_of_mem _ (List.mem_append_left _ (List.mem_append_right _ h))) (by decide +kernel))
set_option maxRecDepth 20000 in
theorem gX13_writeSecret_X13_put : GoodIn wsX13_writeSecret (wsV RX13 176 RX13 yX13_put wsX13_put) := goodIn_app (goodIn_of _ (by decide +kernel)) ggX13_writeSecret_X13_put
set_option maxRecDepth 20000 in
theorem ggX13_writeSecret_X13_of : GoodIn wsX13_writeSecret wsX13_of := goodIn_ca (goodIn_r _ [11, 1, 12, 13, 14, 15, 45, 46, 47, 48, 49, 50, 51, 52, 53, 54, 55, 56, 57, 58, 59, 60, 61, 62] (by decide +kernel) (by decide +kernel)) (goodIn_sub (fun _ h => List.mem_cons_of_mem _ (List.mem_append_left _ (List.mem_append_right _ h))) (by decide +kernel))
set_option maxRecDepth 20000 in
theorem gX13_writeSecret_X13_of : GoodIn wsX13_writeSecret (wsV RX13 67 RX13 yX13_of wsX13_of) := goodIn_app (goodIn_of _ (by decide +kernel)) ggX13_writeSecret_X13_of
set_option maxRecDepth 20000 in
theorem ggX13_writeSecret_X13_shareOf : GoodIn wsX13_writeSecret wsX13_shareOf := goodIn_ca (goodIn_r _ [37, 38, 39, 40, 6, 41, 1, 42, 43, 44, 8, 9, 10, 11, 12, 13, 14, 15, 45, 46, 47, 48, 49, 50, 51, 52, 53, 54, 55, 56, 57, 58, 59, 60, 61, 62] (by decide +kernel) (by decide +kernel)) (goodIn_sub (fun _ h => List.mem_cons_of_mem _ (List.mem_append_left _ (List.mem_append_right _ h))) (by decide +kernel))
set_option maxRecDepth 20000 in
theorem gX13_writeSecret_X13_shareOf : GoodIn wsX13_writeSecret (wsV RX13 80 RX13 yX13_shareOf wsX13_shareOf) := goodIn_app (goodIn_of _ (by decide +kernel)) ggX13_writeSecret_X13_shareOf
theorem dX13_writeSecret_0 : decode cX13_writeSecret 0 = .ok (.aload_n 0, 1) := by decide +kernel
theorem dX13_writeSecret_1 : decode cX13_writeSecret 1 = .ok (.iload_n 1, 1) := by decide +kernel
theorem dX13_writeSecret_2 : decode cX13_writeSecret 2 = .ok (.invokevirtual 133, 3) := by decide +kernel
theorem dX13_writeSecret_5 : decode cX13_writeSecret 5 = .ok (.istore_n 2, 1) := by decide +kernel
theorem dX13_writeSecret_6 : decode cX13_writeSecret 6 = .ok (.aload_n 0, 1) := by decide +kernel
theorem dX13_writeSecret_7 : decode cX13_writeSecret 7 = .ok (.iload_n 2, 1) := by decide +kernel
theorem dX13_writeSecret_8 : decode cX13_writeSecret 8 = .ok (.iconst (-1), 1) := by decide +kernel
theorem dX13_writeSecret_9 : decode cX13_writeSecret 9 = .ok (.if_icmp .eq 7, 3) := by decide +kernel
theorem dX13_writeSecret_12 : decode cX13_writeSecret 12 = .ok (.iconst 1, 1) := by decide +kernel
theorem dX13_writeSecret_13 : decode cX13_writeSecret 13 = .ok (.goto 4, 3) := by decide +kernel
theorem dX13_writeSecret_16 : decode cX13_writeSecret 16 = .ok (.iconst 0, 1) := by decide +kernel
theorem dX13_writeSecret_17 : decode cX13_writeSecret 17 = .ok (.invokevirtual 55, 3) := by decide +kernel
theorem dX13_writeSecret_20 : decode cX13_writeSecret 20 = .ok (.ifCond .ne 5, 3) := by decide +kernel
theorem dX13_writeSecret_23 : decode cX13_writeSecret 23 = .ok (.iconst 0, 1) := by decide +kernel
theorem dX13_writeSecret_24 : decode cX13_writeSecret 24 = .ok (.ireturn, 1) := by decide +kernel
theorem dX13_writeSecret_25 : decode cX13_writeSecret 25 = .ok (.aload_n 0, 1) := by decide +kernel
theorem dX13_writeSecret_26 : decode cX13_writeSecret 26 = .ok (.aload_n 0, 1) := by decide +kernel
theorem dX13_writeSecret_27 : decode cX13_writeSecret 27 = .ok (.aload_n 0, 1) := by decide +kernel
theorem dX13_writeSecret_28 : decode cX13_writeSecret 28 = .ok (.iconst 0, 1) := by decide +kernel
theorem dX13_writeSecret_29 : decode cX13_writeSecret 29 = .ok (.iload_n 1, 1) := by decide +kernel
theorem dX13_writeSecret_30 : decode cX13_writeSecret 30 = .ok (.invokevirtual 179, 3) := by decide +kernel
theorem dX13_writeSecret_33 : decode cX13_writeSecret 33 = .ok (.bipush 47, 2) := by decide +kernel
theorem dX13_writeSecret_35 : decode cX13_writeSecret 35 = .ok (.invokevirtual 176, 3) := by decide +kernel
theorem dX13_writeSecret_38 : decode cX13_writeSecret 38 = .ok (.aload_n 0, 1) := by decide +kernel
theorem dX13_writeSecret_39 : decode cX13_writeSecret 39 = .ok (.iload_n 2, 1) := by decide +kernel
theorem dX13_writeSecret_40 : decode cX13_writeSecret 40 = .ok (.iconst 1, 1) := by decide +kernel
theorem dX13_writeSecret_41 : decode cX13_writeSecret 41 = .ok (.invokevirtual 67, 3) := by decide +kernel
theorem dX13_writeSecret_44 : decode cX13_writeSecret 44 = .ok (.invokevirtual 179, 3) := by decide +kernel
theorem dX13_writeSecret_47 : decode cX13_writeSecret 47 = .ok (.istore_n 3, 1) := by decide +kernel
theorem dX13_writeSecret_48 : decode cX13_writeSecret 48 = .ok (.iconst 0, 1) := by decide +kernel
theorem dX13_writeSecret_49 : decode cX13_writeSecret 49 = .ok (.istore 4, 2) := by decide +kernel
theorem dX13_writeSecret_51 : decode cX13_writeSecret 51 = .ok (.iload 4, 2) := by decide +kernel
theorem dX13_writeSecret_53 : decode cX13_writeSecret 53 = .ok (.aload_n 0, 1) := by decide +kernel
theorem dX13_writeSecret_54 : decode cX13_writeSecret 54 = .ok (.getfield 9, 3) := by decide +kernel
theorem dX13_writeSecret_57 : decode cX13_writeSecret 57 = .ok (.iconst 0, 1) := by decide +kernel
theorem dX13_writeSecret_58 : decode cX13_writeSecret 58 = .ok (.iaload, 1) := by decide +kernel
theorem dX13_writeSecret_59 : decode cX13_writeSecret 59 = .ok (.if_icmp .ge 54, 3) := by decide +kernel
theorem dX13_writeSecret_62 : decode cX13_writeSecret 62 = .ok (.aload_n 0, 1) := by decide +kernel
theorem dX13_writeSecret_63 : decode cX13_writeSecret 63 = .ok (.iload 4, 2) := by decide +kernel
theorem dX13_writeSecret_65 : decode cX13_writeSecret 65 = .ok (.iload_n 2, 1) := by decide +kernel
theorem dX13_writeSecret_66 : decode cX13_writeSecret 66 = .ok (.invokevirtual 80, 3) := by decide +kernel
theorem dX13_writeSecret_69 : decode cX13_writeSecret 69 = .ok (.istore 5, 2) := by decide +kernel
theorem dX13_writeSecret_71 : decode cX13_writeSecret 71 = .ok (.iload 5, 2) := by decide +kernel
theorem dX13_writeSecret_73 : decode cX13_writeSecret 73 = .ok (.iconst (-1), 1) := by decide +kernel
theorem dX13_writeSecret_74 : decode cX13_writeSecret 74 = .ok (.if_icmp .ne 7, 3) := by decide +kernel
theorem dX13_writeSecret_77 : decode cX13_writeSecret 77 = .ok (.iload_n 3, 1) := by decide +kernel
theorem dX13_writeSecret_78 : decode cX13_writeSecret 78 = .ok (.goto 28, 3) := by decide +kernel
theorem dX13_writeSecret_81 : decode cX13_writeSecret 81 = .ok (.aload_n 0, 1) := by decide +kernel
theorem dX13_writeSecret_82 : decode cX13_writeSecret 82 = .ok (.aload_n 0, 1) := by decide +kernel
theorem dX13_writeSecret_83 : decode cX13_writeSecret 83 = .ok (.aload_n 0, 1) := by decide +kernel
theorem dX13_writeSecret_84 : decode cX13_writeSecret 84 = .ok (.aload_n 0, 1) := by decide +kernel
theorem dX13_writeSecret_85 : decode cX13_writeSecret 85 = .ok (.iload_n 3, 1) := by decide +kernel
theorem dX13_writeSecret_86 : decode cX13_writeSecret 86 = .ok (.bipush 32, 2) := by decide +kernel
theorem dX13_writeSecret_88 : decode cX13_writeSecret 88 = .ok (.invokevirtual 176, 3) := by decide +kernel
theorem dX13_writeSecret_91 : decode cX13_writeSecret 91 = .ok (.iload 4, 2) := by decide +kernel
theorem dX13_writeSecret_93 : decode cX13_writeSecret 93 = .ok (.invokevirtual 179, 3) := by decide +kernel
theorem dX13_writeSecret_96 : decode cX13_writeSecret 96 = .ok (.bipush 58, 2) := by decide +kernel
theorem dX13_writeSecret_98 : decode cX13_writeSecret 98 = .ok (.invokevirtual 176, 3) := by decide +kernel
theorem dX13_writeSecret_101 : decode cX13_writeSecret 101 = .ok (.iload 5, 2) := by decide +kernel
theorem dX13_writeSecret_103 : decode cX13_writeSecret 103 = .ok (.invokevirtual 179, 3) := by decide +kernel
theorem dX13_writeSecret_106 : decode cX13_writeSecret 106 = .ok (.istore_n 3, 1) := by decide +kernel
theorem dX13_writeSecret_107 : decode cX13_writeSecret 107 = .ok (.iinc 4 1, 3) := by decide +kernel
theorem dX13_writeSecret_110 : decode cX13_writeSecret 110 = .ok (.goto (-59), 3) := by decide +kernel
theorem dX13_writeSecret_113 : decode cX13_writeSecret 113 = .ok (.aload_n 0, 1) := by decide +kernel
theorem dX13_writeSecret_114 : decode cX13_writeSecret 114 = .ok (.iload_n 3, 1) := by decide +kernel
theorem dX13_writeSecret_115 : decode cX13_writeSecret 115 = .ok (.putfield 182, 3) := by decide +kernel
theorem dX13_writeSecret_118 : decode cX13_writeSecret 118 = .ok (.iload_n 3, 1) := by decide +kernel
theorem dX13_writeSecret_119 : decode cX13_writeSecret 119 = .ok (.ireturn, 1) := by decide +kernel
set_option maxRecDepth 20000 in
theorem ggX13_writeNests_X13_put : GoodIn wsX13_writeNests wsX13_put := goodIn_ca (goodIn_r _ [8, 9, 14, 15, 16, 17, 18, 19, 20, 21, 22, 23, 24, 25, 26, 27, 28, 29, 30, 31] (by decide +kernel) (by decide +kernel)) (goodIn_sub (fun _ h => List.mem_cons_of_mem _ (List.mem_append_left _ (List.mem_append_right _ h))) (by decide +kernel))
set_option maxRecDepth 20000 in
theorem gX13_writeNests_X13_put : GoodIn wsX13_writeNests (wsV RX13 176 RX13 yX13_put wsX13_put) := goodIn_app (goodIn_of _ (by decide +kernel)) ggX13_writeNests_X13_put
set_option maxRecDepth 20000 in
theorem ggX13_writeNests_X13_writesNumber : GoodIn wsX13_writeNests wsX13_writesNumber := goodIn_ca (goodIn_ca (goodIn_r _ [13, 4, 5, 6, 7, 8, 9, 14, 15, 16, 17, 18, 19, 20, 21, 22, 23, 24, 25, 26, 27, 28, 29, 30, 31] (by decide +kernel) (by decide +kernel)) (goodIn_sub (fun _ h => List.mem_cons_of_mem _ (List.mem_append_right _ h)) (by decide +kernel))) (goodIn_sub (fun _ h => List.mem_cons_of_mem _ (List.mem_append_left _ (List.mem_append_right _ h))) (by decide +kernel))
set_option maxRecDepth 20000 in
theorem gX13_writeNests_X13_writesNumber : GoodIn wsX13_writeNests (wsV RX13 179 RX13 yX13_writesNumber wsX13_writesNumber) := goodIn_app (goodIn_of _ (by decide +kernel)) ggX13_writeNests_X13_writesNumber
theorem dX13_writeNests_0 : decode cX13_writeNests 0 = .ok (.aload_n 0, 1) := by decide +kernel
theorem dX13_writeNests_1 : decode cX13_writeNests 1 = .ok (.iconst 0, 1) := by decide +kernel
theorem dX13_writeNests_2 : decode cX13_writeNests 2 = .ok (.putfield 38, 3) := by decide +kernel
theorem dX13_writeNests_5 : decode cX13_writeNests 5 = .ok (.iconst 0, 1) := by decide +kernel
theorem dX13_writeNests_6 : decode cX13_writeNests 6 = .ok (.istore_n 1, 1) := by decide +kernel
theorem dX13_writeNests_7 : decode cX13_writeNests 7 = .ok (.iconst 0, 1) := by decide +kernel
theorem dX13_writeNests_8 : decode cX13_writeNests 8 = .ok (.istore_n 2, 1) := by decide +kernel
theorem dX13_writeNests_9 : decode cX13_writeNests 9 = .ok (.iload_n 2, 1) := by decide +kernel
theorem dX13_writeNests_10 : decode cX13_writeNests 10 = .ok (.iconst 4, 1) := by decide +kernel
theorem dX13_writeNests_11 : decode cX13_writeNests 11 = .ok (.if_icmp .ge 66, 3) := by decide +kernel
theorem dX13_writeNests_14 : decode cX13_writeNests 14 = .ok (.aload_n 0, 1) := by decide +kernel
theorem dX13_writeNests_15 : decode cX13_writeNests 15 = .ok (.iload_n 1, 1) := by decide +kernel
theorem dX13_writeNests_16 : decode cX13_writeNests 16 = .ok (.bipush 91, 2) := by decide +kernel
theorem dX13_writeNests_18 : decode cX13_writeNests 18 = .ok (.invokevirtual 176, 3) := by decide +kernel
theorem dX13_writeNests_21 : decode cX13_writeNests 21 = .ok (.istore_n 1, 1) := by decide +kernel
theorem dX13_writeNests_22 : decode cX13_writeNests 22 = .ok (.iconst 0, 1) := by decide +kernel
theorem dX13_writeNests_23 : decode cX13_writeNests 23 = .ok (.istore_n 3, 1) := by decide +kernel
theorem dX13_writeNests_24 : decode cX13_writeNests 24 = .ok (.iload_n 3, 1) := by decide +kernel
theorem dX13_writeNests_25 : decode cX13_writeNests 25 = .ok (.aload_n 0, 1) := by decide +kernel
theorem dX13_writeNests_26 : decode cX13_writeNests 26 = .ok (.getfield 9, 3) := by decide +kernel
theorem dX13_writeNests_29 : decode cX13_writeNests 29 = .ok (.iconst 0, 1) := by decide +kernel
theorem dX13_writeNests_30 : decode cX13_writeNests 30 = .ok (.iaload, 1) := by decide +kernel
theorem dX13_writeNests_31 : decode cX13_writeNests 31 = .ok (.if_icmp .ge 32, 3) := by decide +kernel
theorem dX13_writeNests_34 : decode cX13_writeNests 34 = .ok (.aload_n 0, 1) := by decide +kernel
theorem dX13_writeNests_35 : decode cX13_writeNests 35 = .ok (.getfield 9, 3) := by decide +kernel
theorem dX13_writeNests_38 : decode cX13_writeNests 38 = .ok (.iconst 4, 1) := by decide +kernel
theorem dX13_writeNests_39 : decode cX13_writeNests 39 = .ok (.iload_n 3, 1) := by decide +kernel
theorem dX13_writeNests_40 : decode cX13_writeNests 40 = .ok (.iadd, 1) := by decide +kernel
theorem dX13_writeNests_41 : decode cX13_writeNests 41 = .ok (.iaload, 1) := by decide +kernel
theorem dX13_writeNests_42 : decode cX13_writeNests 42 = .ok (.iload_n 2, 1) := by decide +kernel
theorem dX13_writeNests_43 : decode cX13_writeNests 43 = .ok (.if_icmp .ne 12, 3) := by decide +kernel
theorem dX13_writeNests_46 : decode cX13_writeNests 46 = .ok (.aload_n 0, 1) := by decide +kernel
theorem dX13_writeNests_47 : decode cX13_writeNests 47 = .ok (.iload_n 1, 1) := by decide +kernel
theorem dX13_writeNests_48 : decode cX13_writeNests 48 = .ok (.iload_n 3, 1) := by decide +kernel
theorem dX13_writeNests_49 : decode cX13_writeNests 49 = .ok (.invokevirtual 179, 3) := by decide +kernel
theorem dX13_writeNests_52 : decode cX13_writeNests 52 = .ok (.goto 4, 3) := by decide +kernel
theorem dX13_writeNests_55 : decode cX13_writeNests 55 = .ok (.iload_n 1, 1) := by decide +kernel
theorem dX13_writeNests_56 : decode cX13_writeNests 56 = .ok (.istore_n 1, 1) := by decide +kernel
theorem dX13_writeNests_57 : decode cX13_writeNests 57 = .ok (.iinc 3 1, 3) := by decide +kernel
theorem dX13_writeNests_60 : decode cX13_writeNests 60 = .ok (.goto (-36), 3) := by decide +kernel
theorem dX13_writeNests_63 : decode cX13_writeNests 63 = .ok (.aload_n 0, 1) := by decide +kernel
theorem dX13_writeNests_64 : decode cX13_writeNests 64 = .ok (.iload_n 1, 1) := by decide +kernel
theorem dX13_writeNests_65 : decode cX13_writeNests 65 = .ok (.bipush 93, 2) := by decide +kernel
theorem dX13_writeNests_67 : decode cX13_writeNests 67 = .ok (.invokevirtual 176, 3) := by decide +kernel
theorem dX13_writeNests_70 : decode cX13_writeNests 70 = .ok (.istore_n 1, 1) := by decide +kernel
theorem dX13_writeNests_71 : decode cX13_writeNests 71 = .ok (.iinc 2 1, 3) := by decide +kernel
theorem dX13_writeNests_74 : decode cX13_writeNests 74 = .ok (.goto (-65), 3) := by decide +kernel
theorem dX13_writeNests_77 : decode cX13_writeNests 77 = .ok (.aload_n 0, 1) := by decide +kernel
theorem dX13_writeNests_78 : decode cX13_writeNests 78 = .ok (.iload_n 1, 1) := by decide +kernel
theorem dX13_writeNests_79 : decode cX13_writeNests 79 = .ok (.putfield 182, 3) := by decide +kernel
theorem dX13_writeNests_82 : decode cX13_writeNests 82 = .ok (.iload_n 1, 1) := by decide +kernel
theorem dX13_writeNests_83 : decode cX13_writeNests 83 = .ok (.ireturn, 1) := by decide +kernel
set_option maxRecDepth 20000 in
theorem ggX13_outputAt_X13_isIn : GoodIn wsX13_outputAt wsX13_isIn := goodIn_r _ [6] (by decide +kernel) (by decide +kernel)
set_option maxRecDepth 20000 in
theorem gX13_outputAt_X13_isIn : GoodIn wsX13_outputAt (va_wsS RX13 63 yX13_isIn wsX13_isIn) := goodIn_app (goodIn_of _ (by decide +kernel)) ggX13_outputAt_X13_isIn
set_option maxRecDepth 20000 in
theorem ggX13_outputAt_X13_goes : GoodIn wsX13_outputAt wsX13_goes := goodIn_r _ [10, 11, 12, 13, 5, 14, 15, 16, 17, 18, 19, 20, 21, 22, 23, 24, 25, 26, 27, 28, 29, 30, 31, 32, 33] (by decide +kernel) (by decide +kernel)
set_option maxRecDepth 20000 in
theorem gX13_outputAt_X13_goes : GoodIn wsX13_outputAt (wsV RX13 55 RX13 yX13_goes wsX13_goes) := goodIn_app (goodIn_of _ (by decide +kernel)) ggX13_outputAt_X13_goes
theorem dX13_outputAt_0 : decode cX13_outputAt 0 = .ok (.aload_n 0, 1) := by decide +kernel
theorem dX13_outputAt_1 : decode cX13_outputAt 1 = .ok (.iload_n 1, 1) := by decide +kernel
theorem dX13_outputAt_2 : decode cX13_outputAt 2 = .ok (.iconst 0, 1) := by decide +kernel
theorem dX13_outputAt_3 : decode cX13_outputAt 3 = .ok (.aload_n 0, 1) := by decide +kernel
theorem dX13_outputAt_4 : decode cX13_outputAt 4 = .ok (.getfield 182, 3) := by decide +kernel
theorem dX13_outputAt_7 : decode cX13_outputAt 7 = .ok (.iconst 1, 1) := by decide +kernel
theorem dX13_outputAt_8 : decode cX13_outputAt 8 = .ok (.isub, 1) := by decide +kernel
theorem dX13_outputAt_9 : decode cX13_outputAt 9 = .ok (.invokestatic 63, 3) := by decide +kernel
theorem dX13_outputAt_12 : decode cX13_outputAt 12 = .ok (.invokevirtual 55, 3) := by decide +kernel
theorem dX13_outputAt_15 : decode cX13_outputAt 15 = .ok (.ifCond .eq 13, 3) := by decide +kernel
theorem dX13_outputAt_18 : decode cX13_outputAt 18 = .ok (.aload_n 0, 1) := by decide +kernel
theorem dX13_outputAt_19 : decode cX13_outputAt 19 = .ok (.getfield 32, 3) := by decide +kernel
theorem dX13_outputAt_22 : decode cX13_outputAt 22 = .ok (.iload_n 1, 1) := by decide +kernel
theorem dX13_outputAt_23 : decode cX13_outputAt 23 = .ok (.iaload, 1) := by decide +kernel
theorem dX13_outputAt_24 : decode cX13_outputAt 24 = .ok (.i2c, 1) := by decide +kernel
theorem dX13_outputAt_25 : decode cX13_outputAt 25 = .ok (.goto 4, 3) := by decide +kernel
theorem dX13_outputAt_28 : decode cX13_outputAt 28 = .ok (.iconst 0, 1) := by decide +kernel
theorem dX13_outputAt_29 : decode cX13_outputAt 29 = .ok (.ireturn, 1) := by decide +kernel
set_option maxRecDepth 20000 in
theorem ggX13_append_X13_goes : GoodIn wsX13_append wsX13_goes := goodIn_r _ [7, 8, 9, 10, 6, 11, 12, 13, 14, 15, 16, 17, 18, 19, 20, 21, 22, 23, 24, 25, 26, 27, 28, 29, 30] (by decide +kernel) (by decide +kernel)
set_option maxRecDepth 20000 in
theorem gX13_append_X13_goes : GoodIn wsX13_append (wsV RX13 55 RX13 yX13_goes wsX13_goes) := goodIn_app (goodIn_of _ (by decide +kernel)) ggX13_append_X13_goes
theorem dX13_append_0 : decode cX13_append 0 = .ok (.aload_n 0, 1) := by decide +kernel
theorem dX13_append_1 : decode cX13_append 1 = .ok (.aload_n 0, 1) := by decide +kernel
theorem dX13_append_2 : decode cX13_append 2 = .ok (.getfield 185, 3) := by decide +kernel
theorem dX13_append_5 : decode cX13_append 5 = .ok (.bipush 60, 2) := by decide +kernel
theorem dX13_append_7 : decode cX13_append 7 = .ok (.if_icmp .ge 7, 3) := by decide +kernel
theorem dX13_append_10 : decode cX13_append 10 = .ok (.iconst 1, 1) := by decide +kernel
theorem dX13_append_11 : decode cX13_append 11 = .ok (.goto 4, 3) := by decide +kernel
theorem dX13_append_14 : decode cX13_append 14 = .ok (.iconst 0, 1) := by decide +kernel
theorem dX13_append_15 : decode cX13_append 15 = .ok (.invokevirtual 55, 3) := by decide +kernel
theorem dX13_append_18 : decode cX13_append 18 = .ok (.ifCond .ne 5, 3) := by decide +kernel
theorem dX13_append_21 : decode cX13_append 21 = .ok (.iconst 0, 1) := by decide +kernel
theorem dX13_append_22 : decode cX13_append 22 = .ok (.ireturn, 1) := by decide +kernel
theorem dX13_append_23 : decode cX13_append 23 = .ok (.aload_n 0, 1) := by decide +kernel
theorem dX13_append_24 : decode cX13_append 24 = .ok (.getfield 29, 3) := by decide +kernel
theorem dX13_append_27 : decode cX13_append 27 = .ok (.aload_n 0, 1) := by decide +kernel
theorem dX13_append_28 : decode cX13_append 28 = .ok (.getfield 185, 3) := by decide +kernel
theorem dX13_append_31 : decode cX13_append 31 = .ok (.iload_n 1, 1) := by decide +kernel
theorem dX13_append_32 : decode cX13_append 32 = .ok (.iastore, 1) := by decide +kernel
theorem dX13_append_33 : decode cX13_append 33 = .ok (.aload_n 0, 1) := by decide +kernel
theorem dX13_append_34 : decode cX13_append 34 = .ok (.dup, 1) := by decide +kernel
theorem dX13_append_35 : decode cX13_append 35 = .ok (.getfield 185, 3) := by decide +kernel
theorem dX13_append_38 : decode cX13_append 38 = .ok (.iconst 1, 1) := by decide +kernel
theorem dX13_append_39 : decode cX13_append 39 = .ok (.iadd, 1) := by decide +kernel
theorem dX13_append_40 : decode cX13_append 40 = .ok (.putfield 185, 3) := by decide +kernel
theorem dX13_append_43 : decode cX13_append 43 = .ok (.aload_n 0, 1) := by decide +kernel
theorem dX13_append_44 : decode cX13_append 44 = .ok (.getfield 185, 3) := by decide +kernel
theorem dX13_append_47 : decode cX13_append 47 = .ok (.ireturn, 1) := by decide +kernel
theorem dX13_letterHere_0 : decode cX13_letterHere 0 = .ok (.aload_n 0, 1) := by decide +kernel
theorem dX13_letterHere_1 : decode cX13_letterHere 1 = .ok (.getfield 188, 3) := by decide +kernel
theorem dX13_letterHere_4 : decode cX13_letterHere 4 = .ok (.aload_n 0, 1) := by decide +kernel
theorem dX13_letterHere_5 : decode cX13_letterHere 5 = .ok (.getfield 191, 3) := by decide +kernel
theorem dX13_letterHere_8 : decode cX13_letterHere 8 = .ok (.if_icmp .ge 15, 3) := by decide +kernel
theorem dX13_letterHere_11 : decode cX13_letterHere 11 = .ok (.aload_n 0, 1) := by decide +kernel
theorem dX13_letterHere_12 : decode cX13_letterHere 12 = .ok (.getfield 29, 3) := by decide +kernel
theorem dX13_letterHere_15 : decode cX13_letterHere 15 = .ok (.aload_n 0, 1) := by decide +kernel
theorem dX13_letterHere_16 : decode cX13_letterHere 16 = .ok (.getfield 188, 3) := by decide +kernel
theorem dX13_letterHere_19 : decode cX13_letterHere 19 = .ok (.iaload, 1) := by decide +kernel
theorem dX13_letterHere_20 : decode cX13_letterHere 20 = .ok (.goto 4, 3) := by decide +kernel
theorem dX13_letterHere_23 : decode cX13_letterHere 23 = .ok (.iconst (-1), 1) := by decide +kernel
theorem dX13_letterHere_24 : decode cX13_letterHere 24 = .ok (.ireturn, 1) := by decide +kernel
set_option maxRecDepth 20000 in
theorem ggX13_reads_X13_letterHere : GoodIn wsX13_reads wsX13_letterHere := goodIn_ca (goodIn_r _ [8, 2, 9, 3, 13, 14, 15, 16, 17, 18, 19, 20, 21, 22, 23, 24, 25, 26, 27, 28, 29, 30] (by decide +kernel) (by decide +kernel)) (goodIn_sub (fun _ h => List.mem_cons_of_mem _ (List.mem_append_right _ h)) (by decide +kernel))
set_option maxRecDepth 20000 in
theorem gX13_reads_X13_letterHere : GoodIn wsX13_reads (wsV RX13 197 RX13 yX13_letterHere wsX13_letterHere) := goodIn_app (goodIn_of _ (by decide +kernel)) ggX13_reads_X13_letterHere
set_option maxRecDepth 20000 in
theorem ggX13_reads_X13_isIn : GoodIn wsX13_reads wsX13_isIn := goodIn_r _ [12] (by decide +kernel) (by decide +kernel)
set_option maxRecDepth 20000 in
theorem gX13_reads_X13_isIn : GoodIn wsX13_reads (va_wsS RX13 63 yX13_isIn wsX13_isIn) := goodIn_app (goodIn_of _ (by decide +kernel)) ggX13_reads_X13_isIn
theorem dX13_reads_0 : decode cX13_reads 0 = .ok (.aload_n 0, 1) := by decide +kernel
theorem dX13_reads_1 : decode cX13_reads 1 = .ok (.getfield 194, 3) := by decide +kernel
theorem dX13_reads_4 : decode cX13_reads 4 = .ok (.iconst (-1), 1) := by decide +kernel
theorem dX13_reads_5 : decode cX13_reads 5 = .ok (.if_icmp .ne 39, 3) := by decide +kernel
theorem dX13_reads_8 : decode cX13_reads 8 = .ok (.aload_n 0, 1) := by decide +kernel
theorem dX13_reads_9 : decode cX13_reads 9 = .ok (.invokevirtual 197, 3) := by decide +kernel
theorem dX13_reads_12 : decode cX13_reads 12 = .ok (.iload_n 1, 1) := by decide +kernel
theorem dX13_reads_13 : decode cX13_reads 13 = .ok (.iload_n 2, 1) := by decide +kernel
theorem dX13_reads_14 : decode cX13_reads 14 = .ok (.invokestatic 63, 3) := by decide +kernel
theorem dX13_reads_17 : decode cX13_reads 17 = .ok (.ifCond .eq 27, 3) := by decide +kernel
theorem dX13_reads_20 : decode cX13_reads 20 = .ok (.aload_n 0, 1) := by decide +kernel
theorem dX13_reads_21 : decode cX13_reads 21 = .ok (.dup, 1) := by decide +kernel
theorem dX13_reads_22 : decode cX13_reads 22 = .ok (.getfield 188, 3) := by decide +kernel
theorem dX13_reads_25 : decode cX13_reads 25 = .ok (.iconst 1, 1) := by decide +kernel
theorem dX13_reads_26 : decode cX13_reads 26 = .ok (.iadd, 1) := by decide +kernel
theorem dX13_reads_27 : decode cX13_reads 27 = .ok (.putfield 188, 3) := by decide +kernel
theorem dX13_reads_30 : decode cX13_reads 30 = .ok (.aload_n 0, 1) := by decide +kernel
theorem dX13_reads_31 : decode cX13_reads 31 = .ok (.getfield 29, 3) := by decide +kernel
theorem dX13_reads_34 : decode cX13_reads 34 = .ok (.aload_n 0, 1) := by decide +kernel
theorem dX13_reads_35 : decode cX13_reads 35 = .ok (.getfield 188, 3) := by decide +kernel
theorem dX13_reads_38 : decode cX13_reads 38 = .ok (.iconst 1, 1) := by decide +kernel
theorem dX13_reads_39 : decode cX13_reads 39 = .ok (.isub, 1) := by decide +kernel
theorem dX13_reads_40 : decode cX13_reads 40 = .ok (.iaload, 1) := by decide +kernel
theorem dX13_reads_41 : decode cX13_reads 41 = .ok (.iload_n 1, 1) := by decide +kernel
theorem dX13_reads_42 : decode cX13_reads 42 = .ok (.isub, 1) := by decide +kernel
theorem dX13_reads_43 : decode cX13_reads 43 = .ok (.ireturn, 1) := by decide +kernel
theorem dX13_reads_44 : decode cX13_reads 44 = .ok (.aload_n 0, 1) := by decide +kernel
theorem dX13_reads_45 : decode cX13_reads 45 = .ok (.aload_n 0, 1) := by decide +kernel
theorem dX13_reads_46 : decode cX13_reads 46 = .ok (.getfield 194, 3) := by decide +kernel
theorem dX13_reads_49 : decode cX13_reads 49 = .ok (.iconst (-1), 1) := by decide +kernel
theorem dX13_reads_50 : decode cX13_reads 50 = .ok (.if_icmp .ne 10, 3) := by decide +kernel
theorem dX13_reads_53 : decode cX13_reads 53 = .ok (.aload_n 0, 1) := by decide +kernel
theorem dX13_reads_54 : decode cX13_reads 54 = .ok (.getfield 188, 3) := by decide +kernel
theorem dX13_reads_57 : decode cX13_reads 57 = .ok (.goto 7, 3) := by decide +kernel
theorem dX13_reads_60 : decode cX13_reads 60 = .ok (.aload_n 0, 1) := by decide +kernel
theorem dX13_reads_61 : decode cX13_reads 61 = .ok (.getfield 194, 3) := by decide +kernel
theorem dX13_reads_64 : decode cX13_reads 64 = .ok (.putfield 194, 3) := by decide +kernel
theorem dX13_reads_67 : decode cX13_reads 67 = .ok (.iconst 0, 1) := by decide +kernel
theorem dX13_reads_68 : decode cX13_reads 68 = .ok (.ireturn, 1) := by decide +kernel
set_option maxRecDepth 20000 in
theorem ggX13_digit_X13_reads : GoodIn wsX13_digit wsX13_reads := goodIn_ca (goodIn_r _ [5, 6, 7, 8, 9, 10, 11, 4, 12, 13, 14, 15, 16, 17, 18, 19, 20, 21, 22, 23, 24, 25, 26, 27, 28, 29, 30, 31, 32, 33, 34] (by decide +kernel) (by decide +kernel)) (goodIn_sub (fun _ h => List.mem_cons_of_mem _ (List.mem_append_right _ h)) (by decide +kernel))
set_option maxRecDepth 20000 in
theorem gX13_digit_X13_reads : GoodIn wsX13_digit (wsV RX13 200 RX13 yX13_reads wsX13_reads) := goodIn_app (goodIn_of _ (by decide +kernel)) ggX13_digit_X13_reads
theorem dX13_digit_0 : decode cX13_digit 0 = .ok (.aload_n 0, 1) := by decide +kernel
theorem dX13_digit_1 : decode cX13_digit 1 = .ok (.bipush 48, 2) := by decide +kernel
theorem dX13_digit_3 : decode cX13_digit 3 = .ok (.bipush 57, 2) := by decide +kernel
theorem dX13_digit_5 : decode cX13_digit 5 = .ok (.invokevirtual 200, 3) := by decide +kernel
theorem dX13_digit_8 : decode cX13_digit 8 = .ok (.ireturn, 1) := by decide +kernel
set_option maxRecDepth 20000 in
theorem ggX13_number_X13_digit : GoodIn wsX13_number wsX13_digit := goodIn_ca (goodIn_r _ [6, 7, 8, 9, 5, 10, 1, 11, 12, 13, 14, 15, 16, 17, 18, 19, 20, 21, 22, 23, 24, 25, 26, 27, 28, 29, 30, 31, 32, 33, 34, 35, 36, 37, 38] (by decide +kernel) (by decide +kernel)) (goodIn_sub (fun _ h => List.mem_cons_of_mem _ (List.mem_append_right _ h)) (by decide +kernel))
set_option maxRecDepth 20000 in
theorem gX13_number_X13_digit : GoodIn wsX13_number (wsV RX13 203 RX13 yX13_digit wsX13_digit) := goodIn_app (goodIn_of _ (by decide +kernel)) ggX13_number_X13_digit
set_option maxRecDepth 20000 in
theorem ggX13_number_X13_letterHere : GoodIn wsX13_number wsX13_letterHere := goodIn_ca (goodIn_r _ [16, 11, 17, 12, 21, 22, 23, 24, 25, 26, 27, 28, 29, 30, 31, 32, 33, 34, 35, 36, 37, 38] (by decide +kernel) (by decide +kernel)) (goodIn_sub (fun _ h => List.mem_cons_of_mem _ (List.mem_append_right _ h)) (by decide +kernel))
set_option maxRecDepth 20000 in
theorem gX13_number_X13_letterHere : GoodIn wsX13_number (wsV RX13 197 RX13 yX13_letterHere wsX13_letterHere) := goodIn_app (goodIn_of _ (by decide +kernel)) ggX13_number_X13_letterHere
set_option maxRecDepth 20000 in
theorem ggX13_number_X13_isIn : GoodIn wsX13_number wsX13_isIn := goodIn_r _ [20] (by decide +kernel) (by decide +kernel)
set_option maxRecDepth 20000 in
theorem gX13_number_X13_isIn : GoodIn wsX13_number (va_wsS RX13 63 yX13_isIn wsX13_isIn) := goodIn_app (goodIn_of _ (by decide +kernel)) ggX13_number_X13_isIn
theorem dX13_number_0 : decode cX13_number 0 = .ok (.aload_n 0, 1) := by decide +kernel
theorem dX13_number_1 : decode cX13_number 1 = .ok (.invokevirtual 203, 3) := by decide +kernel
theorem dX13_number_4 : decode cX13_number 4 = .ok (.istore_n 1, 1) := by decide +kernel
theorem dX13_number_5 : decode cX13_number 5 = .ok (.aload_n 0, 1) := by decide +kernel
theorem dX13_number_6 : decode cX13_number 6 = .ok (.getfield 194, 3) := by decide +kernel
theorem dX13_number_9 : decode cX13_number 9 = .ok (.iconst (-1), 1) := by decide +kernel
theorem dX13_number_10 : decode cX13_number 10 = .ok (.if_icmp .ne 29, 3) := by decide +kernel
theorem dX13_number_13 : decode cX13_number 13 = .ok (.aload_n 0, 1) := by decide +kernel
theorem dX13_number_14 : decode cX13_number 14 = .ok (.invokevirtual 197, 3) := by decide +kernel
theorem dX13_number_17 : decode cX13_number 17 = .ok (.bipush 48, 2) := by decide +kernel
theorem dX13_number_19 : decode cX13_number 19 = .ok (.bipush 57, 2) := by decide +kernel
theorem dX13_number_21 : decode cX13_number 21 = .ok (.invokestatic 63, 3) := by decide +kernel
theorem dX13_number_24 : decode cX13_number 24 = .ok (.ifCond .eq 15, 3) := by decide +kernel
theorem dX13_number_27 : decode cX13_number 27 = .ok (.bipush 10, 2) := by decide +kernel
theorem dX13_number_29 : decode cX13_number 29 = .ok (.iload_n 1, 1) := by decide +kernel
theorem dX13_number_30 : decode cX13_number 30 = .ok (.imul, 1) := by decide +kernel
theorem dX13_number_31 : decode cX13_number 31 = .ok (.aload_n 0, 1) := by decide +kernel
theorem dX13_number_32 : decode cX13_number 32 = .ok (.invokevirtual 203, 3) := by decide +kernel
theorem dX13_number_35 : decode cX13_number 35 = .ok (.iadd, 1) := by decide +kernel
theorem dX13_number_36 : decode cX13_number 36 = .ok (.goto 4, 3) := by decide +kernel
theorem dX13_number_39 : decode cX13_number 39 = .ok (.iload_n 1, 1) := by decide +kernel
theorem dX13_number_40 : decode cX13_number 40 = .ok (.ireturn, 1) := by decide +kernel
set_option maxRecDepth 20000 in
theorem ggX13_blank_X13_reads : GoodIn wsX13_blank wsX13_reads := goodIn_ca (goodIn_r _ [5, 6, 7, 8, 9, 10, 11, 4, 12, 13, 14, 15, 16, 17, 18, 19, 20, 21, 22, 23, 24, 25, 26, 27, 28, 29, 30, 31, 32, 33, 34] (by decide +kernel) (by decide +kernel)) (goodIn_sub (fun _ h => List.mem_cons_of_mem _ (List.mem_append_right _ h)) (by decide +kernel))
set_option maxRecDepth 20000 in
theorem gX13_blank_X13_reads : GoodIn wsX13_blank (wsV RX13 200 RX13 yX13_reads wsX13_reads) := goodIn_app (goodIn_of _ (by decide +kernel)) ggX13_blank_X13_reads
theorem dX13_blank_0 : decode cX13_blank 0 = .ok (.aload_n 0, 1) := by decide +kernel
theorem dX13_blank_1 : decode cX13_blank 1 = .ok (.bipush 32, 2) := by decide +kernel
theorem dX13_blank_3 : decode cX13_blank 3 = .ok (.bipush 32, 2) := by decide +kernel
theorem dX13_blank_5 : decode cX13_blank 5 = .ok (.invokevirtual 200, 3) := by decide +kernel
theorem dX13_blank_8 : decode cX13_blank 8 = .ok (.istore_n 1, 1) := by decide +kernel
theorem dX13_blank_9 : decode cX13_blank 9 = .ok (.return_, 1) := by decide +kernel
theorem dX13_startOf_0 : decode cX13_startOf 0 = .ok (.iload_n 0, 1) := by decide +kernel
theorem dX13_startOf_1 : decode cX13_startOf 1 = .ok (.tableswitch 67 0 7 #[47, 47, 47, 51, 54, 54, 54, 64], 47) := by decide +kernel
theorem dX13_startOf_48 : decode cX13_startOf 48 = .ok (.iconst 5, 1) := by decide +kernel
theorem dX13_startOf_49 : decode cX13_startOf 49 = .ok (.iload_n 0, 1) := by decide +kernel
theorem dX13_startOf_50 : decode cX13_startOf 50 = .ok (.imul, 1) := by decide +kernel
theorem dX13_startOf_51 : decode cX13_startOf 51 = .ok (.ireturn, 1) := by decide +kernel
theorem dX13_startOf_52 : decode cX13_startOf 52 = .ok (.bipush 16, 2) := by decide +kernel
theorem dX13_startOf_54 : decode cX13_startOf 54 = .ok (.ireturn, 1) := by decide +kernel
theorem dX13_startOf_55 : decode cX13_startOf 55 = .ok (.bipush 21, 2) := by decide +kernel
theorem dX13_startOf_57 : decode cX13_startOf 57 = .ok (.bipush 6, 2) := by decide +kernel
theorem dX13_startOf_59 : decode cX13_startOf 59 = .ok (.iload_n 0, 1) := by decide +kernel
theorem dX13_startOf_60 : decode cX13_startOf 60 = .ok (.iconst 4, 1) := by decide +kernel
theorem dX13_startOf_61 : decode cX13_startOf 61 = .ok (.isub, 1) := by decide +kernel
theorem dX13_startOf_62 : decode cX13_startOf 62 = .ok (.imul, 1) := by decide +kernel
theorem dX13_startOf_63 : decode cX13_startOf 63 = .ok (.iadd, 1) := by decide +kernel
theorem dX13_startOf_64 : decode cX13_startOf 64 = .ok (.ireturn, 1) := by decide +kernel
theorem dX13_startOf_65 : decode cX13_startOf 65 = .ok (.bipush 41, 2) := by decide +kernel
theorem dX13_startOf_67 : decode cX13_startOf 67 = .ok (.ireturn, 1) := by decide +kernel
theorem dX13_startOf_68 : decode cX13_startOf 68 = .ok (.bipush 48, 2) := by decide +kernel
theorem dX13_startOf_70 : decode cX13_startOf 70 = .ok (.ireturn, 1) := by decide +kernel
set_option maxRecDepth 20000 in
theorem ggX13_kindHere_X13_startOf : GoodIn wsX13_kindHere wsX13_startOf := goodIn_r _ [12] (by decide +kernel) (by decide +kernel)
set_option maxRecDepth 20000 in
theorem gX13_kindHere_X13_startOf : GoodIn wsX13_kindHere (va_wsS RX13 206 yX13_startOf wsX13_startOf) := goodIn_app (goodIn_of _ (by decide +kernel)) ggX13_kindHere_X13_startOf
set_option maxRecDepth 20000 in
theorem ggX13_kindHere_J0_charAt_5068e : GoodIn wsX13_kindHere wsJ0_charAt_5068e := goodIn_r _ [17, 18, 19, 20, 21, 16, 22, 23, 24, 25, 26, 27, 28, 29, 30, 31, 32, 33, 34, 35, 36, 37, 38, 39, 40, 41, 42, 43, 44, 45, 46, 47, 48, 49, 50, 51, 52, 53, 72, 73, 74, 75] (by decide +kernel) (by decide +kernel)
set_option maxRecDepth 20000 in
theorem gX13_kindHere_J0_charAt_5068e : GoodIn wsX13_kindHere (wsV RX13 211 RJ0 yJ0_charAt_5068e wsJ0_charAt_5068e) := goodIn_app (goodIn_of _ (by decide +kernel)) ggX13_kindHere_J0_charAt_5068e
theorem dX13_kindHere_0 : decode cX13_kindHere 0 = .ok (.aload_n 0, 1) := by decide +kernel
theorem dX13_kindHere_1 : decode cX13_kindHere 1 = .ok (.getfield 188, 3) := by decide +kernel
theorem dX13_kindHere_4 : decode cX13_kindHere 4 = .ok (.istore_n 1, 1) := by decide +kernel
theorem dX13_kindHere_5 : decode cX13_kindHere 5 = .ok (.iconst (-1), 1) := by decide +kernel
theorem dX13_kindHere_6 : decode cX13_kindHere 6 = .ok (.istore_n 2, 1) := by decide +kernel
theorem dX13_kindHere_7 : decode cX13_kindHere 7 = .ok (.iconst 0, 1) := by decide +kernel
theorem dX13_kindHere_8 : decode cX13_kindHere 8 = .ok (.istore_n 3, 1) := by decide +kernel
theorem dX13_kindHere_9 : decode cX13_kindHere 9 = .ok (.iload_n 3, 1) := by decide +kernel
theorem dX13_kindHere_10 : decode cX13_kindHere 10 = .ok (.bipush 8, 2) := by decide +kernel
theorem dX13_kindHere_12 : decode cX13_kindHere 12 = .ok (.if_icmp .ge 109, 3) := by decide +kernel
theorem dX13_kindHere_15 : decode cX13_kindHere 15 = .ok (.iload_n 2, 1) := by decide +kernel
theorem dX13_kindHere_16 : decode cX13_kindHere 16 = .ok (.iconst (-1), 1) := by decide +kernel
theorem dX13_kindHere_17 : decode cX13_kindHere 17 = .ok (.if_icmp .ne 104, 3) := by decide +kernel
theorem dX13_kindHere_20 : decode cX13_kindHere 20 = .ok (.iload_n 3, 1) := by decide +kernel
theorem dX13_kindHere_21 : decode cX13_kindHere 21 = .ok (.iconst 1, 1) := by decide +kernel
theorem dX13_kindHere_22 : decode cX13_kindHere 22 = .ok (.iadd, 1) := by decide +kernel
theorem dX13_kindHere_23 : decode cX13_kindHere 23 = .ok (.invokestatic 206, 3) := by decide +kernel
theorem dX13_kindHere_26 : decode cX13_kindHere 26 = .ok (.iload_n 3, 1) := by decide +kernel
theorem dX13_kindHere_27 : decode cX13_kindHere 27 = .ok (.invokestatic 206, 3) := by decide +kernel
theorem dX13_kindHere_30 : decode cX13_kindHere 30 = .ok (.isub, 1) := by decide +kernel
theorem dX13_kindHere_31 : decode cX13_kindHere 31 = .ok (.istore 4, 2) := by decide +kernel
theorem dX13_kindHere_33 : decode cX13_kindHere 33 = .ok (.iconst 0, 1) := by decide +kernel
theorem dX13_kindHere_34 : decode cX13_kindHere 34 = .ok (.istore 5, 2) := by decide +kernel
theorem dX13_kindHere_36 : decode cX13_kindHere 36 = .ok (.iload 5, 2) := by decide +kernel
theorem dX13_kindHere_38 : decode cX13_kindHere 38 = .ok (.iload 4, 2) := by decide +kernel
theorem dX13_kindHere_40 : decode cX13_kindHere 40 = .ok (.if_icmp .ge 50, 3) := by decide +kernel
theorem dX13_kindHere_43 : decode cX13_kindHere 43 = .ok (.aload_n 0, 1) := by decide +kernel
theorem dX13_kindHere_44 : decode cX13_kindHere 44 = .ok (.getfield 188, 3) := by decide +kernel
theorem dX13_kindHere_47 : decode cX13_kindHere 47 = .ok (.iload 5, 2) := by decide +kernel
theorem dX13_kindHere_49 : decode cX13_kindHere 49 = .ok (.iadd, 1) := by decide +kernel
theorem dX13_kindHere_50 : decode cX13_kindHere 50 = .ok (.aload_n 0, 1) := by decide +kernel
theorem dX13_kindHere_51 : decode cX13_kindHere 51 = .ok (.getfield 191, 3) := by decide +kernel
theorem dX13_kindHere_54 : decode cX13_kindHere 54 = .ok (.if_icmp .ge 36, 3) := by decide +kernel
theorem dX13_kindHere_57 : decode cX13_kindHere 57 = .ok (.aload_n 0, 1) := by decide +kernel
theorem dX13_kindHere_58 : decode cX13_kindHere 58 = .ok (.getfield 29, 3) := by decide +kernel
theorem dX13_kindHere_61 : decode cX13_kindHere 61 = .ok (.aload_n 0, 1) := by decide +kernel
theorem dX13_kindHere_62 : decode cX13_kindHere 62 = .ok (.getfield 188, 3) := by decide +kernel
theorem dX13_kindHere_65 : decode cX13_kindHere 65 = .ok (.iload 5, 2) := by decide +kernel
theorem dX13_kindHere_67 : decode cX13_kindHere 67 = .ok (.iadd, 1) := by decide +kernel
theorem dX13_kindHere_68 : decode cX13_kindHere 68 = .ok (.iaload, 1) := by decide +kernel
theorem dX13_kindHere_69 : decode cX13_kindHere 69 = .ok (.ldc 209, 2) := by decide +kernel
theorem dX13_kindHere_71 : decode cX13_kindHere 71 = .ok (.iload_n 3, 1) := by decide +kernel
theorem dX13_kindHere_72 : decode cX13_kindHere 72 = .ok (.invokestatic 206, 3) := by decide +kernel
theorem dX13_kindHere_75 : decode cX13_kindHere 75 = .ok (.iload 5, 2) := by decide +kernel
theorem dX13_kindHere_77 : decode cX13_kindHere 77 = .ok (.iadd, 1) := by decide +kernel
theorem dX13_kindHere_78 : decode cX13_kindHere 78 = .ok (.invokevirtual 211, 3) := by decide +kernel
theorem dX13_kindHere_81 : decode cX13_kindHere 81 = .ok (.if_icmp .ne 9, 3) := by decide +kernel
theorem dX13_kindHere_84 : decode cX13_kindHere 84 = .ok (.iinc 5 1, 3) := by decide +kernel
theorem dX13_kindHere_87 : decode cX13_kindHere 87 = .ok (.goto (-51), 3) := by decide +kernel
theorem dX13_kindHere_90 : decode cX13_kindHere 90 = .ok (.iload_n 1, 1) := by decide +kernel
theorem dX13_kindHere_91 : decode cX13_kindHere 91 = .ok (.aload_n 0, 1) := by decide +kernel
theorem dX13_kindHere_92 : decode cX13_kindHere 92 = .ok (.getfield 188, 3) := by decide +kernel
theorem dX13_kindHere_95 : decode cX13_kindHere 95 = .ok (.iload 5, 2) := by decide +kernel
theorem dX13_kindHere_97 : decode cX13_kindHere 97 = .ok (.iadd, 1) := by decide +kernel
theorem dX13_kindHere_98 : decode cX13_kindHere 98 = .ok (.invokestatic 71, 3) := by decide +kernel
theorem dX13_kindHere_101 : decode cX13_kindHere 101 = .ok (.istore_n 1, 1) := by decide +kernel
theorem dX13_kindHere_102 : decode cX13_kindHere 102 = .ok (.iload 5, 2) := by decide +kernel
theorem dX13_kindHere_104 : decode cX13_kindHere 104 = .ok (.iload 4, 2) := by decide +kernel
theorem dX13_kindHere_106 : decode cX13_kindHere 106 = .ok (.if_icmp .ne 7, 3) := by decide +kernel
theorem dX13_kindHere_109 : decode cX13_kindHere 109 = .ok (.iload_n 3, 1) := by decide +kernel
theorem dX13_kindHere_110 : decode cX13_kindHere 110 = .ok (.goto 4, 3) := by decide +kernel
theorem dX13_kindHere_113 : decode cX13_kindHere 113 = .ok (.iload_n 2, 1) := by decide +kernel
theorem dX13_kindHere_114 : decode cX13_kindHere 114 = .ok (.istore_n 2, 1) := by decide +kernel
theorem dX13_kindHere_115 : decode cX13_kindHere 115 = .ok (.iinc 3 1, 3) := by decide +kernel
theorem dX13_kindHere_118 : decode cX13_kindHere 118 = .ok (.goto (-109), 3) := by decide +kernel
theorem dX13_kindHere_121 : decode cX13_kindHere 121 = .ok (.aload_n 0, 1) := by decide +kernel
theorem dX13_kindHere_122 : decode cX13_kindHere 122 = .ok (.iload_n 2, 1) := by decide +kernel
theorem dX13_kindHere_123 : decode cX13_kindHere 123 = .ok (.iconst (-1), 1) := by decide +kernel
theorem dX13_kindHere_124 : decode cX13_kindHere 124 = .ok (.if_icmp .ne 7, 3) := by decide +kernel
theorem dX13_kindHere_127 : decode cX13_kindHere 127 = .ok (.iload_n 1, 1) := by decide +kernel
theorem dX13_kindHere_128 : decode cX13_kindHere 128 = .ok (.goto 7, 3) := by decide +kernel
theorem dX13_kindHere_131 : decode cX13_kindHere 131 = .ok (.aload_n 0, 1) := by decide +kernel
theorem dX13_kindHere_132 : decode cX13_kindHere 132 = .ok (.getfield 194, 3) := by decide +kernel
theorem dX13_kindHere_135 : decode cX13_kindHere 135 = .ok (.putfield 194, 3) := by decide +kernel
theorem dX13_kindHere_138 : decode cX13_kindHere 138 = .ok (.aload_n 0, 1) := by decide +kernel
theorem dX13_kindHere_139 : decode cX13_kindHere 139 = .ok (.dup, 1) := by decide +kernel
theorem dX13_kindHere_140 : decode cX13_kindHere 140 = .ok (.getfield 188, 3) := by decide +kernel
theorem dX13_kindHere_143 : decode cX13_kindHere 143 = .ok (.iload_n 2, 1) := by decide +kernel
theorem dX13_kindHere_144 : decode cX13_kindHere 144 = .ok (.iconst (-1), 1) := by decide +kernel
theorem dX13_kindHere_145 : decode cX13_kindHere 145 = .ok (.if_icmp .ne 7, 3) := by decide +kernel
theorem dX13_kindHere_148 : decode cX13_kindHere 148 = .ok (.iconst 0, 1) := by decide +kernel
theorem dX13_kindHere_149 : decode cX13_kindHere 149 = .ok (.goto 14, 3) := by decide +kernel
theorem dX13_kindHere_152 : decode cX13_kindHere 152 = .ok (.iload_n 2, 1) := by decide +kernel
theorem dX13_kindHere_153 : decode cX13_kindHere 153 = .ok (.iconst 1, 1) := by decide +kernel
theorem dX13_kindHere_154 : decode cX13_kindHere 154 = .ok (.iadd, 1) := by decide +kernel
theorem dX13_kindHere_155 : decode cX13_kindHere 155 = .ok (.invokestatic 206, 3) := by decide +kernel
theorem dX13_kindHere_158 : decode cX13_kindHere 158 = .ok (.iload_n 2, 1) := by decide +kernel
theorem dX13_kindHere_159 : decode cX13_kindHere 159 = .ok (.invokestatic 206, 3) := by decide +kernel
theorem dX13_kindHere_162 : decode cX13_kindHere 162 = .ok (.isub, 1) := by decide +kernel
theorem dX13_kindHere_163 : decode cX13_kindHere 163 = .ok (.iadd, 1) := by decide +kernel
theorem dX13_kindHere_164 : decode cX13_kindHere 164 = .ok (.putfield 188, 3) := by decide +kernel
theorem dX13_kindHere_167 : decode cX13_kindHere 167 = .ok (.iload_n 2, 1) := by decide +kernel
theorem dX13_kindHere_168 : decode cX13_kindHere 168 = .ok (.ireturn, 1) := by decide +kernel
set_option maxRecDepth 20000 in
theorem ggX13_readsCommand_X13_kindHere : GoodIn wsX13_readsCommand wsX13_kindHere := goodIn_ca (goodIn_r _ [8, 9, 10, 11, 12, 13, 14, 15, 3, 16, 17, 7, 18, 19, 20, 21, 22, 23, 24, 25, 26, 27, 28, 29, 30, 31, 32, 33, 34, 35, 36, 37, 38, 39, 40, 41, 42, 43, 44, 45, 46, 47, 48, 49, 50, 51, 52, 53, 54, 55, 56, 57, 58, 59, 83, 84, 85, 86, 87, 88, 89, 90, 91, 92, 93, 94, 95, 96, 97, 98, 99, 100, 101, 102, 103, 104] (by decide +kernel) (by decide +kernel)) (goodIn_sub (fun _ h => List.mem_cons_of_mem _ (List.mem_append_right _ h)) (by decide +kernel))
set_option maxRecDepth 20000 in
theorem gX13_readsCommand_X13_kindHere : GoodIn wsX13_readsCommand (wsV RX13 220 RX13 yX13_kindHere wsX13_kindHere) := goodIn_app (goodIn_of _ (by decide +kernel)) ggX13_readsCommand_X13_kindHere
set_option maxRecDepth 20000 in
theorem ggX13_readsCommand_X13_number : GoodIn wsX13_readsCommand wsX13_number := goodIn_ca (goodIn_r _ [63, 3, 64, 65, 66, 7, 67, 68, 69, 70, 71, 9, 11, 72, 73, 74, 75, 10, 76, 77, 78, 83, 84, 85, 86, 87, 88, 89, 90, 91, 92, 93, 94, 95, 96, 97, 98, 99, 100] (by decide +kernel) (by decide +kernel)) (goodIn_sub (fun _ h => List.mem_cons_of_mem _ (List.mem_append_right _ h)) (by decide +kernel))
set_option maxRecDepth 20000 in
theorem gX13_readsCommand_X13_number : GoodIn wsX13_readsCommand (wsV RX13 223 RX13 yX13_number wsX13_number) := goodIn_app (goodIn_of _ (by decide +kernel)) ggX13_readsCommand_X13_number
set_option maxRecDepth 20000 in
theorem ggX13_readsCommand_X13_digit : GoodIn wsX13_readsCommand wsX13_digit := goodIn_ca (goodIn_r _ [67, 68, 69, 70, 7, 71, 3, 9, 11, 72, 73, 74, 75, 10, 76, 77, 78, 83, 84, 85, 86, 87, 88, 89, 90, 91, 92, 93, 94, 95, 96, 97, 98, 99, 100] (by decide +kernel) (by decide +kernel)) (goodIn_sub (fun _ h => List.mem_cons_of_mem _ (List.mem_append_right _ h)) (by decide +kernel))
set_option maxRecDepth 20000 in
theorem gX13_readsCommand_X13_digit : GoodIn wsX13_readsCommand (wsV RX13 203 RX13 yX13_digit wsX13_digit) := goodIn_app (goodIn_of _ (by decide +kernel)) ggX13_readsCommand_X13_digit
set_option maxRecDepth 20000 in
theorem ggX13_readsCommand_X13_blank : GoodIn wsX13_readsCommand wsX13_blank := goodIn_ca (goodIn_r _ [82, 68, 69, 70, 7, 71, 3, 9, 11, 72, 73, 74, 75, 10, 76, 77, 78, 83, 84, 85, 86, 87, 88, 89, 90, 91, 92, 93, 94, 95, 96, 97, 98, 99, 100] (by decide +kernel) (by decide +kernel)) (goodIn_sub (fun _ h => List.mem_cons_of_mem _ (List.mem_append_right _ h)) (by decide +kernel))
set_option maxRecDepth 20000 in
theorem gX13_readsCommand_X13_blank : GoodIn wsX13_readsCommand (wsV RX13 226 RX13 yX13_blank wsX13_blank) := goodIn_app (goodIn_of _ (by decide +kernel)) ggX13_readsCommand_X13_blank
theorem dX13_readsCommand_0 : decode cX13_readsCommand 0 = .ok (.iconst 4, 1) := by decide +kernel
theorem dX13_readsCommand_1 : decode cX13_readsCommand 1 = .ok (.aload_n 0, 1) := by decide +kernel
theorem dX13_readsCommand_2 : decode cX13_readsCommand 2 = .ok (.getfield 217, 3) := by decide +kernel
theorem dX13_readsCommand_5 : decode cX13_readsCommand 5 = .ok (.imul, 1) := by decide +kernel
theorem dX13_readsCommand_6 : decode cX13_readsCommand 6 = .ok (.istore_n 1, 1) := by decide +kernel
theorem dX13_readsCommand_7 : decode cX13_readsCommand 7 = .ok (.aload_n 0, 1) := by decide +kernel
theorem dX13_readsCommand_8 : decode cX13_readsCommand 8 = .ok (.invokevirtual 220, 3) := by decide +kernel
theorem dX13_readsCommand_11 : decode cX13_readsCommand 11 = .ok (.istore_n 2, 1) := by decide +kernel
theorem dX13_readsCommand_12 : decode cX13_readsCommand 12 = .ok (.aload_n 0, 1) := by decide +kernel
theorem dX13_readsCommand_13 : decode cX13_readsCommand 13 = .ok (.getfield 35, 3) := by decide +kernel
theorem dX13_readsCommand_16 : decode cX13_readsCommand 16 = .ok (.iload_n 1, 1) := by decide +kernel
theorem dX13_readsCommand_17 : decode cX13_readsCommand 17 = .ok (.iload_n 2, 1) := by decide +kernel
theorem dX13_readsCommand_18 : decode cX13_readsCommand 18 = .ok (.iastore, 1) := by decide +kernel
theorem dX13_readsCommand_19 : decode cX13_readsCommand 19 = .ok (.aload_n 0, 1) := by decide +kernel
theorem dX13_readsCommand_20 : decode cX13_readsCommand 20 = .ok (.dup, 1) := by decide +kernel
theorem dX13_readsCommand_21 : decode cX13_readsCommand 21 = .ok (.getfield 217, 3) := by decide +kernel
theorem dX13_readsCommand_24 : decode cX13_readsCommand 24 = .ok (.iconst 1, 1) := by decide +kernel
theorem dX13_readsCommand_25 : decode cX13_readsCommand 25 = .ok (.iadd, 1) := by decide +kernel
theorem dX13_readsCommand_26 : decode cX13_readsCommand 26 = .ok (.putfield 217, 3) := by decide +kernel
theorem dX13_readsCommand_29 : decode cX13_readsCommand 29 = .ok (.aload_n 0, 1) := by decide +kernel
theorem dX13_readsCommand_30 : decode cX13_readsCommand 30 = .ok (.getfield 194, 3) := by decide +kernel
theorem dX13_readsCommand_33 : decode cX13_readsCommand 33 = .ok (.iconst (-1), 1) := by decide +kernel
theorem dX13_readsCommand_34 : decode cX13_readsCommand 34 = .ok (.if_icmp .eq 4, 3) := by decide +kernel
theorem dX13_readsCommand_37 : decode cX13_readsCommand 37 = .ok (.return_, 1) := by decide +kernel
theorem dX13_readsCommand_38 : decode cX13_readsCommand 38 = .ok (.iload_n 2, 1) := by decide +kernel
theorem dX13_readsCommand_39 : decode cX13_readsCommand 39 = .ok (.iconst 2, 1) := by decide +kernel
theorem dX13_readsCommand_40 : decode cX13_readsCommand 40 = .ok (.if_icmp .eq 15, 3) := by decide +kernel
theorem dX13_readsCommand_43 : decode cX13_readsCommand 43 = .ok (.iload_n 2, 1) := by decide +kernel
theorem dX13_readsCommand_44 : decode cX13_readsCommand 44 = .ok (.bipush 6, 2) := by decide +kernel
theorem dX13_readsCommand_46 : decode cX13_readsCommand 46 = .ok (.if_icmp .eq 9, 3) := by decide +kernel
theorem dX13_readsCommand_49 : decode cX13_readsCommand 49 = .ok (.iload_n 2, 1) := by decide +kernel
theorem dX13_readsCommand_50 : decode cX13_readsCommand 50 = .ok (.bipush 7, 2) := by decide +kernel
theorem dX13_readsCommand_52 : decode cX13_readsCommand 52 = .ok (.if_icmp .ne 7, 3) := by decide +kernel
theorem dX13_readsCommand_55 : decode cX13_readsCommand 55 = .ok (.iconst 1, 1) := by decide +kernel
theorem dX13_readsCommand_56 : decode cX13_readsCommand 56 = .ok (.goto 4, 3) := by decide +kernel
theorem dX13_readsCommand_59 : decode cX13_readsCommand 59 = .ok (.iconst 0, 1) := by decide +kernel
theorem dX13_readsCommand_60 : decode cX13_readsCommand 60 = .ok (.istore_n 3, 1) := by decide +kernel
theorem dX13_readsCommand_61 : decode cX13_readsCommand 61 = .ok (.aload_n 0, 1) := by decide +kernel
theorem dX13_readsCommand_62 : decode cX13_readsCommand 62 = .ok (.getfield 35, 3) := by decide +kernel
theorem dX13_readsCommand_65 : decode cX13_readsCommand 65 = .ok (.iload_n 1, 1) := by decide +kernel
theorem dX13_readsCommand_66 : decode cX13_readsCommand 66 = .ok (.iconst 1, 1) := by decide +kernel
theorem dX13_readsCommand_67 : decode cX13_readsCommand 67 = .ok (.iadd, 1) := by decide +kernel
theorem dX13_readsCommand_68 : decode cX13_readsCommand 68 = .ok (.iload_n 3, 1) := by decide +kernel
theorem dX13_readsCommand_69 : decode cX13_readsCommand 69 = .ok (.ifCond .eq 10, 3) := by decide +kernel
theorem dX13_readsCommand_72 : decode cX13_readsCommand 72 = .ok (.aload_n 0, 1) := by decide +kernel
theorem dX13_readsCommand_73 : decode cX13_readsCommand 73 = .ok (.invokevirtual 223, 3) := by decide +kernel
theorem dX13_readsCommand_76 : decode cX13_readsCommand 76 = .ok (.goto 7, 3) := by decide +kernel
theorem dX13_readsCommand_79 : decode cX13_readsCommand 79 = .ok (.aload_n 0, 1) := by decide +kernel
theorem dX13_readsCommand_80 : decode cX13_readsCommand 80 = .ok (.invokevirtual 203, 3) := by decide +kernel
theorem dX13_readsCommand_83 : decode cX13_readsCommand 83 = .ok (.iastore, 1) := by decide +kernel
theorem dX13_readsCommand_84 : decode cX13_readsCommand 84 = .ok (.iload_n 2, 1) := by decide +kernel
theorem dX13_readsCommand_85 : decode cX13_readsCommand 85 = .ok (.ifCond .eq 9, 3) := by decide +kernel
theorem dX13_readsCommand_88 : decode cX13_readsCommand 88 = .ok (.iload_n 2, 1) := by decide +kernel
theorem dX13_readsCommand_89 : decode cX13_readsCommand 89 = .ok (.bipush 7, 2) := by decide +kernel
theorem dX13_readsCommand_91 : decode cX13_readsCommand 91 = .ok (.if_icmp .ne 4, 3) := by decide +kernel
theorem dX13_readsCommand_94 : decode cX13_readsCommand 94 = .ok (.return_, 1) := by decide +kernel
theorem dX13_readsCommand_95 : decode cX13_readsCommand 95 = .ok (.aload_n 0, 1) := by decide +kernel
theorem dX13_readsCommand_96 : decode cX13_readsCommand 96 = .ok (.invokevirtual 226, 3) := by decide +kernel
theorem dX13_readsCommand_99 : decode cX13_readsCommand 99 = .ok (.aload_n 0, 1) := by decide +kernel
theorem dX13_readsCommand_100 : decode cX13_readsCommand 100 = .ok (.getfield 35, 3) := by decide +kernel
theorem dX13_readsCommand_103 : decode cX13_readsCommand 103 = .ok (.iload_n 1, 1) := by decide +kernel
theorem dX13_readsCommand_104 : decode cX13_readsCommand 104 = .ok (.iconst 2, 1) := by decide +kernel
theorem dX13_readsCommand_105 : decode cX13_readsCommand 105 = .ok (.iadd, 1) := by decide +kernel
theorem dX13_readsCommand_106 : decode cX13_readsCommand 106 = .ok (.iload_n 2, 1) := by decide +kernel
theorem dX13_readsCommand_107 : decode cX13_readsCommand 107 = .ok (.iconst 1, 1) := by decide +kernel
theorem dX13_readsCommand_108 : decode cX13_readsCommand 108 = .ok (.if_icmp .eq 8, 3) := by decide +kernel
theorem dX13_readsCommand_111 : decode cX13_readsCommand 111 = .ok (.iload_n 2, 1) := by decide +kernel
theorem dX13_readsCommand_112 : decode cX13_readsCommand 112 = .ok (.iconst 2, 1) := by decide +kernel
theorem dX13_readsCommand_113 : decode cX13_readsCommand 113 = .ok (.if_icmp .ne 10, 3) := by decide +kernel
theorem dX13_readsCommand_116 : decode cX13_readsCommand 116 = .ok (.aload_n 0, 1) := by decide +kernel
theorem dX13_readsCommand_117 : decode cX13_readsCommand 117 = .ok (.invokevirtual 203, 3) := by decide +kernel
theorem dX13_readsCommand_120 : decode cX13_readsCommand 120 = .ok (.goto 7, 3) := by decide +kernel
theorem dX13_readsCommand_123 : decode cX13_readsCommand 123 = .ok (.aload_n 0, 1) := by decide +kernel
theorem dX13_readsCommand_124 : decode cX13_readsCommand 124 = .ok (.invokevirtual 223, 3) := by decide +kernel
theorem dX13_readsCommand_127 : decode cX13_readsCommand 127 = .ok (.iastore, 1) := by decide +kernel
theorem dX13_readsCommand_128 : decode cX13_readsCommand 128 = .ok (.iload_n 2, 1) := by decide +kernel
theorem dX13_readsCommand_129 : decode cX13_readsCommand 129 = .ok (.iconst 2, 1) := by decide +kernel
theorem dX13_readsCommand_130 : decode cX13_readsCommand 130 = .ok (.if_icmp .eq 8, 3) := by decide +kernel
theorem dX13_readsCommand_133 : decode cX13_readsCommand 133 = .ok (.iload_n 2, 1) := by decide +kernel
theorem dX13_readsCommand_134 : decode cX13_readsCommand 134 = .ok (.iconst 4, 1) := by decide +kernel
theorem dX13_readsCommand_135 : decode cX13_readsCommand 135 = .ok (.if_icmp .ne 19, 3) := by decide +kernel
theorem dX13_readsCommand_138 : decode cX13_readsCommand 138 = .ok (.aload_n 0, 1) := by decide +kernel
theorem dX13_readsCommand_139 : decode cX13_readsCommand 139 = .ok (.invokevirtual 226, 3) := by decide +kernel
theorem dX13_readsCommand_142 : decode cX13_readsCommand 142 = .ok (.aload_n 0, 1) := by decide +kernel
theorem dX13_readsCommand_143 : decode cX13_readsCommand 143 = .ok (.getfield 35, 3) := by decide +kernel
theorem dX13_readsCommand_146 : decode cX13_readsCommand 146 = .ok (.iload_n 1, 1) := by decide +kernel
theorem dX13_readsCommand_147 : decode cX13_readsCommand 147 = .ok (.iconst 3, 1) := by decide +kernel
theorem dX13_readsCommand_148 : decode cX13_readsCommand 148 = .ok (.iadd, 1) := by decide +kernel
theorem dX13_readsCommand_149 : decode cX13_readsCommand 149 = .ok (.aload_n 0, 1) := by decide +kernel
theorem dX13_readsCommand_150 : decode cX13_readsCommand 150 = .ok (.invokevirtual 223, 3) := by decide +kernel
theorem dX13_readsCommand_153 : decode cX13_readsCommand 153 = .ok (.iastore, 1) := by decide +kernel
theorem dX13_readsCommand_154 : decode cX13_readsCommand 154 = .ok (.return_, 1) := by decide +kernel
set_option maxRecDepth 20000 in
theorem ggX13_readsAll_X13_readsCommand : GoodIn wsX13_readsAll wsX13_readsCommand := goodIn_ca (goodIn_r _ [10, 5, 11, 4, 12, 13, 14, 9, 15, 3, 2, 16, 17, 18, 19, 20, 21, 22, 23, 24, 25, 26, 27, 28, 29, 30, 31, 32, 33, 34, 35, 36, 37, 38, 39, 40, 41, 42, 43, 44, 45, 46, 47, 48, 49, 50, 51, 52, 53, 54, 55, 56, 57, 58, 59, 60, 61, 62, 63, 64, 65, 66, 67, 68, 69, 70, 71, 72, 73, 74, 75, 76, 77, 78, 79, 80, 81, 82, 83, 84, 85, 86, 87, 88, 89, 90, 91, 92, 93, 94, 95, 96, 97, 98, 99, 100, 101, 102, 103, 104, 105, 106, 107, 108, 109] (by decide +kernel) (by decide +kernel)) (goodIn_sub (fun _ h => List.mem_cons_of_mem _ (List.mem_append_right _ h)) (by decide +kernel))
set_option maxRecDepth 20000 in
theorem gX13_readsAll_X13_readsCommand : GoodIn wsX13_readsAll (wsV RX13 229 RX13 yX13_readsCommand wsX13_readsCommand) := goodIn_app (goodIn_of _ (by decide +kernel)) ggX13_readsAll_X13_readsCommand
set_option maxRecDepth 20000 in
theorem ggX13_readsAll_X13_reads : GoodIn wsX13_readsAll wsX13_reads := goodIn_ca (goodIn_r _ [76, 4, 3, 16, 77, 78, 79, 9, 80, 2, 81, 82, 83, 88, 89, 90, 91, 92, 93, 94, 95, 96, 97, 98, 99, 100, 101, 102, 103, 104, 105] (by decide +kernel) (by decide +kernel)) (goodIn_sub (fun _ h => List.mem_cons_of_mem _ (List.mem_append_right _ h)) (by decide +kernel))
set_option maxRecDepth 20000 in
theorem gX13_readsAll_X13_reads : GoodIn wsX13_readsAll (wsV RX13 200 RX13 yX13_reads wsX13_reads) := goodIn_app (goodIn_of _ (by decide +kernel)) ggX13_readsAll_X13_reads
theorem dX13_readsAll_0 : decode cX13_readsAll 0 = .ok (.aload_n 0, 1) := by decide +kernel
theorem dX13_readsAll_1 : decode cX13_readsAll 1 = .ok (.aload_n 0, 1) := by decide +kernel
theorem dX13_readsAll_2 : decode cX13_readsAll 2 = .ok (.getfield 185, 3) := by decide +kernel
theorem dX13_readsAll_5 : decode cX13_readsAll 5 = .ok (.putfield 191, 3) := by decide +kernel
theorem dX13_readsAll_8 : decode cX13_readsAll 8 = .ok (.aload_n 0, 1) := by decide +kernel
theorem dX13_readsAll_9 : decode cX13_readsAll 9 = .ok (.iconst 0, 1) := by decide +kernel
theorem dX13_readsAll_10 : decode cX13_readsAll 10 = .ok (.putfield 185, 3) := by decide +kernel
theorem dX13_readsAll_13 : decode cX13_readsAll 13 = .ok (.aload_n 0, 1) := by decide +kernel
theorem dX13_readsAll_14 : decode cX13_readsAll 14 = .ok (.iconst 0, 1) := by decide +kernel
theorem dX13_readsAll_15 : decode cX13_readsAll 15 = .ok (.putfield 188, 3) := by decide +kernel
theorem dX13_readsAll_18 : decode cX13_readsAll 18 = .ok (.aload_n 0, 1) := by decide +kernel
theorem dX13_readsAll_19 : decode cX13_readsAll 19 = .ok (.iconst (-1), 1) := by decide +kernel
theorem dX13_readsAll_20 : decode cX13_readsAll 20 = .ok (.putfield 194, 3) := by decide +kernel
theorem dX13_readsAll_23 : decode cX13_readsAll 23 = .ok (.aload_n 0, 1) := by decide +kernel
theorem dX13_readsAll_24 : decode cX13_readsAll 24 = .ok (.iconst 0, 1) := by decide +kernel
theorem dX13_readsAll_25 : decode cX13_readsAll 25 = .ok (.putfield 217, 3) := by decide +kernel
theorem dX13_readsAll_28 : decode cX13_readsAll 28 = .ok (.aload_n 0, 1) := by decide +kernel
theorem dX13_readsAll_29 : decode cX13_readsAll 29 = .ok (.invokevirtual 229, 3) := by decide +kernel
theorem dX13_readsAll_32 : decode cX13_readsAll 32 = .ok (.aload_n 0, 1) := by decide +kernel
theorem dX13_readsAll_33 : decode cX13_readsAll 33 = .ok (.getfield 194, 3) := by decide +kernel
theorem dX13_readsAll_36 : decode cX13_readsAll 36 = .ok (.iconst (-1), 1) := by decide +kernel
theorem dX13_readsAll_37 : decode cX13_readsAll 37 = .ok (.if_icmp .ne 38, 3) := by decide +kernel
theorem dX13_readsAll_40 : decode cX13_readsAll 40 = .ok (.aload_n 0, 1) := by decide +kernel
theorem dX13_readsAll_41 : decode cX13_readsAll 41 = .ok (.getfield 188, 3) := by decide +kernel
theorem dX13_readsAll_44 : decode cX13_readsAll 44 = .ok (.aload_n 0, 1) := by decide +kernel
theorem dX13_readsAll_45 : decode cX13_readsAll 45 = .ok (.getfield 191, 3) := by decide +kernel
theorem dX13_readsAll_48 : decode cX13_readsAll 48 = .ok (.if_icmp .ge 27, 3) := by decide +kernel
theorem dX13_readsAll_51 : decode cX13_readsAll 51 = .ok (.aload_n 0, 1) := by decide +kernel
theorem dX13_readsAll_52 : decode cX13_readsAll 52 = .ok (.bipush 59, 2) := by decide +kernel
theorem dX13_readsAll_54 : decode cX13_readsAll 54 = .ok (.bipush 59, 2) := by decide +kernel
theorem dX13_readsAll_56 : decode cX13_readsAll 56 = .ok (.invokevirtual 200, 3) := by decide +kernel
theorem dX13_readsAll_59 : decode cX13_readsAll 59 = .ok (.istore_n 1, 1) := by decide +kernel
theorem dX13_readsAll_60 : decode cX13_readsAll 60 = .ok (.aload_n 0, 1) := by decide +kernel
theorem dX13_readsAll_61 : decode cX13_readsAll 61 = .ok (.getfield 194, 3) := by decide +kernel
theorem dX13_readsAll_64 : decode cX13_readsAll 64 = .ok (.iconst (-1), 1) := by decide +kernel
theorem dX13_readsAll_65 : decode cX13_readsAll 65 = .ok (.if_icmp .ne 7, 3) := by decide +kernel
theorem dX13_readsAll_68 : decode cX13_readsAll 68 = .ok (.aload_n 0, 1) := by decide +kernel
theorem dX13_readsAll_69 : decode cX13_readsAll 69 = .ok (.invokevirtual 229, 3) := by decide +kernel
theorem dX13_readsAll_72 : decode cX13_readsAll 72 = .ok (.goto (-40), 3) := by decide +kernel
theorem dX13_readsAll_75 : decode cX13_readsAll 75 = .ok (.return_, 1) := by decide +kernel
set_option maxRecDepth 20000 in
theorem ggX13_does_X13_adds : GoodIn wsX13_does wsX13_adds := goodIn_ca (goodIn_r _ [6, 7, 8, 9, 5, 10, 11, 12, 13, 14, 15, 16, 17, 18, 112, 113, 114, 115, 116, 117, 118, 119, 120, 121, 122, 123, 124, 125, 126, 127, 128, 129] (by decide +kernel) (by decide +kernel)) (goodIn_sub (fun _ h => List.mem_cons_of_mem _ (List.mem_append_right _ h)) (by decide +kernel))
set_option maxRecDepth 20000 in
theorem gX13_does_X13_adds : GoodIn wsX13_does (wsV RX13 114 RX13 yX13_adds wsX13_adds) := goodIn_app (goodIn_of _ (by decide +kernel)) ggX13_does_X13_adds
set_option maxRecDepth 20000 in
theorem ggX13_does_X13_moves : GoodIn wsX13_does wsX13_moves := goodIn_ca (goodIn_r _ [22, 7, 23, 24, 25, 5, 26, 11, 12, 13, 8, 9, 10, 14, 15, 16, 17, 18, 112, 113, 114, 115, 116, 117, 118, 119, 120, 121, 122, 123, 124, 125, 126, 127, 128, 129] (by decide +kernel) (by decide +kernel)) (goodIn_sub (fun _ h => List.mem_cons_of_mem _ (List.mem_append_right _ h)) (by decide +kernel))
set_option maxRecDepth 20000 in
theorem gX13_does_X13_moves : GoodIn wsX13_does (wsV RX13 120 RX13 yX13_moves wsX13_moves) := goodIn_app (goodIn_of _ (by decide +kernel)) ggX13_does_X13_moves
set_option maxRecDepth 20000 in
theorem ggX13_does_X13_splits : GoodIn wsX13_does wsX13_splits := goodIn_ca (goodIn_r _ [30, 7, 31, 32, 5, 33, 11, 12, 13, 14, 15, 16, 17, 18, 23, 24, 25, 26, 34, 35, 36, 112, 113, 114, 115, 116, 117, 118, 119, 120, 121, 122, 123, 124, 125, 126, 127, 128, 129] (by decide +kernel) (by decide +kernel)) (goodIn_sub (fun _ h => List.mem_cons_of_mem _ (List.mem_append_right _ h)) (by decide +kernel))
set_option maxRecDepth 20000 in
theorem gX13_does_X13_splits : GoodIn wsX13_does (wsV RX13 130 RX13 yX13_splits wsX13_splits) := goodIn_app (goodIn_of _ (by decide +kernel)) ggX13_does_X13_splits
set_option maxRecDepth 20000 in
theorem ggX13_does_X13_loses : GoodIn wsX13_does wsX13_loses := goodIn_ca (goodIn_r _ [40, 7, 41, 42, 43, 5, 44, 45, 46, 47, 48, 49, 50, 51, 52, 23, 24, 25, 26, 11, 12, 13, 53, 54, 55, 56, 14, 15, 16, 17, 18, 57, 58, 59, 60, 61, 62, 63, 64, 65, 66, 67, 112, 113, 114, 115, 116, 117, 118, 119, 120, 121, 122, 123, 124, 125, 126, 127, 128, 129] (by decide +kernel) (by decide +kernel)) (goodIn_sub (fun _ h => List.mem_cons_of_mem _ (List.mem_append_right _ h)) (by decide +kernel))
set_option maxRecDepth 20000 in
theorem gX13_does_X13_loses : GoodIn wsX13_does (wsV RX13 136 RX13 yX13_loses wsX13_loses) := goodIn_app (goodIn_of _ (by decide +kernel)) ggX13_does_X13_loses
set_option maxRecDepth 20000 in
theorem ggX13_does_X13_spoils : GoodIn wsX13_does wsX13_spoils := goodIn_ca (goodIn_r _ [71, 7, 41, 42, 43, 5, 44, 45, 46, 47, 48, 49, 50, 51, 52, 53, 54, 55, 56, 23, 24, 25, 26, 11, 12, 13, 14, 15, 16, 17, 18, 112, 113, 114, 115, 116, 117, 118, 119, 120, 121, 122, 123, 124, 125, 126, 127, 128, 129] (by decide +kernel) (by decide +kernel)) (goodIn_sub (fun _ h => List.mem_cons_of_mem _ (List.mem_append_right _ h)) (by decide +kernel))
set_option maxRecDepth 20000 in
theorem gX13_does_X13_spoils : GoodIn wsX13_does (wsV RX13 139 RX13 yX13_spoils wsX13_spoils) := goodIn_app (goodIn_of _ (by decide +kernel)) ggX13_does_X13_spoils
set_option maxRecDepth 20000 in
theorem ggX13_does_X13_issues : GoodIn wsX13_does wsX13_issues := goodIn_ca (goodIn_r _ [75, 7, 41, 42, 43, 5, 44, 45, 46, 47, 48, 49, 50, 51, 52, 23, 24, 25, 26, 11, 12, 13, 53, 54, 55, 56, 76, 77, 78, 79, 57, 58, 59, 60, 61, 62, 63, 64, 65, 66, 67, 14, 15, 16, 17, 18, 80, 81, 82, 83, 84, 85, 86, 87, 88, 89, 90, 91, 92, 93, 94, 95, 96, 97, 98, 99, 112, 113, 114, 115, 116, 117, 118, 119, 120, 121, 122, 123, 124, 125, 126, 127, 128, 129] (by decide +kernel) (by decide +kernel)) (goodIn_sub (fun _ h => List.mem_cons_of_mem _ (List.mem_append_right _ h)) (by decide +kernel))
set_option maxRecDepth 20000 in
theorem gX13_does_X13_issues : GoodIn wsX13_does (wsV RX13 148 RX13 yX13_issues wsX13_issues) := goodIn_app (goodIn_of _ (by decide +kernel)) ggX13_does_X13_issues
set_option maxRecDepth 20000 in
theorem ggX13_does_X13_refreshes : GoodIn wsX13_does wsX13_refreshes := goodIn_ca (goodIn_r _ [103, 7, 41, 42, 43, 5, 44, 45, 46, 47, 48, 49, 50, 51, 52, 31, 32, 33, 11, 12, 13, 14, 15, 16, 17, 18, 53, 54, 55, 56, 23, 24, 25, 26, 34, 35, 36, 112, 113, 114, 115, 116, 117, 118, 119, 120, 121, 122, 123, 124, 125, 126, 127, 128, 129] (by decide +kernel) (by decide +kernel)) (goodIn_sub (fun _ h => List.mem_cons_of_mem _ (List.mem_append_right _ h)) (by decide +kernel))
set_option maxRecDepth 20000 in
theorem gX13_does_X13_refreshes : GoodIn wsX13_does (wsV RX13 151 RX13 yX13_refreshes wsX13_refreshes) := goodIn_app (goodIn_of _ (by decide +kernel)) ggX13_does_X13_refreshes
set_option maxRecDepth 20000 in
theorem ggX13_does_X13_forgets : GoodIn wsX13_does wsX13_forgets := goodIn_ca (goodIn_r _ [107, 7, 41, 42, 43, 5, 44, 45, 46, 47, 48, 49, 50, 51, 52, 108, 109, 110, 111, 14, 15, 16, 17, 18, 57, 58, 59, 60, 53, 54, 55, 56, 23, 24, 25, 26, 11, 12, 13, 61, 62, 63, 64, 65, 66, 67, 112, 113, 114, 115, 116, 117, 118, 119, 120, 121, 122, 123, 124, 125, 126, 127, 128, 129] (by decide +kernel) (by decide +kernel)) (goodIn_sub (fun _ h => List.mem_cons_of_mem _ (List.mem_append_right _ h)) (by decide +kernel))
set_option maxRecDepth 20000 in
theorem gX13_does_X13_forgets : GoodIn wsX13_does (wsV RX13 154 RX13 yX13_forgets wsX13_forgets) := goodIn_app (goodIn_of _ (by decide +kernel)) ggX13_does_X13_forgets
theorem dX13_does_0 : decode cX13_does 0 = .ok (.aload_n 0, 1) := by decide +kernel
theorem dX13_does_1 : decode cX13_does 1 = .ok (.getfield 35, 3) := by decide +kernel
theorem dX13_does_4 : decode cX13_does 4 = .ok (.iload_n 1, 1) := by decide +kernel
theorem dX13_does_5 : decode cX13_does 5 = .ok (.iconst 1, 1) := by decide +kernel
theorem dX13_does_6 : decode cX13_does 6 = .ok (.iadd, 1) := by decide +kernel
theorem dX13_does_7 : decode cX13_does 7 = .ok (.iaload, 1) := by decide +kernel
theorem dX13_does_8 : decode cX13_does 8 = .ok (.istore_n 2, 1) := by decide +kernel
theorem dX13_does_9 : decode cX13_does 9 = .ok (.aload_n 0, 1) := by decide +kernel
theorem dX13_does_10 : decode cX13_does 10 = .ok (.getfield 35, 3) := by decide +kernel
theorem dX13_does_13 : decode cX13_does 13 = .ok (.iload_n 1, 1) := by decide +kernel
theorem dX13_does_14 : decode cX13_does 14 = .ok (.iconst 2, 1) := by decide +kernel
theorem dX13_does_15 : decode cX13_does 15 = .ok (.iadd, 1) := by decide +kernel
theorem dX13_does_16 : decode cX13_does 16 = .ok (.iaload, 1) := by decide +kernel
theorem dX13_does_17 : decode cX13_does 17 = .ok (.istore_n 3, 1) := by decide +kernel
theorem dX13_does_18 : decode cX13_does 18 = .ok (.aload_n 0, 1) := by decide +kernel
theorem dX13_does_19 : decode cX13_does 19 = .ok (.getfield 35, 3) := by decide +kernel
theorem dX13_does_22 : decode cX13_does 22 = .ok (.iload_n 1, 1) := by decide +kernel
theorem dX13_does_23 : decode cX13_does 23 = .ok (.iconst 3, 1) := by decide +kernel
theorem dX13_does_24 : decode cX13_does 24 = .ok (.iadd, 1) := by decide +kernel
theorem dX13_does_25 : decode cX13_does 25 = .ok (.iaload, 1) := by decide +kernel
theorem dX13_does_26 : decode cX13_does 26 = .ok (.istore 4, 2) := by decide +kernel
theorem dX13_does_28 : decode cX13_does 28 = .ok (.aload_n 0, 1) := by decide +kernel
theorem dX13_does_29 : decode cX13_does 29 = .ok (.getfield 35, 3) := by decide +kernel
theorem dX13_does_32 : decode cX13_does 32 = .ok (.iload_n 1, 1) := by decide +kernel
theorem dX13_does_33 : decode cX13_does 33 = .ok (.iaload, 1) := by decide +kernel
theorem dX13_does_34 : decode cX13_does 34 = .ok (.tableswitch 94 0 6 #[42, 48, 55, 64, 71, 80, 87], 42) := by decide +kernel
theorem dX13_does_76 : decode cX13_does 76 = .ok (.aload_n 0, 1) := by decide +kernel
theorem dX13_does_77 : decode cX13_does 77 = .ok (.iload_n 2, 1) := by decide +kernel
theorem dX13_does_78 : decode cX13_does 78 = .ok (.invokevirtual 114, 3) := by decide +kernel
theorem dX13_does_81 : decode cX13_does 81 = .ok (.ireturn, 1) := by decide +kernel
theorem dX13_does_82 : decode cX13_does 82 = .ok (.aload_n 0, 1) := by decide +kernel
theorem dX13_does_83 : decode cX13_does 83 = .ok (.iload_n 2, 1) := by decide +kernel
theorem dX13_does_84 : decode cX13_does 84 = .ok (.iload_n 3, 1) := by decide +kernel
theorem dX13_does_85 : decode cX13_does 85 = .ok (.invokevirtual 120, 3) := by decide +kernel
theorem dX13_does_88 : decode cX13_does 88 = .ok (.ireturn, 1) := by decide +kernel
theorem dX13_does_89 : decode cX13_does 89 = .ok (.aload_n 0, 1) := by decide +kernel
theorem dX13_does_90 : decode cX13_does 90 = .ok (.iload_n 2, 1) := by decide +kernel
theorem dX13_does_91 : decode cX13_does 91 = .ok (.iload_n 3, 1) := by decide +kernel
theorem dX13_does_92 : decode cX13_does 92 = .ok (.iload 4, 2) := by decide +kernel
theorem dX13_does_94 : decode cX13_does 94 = .ok (.invokevirtual 130, 3) := by decide +kernel
theorem dX13_does_97 : decode cX13_does 97 = .ok (.ireturn, 1) := by decide +kernel
theorem dX13_does_98 : decode cX13_does 98 = .ok (.aload_n 0, 1) := by decide +kernel
theorem dX13_does_99 : decode cX13_does 99 = .ok (.iload_n 2, 1) := by decide +kernel
theorem dX13_does_100 : decode cX13_does 100 = .ok (.iload_n 3, 1) := by decide +kernel
theorem dX13_does_101 : decode cX13_does 101 = .ok (.invokevirtual 136, 3) := by decide +kernel
theorem dX13_does_104 : decode cX13_does 104 = .ok (.ireturn, 1) := by decide +kernel
theorem dX13_does_105 : decode cX13_does 105 = .ok (.aload_n 0, 1) := by decide +kernel
theorem dX13_does_106 : decode cX13_does 106 = .ok (.iload_n 2, 1) := by decide +kernel
theorem dX13_does_107 : decode cX13_does 107 = .ok (.iload_n 3, 1) := by decide +kernel
theorem dX13_does_108 : decode cX13_does 108 = .ok (.iload 4, 2) := by decide +kernel
theorem dX13_does_110 : decode cX13_does 110 = .ok (.invokevirtual 139, 3) := by decide +kernel
theorem dX13_does_113 : decode cX13_does 113 = .ok (.ireturn, 1) := by decide +kernel
theorem dX13_does_114 : decode cX13_does 114 = .ok (.aload_n 0, 1) := by decide +kernel
theorem dX13_does_115 : decode cX13_does 115 = .ok (.iload_n 2, 1) := by decide +kernel
theorem dX13_does_116 : decode cX13_does 116 = .ok (.iload_n 3, 1) := by decide +kernel
theorem dX13_does_117 : decode cX13_does 117 = .ok (.invokevirtual 148, 3) := by decide +kernel
theorem dX13_does_120 : decode cX13_does 120 = .ok (.ireturn, 1) := by decide +kernel
theorem dX13_does_121 : decode cX13_does 121 = .ok (.aload_n 0, 1) := by decide +kernel
theorem dX13_does_122 : decode cX13_does 122 = .ok (.iload_n 2, 1) := by decide +kernel
theorem dX13_does_123 : decode cX13_does 123 = .ok (.iload_n 3, 1) := by decide +kernel
theorem dX13_does_124 : decode cX13_does 124 = .ok (.invokevirtual 151, 3) := by decide +kernel
theorem dX13_does_127 : decode cX13_does 127 = .ok (.ireturn, 1) := by decide +kernel
theorem dX13_does_128 : decode cX13_does 128 = .ok (.aload_n 0, 1) := by decide +kernel
theorem dX13_does_129 : decode cX13_does 129 = .ok (.iload_n 2, 1) := by decide +kernel
theorem dX13_does_130 : decode cX13_does 130 = .ok (.invokevirtual 154, 3) := by decide +kernel
theorem dX13_does_133 : decode cX13_does 133 = .ok (.ireturn, 1) := by decide +kernel
set_option maxRecDepth 20000 in
theorem ggX13_run_X13_readsAll : GoodIn wsX13_run wsX13_readsAll := goodIn_ca (goodIn_r _ [12, 13, 14, 15, 1, 4, 16, 17, 18, 11, 19, 20, 21, 22, 23, 24, 25, 26, 27, 28, 29, 30, 31, 32, 33, 34, 35, 36, 37, 38, 39, 40, 41, 42, 43, 44, 45, 46, 47, 48, 49, 50, 51, 52, 53, 54, 55, 56, 57, 58, 59, 60, 61, 62, 63, 64, 65, 66, 67, 68, 69, 70, 71, 72, 73, 74, 75, 76, 77, 78, 79, 80, 81, 82, 83, 84, 85, 86, 87, 88, 89, 90, 91, 92, 93, 94, 95, 96, 218, 219, 220, 221, 222, 223, 224, 225, 226, 227, 228, 229, 230, 231, 232, 233, 234, 235, 236, 237, 238, 239] (by decide +kernel) (by decide +kernel)) (goodIn_sub (fun _ h => List.mem_cons_of_mem _ (List.mem_append_right _ h)) (by decide +kernel))
set_option maxRecDepth 20000 in
theorem gX13_run_X13_readsAll : GoodIn wsX13_run (wsV RX13 232 RX13 yX13_readsAll wsX13_readsAll) := goodIn_app (goodIn_of _ (by decide +kernel)) ggX13_run_X13_readsAll
set_option maxRecDepth 20000 in
theorem ggX13_run_X13_begins : GoodIn wsX13_run wsX13_begins := goodIn_ca (goodIn_r _ [100, 7, 6, 101, 102, 11, 103, 218, 219, 220, 221, 222, 223, 224, 225, 226, 227, 228, 229, 230, 231, 232, 233, 234, 235] (by decide +kernel) (by decide +kernel)) (goodIn_sub (fun _ h => List.mem_cons_of_mem _ (List.mem_append_right _ h)) (by decide +kernel))
set_option maxRecDepth 20000 in
theorem gX13_run_X13_begins : GoodIn wsX13_run (wsV RX13 111 RX13 yX13_begins wsX13_begins) := goodIn_app (goodIn_of _ (by decide +kernel)) ggX13_run_X13_begins
set_option maxRecDepth 20000 in
theorem ggX13_run_X13_does : GoodIn wsX13_run wsX13_does := goodIn_ca (goodIn_r _ [107, 20, 108, 109, 110, 11, 111, 7, 112, 113, 114, 90, 91, 92, 115, 116, 117, 118, 3, 119, 120, 121, 122, 123, 124, 125, 126, 127, 128, 129, 130, 131, 132, 133, 134, 135, 136, 137, 138, 139, 140, 141, 142, 143, 144, 145, 146, 147, 148, 26, 27, 28, 29, 149, 150, 151, 152, 153, 154, 155, 156, 157, 158, 159, 160, 161, 162, 163, 164, 165, 166, 167, 168, 169, 170, 171, 172, 173, 174, 175, 176, 177, 178, 179, 180, 181, 182, 183, 184, 185, 186, 187, 188, 189, 190, 191, 192, 193, 194, 195, 196, 197, 198, 199, 200, 201, 202, 203, 204, 205, 206, 207, 218, 219, 220, 221, 222, 223, 224, 225, 226, 227, 228, 229, 230, 231, 232, 233, 234, 235] (by decide +kernel) (by decide +kernel)) (goodIn_sub (fun _ h => List.mem_cons_of_mem _ (List.mem_append_right _ h)) (by decide +kernel))
set_option maxRecDepth 20000 in
theorem gX13_run_X13_does : GoodIn wsX13_run (wsV RX13 235 RX13 yX13_does wsX13_does) := goodIn_app (goodIn_of _ (by decide +kernel)) ggX13_run_X13_does
set_option maxRecDepth 20000 in
theorem ggX13_run_X13_copies : GoodIn wsX13_run wsX13_copies := goodIn_ca (goodIn_r _ [103] (by decide +kernel) (by decide +kernel)) (goodIn_sub (fun _ h => List.mem_cons_of_mem _ (List.mem_append_right _ h)) (by decide +kernel))
set_option maxRecDepth 20000 in
theorem gX13_run_X13_copies : GoodIn wsX13_run (va_wsS RX13 45 yX13_copies wsX13_copies) := goodIn_app (goodIn_of _ (by decide +kernel)) ggX13_run_X13_copies
set_option maxRecDepth 20000 in
theorem ggX13_run_X13_ends : GoodIn wsX13_run wsX13_ends := goodIn_ca (goodIn_r _ [211, 3, 6, 7, 101, 102, 11, 103, 212, 213, 214, 215, 216, 217, 218, 219, 220, 221, 222, 223, 224, 225, 226, 227, 228, 229, 230, 231, 232, 233, 234, 235] (by decide +kernel) (by decide +kernel)) (goodIn_sub (fun _ h => List.mem_cons_of_mem _ (List.mem_append_right _ h)) (by decide +kernel))
set_option maxRecDepth 20000 in
theorem gX13_run_X13_ends : GoodIn wsX13_run (wsV RX13 117 RX13 yX13_ends wsX13_ends) := goodIn_app (goodIn_of _ (by decide +kernel)) ggX13_run_X13_ends
theorem dX13_run_0 : decode cX13_run 0 = .ok (.aload_n 0, 1) := by decide +kernel
theorem dX13_run_1 : decode cX13_run 1 = .ok (.invokevirtual 232, 3) := by decide +kernel
theorem dX13_run_4 : decode cX13_run 4 = .ok (.aload_n 0, 1) := by decide +kernel
theorem dX13_run_5 : decode cX13_run 5 = .ok (.getfield 194, 3) := by decide +kernel
theorem dX13_run_8 : decode cX13_run 8 = .ok (.iconst (-1), 1) := by decide +kernel
theorem dX13_run_9 : decode cX13_run 9 = .ok (.if_icmp .eq 18, 3) := by decide +kernel
theorem dX13_run_12 : decode cX13_run 12 = .ok (.aload_n 0, 1) := by decide +kernel
theorem dX13_run_13 : decode cX13_run 13 = .ok (.aload_n 0, 1) := by decide +kernel
theorem dX13_run_14 : decode cX13_run 14 = .ok (.getfield 194, 3) := by decide +kernel
theorem dX13_run_17 : decode cX13_run 17 = .ok (.putfield 22, 3) := by decide +kernel
theorem dX13_run_20 : decode cX13_run 20 = .ok (.aload_n 0, 1) := by decide +kernel
theorem dX13_run_21 : decode cX13_run 21 = .ok (.iconst 1, 1) := by decide +kernel
theorem dX13_run_22 : decode cX13_run 22 = .ok (.putfield 38, 3) := by decide +kernel
theorem dX13_run_25 : decode cX13_run 25 = .ok (.iconst 0, 1) := by decide +kernel
theorem dX13_run_26 : decode cX13_run 26 = .ok (.ireturn, 1) := by decide +kernel
theorem dX13_run_27 : decode cX13_run 27 = .ok (.aload_n 0, 1) := by decide +kernel
theorem dX13_run_28 : decode cX13_run 28 = .ok (.invokevirtual 111, 3) := by decide +kernel
theorem dX13_run_31 : decode cX13_run 31 = .ok (.aload_n 0, 1) := by decide +kernel
theorem dX13_run_32 : decode cX13_run 32 = .ok (.iconst 0, 1) := by decide +kernel
theorem dX13_run_33 : decode cX13_run 33 = .ok (.putfield 38, 3) := by decide +kernel
theorem dX13_run_36 : decode cX13_run 36 = .ok (.iconst 0, 1) := by decide +kernel
theorem dX13_run_37 : decode cX13_run 37 = .ok (.istore_n 1, 1) := by decide +kernel
theorem dX13_run_38 : decode cX13_run 38 = .ok (.iload_n 1, 1) := by decide +kernel
theorem dX13_run_39 : decode cX13_run 39 = .ok (.aload_n 0, 1) := by decide +kernel
theorem dX13_run_40 : decode cX13_run 40 = .ok (.getfield 217, 3) := by decide +kernel
theorem dX13_run_43 : decode cX13_run 43 = .ok (.if_icmp .ge 49, 3) := by decide +kernel
theorem dX13_run_46 : decode cX13_run 46 = .ok (.aload_n 0, 1) := by decide +kernel
theorem dX13_run_47 : decode cX13_run 47 = .ok (.iconst 4, 1) := by decide +kernel
theorem dX13_run_48 : decode cX13_run 48 = .ok (.iload_n 1, 1) := by decide +kernel
theorem dX13_run_49 : decode cX13_run 49 = .ok (.imul, 1) := by decide +kernel
theorem dX13_run_50 : decode cX13_run 50 = .ok (.invokevirtual 235, 3) := by decide +kernel
theorem dX13_run_53 : decode cX13_run 53 = .ok (.istore_n 2, 1) := by decide +kernel
theorem dX13_run_54 : decode cX13_run 54 = .ok (.aload_n 0, 1) := by decide +kernel
theorem dX13_run_55 : decode cX13_run 55 = .ok (.getfield 38, 3) := by decide +kernel
theorem dX13_run_58 : decode cX13_run 58 = .ok (.ifCond .eq 28, 3) := by decide +kernel
theorem dX13_run_61 : decode cX13_run 61 = .ok (.aload_n 0, 1) := by decide +kernel
theorem dX13_run_62 : decode cX13_run 62 = .ok (.iload_n 1, 1) := by decide +kernel
theorem dX13_run_63 : decode cX13_run 63 = .ok (.putfield 26, 3) := by decide +kernel
theorem dX13_run_66 : decode cX13_run 66 = .ok (.aload_n 0, 1) := by decide +kernel
theorem dX13_run_67 : decode cX13_run 67 = .ok (.iconst 2, 1) := by decide +kernel
theorem dX13_run_68 : decode cX13_run 68 = .ok (.putfield 38, 3) := by decide +kernel
theorem dX13_run_71 : decode cX13_run 71 = .ok (.aload_n 0, 1) := by decide +kernel
theorem dX13_run_72 : decode cX13_run 72 = .ok (.getfield 13, 3) := by decide +kernel
theorem dX13_run_75 : decode cX13_run 75 = .ok (.iconst 0, 1) := by decide +kernel
theorem dX13_run_76 : decode cX13_run 76 = .ok (.aload_n 0, 1) := by decide +kernel
theorem dX13_run_77 : decode cX13_run 77 = .ok (.getfield 9, 3) := by decide +kernel
theorem dX13_run_80 : decode cX13_run 80 = .ok (.iconst 0, 1) := by decide +kernel
theorem dX13_run_81 : decode cX13_run 81 = .ok (.invokestatic 45, 3) := by decide +kernel
theorem dX13_run_84 : decode cX13_run 84 = .ok (.iconst 0, 1) := by decide +kernel
theorem dX13_run_85 : decode cX13_run 85 = .ok (.ireturn, 1) := by decide +kernel
theorem dX13_run_86 : decode cX13_run 86 = .ok (.iinc 1 1, 3) := by decide +kernel
theorem dX13_run_89 : decode cX13_run 89 = .ok (.goto (-51), 3) := by decide +kernel
theorem dX13_run_92 : decode cX13_run 92 = .ok (.aload_n 0, 1) := by decide +kernel
theorem dX13_run_93 : decode cX13_run 93 = .ok (.aload_n 0, 1) := by decide +kernel
theorem dX13_run_94 : decode cX13_run 94 = .ok (.getfield 217, 3) := by decide +kernel
theorem dX13_run_97 : decode cX13_run 97 = .ok (.invokevirtual 117, 3) := by decide +kernel
theorem dX13_run_100 : decode cX13_run 100 = .ok (.ireturn, 1) := by decide +kernel
set_option maxRecDepth 20000 in
theorem ggX13_errorPosition_X13_goes : GoodIn wsX13_errorPosition wsX13_goes := goodIn_r _ [6, 7, 8, 9, 5, 10, 11, 12, 13, 14, 15, 16, 17, 18, 19, 20, 21, 22, 23, 24, 25, 26, 27, 28, 29] (by decide +kernel) (by decide +kernel)
set_option maxRecDepth 20000 in
theorem gX13_errorPosition_X13_goes : GoodIn wsX13_errorPosition (wsV RX13 55 RX13 yX13_goes wsX13_goes) := goodIn_app (goodIn_of _ (by decide +kernel)) ggX13_errorPosition_X13_goes
theorem dX13_errorPosition_0 : decode cX13_errorPosition 0 = .ok (.aload_n 0, 1) := by decide +kernel
theorem dX13_errorPosition_1 : decode cX13_errorPosition 1 = .ok (.aload_n 0, 1) := by decide +kernel
theorem dX13_errorPosition_2 : decode cX13_errorPosition 2 = .ok (.getfield 22, 3) := by decide +kernel
theorem dX13_errorPosition_5 : decode cX13_errorPosition 5 = .ok (.iconst (-1), 1) := by decide +kernel
theorem dX13_errorPosition_6 : decode cX13_errorPosition 6 = .ok (.if_icmp .eq 7, 3) := by decide +kernel
theorem dX13_errorPosition_9 : decode cX13_errorPosition 9 = .ok (.iconst 1, 1) := by decide +kernel
theorem dX13_errorPosition_10 : decode cX13_errorPosition 10 = .ok (.goto 4, 3) := by decide +kernel
theorem dX13_errorPosition_13 : decode cX13_errorPosition 13 = .ok (.iconst 0, 1) := by decide +kernel
theorem dX13_errorPosition_14 : decode cX13_errorPosition 14 = .ok (.invokevirtual 55, 3) := by decide +kernel
theorem dX13_errorPosition_17 : decode cX13_errorPosition 17 = .ok (.ifCond .eq 10, 3) := by decide +kernel
theorem dX13_errorPosition_20 : decode cX13_errorPosition 20 = .ok (.aload_n 0, 1) := by decide +kernel
theorem dX13_errorPosition_21 : decode cX13_errorPosition 21 = .ok (.getfield 22, 3) := by decide +kernel
theorem dX13_errorPosition_24 : decode cX13_errorPosition 24 = .ok (.goto 4, 3) := by decide +kernel
theorem dX13_errorPosition_27 : decode cX13_errorPosition 27 = .ok (.iconst 0, 1) := by decide +kernel
theorem dX13_errorPosition_28 : decode cX13_errorPosition 28 = .ok (.ireturn, 1) := by decide +kernel
set_option maxRecDepth 20000 in
theorem ggX13_failedCommand_X13_goes : GoodIn wsX13_failedCommand wsX13_goes := goodIn_r _ [6, 7, 8, 9, 5, 10, 11, 12, 13, 14, 15, 16, 17, 18, 19, 20, 21, 22, 23, 24, 25, 26, 27, 28, 29] (by decide +kernel) (by decide +kernel)
set_option maxRecDepth 20000 in
theorem gX13_failedCommand_X13_goes : GoodIn wsX13_failedCommand (wsV RX13 55 RX13 yX13_goes wsX13_goes) := goodIn_app (goodIn_of _ (by decide +kernel)) ggX13_failedCommand_X13_goes
theorem dX13_failedCommand_0 : decode cX13_failedCommand 0 = .ok (.aload_n 0, 1) := by decide +kernel
theorem dX13_failedCommand_1 : decode cX13_failedCommand 1 = .ok (.aload_n 0, 1) := by decide +kernel
theorem dX13_failedCommand_2 : decode cX13_failedCommand 2 = .ok (.getfield 26, 3) := by decide +kernel
theorem dX13_failedCommand_5 : decode cX13_failedCommand 5 = .ok (.iconst (-1), 1) := by decide +kernel
theorem dX13_failedCommand_6 : decode cX13_failedCommand 6 = .ok (.if_icmp .eq 7, 3) := by decide +kernel
theorem dX13_failedCommand_9 : decode cX13_failedCommand 9 = .ok (.iconst 1, 1) := by decide +kernel
theorem dX13_failedCommand_10 : decode cX13_failedCommand 10 = .ok (.goto 4, 3) := by decide +kernel
theorem dX13_failedCommand_13 : decode cX13_failedCommand 13 = .ok (.iconst 0, 1) := by decide +kernel
theorem dX13_failedCommand_14 : decode cX13_failedCommand 14 = .ok (.invokevirtual 55, 3) := by decide +kernel
theorem dX13_failedCommand_17 : decode cX13_failedCommand 17 = .ok (.ifCond .eq 10, 3) := by decide +kernel
theorem dX13_failedCommand_20 : decode cX13_failedCommand 20 = .ok (.aload_n 0, 1) := by decide +kernel
theorem dX13_failedCommand_21 : decode cX13_failedCommand 21 = .ok (.getfield 26, 3) := by decide +kernel
theorem dX13_failedCommand_24 : decode cX13_failedCommand 24 = .ok (.goto 4, 3) := by decide +kernel
theorem dX13_failedCommand_27 : decode cX13_failedCommand 27 = .ok (.iconst 0, 1) := by decide +kernel
theorem dX13_failedCommand_28 : decode cX13_failedCommand 28 = .ok (.ireturn, 1) := by decide +kernel
