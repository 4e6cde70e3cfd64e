/-! the law's instructions (printed) -/
theorem dL_cell_0 : decode cL_cell 0 = .ok (.ldc 7, 2) := by decide +kernel
theorem dL_cell_2 : decode cL_cell 2 = .ok (.iload_n 1, 1) := by decide +kernel
theorem dL_cell_3 : decode cL_cell 3 = .ok (.aload_n 0, 1) := by decide +kernel
theorem dL_cell_4 : decode cL_cell 4 = .ok (.arraylength, 1) := by decide +kernel
theorem dL_cell_5 : decode cL_cell 5 = .ok (.if_icmp .ge 9, 3) := by decide +kernel
theorem dL_cell_8 : decode cL_cell 8 = .ok (.aload_n 0, 1) := by decide +kernel
theorem dL_cell_9 : decode cL_cell 9 = .ok (.iload_n 1, 1) := by decide +kernel
theorem dL_cell_10 : decode cL_cell 10 = .ok (.iaload, 1) := by decide +kernel
theorem dL_cell_11 : decode cL_cell 11 = .ok (.goto 4, 3) := by decide +kernel
theorem dL_cell_14 : decode cL_cell 14 = .ok (.iconst 0, 1) := by decide +kernel
theorem dL_cell_15 : decode cL_cell 15 = .ok (.sipush 1009, 3) := by decide +kernel
theorem dL_cell_18 : decode cL_cell 18 = .ok (.iload_n 1, 1) := by decide +kernel
theorem dL_cell_19 : decode cL_cell 19 = .ok (.imul, 1) := by decide +kernel
theorem dL_cell_20 : decode cL_cell 20 = .ok (.iadd, 1) := by decide +kernel
theorem dL_cell_21 : decode cL_cell 21 = .ok (.imul, 1) := by decide +kernel
theorem dL_cell_22 : decode cL_cell 22 = .ok (.sipush 12345, 3) := by decide +kernel
theorem dL_cell_25 : decode cL_cell 25 = .ok (.iadd, 1) := by decide +kernel
theorem dL_cell_26 : decode cL_cell 26 = .ok (.istore_n 2, 1) := by decide +kernel
theorem dL_cell_27 : decode cL_cell 27 = .ok (.iload_n 2, 1) := by decide +kernel
theorem dL_cell_28 : decode cL_cell 28 = .ok (.iload_n 2, 1) := by decide +kernel
theorem dL_cell_29 : decode cL_cell 29 = .ok (.bipush 13, 2) := by decide +kernel
theorem dL_cell_31 : decode cL_cell 31 = .ok (.iushr, 1) := by decide +kernel
theorem dL_cell_32 : decode cL_cell 32 = .ok (.ixor, 1) := by decide +kernel
theorem dL_cell_33 : decode cL_cell 33 = .ok (.ldc 8, 2) := by decide +kernel
theorem dL_cell_35 : decode cL_cell 35 = .ok (.imul, 1) := by decide +kernel
theorem dL_cell_36 : decode cL_cell 36 = .ok (.istore_n 2, 1) := by decide +kernel
theorem dL_cell_37 : decode cL_cell 37 = .ok (.iload_n 2, 1) := by decide +kernel
theorem dL_cell_38 : decode cL_cell 38 = .ok (.iload_n 2, 1) := by decide +kernel
theorem dL_cell_39 : decode cL_cell 39 = .ok (.bipush 16, 2) := by decide +kernel
theorem dL_cell_41 : decode cL_cell 41 = .ok (.iushr, 1) := by decide +kernel
theorem dL_cell_42 : decode cL_cell 42 = .ok (.ixor, 1) := by decide +kernel
theorem dL_cell_43 : decode cL_cell 43 = .ok (.ireturn, 1) := by decide +kernel
theorem dL_pick_0 : decode cL_pick 0 = .ok (.aload_n 0, 1) := by decide +kernel
theorem dL_pick_1 : decode cL_pick 1 = .ok (.iload_n 1, 1) := by decide +kernel
theorem dL_pick_2 : decode cL_pick 2 = .ok (.invokestatic 9, 3) := by decide +kernel
theorem dL_pick_5 : decode cL_pick 5 = .ok (.bipush 8, 2) := by decide +kernel
theorem dL_pick_7 : decode cL_pick 7 = .ok (.iushr, 1) := by decide +kernel
theorem dL_pick_8 : decode cL_pick 8 = .ok (.iload_n 2, 1) := by decide +kernel
theorem dL_pick_9 : decode cL_pick 9 = .ok (.irem, 1) := by decide +kernel
theorem dL_pick_10 : decode cL_pick 10 = .ok (.ireturn, 1) := by decide +kernel
theorem dL_told_0 : decode cL_told 0 = .ok (.iload_n 0, 1) := by decide +kernel
theorem dL_told_1 : decode cL_told 1 = .ok (.ifCond .eq 7, 3) := by decide +kernel
theorem dL_told_4 : decode cL_told 4 = .ok (.iconst 1, 1) := by decide +kernel
theorem dL_told_5 : decode cL_told 5 = .ok (.goto 4, 3) := by decide +kernel
theorem dL_told_8 : decode cL_told 8 = .ok (.iconst 0, 1) := by decide +kernel
theorem dL_told_9 : decode cL_told 9 = .ok (.ireturn, 1) := by decide +kernel
theorem dL_plain_0 : decode cL_plain 0 = .ok (.iload_n 1, 1) := by decide +kernel
theorem dL_plain_1 : decode cL_plain 1 = .ok (.tableswitch 105 0 7 #[47, 53, 60, 69, 76, 85, 92, 99], 47) := by decide +kernel
theorem dL_plain_48 : decode cL_plain 48 = .ok (.aload_n 0, 1) := by decide +kernel
theorem dL_plain_49 : decode cL_plain 49 = .ok (.iload_n 2, 1) := by decide +kernel
theorem dL_plain_50 : decode cL_plain 50 = .ok (.invokevirtual 15, 3) := by decide +kernel
theorem dL_plain_53 : decode cL_plain 53 = .ok (.ireturn, 1) := by decide +kernel
theorem dL_plain_54 : decode cL_plain 54 = .ok (.aload_n 0, 1) := by decide +kernel
theorem dL_plain_55 : decode cL_plain 55 = .ok (.iload_n 2, 1) := by decide +kernel
theorem dL_plain_56 : decode cL_plain 56 = .ok (.iload_n 3, 1) := by decide +kernel
theorem dL_plain_57 : decode cL_plain 57 = .ok (.invokevirtual 21, 3) := by decide +kernel
theorem dL_plain_60 : decode cL_plain 60 = .ok (.ireturn, 1) := by decide +kernel
theorem dL_plain_61 : decode cL_plain 61 = .ok (.aload_n 0, 1) := by decide +kernel
theorem dL_plain_62 : decode cL_plain 62 = .ok (.iload_n 2, 1) := by decide +kernel
theorem dL_plain_63 : decode cL_plain 63 = .ok (.iload_n 3, 1) := by decide +kernel
theorem dL_plain_64 : decode cL_plain 64 = .ok (.iload 4, 2) := by decide +kernel
theorem dL_plain_66 : decode cL_plain 66 = .ok (.invokevirtual 25, 3) := by decide +kernel
theorem dL_plain_69 : decode cL_plain 69 = .ok (.ireturn, 1) := by decide +kernel
theorem dL_plain_70 : decode cL_plain 70 = .ok (.aload_n 0, 1) := by decide +kernel
theorem dL_plain_71 : decode cL_plain 71 = .ok (.iload_n 2, 1) := by decide +kernel
theorem dL_plain_72 : decode cL_plain 72 = .ok (.iload_n 3, 1) := by decide +kernel
theorem dL_plain_73 : decode cL_plain 73 = .ok (.invokevirtual 29, 3) := by decide +kernel
theorem dL_plain_76 : decode cL_plain 76 = .ok (.ireturn, 1) := by decide +kernel
theorem dL_plain_77 : decode cL_plain 77 = .ok (.aload_n 0, 1) := by decide +kernel
theorem dL_plain_78 : decode cL_plain 78 = .ok (.iload_n 2, 1) := by decide +kernel
theorem dL_plain_79 : decode cL_plain 79 = .ok (.iload_n 3, 1) := by decide +kernel
theorem dL_plain_80 : decode cL_plain 80 = .ok (.iload 4, 2) := by decide +kernel
theorem dL_plain_82 : decode cL_plain 82 = .ok (.invokevirtual 32, 3) := by decide +kernel
theorem dL_plain_85 : decode cL_plain 85 = .ok (.ireturn, 1) := by decide +kernel
theorem dL_plain_86 : decode cL_plain 86 = .ok (.aload_n 0, 1) := by decide +kernel
theorem dL_plain_87 : decode cL_plain 87 = .ok (.iload_n 2, 1) := by decide +kernel
theorem dL_plain_88 : decode cL_plain 88 = .ok (.iload_n 3, 1) := by decide +kernel
theorem dL_plain_89 : decode cL_plain 89 = .ok (.invokevirtual 35, 3) := by decide +kernel
theorem dL_plain_92 : decode cL_plain 92 = .ok (.ireturn, 1) := by decide +kernel
theorem dL_plain_93 : decode cL_plain 93 = .ok (.aload_n 0, 1) := by decide +kernel
theorem dL_plain_94 : decode cL_plain 94 = .ok (.iload_n 2, 1) := by decide +kernel
theorem dL_plain_95 : decode cL_plain 95 = .ok (.iload_n 3, 1) := by decide +kernel
theorem dL_plain_96 : decode cL_plain 96 = .ok (.invokevirtual 38, 3) := by decide +kernel
theorem dL_plain_99 : decode cL_plain 99 = .ok (.ireturn, 1) := by decide +kernel
theorem dL_plain_100 : decode cL_plain 100 = .ok (.aload_n 0, 1) := by decide +kernel
theorem dL_plain_101 : decode cL_plain 101 = .ok (.iload_n 2, 1) := by decide +kernel
theorem dL_plain_102 : decode cL_plain 102 = .ok (.invokevirtual 41, 3) := by decide +kernel
theorem dL_plain_105 : decode cL_plain 105 = .ok (.ireturn, 1) := by decide +kernel
theorem dL_plain_106 : decode cL_plain 106 = .ok (.aload_n 0, 1) := by decide +kernel
theorem dL_plain_107 : decode cL_plain 107 = .ok (.invokevirtual 44, 3) := by decide +kernel
theorem dL_plain_110 : decode cL_plain 110 = .ok (.ireturn, 1) := by decide +kernel
theorem dL_deed_0 : decode cL_deed 0 = .ok (.aload_n 0, 1) := by decide +kernel
theorem dL_deed_1 : decode cL_deed 1 = .ok (.iload_n 1, 1) := by decide +kernel
theorem dL_deed_2 : decode cL_deed 2 = .ok (.iload_n 2, 1) := by decide +kernel
theorem dL_deed_3 : decode cL_deed 3 = .ok (.iload_n 3, 1) := by decide +kernel
theorem dL_deed_4 : decode cL_deed 4 = .ok (.iload 4, 2) := by decide +kernel
theorem dL_deed_6 : decode cL_deed 6 = .ok (.invokestatic 48, 3) := by decide +kernel
theorem dL_deed_9 : decode cL_deed 9 = .ok (.ireturn, 1) := by decide +kernel
theorem dL_deed_10 : decode cL_deed 10 = .ok (.astore 5, 2) := by decide +kernel
theorem dL_deed_12 : decode cL_deed 12 = .ok (.sipush (-2002), 3) := by decide +kernel
theorem dL_deed_15 : decode cL_deed 15 = .ok (.ireturn, 1) := by decide +kernel
theorem dL_deed_16 : decode cL_deed 16 = .ok (.astore 5, 2) := by decide +kernel
theorem dL_deed_18 : decode cL_deed 18 = .ok (.sipush (-2003), 3) := by decide +kernel
theorem dL_deed_21 : decode cL_deed 21 = .ok (.ireturn, 1) := by decide +kernel
theorem dL_deed_22 : decode cL_deed 22 = .ok (.astore 5, 2) := by decide +kernel
theorem dL_deed_24 : decode cL_deed 24 = .ok (.sipush (-2005), 3) := by decide +kernel
theorem dL_deed_27 : decode cL_deed 27 = .ok (.ireturn, 1) := by decide +kernel
theorem dL_deed_28 : decode cL_deed 28 = .ok (.astore 5, 2) := by decide +kernel
theorem dL_deed_30 : decode cL_deed 30 = .ok (.sipush (-2001), 3) := by decide +kernel
theorem dL_deed_33 : decode cL_deed 33 = .ok (.ireturn, 1) := by decide +kernel
theorem dL_deed_34 : decode cL_deed 34 = .ok (.astore 5, 2) := by decide +kernel
theorem dL_deed_36 : decode cL_deed 36 = .ok (.sipush (-2004), 3) := by decide +kernel
theorem dL_deed_39 : decode cL_deed 39 = .ok (.ireturn, 1) := by decide +kernel
theorem dL_asked_0 : decode cL_asked 0 = .ok (.iload_n 1, 1) := by decide +kernel
theorem dL_asked_1 : decode cL_asked 1 = .ok (.tableswitch 171 0 14 #[75, 81, 87, 93, 99, 106, 112, 122, 128, 134, 140, 146, 153, 160, 166], 75) := by decide +kernel
theorem dL_asked_76 : decode cL_asked 76 = .ok (.aload_n 0, 1) := by decide +kernel
theorem dL_asked_77 : decode cL_asked 77 = .ok (.iload_n 2, 1) := by decide +kernel
theorem dL_asked_78 : decode cL_asked 78 = .ok (.invokevirtual 62, 3) := by decide +kernel
theorem dL_asked_81 : decode cL_asked 81 = .ok (.ireturn, 1) := by decide +kernel
theorem dL_asked_82 : decode cL_asked 82 = .ok (.aload_n 0, 1) := by decide +kernel
theorem dL_asked_83 : decode cL_asked 83 = .ok (.iload_n 2, 1) := by decide +kernel
theorem dL_asked_84 : decode cL_asked 84 = .ok (.invokevirtual 65, 3) := by decide +kernel
theorem dL_asked_87 : decode cL_asked 87 = .ok (.ireturn, 1) := by decide +kernel
theorem dL_asked_88 : decode cL_asked 88 = .ok (.aload_n 0, 1) := by decide +kernel
theorem dL_asked_89 : decode cL_asked 89 = .ok (.iload_n 2, 1) := by decide +kernel
theorem dL_asked_90 : decode cL_asked 90 = .ok (.invokevirtual 68, 3) := by decide +kernel
theorem dL_asked_93 : decode cL_asked 93 = .ok (.ireturn, 1) := by decide +kernel
theorem dL_asked_94 : decode cL_asked 94 = .ok (.aload_n 0, 1) := by decide +kernel
theorem dL_asked_95 : decode cL_asked 95 = .ok (.iload_n 2, 1) := by decide +kernel
theorem dL_asked_96 : decode cL_asked 96 = .ok (.invokevirtual 71, 3) := by decide +kernel
theorem dL_asked_99 : decode cL_asked 99 = .ok (.ireturn, 1) := by decide +kernel
theorem dL_asked_100 : decode cL_asked 100 = .ok (.aload_n 0, 1) := by decide +kernel
theorem dL_asked_101 : decode cL_asked 101 = .ok (.iload_n 2, 1) := by decide +kernel
theorem dL_asked_102 : decode cL_asked 102 = .ok (.iload_n 3, 1) := by decide +kernel
theorem dL_asked_103 : decode cL_asked 103 = .ok (.invokevirtual 74, 3) := by decide +kernel
theorem dL_asked_106 : decode cL_asked 106 = .ok (.ireturn, 1) := by decide +kernel
theorem dL_asked_107 : decode cL_asked 107 = .ok (.aload_n 0, 1) := by decide +kernel
theorem dL_asked_108 : decode cL_asked 108 = .ok (.iload_n 2, 1) := by decide +kernel
theorem dL_asked_109 : decode cL_asked 109 = .ok (.invokevirtual 77, 3) := by decide +kernel
theorem dL_asked_112 : decode cL_asked 112 = .ok (.ireturn, 1) := by decide +kernel
theorem dL_asked_113 : decode cL_asked 113 = .ok (.aload_n 0, 1) := by decide +kernel
theorem dL_asked_114 : decode cL_asked 114 = .ok (.iload_n 2, 1) := by decide +kernel
theorem dL_asked_115 : decode cL_asked 115 = .ok (.iload_n 3, 1) := by decide +kernel
theorem dL_asked_116 : decode cL_asked 116 = .ok (.invokevirtual 80, 3) := by decide +kernel
theorem dL_asked_119 : decode cL_asked 119 = .ok (.invokestatic 84, 3) := by decide +kernel
theorem dL_asked_122 : decode cL_asked 122 = .ok (.ireturn, 1) := by decide +kernel
theorem dL_asked_123 : decode cL_asked 123 = .ok (.aload_n 0, 1) := by decide +kernel
theorem dL_asked_124 : decode cL_asked 124 = .ok (.iload_n 2, 1) := by decide +kernel
theorem dL_asked_125 : decode cL_asked 125 = .ok (.invokevirtual 88, 3) := by decide +kernel
theorem dL_asked_128 : decode cL_asked 128 = .ok (.ireturn, 1) := by decide +kernel
theorem dL_asked_129 : decode cL_asked 129 = .ok (.aload_n 0, 1) := by decide +kernel
theorem dL_asked_130 : decode cL_asked 130 = .ok (.iload_n 2, 1) := by decide +kernel
theorem dL_asked_131 : decode cL_asked 131 = .ok (.invokevirtual 91, 3) := by decide +kernel
theorem dL_asked_134 : decode cL_asked 134 = .ok (.ireturn, 1) := by decide +kernel
theorem dL_asked_135 : decode cL_asked 135 = .ok (.aload_n 0, 1) := by decide +kernel
theorem dL_asked_136 : decode cL_asked 136 = .ok (.iload_n 2, 1) := by decide +kernel
theorem dL_asked_137 : decode cL_asked 137 = .ok (.invokevirtual 94, 3) := by decide +kernel
theorem dL_asked_140 : decode cL_asked 140 = .ok (.ireturn, 1) := by decide +kernel
theorem dL_asked_141 : decode cL_asked 141 = .ok (.aload_n 0, 1) := by decide +kernel
theorem dL_asked_142 : decode cL_asked 142 = .ok (.iload_n 2, 1) := by decide +kernel
theorem dL_asked_143 : decode cL_asked 143 = .ok (.invokevirtual 97, 3) := by decide +kernel
theorem dL_asked_146 : decode cL_asked 146 = .ok (.ireturn, 1) := by decide +kernel
theorem dL_asked_147 : decode cL_asked 147 = .ok (.aload_n 0, 1) := by decide +kernel
theorem dL_asked_148 : decode cL_asked 148 = .ok (.iload_n 2, 1) := by decide +kernel
theorem dL_asked_149 : decode cL_asked 149 = .ok (.iload_n 3, 1) := by decide +kernel
theorem dL_asked_150 : decode cL_asked 150 = .ok (.invokevirtual 100, 3) := by decide +kernel
theorem dL_asked_153 : decode cL_asked 153 = .ok (.ireturn, 1) := by decide +kernel
theorem dL_asked_154 : decode cL_asked 154 = .ok (.aload_n 0, 1) := by decide +kernel
theorem dL_asked_155 : decode cL_asked 155 = .ok (.iload_n 2, 1) := by decide +kernel
theorem dL_asked_156 : decode cL_asked 156 = .ok (.iload_n 3, 1) := by decide +kernel
theorem dL_asked_157 : decode cL_asked 157 = .ok (.invokevirtual 103, 3) := by decide +kernel
theorem dL_asked_160 : decode cL_asked 160 = .ok (.ireturn, 1) := by decide +kernel
theorem dL_asked_161 : decode cL_asked 161 = .ok (.aload_n 0, 1) := by decide +kernel
theorem dL_asked_162 : decode cL_asked 162 = .ok (.iload_n 2, 1) := by decide +kernel
theorem dL_asked_163 : decode cL_asked 163 = .ok (.invokevirtual 106, 3) := by decide +kernel
theorem dL_asked_166 : decode cL_asked 166 = .ok (.ireturn, 1) := by decide +kernel
theorem dL_asked_167 : decode cL_asked 167 = .ok (.aload_n 0, 1) := by decide +kernel
theorem dL_asked_168 : decode cL_asked 168 = .ok (.invokevirtual 109, 3) := by decide +kernel
theorem dL_asked_171 : decode cL_asked 171 = .ok (.ireturn, 1) := by decide +kernel
theorem dL_asked_172 : decode cL_asked 172 = .ok (.aload_n 0, 1) := by decide +kernel
theorem dL_asked_173 : decode cL_asked 173 = .ok (.invokevirtual 112, 3) := by decide +kernel
theorem dL_asked_176 : decode cL_asked 176 = .ok (.ireturn, 1) := by decide +kernel
theorem dL_ask_0 : decode cL_ask 0 = .ok (.aload_n 0, 1) := by decide +kernel
theorem dL_ask_1 : decode cL_ask 1 = .ok (.iload_n 1, 1) := by decide +kernel
theorem dL_ask_2 : decode cL_ask 2 = .ok (.iload_n 2, 1) := by decide +kernel
theorem dL_ask_3 : decode cL_ask 3 = .ok (.iload_n 3, 1) := by decide +kernel
theorem dL_ask_4 : decode cL_ask 4 = .ok (.invokestatic 115, 3) := by decide +kernel
theorem dL_ask_7 : decode cL_ask 7 = .ok (.ireturn, 1) := by decide +kernel
theorem dL_ask_8 : decode cL_ask 8 = .ok (.astore 4, 2) := by decide +kernel
theorem dL_ask_10 : decode cL_ask 10 = .ok (.sipush (-2002), 3) := by decide +kernel
theorem dL_ask_13 : decode cL_ask 13 = .ok (.ireturn, 1) := by decide +kernel
theorem dL_ask_14 : decode cL_ask 14 = .ok (.astore 4, 2) := by decide +kernel
theorem dL_ask_16 : decode cL_ask 16 = .ok (.sipush (-2003), 3) := by decide +kernel
theorem dL_ask_19 : decode cL_ask 19 = .ok (.ireturn, 1) := by decide +kernel
theorem dL_ask_20 : decode cL_ask 20 = .ok (.astore 4, 2) := by decide +kernel
theorem dL_ask_22 : decode cL_ask 22 = .ok (.sipush (-2005), 3) := by decide +kernel
theorem dL_ask_25 : decode cL_ask 25 = .ok (.ireturn, 1) := by decide +kernel
theorem dL_ask_26 : decode cL_ask 26 = .ok (.astore 4, 2) := by decide +kernel
theorem dL_ask_28 : decode cL_ask 28 = .ok (.sipush (-2004), 3) := by decide +kernel
theorem dL_ask_31 : decode cL_ask 31 = .ok (.ireturn, 1) := by decide +kernel
theorem dL_lay_0 : decode cL_lay 0 = .ok (.iconst 0, 1) := by decide +kernel
theorem dL_lay_1 : decode cL_lay 1 = .ok (.istore_n 2, 1) := by decide +kernel
theorem dL_lay_2 : decode cL_lay 2 = .ok (.iconst 0, 1) := by decide +kernel
theorem dL_lay_3 : decode cL_lay 3 = .ok (.istore_n 3, 1) := by decide +kernel
theorem dL_lay_4 : decode cL_lay 4 = .ok (.iload_n 3, 1) := by decide +kernel
theorem dL_lay_5 : decode cL_lay 5 = .ok (.aload_n 1, 1) := by decide +kernel
theorem dL_lay_6 : decode cL_lay 6 = .ok (.iconst 0, 1) := by decide +kernel
theorem dL_lay_7 : decode cL_lay 7 = .ok (.bipush 10, 2) := by decide +kernel
theorem dL_lay_9 : decode cL_lay 9 = .ok (.invokestatic 119, 3) := by decide +kernel
theorem dL_lay_12 : decode cL_lay 12 = .ok (.if_icmp .ge 28, 3) := by decide +kernel
theorem dL_lay_15 : decode cL_lay 15 = .ok (.iload_n 2, 1) := by decide +kernel
theorem dL_lay_16 : decode cL_lay 16 = .ok (.aload_n 0, 1) := by decide +kernel
theorem dL_lay_17 : decode cL_lay 17 = .ok (.iconst 0, 1) := by decide +kernel
theorem dL_lay_18 : decode cL_lay 18 = .ok (.aload_n 1, 1) := by decide +kernel
theorem dL_lay_19 : decode cL_lay 19 = .ok (.bipush 11, 2) := by decide +kernel
theorem dL_lay_21 : decode cL_lay 21 = .ok (.iload_n 3, 1) := by decide +kernel
theorem dL_lay_22 : decode cL_lay 22 = .ok (.iadd, 1) := by decide +kernel
theorem dL_lay_23 : decode cL_lay 23 = .ok (.iconst 4, 1) := by decide +kernel
theorem dL_lay_24 : decode cL_lay 24 = .ok (.invokestatic 119, 3) := by decide +kernel
theorem dL_lay_27 : decode cL_lay 27 = .ok (.iconst 0, 1) := by decide +kernel
theorem dL_lay_28 : decode cL_lay 28 = .ok (.iconst 0, 1) := by decide +kernel
theorem dL_lay_29 : decode cL_lay 29 = .ok (.invokestatic 123, 3) := by decide +kernel
theorem dL_lay_32 : decode cL_lay 32 = .ok (.iadd, 1) := by decide +kernel
theorem dL_lay_33 : decode cL_lay 33 = .ok (.istore_n 2, 1) := by decide +kernel
theorem dL_lay_34 : decode cL_lay 34 = .ok (.iinc 3 1, 3) := by decide +kernel
theorem dL_lay_37 : decode cL_lay 37 = .ok (.goto (-33), 3) := by decide +kernel
theorem dL_lay_40 : decode cL_lay 40 = .ok (.iconst 0, 1) := by decide +kernel
theorem dL_lay_41 : decode cL_lay 41 = .ok (.istore_n 3, 1) := by decide +kernel
theorem dL_lay_42 : decode cL_lay 42 = .ok (.iload_n 3, 1) := by decide +kernel
theorem dL_lay_43 : decode cL_lay 43 = .ok (.aload_n 1, 1) := by decide +kernel
theorem dL_lay_44 : decode cL_lay 44 = .ok (.iconst 1, 1) := by decide +kernel
theorem dL_lay_45 : decode cL_lay 45 = .ok (.bipush 8, 2) := by decide +kernel
theorem dL_lay_47 : decode cL_lay 47 = .ok (.invokestatic 119, 3) := by decide +kernel
theorem dL_lay_50 : decode cL_lay 50 = .ok (.if_icmp .ge 48, 3) := by decide +kernel
theorem dL_lay_53 : decode cL_lay 53 = .ok (.iload_n 2, 1) := by decide +kernel
theorem dL_lay_54 : decode cL_lay 54 = .ok (.aload_n 0, 1) := by decide +kernel
theorem dL_lay_55 : decode cL_lay 55 = .ok (.iconst 2, 1) := by decide +kernel
theorem dL_lay_56 : decode cL_lay 56 = .ok (.aload_n 1, 1) := by decide +kernel
theorem dL_lay_57 : decode cL_lay 57 = .ok (.bipush 31, 2) := by decide +kernel
theorem dL_lay_59 : decode cL_lay 59 = .ok (.iload_n 3, 1) := by decide +kernel
theorem dL_lay_60 : decode cL_lay 60 = .ok (.iadd, 1) := by decide +kernel
theorem dL_lay_61 : decode cL_lay 61 = .ok (.bipush 97, 2) := by decide +kernel
theorem dL_lay_63 : decode cL_lay 63 = .ok (.invokestatic 119, 3) := by decide +kernel
theorem dL_lay_66 : decode cL_lay 66 = .ok (.iconst 1, 1) := by decide +kernel
theorem dL_lay_67 : decode cL_lay 67 = .ok (.aload_n 1, 1) := by decide +kernel
theorem dL_lay_68 : decode cL_lay 68 = .ok (.bipush 41, 2) := by decide +kernel
theorem dL_lay_70 : decode cL_lay 70 = .ok (.iload_n 3, 1) := by decide +kernel
theorem dL_lay_71 : decode cL_lay 71 = .ok (.iadd, 1) := by decide +kernel
theorem dL_lay_72 : decode cL_lay 72 = .ok (.iconst 4, 1) := by decide +kernel
theorem dL_lay_73 : decode cL_lay 73 = .ok (.invokestatic 119, 3) := by decide +kernel
theorem dL_lay_76 : decode cL_lay 76 = .ok (.iadd, 1) := by decide +kernel
theorem dL_lay_77 : decode cL_lay 77 = .ok (.aload_n 1, 1) := by decide +kernel
theorem dL_lay_78 : decode cL_lay 78 = .ok (.bipush 51, 2) := by decide +kernel
theorem dL_lay_80 : decode cL_lay 80 = .ok (.iload_n 3, 1) := by decide +kernel
theorem dL_lay_81 : decode cL_lay 81 = .ok (.iadd, 1) := by decide +kernel
theorem dL_lay_82 : decode cL_lay 82 = .ok (.bipush 97, 2) := by decide +kernel
theorem dL_lay_84 : decode cL_lay 84 = .ok (.invokestatic 119, 3) := by decide +kernel
theorem dL_lay_87 : decode cL_lay 87 = .ok (.invokestatic 123, 3) := by decide +kernel
theorem dL_lay_90 : decode cL_lay 90 = .ok (.iadd, 1) := by decide +kernel
theorem dL_lay_91 : decode cL_lay 91 = .ok (.istore_n 2, 1) := by decide +kernel
theorem dL_lay_92 : decode cL_lay 92 = .ok (.iinc 3 1, 3) := by decide +kernel
theorem dL_lay_95 : decode cL_lay 95 = .ok (.goto (-53), 3) := by decide +kernel
theorem dL_lay_98 : decode cL_lay 98 = .ok (.iconst 1, 1) := by decide +kernel
theorem dL_lay_99 : decode cL_lay 99 = .ok (.aload_n 0, 1) := by decide +kernel
theorem dL_lay_100 : decode cL_lay 100 = .ok (.invokevirtual 126, 3) := by decide +kernel
theorem dL_lay_103 : decode cL_lay 103 = .ok (.invokestatic 129, 3) := by decide +kernel
theorem dL_lay_106 : decode cL_lay 106 = .ok (.istore_n 3, 1) := by decide +kernel
theorem dL_lay_107 : decode cL_lay 107 = .ok (.iconst 0, 1) := by decide +kernel
theorem dL_lay_108 : decode cL_lay 108 = .ok (.istore 4, 2) := by decide +kernel
theorem dL_lay_110 : decode cL_lay 110 = .ok (.iload 4, 2) := by decide +kernel
theorem dL_lay_112 : decode cL_lay 112 = .ok (.aload_n 1, 1) := by decide +kernel
theorem dL_lay_113 : decode cL_lay 113 = .ok (.iconst 2, 1) := by decide +kernel
theorem dL_lay_114 : decode cL_lay 114 = .ok (.bipush 8, 2) := by decide +kernel
theorem dL_lay_116 : decode cL_lay 116 = .ok (.invokestatic 119, 3) := by decide +kernel
theorem dL_lay_119 : decode cL_lay 119 = .ok (.if_icmp .ge 72, 3) := by decide +kernel
theorem dL_lay_122 : decode cL_lay 122 = .ok (.iload_n 2, 1) := by decide +kernel
theorem dL_lay_123 : decode cL_lay 123 = .ok (.aload_n 0, 1) := by decide +kernel
theorem dL_lay_124 : decode cL_lay 124 = .ok (.aload_n 1, 1) := by decide +kernel
theorem dL_lay_125 : decode cL_lay 125 = .ok (.bipush 61, 2) := by decide +kernel
theorem dL_lay_127 : decode cL_lay 127 = .ok (.iload 4, 2) := by decide +kernel
theorem dL_lay_129 : decode cL_lay 129 = .ok (.iadd, 1) := by decide +kernel
theorem dL_lay_130 : decode cL_lay 130 = .ok (.iconst 3, 1) := by decide +kernel
theorem dL_lay_131 : decode cL_lay 131 = .ok (.invokestatic 119, 3) := by decide +kernel
theorem dL_lay_134 : decode cL_lay 134 = .ok (.ifCond .ne 7, 3) := by decide +kernel
theorem dL_lay_137 : decode cL_lay 137 = .ok (.iconst 4, 1) := by decide +kernel
theorem dL_lay_138 : decode cL_lay 138 = .ok (.goto 4, 3) := by decide +kernel
theorem dL_lay_141 : decode cL_lay 141 = .ok (.iconst 3, 1) := by decide +kernel
theorem dL_lay_142 : decode cL_lay 142 = .ok (.aload_n 1, 1) := by decide +kernel
theorem dL_lay_143 : decode cL_lay 143 = .ok (.bipush 71, 2) := by decide +kernel
theorem dL_lay_145 : decode cL_lay 145 = .ok (.iload 4, 2) := by decide +kernel
theorem dL_lay_147 : decode cL_lay 147 = .ok (.iadd, 1) := by decide +kernel
theorem dL_lay_148 : decode cL_lay 148 = .ok (.iload_n 3, 1) := by decide +kernel
theorem dL_lay_149 : decode cL_lay 149 = .ok (.invokestatic 119, 3) := by decide +kernel
theorem dL_lay_152 : decode cL_lay 152 = .ok (.aload_n 0, 1) := by decide +kernel
theorem dL_lay_153 : decode cL_lay 153 = .ok (.aload_n 1, 1) := by decide +kernel
theorem dL_lay_154 : decode cL_lay 154 = .ok (.bipush 81, 2) := by decide +kernel
theorem dL_lay_156 : decode cL_lay 156 = .ok (.iload 4, 2) := by decide +kernel
theorem dL_lay_158 : decode cL_lay 158 = .ok (.iadd, 1) := by decide +kernel
theorem dL_lay_159 : decode cL_lay 159 = .ok (.bipush 6, 2) := by decide +kernel
theorem dL_lay_161 : decode cL_lay 161 = .ok (.invokestatic 119, 3) := by decide +kernel
theorem dL_lay_164 : decode cL_lay 164 = .ok (.invokestatic 134, 3) := by decide +kernel
theorem dL_lay_167 : decode cL_lay 167 = .ok (.iconst 1, 1) := by decide +kernel
theorem dL_lay_168 : decode cL_lay 168 = .ok (.aload_n 1, 1) := by decide +kernel
theorem dL_lay_169 : decode cL_lay 169 = .ok (.bipush 91, 2) := by decide +kernel
theorem dL_lay_171 : decode cL_lay 171 = .ok (.iload 4, 2) := by decide +kernel
theorem dL_lay_173 : decode cL_lay 173 = .ok (.iadd, 1) := by decide +kernel
theorem dL_lay_174 : decode cL_lay 174 = .ok (.bipush 96, 2) := by decide +kernel
theorem dL_lay_176 : decode cL_lay 176 = .ok (.invokestatic 119, 3) := by decide +kernel
theorem dL_lay_179 : decode cL_lay 179 = .ok (.iadd, 1) := by decide +kernel
theorem dL_lay_180 : decode cL_lay 180 = .ok (.invokestatic 123, 3) := by decide +kernel
theorem dL_lay_183 : decode cL_lay 183 = .ok (.iadd, 1) := by decide +kernel
theorem dL_lay_184 : decode cL_lay 184 = .ok (.istore_n 2, 1) := by decide +kernel
theorem dL_lay_185 : decode cL_lay 185 = .ok (.iinc 4 1, 3) := by decide +kernel
theorem dL_lay_188 : decode cL_lay 188 = .ok (.goto (-78), 3) := by decide +kernel
theorem dL_lay_191 : decode cL_lay 191 = .ok (.return_, 1) := by decide +kernel
theorem dL_secret_0 : decode cL_secret 0 = .ok (.aload_n 0, 1) := by decide +kernel
theorem dL_secret_1 : decode cL_secret 1 = .ok (.invokevirtual 138, 3) := by decide +kernel
theorem dL_secret_4 : decode cL_secret 4 = .ok (.ifCond .ne 7, 3) := by decide +kernel
theorem dL_secret_7 : decode cL_secret 7 = .ok (.iconst 0, 1) := by decide +kernel
theorem dL_secret_8 : decode cL_secret 8 = .ok (.goto 13, 3) := by decide +kernel
theorem dL_secret_11 : decode cL_secret 11 = .ok (.aload_n 0, 1) := by decide +kernel
theorem dL_secret_12 : decode cL_secret 12 = .ok (.iload_n 1, 1) := by decide +kernel
theorem dL_secret_13 : decode cL_secret 13 = .ok (.aload_n 0, 1) := by decide +kernel
theorem dL_secret_14 : decode cL_secret 14 = .ok (.invokevirtual 138, 3) := by decide +kernel
theorem dL_secret_17 : decode cL_secret 17 = .ok (.irem, 1) := by decide +kernel
theorem dL_secret_18 : decode cL_secret 18 = .ok (.invokevirtual 71, 3) := by decide +kernel
theorem dL_secret_21 : decode cL_secret 21 = .ok (.ireturn, 1) := by decide +kernel
theorem dL_any_0 : decode cL_any 0 = .ok (.aload_n 1, 1) := by decide +kernel
theorem dL_any_1 : decode cL_any 1 = .ok (.iload_n 2, 1) := by decide +kernel
theorem dL_any_2 : decode cL_any 2 = .ok (.iconst 1, 1) := by decide +kernel
theorem dL_any_3 : decode cL_any 3 = .ok (.iadd, 1) := by decide +kernel
theorem dL_any_4 : decode cL_any 4 = .ok (.iconst 1, 1) := by decide +kernel
theorem dL_any_5 : decode cL_any 5 = .ok (.aload_n 0, 1) := by decide +kernel
theorem dL_any_6 : decode cL_any 6 = .ok (.invokevirtual 126, 3) := by decide +kernel
theorem dL_any_9 : decode cL_any 9 = .ok (.invokestatic 129, 3) := by decide +kernel
theorem dL_any_12 : decode cL_any 12 = .ok (.invokestatic 119, 3) := by decide +kernel
theorem dL_any_15 : decode cL_any 15 = .ok (.istore_n 3, 1) := by decide +kernel
theorem dL_any_16 : decode cL_any 16 = .ok (.aload_n 0, 1) := by decide +kernel
theorem dL_any_17 : decode cL_any 17 = .ok (.aload_n 1, 1) := by decide +kernel
theorem dL_any_18 : decode cL_any 18 = .ok (.iload_n 2, 1) := by decide +kernel
theorem dL_any_19 : decode cL_any 19 = .ok (.iconst 2, 1) := by decide +kernel
theorem dL_any_20 : decode cL_any 20 = .ok (.iadd, 1) := by decide +kernel
theorem dL_any_21 : decode cL_any 21 = .ok (.bipush 6, 2) := by decide +kernel
theorem dL_any_23 : decode cL_any 23 = .ok (.invokestatic 119, 3) := by decide +kernel
theorem dL_any_26 : decode cL_any 26 = .ok (.invokestatic 134, 3) := by decide +kernel
theorem dL_any_29 : decode cL_any 29 = .ok (.istore 4, 2) := by decide +kernel
theorem dL_any_31 : decode cL_any 31 = .ok (.aload_n 1, 1) := by decide +kernel
theorem dL_any_32 : decode cL_any 32 = .ok (.iload_n 2, 1) := by decide +kernel
theorem dL_any_33 : decode cL_any 33 = .ok (.bipush 20, 2) := by decide +kernel
theorem dL_any_35 : decode cL_any 35 = .ok (.invokestatic 119, 3) := by decide +kernel
theorem dL_any_38 : decode cL_any 38 = .ok (.tableswitch 215 0 18 #[90, 106, 106, 122, 122, 122, 156, 156, 156, 156, 166, 166, 166, 186, 186, 186, 196, 196, 196], 90) := by decide +kernel
theorem dL_any_128 : decode cL_any 128 = .ok (.aload_n 0, 1) := by decide +kernel
theorem dL_any_129 : decode cL_any 129 = .ok (.iconst 0, 1) := by decide +kernel
theorem dL_any_130 : decode cL_any 130 = .ok (.aload_n 1, 1) := by decide +kernel
theorem dL_any_131 : decode cL_any 131 = .ok (.iload_n 2, 1) := by decide +kernel
theorem dL_any_132 : decode cL_any 132 = .ok (.iconst 3, 1) := by decide +kernel
theorem dL_any_133 : decode cL_any 133 = .ok (.iadd, 1) := by decide +kernel
theorem dL_any_134 : decode cL_any 134 = .ok (.iconst 4, 1) := by decide +kernel
theorem dL_any_135 : decode cL_any 135 = .ok (.invokestatic 119, 3) := by decide +kernel
theorem dL_any_138 : decode cL_any 138 = .ok (.iconst 0, 1) := by decide +kernel
theorem dL_any_139 : decode cL_any 139 = .ok (.iconst 0, 1) := by decide +kernel
theorem dL_any_140 : decode cL_any 140 = .ok (.invokestatic 123, 3) := by decide +kernel
theorem dL_any_143 : decode cL_any 143 = .ok (.ireturn, 1) := by decide +kernel
theorem dL_any_144 : decode cL_any 144 = .ok (.aload_n 0, 1) := by decide +kernel
theorem dL_any_145 : decode cL_any 145 = .ok (.iconst 1, 1) := by decide +kernel
theorem dL_any_146 : decode cL_any 146 = .ok (.iload_n 3, 1) := by decide +kernel
theorem dL_any_147 : decode cL_any 147 = .ok (.aload_n 1, 1) := by decide +kernel
theorem dL_any_148 : decode cL_any 148 = .ok (.iload_n 2, 1) := by decide +kernel
theorem dL_any_149 : decode cL_any 149 = .ok (.iconst 3, 1) := by decide +kernel
theorem dL_any_150 : decode cL_any 150 = .ok (.iadd, 1) := by decide +kernel
theorem dL_any_151 : decode cL_any 151 = .ok (.iconst 4, 1) := by decide +kernel
theorem dL_any_152 : decode cL_any 152 = .ok (.invokestatic 119, 3) := by decide +kernel
theorem dL_any_155 : decode cL_any 155 = .ok (.iconst 0, 1) := by decide +kernel
theorem dL_any_156 : decode cL_any 156 = .ok (.invokestatic 123, 3) := by decide +kernel
theorem dL_any_159 : decode cL_any 159 = .ok (.ireturn, 1) := by decide +kernel
theorem dL_any_160 : decode cL_any 160 = .ok (.aload_n 0, 1) := by decide +kernel
theorem dL_any_161 : decode cL_any 161 = .ok (.iconst 2, 1) := by decide +kernel
theorem dL_any_162 : decode cL_any 162 = .ok (.aload_n 1, 1) := by decide +kernel
theorem dL_any_163 : decode cL_any 163 = .ok (.iload_n 2, 1) := by decide +kernel
theorem dL_any_164 : decode cL_any 164 = .ok (.iconst 3, 1) := by decide +kernel
theorem dL_any_165 : decode cL_any 165 = .ok (.iadd, 1) := by decide +kernel
theorem dL_any_166 : decode cL_any 166 = .ok (.bipush 97, 2) := by decide +kernel
theorem dL_any_168 : decode cL_any 168 = .ok (.invokestatic 119, 3) := by decide +kernel
theorem dL_any_171 : decode cL_any 171 = .ok (.iconst 1, 1) := by decide +kernel
theorem dL_any_172 : decode cL_any 172 = .ok (.aload_n 1, 1) := by decide +kernel
theorem dL_any_173 : decode cL_any 173 = .ok (.iload_n 2, 1) := by decide +kernel
theorem dL_any_174 : decode cL_any 174 = .ok (.iconst 4, 1) := by decide +kernel
theorem dL_any_175 : decode cL_any 175 = .ok (.iadd, 1) := by decide +kernel
theorem dL_any_176 : decode cL_any 176 = .ok (.iconst 4, 1) := by decide +kernel
theorem dL_any_177 : decode cL_any 177 = .ok (.invokestatic 119, 3) := by decide +kernel
theorem dL_any_180 : decode cL_any 180 = .ok (.iadd, 1) := by decide +kernel
theorem dL_any_181 : decode cL_any 181 = .ok (.aload_n 1, 1) := by decide +kernel
theorem dL_any_182 : decode cL_any 182 = .ok (.iload_n 2, 1) := by decide +kernel
theorem dL_any_183 : decode cL_any 183 = .ok (.iconst 5, 1) := by decide +kernel
theorem dL_any_184 : decode cL_any 184 = .ok (.iadd, 1) := by decide +kernel
theorem dL_any_185 : decode cL_any 185 = .ok (.bipush 97, 2) := by decide +kernel
theorem dL_any_187 : decode cL_any 187 = .ok (.invokestatic 119, 3) := by decide +kernel
theorem dL_any_190 : decode cL_any 190 = .ok (.invokestatic 123, 3) := by decide +kernel
theorem dL_any_193 : decode cL_any 193 = .ok (.ireturn, 1) := by decide +kernel
theorem dL_any_194 : decode cL_any 194 = .ok (.aload_n 0, 1) := by decide +kernel
theorem dL_any_195 : decode cL_any 195 = .ok (.iconst 3, 1) := by decide +kernel
theorem dL_any_196 : decode cL_any 196 = .ok (.iload_n 3, 1) := by decide +kernel
theorem dL_any_197 : decode cL_any 197 = .ok (.iload 4, 2) := by decide +kernel
theorem dL_any_199 : decode cL_any 199 = .ok (.iconst 0, 1) := by decide +kernel
theorem dL_any_200 : decode cL_any 200 = .ok (.invokestatic 123, 3) := by decide +kernel
theorem dL_any_203 : decode cL_any 203 = .ok (.ireturn, 1) := by decide +kernel
theorem dL_any_204 : decode cL_any 204 = .ok (.aload_n 0, 1) := by decide +kernel
theorem dL_any_205 : decode cL_any 205 = .ok (.iconst 4, 1) := by decide +kernel
theorem dL_any_206 : decode cL_any 206 = .ok (.iload_n 3, 1) := by decide +kernel
theorem dL_any_207 : decode cL_any 207 = .ok (.iload 4, 2) := by decide +kernel
theorem dL_any_209 : decode cL_any 209 = .ok (.iconst 1, 1) := by decide +kernel
theorem dL_any_210 : decode cL_any 210 = .ok (.aload_n 1, 1) := by decide +kernel
theorem dL_any_211 : decode cL_any 211 = .ok (.iload_n 2, 1) := by decide +kernel
theorem dL_any_212 : decode cL_any 212 = .ok (.iconst 3, 1) := by decide +kernel
theorem dL_any_213 : decode cL_any 213 = .ok (.iadd, 1) := by decide +kernel
theorem dL_any_214 : decode cL_any 214 = .ok (.bipush 96, 2) := by decide +kernel
theorem dL_any_216 : decode cL_any 216 = .ok (.invokestatic 119, 3) := by decide +kernel
theorem dL_any_219 : decode cL_any 219 = .ok (.iadd, 1) := by decide +kernel
theorem dL_any_220 : decode cL_any 220 = .ok (.invokestatic 123, 3) := by decide +kernel
theorem dL_any_223 : decode cL_any 223 = .ok (.ireturn, 1) := by decide +kernel
theorem dL_any_224 : decode cL_any 224 = .ok (.aload_n 0, 1) := by decide +kernel
theorem dL_any_225 : decode cL_any 225 = .ok (.iconst 5, 1) := by decide +kernel
theorem dL_any_226 : decode cL_any 226 = .ok (.iload_n 3, 1) := by decide +kernel
theorem dL_any_227 : decode cL_any 227 = .ok (.iload 4, 2) := by decide +kernel
theorem dL_any_229 : decode cL_any 229 = .ok (.iconst 0, 1) := by decide +kernel
theorem dL_any_230 : decode cL_any 230 = .ok (.invokestatic 123, 3) := by decide +kernel
theorem dL_any_233 : decode cL_any 233 = .ok (.ireturn, 1) := by decide +kernel
theorem dL_any_234 : decode cL_any 234 = .ok (.aload_n 0, 1) := by decide +kernel
theorem dL_any_235 : decode cL_any 235 = .ok (.bipush 6, 2) := by decide +kernel
theorem dL_any_237 : decode cL_any 237 = .ok (.iload 4, 2) := by decide +kernel
theorem dL_any_239 : decode cL_any 239 = .ok (.aload_n 1, 1) := by decide +kernel
theorem dL_any_240 : decode cL_any 240 = .ok (.iload_n 2, 1) := by decide +kernel
theorem dL_any_241 : decode cL_any 241 = .ok (.iconst 3, 1) := by decide +kernel
theorem dL_any_242 : decode cL_any 242 = .ok (.iadd, 1) := by decide +kernel
theorem dL_any_243 : decode cL_any 243 = .ok (.bipush 97, 2) := by decide +kernel
theorem dL_any_245 : decode cL_any 245 = .ok (.invokestatic 119, 3) := by decide +kernel
theorem dL_any_248 : decode cL_any 248 = .ok (.iconst 0, 1) := by decide +kernel
theorem dL_any_249 : decode cL_any 249 = .ok (.invokestatic 123, 3) := by decide +kernel
theorem dL_any_252 : decode cL_any 252 = .ok (.ireturn, 1) := by decide +kernel
theorem dL_any_253 : decode cL_any 253 = .ok (.aload_n 0, 1) := by decide +kernel
theorem dL_any_254 : decode cL_any 254 = .ok (.bipush 7, 2) := by decide +kernel
theorem dL_any_256 : decode cL_any 256 = .ok (.iload 4, 2) := by decide +kernel
theorem dL_any_258 : decode cL_any 258 = .ok (.iconst 0, 1) := by decide +kernel
theorem dL_any_259 : decode cL_any 259 = .ok (.iconst 0, 1) := by decide +kernel
theorem dL_any_260 : decode cL_any 260 = .ok (.invokestatic 123, 3) := by decide +kernel
theorem dL_any_263 : decode cL_any 263 = .ok (.ireturn, 1) := by decide +kernel
theorem dL_looks_0 : decode cL_looks 0 = .ok (.bipush 31, 2) := by decide +kernel
theorem dL_looks_2 : decode cL_looks 2 = .ok (.bipush 31, 2) := by decide +kernel
theorem dL_looks_4 : decode cL_looks 4 = .ok (.aload_n 0, 1) := by decide +kernel
theorem dL_looks_5 : decode cL_looks 5 = .ok (.invokevirtual 126, 3) := by decide +kernel
theorem dL_looks_8 : decode cL_looks 8 = .ok (.imul, 1) := by decide +kernel
theorem dL_looks_9 : decode cL_looks 9 = .ok (.aload_n 0, 1) := by decide +kernel
theorem dL_looks_10 : decode cL_looks 10 = .ok (.invokevirtual 138, 3) := by decide +kernel
theorem dL_looks_13 : decode cL_looks 13 = .ok (.iadd, 1) := by decide +kernel
theorem dL_looks_14 : decode cL_looks 14 = .ok (.imul, 1) := by decide +kernel
theorem dL_looks_15 : decode cL_looks 15 = .ok (.aload_n 0, 1) := by decide +kernel
theorem dL_looks_16 : decode cL_looks 16 = .ok (.invokevirtual 141, 3) := by decide +kernel
theorem dL_looks_19 : decode cL_looks 19 = .ok (.l2i, 1) := by decide +kernel
theorem dL_looks_20 : decode cL_looks 20 = .ok (.iadd, 1) := by decide +kernel
theorem dL_looks_21 : decode cL_looks 21 = .ok (.istore_n 1, 1) := by decide +kernel
theorem dL_looks_22 : decode cL_looks 22 = .ok (.iconst 0, 1) := by decide +kernel
theorem dL_looks_23 : decode cL_looks 23 = .ok (.istore_n 2, 1) := by decide +kernel
theorem dL_looks_24 : decode cL_looks 24 = .ok (.iload_n 2, 1) := by decide +kernel
theorem dL_looks_25 : decode cL_looks 25 = .ok (.aload_n 0, 1) := by decide +kernel
theorem dL_looks_26 : decode cL_looks 26 = .ok (.invokevirtual 126, 3) := by decide +kernel
theorem dL_looks_29 : decode cL_looks 29 = .ok (.if_icmp .ge 20, 3) := by decide +kernel
theorem dL_looks_32 : decode cL_looks 32 = .ok (.bipush 31, 2) := by decide +kernel
theorem dL_looks_34 : decode cL_looks 34 = .ok (.iload_n 1, 1) := by decide +kernel
theorem dL_looks_35 : decode cL_looks 35 = .ok (.imul, 1) := by decide +kernel
theorem dL_looks_36 : decode cL_looks 36 = .ok (.aload_n 0, 1) := by decide +kernel
theorem dL_looks_37 : decode cL_looks 37 = .ok (.iload_n 2, 1) := by decide +kernel
theorem dL_looks_38 : decode cL_looks 38 = .ok (.invokevirtual 62, 3) := by decide +kernel
theorem dL_looks_41 : decode cL_looks 41 = .ok (.iadd, 1) := by decide +kernel
theorem dL_looks_42 : decode cL_looks 42 = .ok (.istore_n 1, 1) := by decide +kernel
theorem dL_looks_43 : decode cL_looks 43 = .ok (.iinc 2 1, 3) := by decide +kernel
theorem dL_looks_46 : decode cL_looks 46 = .ok (.goto (-22), 3) := by decide +kernel
theorem dL_looks_49 : decode cL_looks 49 = .ok (.iconst 0, 1) := by decide +kernel
theorem dL_looks_50 : decode cL_looks 50 = .ok (.istore_n 2, 1) := by decide +kernel
theorem dL_looks_51 : decode cL_looks 51 = .ok (.iload_n 2, 1) := by decide +kernel
theorem dL_looks_52 : decode cL_looks 52 = .ok (.aload_n 0, 1) := by decide +kernel
theorem dL_looks_53 : decode cL_looks 53 = .ok (.invokevirtual 138, 3) := by decide +kernel
theorem dL_looks_56 : decode cL_looks 56 = .ok (.if_icmp .ge 63, 3) := by decide +kernel
theorem dL_looks_59 : decode cL_looks 59 = .ok (.aload_n 0, 1) := by decide +kernel
theorem dL_looks_60 : decode cL_looks 60 = .ok (.iload_n 2, 1) := by decide +kernel
theorem dL_looks_61 : decode cL_looks 61 = .ok (.invokevirtual 71, 3) := by decide +kernel
theorem dL_looks_64 : decode cL_looks 64 = .ok (.istore_n 3, 1) := by decide +kernel
theorem dL_looks_65 : decode cL_looks 65 = .ok (.bipush 31, 2) := by decide +kernel
theorem dL_looks_67 : decode cL_looks 67 = .ok (.bipush 31, 2) := by decide +kernel
theorem dL_looks_69 : decode cL_looks 69 = .ok (.iload_n 1, 1) := by decide +kernel
theorem dL_looks_70 : decode cL_looks 70 = .ok (.imul, 1) := by decide +kernel
theorem dL_looks_71 : decode cL_looks 71 = .ok (.iload_n 3, 1) := by decide +kernel
theorem dL_looks_72 : decode cL_looks 72 = .ok (.iadd, 1) := by decide +kernel
theorem dL_looks_73 : decode cL_looks 73 = .ok (.imul, 1) := by decide +kernel
theorem dL_looks_74 : decode cL_looks 74 = .ok (.aload_n 0, 1) := by decide +kernel
theorem dL_looks_75 : decode cL_looks 75 = .ok (.iload_n 3, 1) := by decide +kernel
theorem dL_looks_76 : decode cL_looks 76 = .ok (.invokevirtual 145, 3) := by decide +kernel
theorem dL_looks_79 : decode cL_looks 79 = .ok (.iadd, 1) := by decide +kernel
theorem dL_looks_80 : decode cL_looks 80 = .ok (.istore_n 1, 1) := by decide +kernel
theorem dL_looks_81 : decode cL_looks 81 = .ok (.iconst 0, 1) := by decide +kernel
theorem dL_looks_82 : decode cL_looks 82 = .ok (.istore 4, 2) := by decide +kernel
theorem dL_looks_84 : decode cL_looks 84 = .ok (.iload 4, 2) := by decide +kernel
theorem dL_looks_86 : decode cL_looks 86 = .ok (.aload_n 0, 1) := by decide +kernel
theorem dL_looks_87 : decode cL_looks 87 = .ok (.invokevirtual 126, 3) := by decide +kernel
theorem dL_looks_90 : decode cL_looks 90 = .ok (.if_icmp .ge 23, 3) := by decide +kernel
theorem dL_looks_93 : decode cL_looks 93 = .ok (.bipush 31, 2) := by decide +kernel
theorem dL_looks_95 : decode cL_looks 95 = .ok (.iload_n 1, 1) := by decide +kernel
theorem dL_looks_96 : decode cL_looks 96 = .ok (.imul, 1) := by decide +kernel
theorem dL_looks_97 : decode cL_looks 97 = .ok (.aload_n 0, 1) := by decide +kernel
theorem dL_looks_98 : decode cL_looks 98 = .ok (.iconst 4, 1) := by decide +kernel
theorem dL_looks_99 : decode cL_looks 99 = .ok (.iload 4, 2) := by decide +kernel
theorem dL_looks_101 : decode cL_looks 101 = .ok (.iload_n 3, 1) := by decide +kernel
theorem dL_looks_102 : decode cL_looks 102 = .ok (.invokestatic 148, 3) := by decide +kernel
theorem dL_looks_105 : decode cL_looks 105 = .ok (.iadd, 1) := by decide +kernel
theorem dL_looks_106 : decode cL_looks 106 = .ok (.istore_n 1, 1) := by decide +kernel
theorem dL_looks_107 : decode cL_looks 107 = .ok (.iinc 4 1, 3) := by decide +kernel
theorem dL_looks_110 : decode cL_looks 110 = .ok (.goto (-26), 3) := by decide +kernel
theorem dL_looks_113 : decode cL_looks 113 = .ok (.iinc 2 1, 3) := by decide +kernel
theorem dL_looks_116 : decode cL_looks 116 = .ok (.goto (-65), 3) := by decide +kernel
theorem dL_looks_119 : decode cL_looks 119 = .ok (.iload_n 1, 1) := by decide +kernel
theorem dL_looks_120 : decode cL_looks 120 = .ok (.ireturn, 1) := by decide +kernel
theorem dL_inverse_0 : decode cL_inverse 0 = .ok (.iconst 1, 1) := by decide +kernel
theorem dL_inverse_1 : decode cL_inverse 1 = .ok (.istore_n 1, 1) := by decide +kernel
theorem dL_inverse_2 : decode cL_inverse 2 = .ok (.iconst 0, 1) := by decide +kernel
theorem dL_inverse_3 : decode cL_inverse 3 = .ok (.istore_n 2, 1) := by decide +kernel
theorem dL_inverse_4 : decode cL_inverse 4 = .ok (.iload_n 2, 1) := by decide +kernel
theorem dL_inverse_5 : decode cL_inverse 5 = .ok (.bipush 95, 2) := by decide +kernel
theorem dL_inverse_7 : decode cL_inverse 7 = .ok (.if_icmp .ge 16, 3) := by decide +kernel
theorem dL_inverse_10 : decode cL_inverse 10 = .ok (.iload_n 1, 1) := by decide +kernel
theorem dL_inverse_11 : decode cL_inverse 11 = .ok (.iload_n 0, 1) := by decide +kernel
theorem dL_inverse_12 : decode cL_inverse 12 = .ok (.imul, 1) := by decide +kernel
theorem dL_inverse_13 : decode cL_inverse 13 = .ok (.bipush 97, 2) := by decide +kernel
theorem dL_inverse_15 : decode cL_inverse 15 = .ok (.irem, 1) := by decide +kernel
theorem dL_inverse_16 : decode cL_inverse 16 = .ok (.istore_n 1, 1) := by decide +kernel
theorem dL_inverse_17 : decode cL_inverse 17 = .ok (.iinc 2 1, 3) := by decide +kernel
theorem dL_inverse_20 : decode cL_inverse 20 = .ok (.goto (-16), 3) := by decide +kernel
theorem dL_inverse_23 : decode cL_inverse 23 = .ok (.iload_n 1, 1) := by decide +kernel
theorem dL_inverse_24 : decode cL_inverse 24 = .ok (.ireturn, 1) := by decide +kernel
theorem dL_valueAt_0 : decode cL_valueAt 0 = .ok (.iload_n 2, 1) := by decide +kernel
theorem dL_valueAt_1 : decode cL_valueAt 1 = .ok (.newarray .int, 2) := by decide +kernel
theorem dL_valueAt_3 : decode cL_valueAt 3 = .ok (.astore 4, 2) := by decide +kernel
theorem dL_valueAt_5 : decode cL_valueAt 5 = .ok (.iconst 0, 1) := by decide +kernel
theorem dL_valueAt_6 : decode cL_valueAt 6 = .ok (.istore 5, 2) := by decide +kernel
theorem dL_valueAt_8 : decode cL_valueAt 8 = .ok (.iload 5, 2) := by decide +kernel
theorem dL_valueAt_10 : decode cL_valueAt 10 = .ok (.iload_n 2, 1) := by decide +kernel
theorem dL_valueAt_11 : decode cL_valueAt 11 = .ok (.if_icmp .ge 18, 3) := by decide +kernel
theorem dL_valueAt_14 : decode cL_valueAt 14 = .ok (.aload 4, 2) := by decide +kernel
theorem dL_valueAt_16 : decode cL_valueAt 16 = .ok (.iload 5, 2) := by decide +kernel
theorem dL_valueAt_18 : decode cL_valueAt 18 = .ok (.aload_n 1, 1) := by decide +kernel
theorem dL_valueAt_19 : decode cL_valueAt 19 = .ok (.iload 5, 2) := by decide +kernel
theorem dL_valueAt_21 : decode cL_valueAt 21 = .ok (.iaload, 1) := by decide +kernel
theorem dL_valueAt_22 : decode cL_valueAt 22 = .ok (.iastore, 1) := by decide +kernel
theorem dL_valueAt_23 : decode cL_valueAt 23 = .ok (.iinc 5 1, 3) := by decide +kernel
theorem dL_valueAt_26 : decode cL_valueAt 26 = .ok (.goto (-18), 3) := by decide +kernel
theorem dL_valueAt_29 : decode cL_valueAt 29 = .ok (.iconst 1, 1) := by decide +kernel
theorem dL_valueAt_30 : decode cL_valueAt 30 = .ok (.istore 5, 2) := by decide +kernel
theorem dL_valueAt_32 : decode cL_valueAt 32 = .ok (.iload 5, 2) := by decide +kernel
theorem dL_valueAt_34 : decode cL_valueAt 34 = .ok (.iload_n 2, 1) := by decide +kernel
theorem dL_valueAt_35 : decode cL_valueAt 35 = .ok (.if_icmp .ge 80, 3) := by decide +kernel
theorem dL_valueAt_38 : decode cL_valueAt 38 = .ok (.iload_n 2, 1) := by decide +kernel
theorem dL_valueAt_39 : decode cL_valueAt 39 = .ok (.iconst 1, 1) := by decide +kernel
theorem dL_valueAt_40 : decode cL_valueAt 40 = .ok (.isub, 1) := by decide +kernel
theorem dL_valueAt_41 : decode cL_valueAt 41 = .ok (.istore 6, 2) := by decide +kernel
theorem dL_valueAt_43 : decode cL_valueAt 43 = .ok (.iload 6, 2) := by decide +kernel
theorem dL_valueAt_45 : decode cL_valueAt 45 = .ok (.iload 5, 2) := by decide +kernel
theorem dL_valueAt_47 : decode cL_valueAt 47 = .ok (.if_icmp .lt 62, 3) := by decide +kernel
theorem dL_valueAt_50 : decode cL_valueAt 50 = .ok (.aload 4, 2) := by decide +kernel
theorem dL_valueAt_52 : decode cL_valueAt 52 = .ok (.iload 6, 2) := by decide +kernel
theorem dL_valueAt_54 : decode cL_valueAt 54 = .ok (.iaload, 1) := by decide +kernel
theorem dL_valueAt_55 : decode cL_valueAt 55 = .ok (.aload 4, 2) := by decide +kernel
theorem dL_valueAt_57 : decode cL_valueAt 57 = .ok (.iload 6, 2) := by decide +kernel
theorem dL_valueAt_59 : decode cL_valueAt 59 = .ok (.iconst 1, 1) := by decide +kernel
theorem dL_valueAt_60 : decode cL_valueAt 60 = .ok (.isub, 1) := by decide +kernel
theorem dL_valueAt_61 : decode cL_valueAt 61 = .ok (.iaload, 1) := by decide +kernel
theorem dL_valueAt_62 : decode cL_valueAt 62 = .ok (.isub, 1) := by decide +kernel
theorem dL_valueAt_63 : decode cL_valueAt 63 = .ok (.bipush 97, 2) := by decide +kernel
theorem dL_valueAt_65 : decode cL_valueAt 65 = .ok (.iadd, 1) := by decide +kernel
theorem dL_valueAt_66 : decode cL_valueAt 66 = .ok (.bipush 97, 2) := by decide +kernel
theorem dL_valueAt_68 : decode cL_valueAt 68 = .ok (.irem, 1) := by decide +kernel
theorem dL_valueAt_69 : decode cL_valueAt 69 = .ok (.istore 7, 2) := by decide +kernel
theorem dL_valueAt_71 : decode cL_valueAt 71 = .ok (.aload 4, 2) := by decide +kernel
theorem dL_valueAt_73 : decode cL_valueAt 73 = .ok (.iload 6, 2) := by decide +kernel
theorem dL_valueAt_75 : decode cL_valueAt 75 = .ok (.iload 7, 2) := by decide +kernel
theorem dL_valueAt_77 : decode cL_valueAt 77 = .ok (.aload_n 0, 1) := by decide +kernel
theorem dL_valueAt_78 : decode cL_valueAt 78 = .ok (.iload 6, 2) := by decide +kernel
theorem dL_valueAt_80 : decode cL_valueAt 80 = .ok (.iaload, 1) := by decide +kernel
theorem dL_valueAt_81 : decode cL_valueAt 81 = .ok (.aload_n 0, 1) := by decide +kernel
theorem dL_valueAt_82 : decode cL_valueAt 82 = .ok (.iload 6, 2) := by decide +kernel
theorem dL_valueAt_84 : decode cL_valueAt 84 = .ok (.iload 5, 2) := by decide +kernel
theorem dL_valueAt_86 : decode cL_valueAt 86 = .ok (.isub, 1) := by decide +kernel
theorem dL_valueAt_87 : decode cL_valueAt 87 = .ok (.iaload, 1) := by decide +kernel
theorem dL_valueAt_88 : decode cL_valueAt 88 = .ok (.isub, 1) := by decide +kernel
theorem dL_valueAt_89 : decode cL_valueAt 89 = .ok (.bipush 97, 2) := by decide +kernel
theorem dL_valueAt_91 : decode cL_valueAt 91 = .ok (.iadd, 1) := by decide +kernel
theorem dL_valueAt_92 : decode cL_valueAt 92 = .ok (.bipush 97, 2) := by decide +kernel
theorem dL_valueAt_94 : decode cL_valueAt 94 = .ok (.irem, 1) := by decide +kernel
theorem dL_valueAt_95 : decode cL_valueAt 95 = .ok (.invokestatic 151, 3) := by decide +kernel
theorem dL_valueAt_98 : decode cL_valueAt 98 = .ok (.imul, 1) := by decide +kernel
theorem dL_valueAt_99 : decode cL_valueAt 99 = .ok (.bipush 97, 2) := by decide +kernel
theorem dL_valueAt_101 : decode cL_valueAt 101 = .ok (.irem, 1) := by decide +kernel
theorem dL_valueAt_102 : decode cL_valueAt 102 = .ok (.iastore, 1) := by decide +kernel
theorem dL_valueAt_103 : decode cL_valueAt 103 = .ok (.iinc 6 (-1), 3) := by decide +kernel
theorem dL_valueAt_106 : decode cL_valueAt 106 = .ok (.goto (-63), 3) := by decide +kernel
theorem dL_valueAt_109 : decode cL_valueAt 109 = .ok (.iinc 5 1, 3) := by decide +kernel
theorem dL_valueAt_112 : decode cL_valueAt 112 = .ok (.goto (-80), 3) := by decide +kernel
theorem dL_valueAt_115 : decode cL_valueAt 115 = .ok (.iconst 0, 1) := by decide +kernel
theorem dL_valueAt_116 : decode cL_valueAt 116 = .ok (.istore 5, 2) := by decide +kernel
theorem dL_valueAt_118 : decode cL_valueAt 118 = .ok (.iload_n 2, 1) := by decide +kernel
theorem dL_valueAt_119 : decode cL_valueAt 119 = .ok (.iconst 1, 1) := by decide +kernel
theorem dL_valueAt_120 : decode cL_valueAt 120 = .ok (.isub, 1) := by decide +kernel
theorem dL_valueAt_121 : decode cL_valueAt 121 = .ok (.istore 6, 2) := by decide +kernel
theorem dL_valueAt_123 : decode cL_valueAt 123 = .ok (.iload 6, 2) := by decide +kernel
theorem dL_valueAt_125 : decode cL_valueAt 125 = .ok (.ifCond .lt 35, 3) := by decide +kernel
theorem dL_valueAt_128 : decode cL_valueAt 128 = .ok (.iload 5, 2) := by decide +kernel
theorem dL_valueAt_130 : decode cL_valueAt 130 = .ok (.iload_n 3, 1) := by decide +kernel
theorem dL_valueAt_131 : decode cL_valueAt 131 = .ok (.aload_n 0, 1) := by decide +kernel
theorem dL_valueAt_132 : decode cL_valueAt 132 = .ok (.iload 6, 2) := by decide +kernel
theorem dL_valueAt_134 : decode cL_valueAt 134 = .ok (.iaload, 1) := by decide +kernel
theorem dL_valueAt_135 : decode cL_valueAt 135 = .ok (.isub, 1) := by decide +kernel
theorem dL_valueAt_136 : decode cL_valueAt 136 = .ok (.bipush 97, 2) := by decide +kernel
theorem dL_valueAt_138 : decode cL_valueAt 138 = .ok (.iadd, 1) := by decide +kernel
theorem dL_valueAt_139 : decode cL_valueAt 139 = .ok (.bipush 97, 2) := by decide +kernel
theorem dL_valueAt_141 : decode cL_valueAt 141 = .ok (.irem, 1) := by decide +kernel
theorem dL_valueAt_142 : decode cL_valueAt 142 = .ok (.imul, 1) := by decide +kernel
theorem dL_valueAt_143 : decode cL_valueAt 143 = .ok (.aload 4, 2) := by decide +kernel
theorem dL_valueAt_145 : decode cL_valueAt 145 = .ok (.iload 6, 2) := by decide +kernel
theorem dL_valueAt_147 : decode cL_valueAt 147 = .ok (.iaload, 1) := by decide +kernel
theorem dL_valueAt_148 : decode cL_valueAt 148 = .ok (.iadd, 1) := by decide +kernel
theorem dL_valueAt_149 : decode cL_valueAt 149 = .ok (.bipush 97, 2) := by decide +kernel
theorem dL_valueAt_151 : decode cL_valueAt 151 = .ok (.irem, 1) := by decide +kernel
theorem dL_valueAt_152 : decode cL_valueAt 152 = .ok (.istore 5, 2) := by decide +kernel
theorem dL_valueAt_154 : decode cL_valueAt 154 = .ok (.iinc 6 (-1), 3) := by decide +kernel
theorem dL_valueAt_157 : decode cL_valueAt 157 = .ok (.goto (-34), 3) := by decide +kernel
theorem dL_valueAt_160 : decode cL_valueAt 160 = .ok (.iload 5, 2) := by decide +kernel
theorem dL_valueAt_162 : decode cL_valueAt 162 = .ok (.ireturn, 1) := by decide +kernel
theorem dL_unfit_0 : decode cL_unfit 0 = .ok (.iconst 0, 1) := by decide +kernel
theorem dL_unfit_1 : decode cL_unfit 1 = .ok (.istore 6, 2) := by decide +kernel
theorem dL_unfit_3 : decode cL_unfit 3 = .ok (.iconst 0, 1) := by decide +kernel
theorem dL_unfit_4 : decode cL_unfit 4 = .ok (.istore 7, 2) := by decide +kernel
theorem dL_unfit_6 : decode cL_unfit 6 = .ok (.iload 7, 2) := by decide +kernel
theorem dL_unfit_8 : decode cL_unfit 8 = .ok (.iload_n 2, 1) := by decide +kernel
theorem dL_unfit_9 : decode cL_unfit 9 = .ok (.if_icmp .ge 41, 3) := by decide +kernel
theorem dL_unfit_12 : decode cL_unfit 12 = .ok (.iload 6, 2) := by decide +kernel
theorem dL_unfit_14 : decode cL_unfit 14 = .ok (.aload_n 3, 1) := by decide +kernel
theorem dL_unfit_15 : decode cL_unfit 15 = .ok (.aload 4, 2) := by decide +kernel
theorem dL_unfit_17 : decode cL_unfit 17 = .ok (.iload 5, 2) := by decide +kernel
theorem dL_unfit_19 : decode cL_unfit 19 = .ok (.aload_n 0, 1) := by decide +kernel
theorem dL_unfit_20 : decode cL_unfit 20 = .ok (.iload 7, 2) := by decide +kernel
theorem dL_unfit_22 : decode cL_unfit 22 = .ok (.iaload, 1) := by decide +kernel
theorem dL_unfit_23 : decode cL_unfit 23 = .ok (.invokestatic 152, 3) := by decide +kernel
theorem dL_unfit_26 : decode cL_unfit 26 = .ok (.aload_n 1, 1) := by decide +kernel
theorem dL_unfit_27 : decode cL_unfit 27 = .ok (.iload 7, 2) := by decide +kernel
theorem dL_unfit_29 : decode cL_unfit 29 = .ok (.iaload, 1) := by decide +kernel
theorem dL_unfit_30 : decode cL_unfit 30 = .ok (.if_icmp .eq 7, 3) := by decide +kernel
theorem dL_unfit_33 : decode cL_unfit 33 = .ok (.iconst 1, 1) := by decide +kernel
theorem dL_unfit_34 : decode cL_unfit 34 = .ok (.goto 4, 3) := by decide +kernel
theorem dL_unfit_37 : decode cL_unfit 37 = .ok (.iconst 0, 1) := by decide +kernel
theorem dL_unfit_38 : decode cL_unfit 38 = .ok (.invokestatic 84, 3) := by decide +kernel
theorem dL_unfit_41 : decode cL_unfit 41 = .ok (.iadd, 1) := by decide +kernel
theorem dL_unfit_42 : decode cL_unfit 42 = .ok (.istore 6, 2) := by decide +kernel
theorem dL_unfit_44 : decode cL_unfit 44 = .ok (.iinc 7 1, 3) := by decide +kernel
theorem dL_unfit_47 : decode cL_unfit 47 = .ok (.goto (-41), 3) := by decide +kernel
theorem dL_unfit_50 : decode cL_unfit 50 = .ok (.iload 6, 2) := by decide +kernel
theorem dL_unfit_52 : decode cL_unfit 52 = .ok (.ireturn, 1) := by decide +kernel
theorem dL_isLine_0 : decode cL_isLine 0 = .ok (.iload_n 1, 1) := by decide +kernel
theorem dL_isLine_1 : decode cL_isLine 1 = .ok (.aload_n 2, 1) := by decide +kernel
theorem dL_isLine_2 : decode cL_isLine 2 = .ok (.invokevirtual 156, 3) := by decide +kernel
theorem dL_isLine_5 : decode cL_isLine 5 = .ok (.if_icmp .ne 7, 3) := by decide +kernel
theorem dL_isLine_8 : decode cL_isLine 8 = .ok (.iconst 1, 1) := by decide +kernel
theorem dL_isLine_9 : decode cL_isLine 9 = .ok (.goto 4, 3) := by decide +kernel
theorem dL_isLine_12 : decode cL_isLine 12 = .ok (.iconst 0, 1) := by decide +kernel
theorem dL_isLine_13 : decode cL_isLine 13 = .ok (.istore_n 3, 1) := by decide +kernel
theorem dL_isLine_14 : decode cL_isLine 14 = .ok (.iconst 0, 1) := by decide +kernel
theorem dL_isLine_15 : decode cL_isLine 15 = .ok (.istore 4, 2) := by decide +kernel
theorem dL_isLine_17 : decode cL_isLine 17 = .ok (.iload 4, 2) := by decide +kernel
theorem dL_isLine_19 : decode cL_isLine 19 = .ok (.aload_n 2, 1) := by decide +kernel
theorem dL_isLine_20 : decode cL_isLine 20 = .ok (.invokevirtual 156, 3) := by decide +kernel
theorem dL_isLine_23 : decode cL_isLine 23 = .ok (.if_icmp .ge 34, 3) := by decide +kernel
theorem dL_isLine_26 : decode cL_isLine 26 = .ok (.iload_n 3, 1) := by decide +kernel
theorem dL_isLine_27 : decode cL_isLine 27 = .ok (.ifCond .eq 30, 3) := by decide +kernel
theorem dL_isLine_30 : decode cL_isLine 30 = .ok (.aload_n 0, 1) := by decide +kernel
theorem dL_isLine_31 : decode cL_isLine 31 = .ok (.iload 4, 2) := by decide +kernel
theorem dL_isLine_33 : decode cL_isLine 33 = .ok (.invokevirtual 161, 3) := by decide +kernel
theorem dL_isLine_36 : decode cL_isLine 36 = .ok (.aload_n 2, 1) := by decide +kernel
theorem dL_isLine_37 : decode cL_isLine 37 = .ok (.iload 4, 2) := by decide +kernel
theorem dL_isLine_39 : decode cL_isLine 39 = .ok (.invokevirtual 165, 3) := by decide +kernel
theorem dL_isLine_42 : decode cL_isLine 42 = .ok (.if_icmp .ne 7, 3) := by decide +kernel
theorem dL_isLine_45 : decode cL_isLine 45 = .ok (.iconst 1, 1) := by decide +kernel
theorem dL_isLine_46 : decode cL_isLine 46 = .ok (.goto 4, 3) := by decide +kernel
theorem dL_isLine_49 : decode cL_isLine 49 = .ok (.iconst 0, 1) := by decide +kernel
theorem dL_isLine_50 : decode cL_isLine 50 = .ok (.istore_n 3, 1) := by decide +kernel
theorem dL_isLine_51 : decode cL_isLine 51 = .ok (.iinc 4 1, 3) := by decide +kernel
theorem dL_isLine_54 : decode cL_isLine 54 = .ok (.goto (-37), 3) := by decide +kernel
theorem dL_isLine_57 : decode cL_isLine 57 = .ok (.iload_n 3, 1) := by decide +kernel
theorem dL_isLine_58 : decode cL_isLine 58 = .ok (.ireturn, 1) := by decide +kernel
theorem dL_isSecretRight_0 : decode cL_isSecretRight 0 = .ok (.aload_n 0, 1) := by decide +kernel
theorem dL_isSecretRight_1 : decode cL_isSecretRight 1 = .ok (.iload_n 1, 1) := by decide +kernel
theorem dL_isSecretRight_2 : decode cL_isSecretRight 2 = .ok (.invokevirtual 145, 3) := by decide +kernel
theorem dL_isSecretRight_5 : decode cL_isSecretRight 5 = .ok (.istore_n 2, 1) := by decide +kernel
theorem dL_isSecretRight_6 : decode cL_isSecretRight 6 = .ok (.bipush 8, 2) := by decide +kernel
theorem dL_isSecretRight_8 : decode cL_isSecretRight 8 = .ok (.newarray .int, 2) := by decide +kernel
theorem dL_isSecretRight_10 : decode cL_isSecretRight 10 = .ok (.astore_n 3, 1) := by decide +kernel
theorem dL_isSecretRight_11 : decode cL_isSecretRight 11 = .ok (.bipush 8, 2) := by decide +kernel
theorem dL_isSecretRight_13 : decode cL_isSecretRight 13 = .ok (.newarray .int, 2) := by decide +kernel
theorem dL_isSecretRight_15 : decode cL_isSecretRight 15 = .ok (.astore 4, 2) := by decide +kernel
theorem dL_isSecretRight_17 : decode cL_isSecretRight 17 = .ok (.iconst 4, 1) := by decide +kernel
theorem dL_isSecretRight_18 : decode cL_isSecretRight 18 = .ok (.newarray .int, 2) := by decide +kernel
theorem dL_isSecretRight_20 : decode cL_isSecretRight 20 = .ok (.astore 5, 2) := by decide +kernel
theorem dL_isSecretRight_22 : decode cL_isSecretRight 22 = .ok (.iconst 0, 1) := by decide +kernel
theorem dL_isSecretRight_23 : decode cL_isSecretRight 23 = .ok (.istore 6, 2) := by decide +kernel
theorem dL_isSecretRight_25 : decode cL_isSecretRight 25 = .ok (.new 168, 3) := by decide +kernel
theorem dL_isSecretRight_28 : decode cL_isSecretRight 28 = .ok (.dup, 1) := by decide +kernel
theorem dL_isSecretRight_29 : decode cL_isSecretRight 29 = .ok (.invokespecial 170, 3) := by decide +kernel
theorem dL_isSecretRight_32 : decode cL_isSecretRight 32 = .ok (.iload_n 1, 1) := by decide +kernel
theorem dL_isSecretRight_33 : decode cL_isSecretRight 33 = .ok (.invokevirtual 171, 3) := by decide +kernel
theorem dL_isSecretRight_36 : decode cL_isSecretRight 36 = .ok (.ldc 175, 2) := by decide +kernel
theorem dL_isSecretRight_38 : decode cL_isSecretRight 38 = .ok (.invokevirtual 177, 3) := by decide +kernel
theorem dL_isSecretRight_41 : decode cL_isSecretRight 41 = .ok (.iload_n 2, 1) := by decide +kernel
theorem dL_isSecretRight_42 : decode cL_isSecretRight 42 = .ok (.invokevirtual 171, 3) := by decide +kernel
theorem dL_isSecretRight_45 : decode cL_isSecretRight 45 = .ok (.invokevirtual 180, 3) := by decide +kernel
theorem dL_isSecretRight_48 : decode cL_isSecretRight 48 = .ok (.astore 7, 2) := by decide +kernel
theorem dL_isSecretRight_50 : decode cL_isSecretRight 50 = .ok (.aload_n 0, 1) := by decide +kernel
theorem dL_isSecretRight_51 : decode cL_isSecretRight 51 = .ok (.iload_n 1, 1) := by decide +kernel
theorem dL_isSecretRight_52 : decode cL_isSecretRight 52 = .ok (.invokevirtual 184, 3) := by decide +kernel
theorem dL_isSecretRight_55 : decode cL_isSecretRight 55 = .ok (.ifCond .eq 23, 3) := by decide +kernel
theorem dL_isSecretRight_58 : decode cL_isSecretRight 58 = .ok (.aload_n 0, 1) := by decide +kernel
theorem dL_isSecretRight_59 : decode cL_isSecretRight 59 = .ok (.iconst 4, 1) := by decide +kernel
theorem dL_isSecretRight_60 : decode cL_isSecretRight 60 = .ok (.aload_n 0, 1) := by decide +kernel
theorem dL_isSecretRight_61 : decode cL_isSecretRight 61 = .ok (.invokevirtual 126, 3) := by decide +kernel
theorem dL_isSecretRight_64 : decode cL_isSecretRight 64 = .ok (.iload_n 1, 1) := by decide +kernel
theorem dL_isSecretRight_65 : decode cL_isSecretRight 65 = .ok (.invokestatic 148, 3) := by decide +kernel
theorem dL_isSecretRight_68 : decode cL_isSecretRight 68 = .ok (.sipush (-2002), 3) := by decide +kernel
theorem dL_isSecretRight_71 : decode cL_isSecretRight 71 = .ok (.if_icmp .ne 7, 3) := by decide +kernel
theorem dL_isSecretRight_74 : decode cL_isSecretRight 74 = .ok (.iconst 1, 1) := by decide +kernel
theorem dL_isSecretRight_75 : decode cL_isSecretRight 75 = .ok (.goto 4, 3) := by decide +kernel
theorem dL_isSecretRight_78 : decode cL_isSecretRight 78 = .ok (.iconst 0, 1) := by decide +kernel
theorem dL_isSecretRight_79 : decode cL_isSecretRight 79 = .ok (.istore 8, 2) := by decide +kernel
theorem dL_isSecretRight_81 : decode cL_isSecretRight 81 = .ok (.iconst 0, 1) := by decide +kernel
theorem dL_isSecretRight_82 : decode cL_isSecretRight 82 = .ok (.istore 9, 2) := by decide +kernel
theorem dL_isSecretRight_84 : decode cL_isSecretRight 84 = .ok (.iload 9, 2) := by decide +kernel
theorem dL_isSecretRight_86 : decode cL_isSecretRight 86 = .ok (.aload_n 0, 1) := by decide +kernel
theorem dL_isSecretRight_87 : decode cL_isSecretRight 87 = .ok (.invokevirtual 126, 3) := by decide +kernel
theorem dL_isSecretRight_90 : decode cL_isSecretRight 90 = .ok (.if_icmp .ge 144, 3) := by decide +kernel
theorem dL_isSecretRight_93 : decode cL_isSecretRight 93 = .ok (.aload_n 0, 1) := by decide +kernel
theorem dL_isSecretRight_94 : decode cL_isSecretRight 94 = .ok (.iconst 4, 1) := by decide +kernel
theorem dL_isSecretRight_95 : decode cL_isSecretRight 95 = .ok (.iload 9, 2) := by decide +kernel
theorem dL_isSecretRight_97 : decode cL_isSecretRight 97 = .ok (.iload_n 1, 1) := by decide +kernel
theorem dL_isSecretRight_98 : decode cL_isSecretRight 98 = .ok (.invokestatic 148, 3) := by decide +kernel
theorem dL_isSecretRight_101 : decode cL_isSecretRight 101 = .ok (.istore 10, 2) := by decide +kernel
theorem dL_isSecretRight_103 : decode cL_isSecretRight 103 = .ok (.iload 8, 2) := by decide +kernel
theorem dL_isSecretRight_105 : decode cL_isSecretRight 105 = .ok (.ifCond .eq 47, 3) := by decide +kernel
theorem dL_isSecretRight_108 : decode cL_isSecretRight 108 = .ok (.aload_n 0, 1) := by decide +kernel
theorem dL_isSecretRight_109 : decode cL_isSecretRight 109 = .ok (.iload 9, 2) := by decide +kernel
theorem dL_isSecretRight_111 : decode cL_isSecretRight 111 = .ok (.iload_n 1, 1) := by decide +kernel
theorem dL_isSecretRight_112 : decode cL_isSecretRight 112 = .ok (.invokevirtual 188, 3) := by decide +kernel
theorem dL_isSecretRight_115 : decode cL_isSecretRight 115 = .ok (.iload 10, 2) := by decide +kernel
theorem dL_isSecretRight_117 : decode cL_isSecretRight 117 = .ok (.ifCond .lt 7, 3) := by decide +kernel
theorem dL_isSecretRight_120 : decode cL_isSecretRight 120 = .ok (.iconst 1, 1) := by decide +kernel
theorem dL_isSecretRight_121 : decode cL_isSecretRight 121 = .ok (.goto 4, 3) := by decide +kernel
theorem dL_isSecretRight_124 : decode cL_isSecretRight 124 = .ok (.iconst 0, 1) := by decide +kernel
theorem dL_isSecretRight_125 : decode cL_isSecretRight 125 = .ok (.if_icmp .ne 27, 3) := by decide +kernel
theorem dL_isSecretRight_128 : decode cL_isSecretRight 128 = .ok (.iload 10, 2) := by decide +kernel
theorem dL_isSecretRight_130 : decode cL_isSecretRight 130 = .ok (.ifCond .lt 10, 3) := by decide +kernel
theorem dL_isSecretRight_133 : decode cL_isSecretRight 133 = .ok (.iload 10, 2) := by decide +kernel
theorem dL_isSecretRight_135 : decode cL_isSecretRight 135 = .ok (.bipush 97, 2) := by decide +kernel
theorem dL_isSecretRight_137 : decode cL_isSecretRight 137 = .ok (.if_icmp .lt 11, 3) := by decide +kernel
theorem dL_isSecretRight_140 : decode cL_isSecretRight 140 = .ok (.iload 10, 2) := by decide +kernel
theorem dL_isSecretRight_142 : decode cL_isSecretRight 142 = .ok (.sipush (-2005), 3) := by decide +kernel
theorem dL_isSecretRight_145 : decode cL_isSecretRight 145 = .ok (.if_icmp .ne 7, 3) := by decide +kernel
theorem dL_isSecretRight_148 : decode cL_isSecretRight 148 = .ok (.iconst 1, 1) := by decide +kernel
theorem dL_isSecretRight_149 : decode cL_isSecretRight 149 = .ok (.goto 4, 3) := by decide +kernel
theorem dL_isSecretRight_152 : decode cL_isSecretRight 152 = .ok (.iconst 0, 1) := by decide +kernel
theorem dL_isSecretRight_153 : decode cL_isSecretRight 153 = .ok (.istore 8, 2) := by decide +kernel
theorem dL_isSecretRight_155 : decode cL_isSecretRight 155 = .ok (.iload 10, 2) := by decide +kernel
theorem dL_isSecretRight_157 : decode cL_isSecretRight 157 = .ok (.ifCond .lt 71, 3) := by decide +kernel
theorem dL_isSecretRight_160 : decode cL_isSecretRight 160 = .ok (.aload_n 3, 1) := by decide +kernel
theorem dL_isSecretRight_161 : decode cL_isSecretRight 161 = .ok (.iload 6, 2) := by decide +kernel
theorem dL_isSecretRight_163 : decode cL_isSecretRight 163 = .ok (.iload 9, 2) := by decide +kernel
theorem dL_isSecretRight_165 : decode cL_isSecretRight 165 = .ok (.iconst 1, 1) := by decide +kernel
theorem dL_isSecretRight_166 : decode cL_isSecretRight 166 = .ok (.iadd, 1) := by decide +kernel
theorem dL_isSecretRight_167 : decode cL_isSecretRight 167 = .ok (.iastore, 1) := by decide +kernel
theorem dL_isSecretRight_168 : decode cL_isSecretRight 168 = .ok (.aload 4, 2) := by decide +kernel
theorem dL_isSecretRight_170 : decode cL_isSecretRight 170 = .ok (.iload 6, 2) := by decide +kernel
theorem dL_isSecretRight_172 : decode cL_isSecretRight 172 = .ok (.iload 10, 2) := by decide +kernel
theorem dL_isSecretRight_174 : decode cL_isSecretRight 174 = .ok (.iastore, 1) := by decide +kernel
theorem dL_isSecretRight_175 : decode cL_isSecretRight 175 = .ok (.aload 5, 2) := by decide +kernel
theorem dL_isSecretRight_177 : decode cL_isSecretRight 177 = .ok (.aload_n 0, 1) := by decide +kernel
theorem dL_isSecretRight_178 : decode cL_isSecretRight 178 = .ok (.iload 9, 2) := by decide +kernel
theorem dL_isSecretRight_180 : decode cL_isSecretRight 180 = .ok (.invokevirtual 62, 3) := by decide +kernel
theorem dL_isSecretRight_183 : decode cL_isSecretRight 183 = .ok (.dup2, 1) := by decide +kernel
theorem dL_isSecretRight_184 : decode cL_isSecretRight 184 = .ok (.iaload, 1) := by decide +kernel
theorem dL_isSecretRight_185 : decode cL_isSecretRight 185 = .ok (.iconst 1, 1) := by decide +kernel
theorem dL_isSecretRight_186 : decode cL_isSecretRight 186 = .ok (.iadd, 1) := by decide +kernel
theorem dL_isSecretRight_187 : decode cL_isSecretRight 187 = .ok (.iastore, 1) := by decide +kernel
theorem dL_isSecretRight_188 : decode cL_isSecretRight 188 = .ok (.iinc 6 1, 3) := by decide +kernel
theorem dL_isSecretRight_191 : decode cL_isSecretRight 191 = .ok (.new 168, 3) := by decide +kernel
theorem dL_isSecretRight_194 : decode cL_isSecretRight 194 = .ok (.dup, 1) := by decide +kernel
theorem dL_isSecretRight_195 : decode cL_isSecretRight 195 = .ok (.invokespecial 170, 3) := by decide +kernel
theorem dL_isSecretRight_198 : decode cL_isSecretRight 198 = .ok (.aload 7, 2) := by decide +kernel
theorem dL_isSecretRight_200 : decode cL_isSecretRight 200 = .ok (.invokevirtual 177, 3) := by decide +kernel
theorem dL_isSecretRight_203 : decode cL_isSecretRight 203 = .ok (.ldc 191, 2) := by decide +kernel
theorem dL_isSecretRight_205 : decode cL_isSecretRight 205 = .ok (.invokevirtual 177, 3) := by decide +kernel
theorem dL_isSecretRight_208 : decode cL_isSecretRight 208 = .ok (.iload 9, 2) := by decide +kernel
theorem dL_isSecretRight_210 : decode cL_isSecretRight 210 = .ok (.invokevirtual 171, 3) := by decide +kernel
theorem dL_isSecretRight_213 : decode cL_isSecretRight 213 = .ok (.ldc 193, 2) := by decide +kernel
theorem dL_isSecretRight_215 : decode cL_isSecretRight 215 = .ok (.invokevirtual 177, 3) := by decide +kernel
theorem dL_isSecretRight_218 : decode cL_isSecretRight 218 = .ok (.iload 10, 2) := by decide +kernel
theorem dL_isSecretRight_220 : decode cL_isSecretRight 220 = .ok (.invokevirtual 171, 3) := by decide +kernel
theorem dL_isSecretRight_223 : decode cL_isSecretRight 223 = .ok (.invokevirtual 180, 3) := by decide +kernel
theorem dL_isSecretRight_226 : decode cL_isSecretRight 226 = .ok (.astore 7, 2) := by decide +kernel
theorem dL_isSecretRight_228 : decode cL_isSecretRight 228 = .ok (.iinc 9 1, 3) := by decide +kernel
theorem dL_isSecretRight_231 : decode cL_isSecretRight 231 = .ok (.goto (-147), 3) := by decide +kernel
theorem dL_isSecretRight_234 : decode cL_isSecretRight 234 = .ok (.iconst 0, 1) := by decide +kernel
theorem dL_isSecretRight_235 : decode cL_isSecretRight 235 = .ok (.istore 9, 2) := by decide +kernel
theorem dL_isSecretRight_237 : decode cL_isSecretRight 237 = .ok (.iload 9, 2) := by decide +kernel
theorem dL_isSecretRight_239 : decode cL_isSecretRight 239 = .ok (.iconst 4, 1) := by decide +kernel
theorem dL_isSecretRight_240 : decode cL_isSecretRight 240 = .ok (.if_icmp .ge 45, 3) := by decide +kernel
theorem dL_isSecretRight_243 : decode cL_isSecretRight 243 = .ok (.iload 8, 2) := by decide +kernel
theorem dL_isSecretRight_245 : decode cL_isSecretRight 245 = .ok (.ifCond .eq 31, 3) := by decide +kernel
theorem dL_isSecretRight_248 : decode cL_isSecretRight 248 = .ok (.aload_n 0, 1) := by decide +kernel
theorem dL_isSecretRight_249 : decode cL_isSecretRight 249 = .ok (.iload 9, 2) := by decide +kernel
theorem dL_isSecretRight_251 : decode cL_isSecretRight 251 = .ok (.iload_n 1, 1) := by decide +kernel
theorem dL_isSecretRight_252 : decode cL_isSecretRight 252 = .ok (.invokevirtual 80, 3) := by decide +kernel
theorem dL_isSecretRight_255 : decode cL_isSecretRight 255 = .ok (.aload 5, 2) := by decide +kernel
theorem dL_isSecretRight_257 : decode cL_isSecretRight 257 = .ok (.iload 9, 2) := by decide +kernel
theorem dL_isSecretRight_259 : decode cL_isSecretRight 259 = .ok (.iaload, 1) := by decide +kernel
theorem dL_isSecretRight_260 : decode cL_isSecretRight 260 = .ok (.iload_n 2, 1) := by decide +kernel
theorem dL_isSecretRight_261 : decode cL_isSecretRight 261 = .ok (.if_icmp .lt 7, 3) := by decide +kernel
theorem dL_isSecretRight_264 : decode cL_isSecretRight 264 = .ok (.iconst 1, 1) := by decide +kernel
theorem dL_isSecretRight_265 : decode cL_isSecretRight 265 = .ok (.goto 4, 3) := by decide +kernel
theorem dL_isSecretRight_268 : decode cL_isSecretRight 268 = .ok (.iconst 0, 1) := by decide +kernel
theorem dL_isSecretRight_269 : decode cL_isSecretRight 269 = .ok (.if_icmp .ne 7, 3) := by decide +kernel
theorem dL_isSecretRight_272 : decode cL_isSecretRight 272 = .ok (.iconst 1, 1) := by decide +kernel
theorem dL_isSecretRight_273 : decode cL_isSecretRight 273 = .ok (.goto 4, 3) := by decide +kernel
theorem dL_isSecretRight_276 : decode cL_isSecretRight 276 = .ok (.iconst 0, 1) := by decide +kernel
theorem dL_isSecretRight_277 : decode cL_isSecretRight 277 = .ok (.istore 8, 2) := by decide +kernel
theorem dL_isSecretRight_279 : decode cL_isSecretRight 279 = .ok (.iinc 9 1, 3) := by decide +kernel
theorem dL_isSecretRight_282 : decode cL_isSecretRight 282 = .ok (.goto (-45), 3) := by decide +kernel
theorem dL_isSecretRight_285 : decode cL_isSecretRight 285 = .ok (.iload 6, 2) := by decide +kernel
theorem dL_isSecretRight_287 : decode cL_isSecretRight 287 = .ok (.iload_n 2, 1) := by decide +kernel
theorem dL_isSecretRight_288 : decode cL_isSecretRight 288 = .ok (.if_icmp .lt 7, 3) := by decide +kernel
theorem dL_isSecretRight_291 : decode cL_isSecretRight 291 = .ok (.iconst 1, 1) := by decide +kernel
theorem dL_isSecretRight_292 : decode cL_isSecretRight 292 = .ok (.goto 4, 3) := by decide +kernel
theorem dL_isSecretRight_295 : decode cL_isSecretRight 295 = .ok (.iconst 0, 1) := by decide +kernel
theorem dL_isSecretRight_296 : decode cL_isSecretRight 296 = .ok (.istore 9, 2) := by decide +kernel
theorem dL_isSecretRight_298 : decode cL_isSecretRight 298 = .ok (.iload 9, 2) := by decide +kernel
theorem dL_isSecretRight_300 : decode cL_isSecretRight 300 = .ok (.ifCond .eq 14, 3) := by decide +kernel
theorem dL_isSecretRight_303 : decode cL_isSecretRight 303 = .ok (.aload_n 3, 1) := by decide +kernel
theorem dL_isSecretRight_304 : decode cL_isSecretRight 304 = .ok (.aload 4, 2) := by decide +kernel
theorem dL_isSecretRight_306 : decode cL_isSecretRight 306 = .ok (.iload_n 2, 1) := by decide +kernel
theorem dL_isSecretRight_307 : decode cL_isSecretRight 307 = .ok (.iconst 0, 1) := by decide +kernel
theorem dL_isSecretRight_308 : decode cL_isSecretRight 308 = .ok (.invokestatic 152, 3) := by decide +kernel
theorem dL_isSecretRight_311 : decode cL_isSecretRight 311 = .ok (.goto 6, 3) := by decide +kernel
theorem dL_isSecretRight_314 : decode cL_isSecretRight 314 = .ok (.sipush (-2005), 3) := by decide +kernel
theorem dL_isSecretRight_317 : decode cL_isSecretRight 317 = .ok (.istore 10, 2) := by decide +kernel
theorem dL_isSecretRight_319 : decode cL_isSecretRight 319 = .ok (.iload 9, 2) := by decide +kernel
theorem dL_isSecretRight_321 : decode cL_isSecretRight 321 = .ok (.ifCond .eq 18, 3) := by decide +kernel
theorem dL_isSecretRight_324 : decode cL_isSecretRight 324 = .ok (.aload_n 3, 1) := by decide +kernel
theorem dL_isSecretRight_325 : decode cL_isSecretRight 325 = .ok (.aload 4, 2) := by decide +kernel
theorem dL_isSecretRight_327 : decode cL_isSecretRight 327 = .ok (.iload 6, 2) := by decide +kernel
theorem dL_isSecretRight_329 : decode cL_isSecretRight 329 = .ok (.aload_n 3, 1) := by decide +kernel
theorem dL_isSecretRight_330 : decode cL_isSecretRight 330 = .ok (.aload 4, 2) := by decide +kernel
theorem dL_isSecretRight_332 : decode cL_isSecretRight 332 = .ok (.iload_n 2, 1) := by decide +kernel
theorem dL_isSecretRight_333 : decode cL_isSecretRight 333 = .ok (.invokestatic 195, 3) := by decide +kernel
theorem dL_isSecretRight_336 : decode cL_isSecretRight 336 = .ok (.goto 6, 3) := by decide +kernel
theorem dL_isSecretRight_339 : decode cL_isSecretRight 339 = .ok (.sipush (-2005), 3) := by decide +kernel
theorem dL_isSecretRight_342 : decode cL_isSecretRight 342 = .ok (.istore 11, 2) := by decide +kernel
theorem dL_isSecretRight_344 : decode cL_isSecretRight 344 = .ok (.iload 8, 2) := by decide +kernel
theorem dL_isSecretRight_346 : decode cL_isSecretRight 346 = .ok (.ifCond .eq 99, 3) := by decide +kernel
theorem dL_isSecretRight_349 : decode cL_isSecretRight 349 = .ok (.aload_n 0, 1) := by decide +kernel
theorem dL_isSecretRight_350 : decode cL_isSecretRight 350 = .ok (.iload_n 1, 1) := by decide +kernel
theorem dL_isSecretRight_351 : decode cL_isSecretRight 351 = .ok (.invokevirtual 77, 3) := by decide +kernel
theorem dL_isSecretRight_354 : decode cL_isSecretRight 354 = .ok (.iload 6, 2) := by decide +kernel
theorem dL_isSecretRight_356 : decode cL_isSecretRight 356 = .ok (.if_icmp .ne 89, 3) := by decide +kernel
theorem dL_isSecretRight_359 : decode cL_isSecretRight 359 = .ok (.aload_n 0, 1) := by decide +kernel
theorem dL_isSecretRight_360 : decode cL_isSecretRight 360 = .ok (.iload_n 1, 1) := by decide +kernel
theorem dL_isSecretRight_361 : decode cL_isSecretRight 361 = .ok (.invokevirtual 199, 3) := by decide +kernel
theorem dL_isSecretRight_364 : decode cL_isSecretRight 364 = .ok (.iload 6, 2) := by decide +kernel
theorem dL_isSecretRight_366 : decode cL_isSecretRight 366 = .ok (.iload_n 2, 1) := by decide +kernel
theorem dL_isSecretRight_367 : decode cL_isSecretRight 367 = .ok (.isub, 1) := by decide +kernel
theorem dL_isSecretRight_368 : decode cL_isSecretRight 368 = .ok (.if_icmp .ne 77, 3) := by decide +kernel
theorem dL_isSecretRight_371 : decode cL_isSecretRight 371 = .ok (.aload_n 0, 1) := by decide +kernel
theorem dL_isSecretRight_372 : decode cL_isSecretRight 372 = .ok (.bipush 7, 2) := by decide +kernel
theorem dL_isSecretRight_374 : decode cL_isSecretRight 374 = .ok (.iload_n 1, 1) := by decide +kernel
theorem dL_isSecretRight_375 : decode cL_isSecretRight 375 = .ok (.iconst 0, 1) := by decide +kernel
theorem dL_isSecretRight_376 : decode cL_isSecretRight 376 = .ok (.invokestatic 148, 3) := by decide +kernel
theorem dL_isSecretRight_379 : decode cL_isSecretRight 379 = .ok (.iload 10, 2) := by decide +kernel
theorem dL_isSecretRight_381 : decode cL_isSecretRight 381 = .ok (.if_icmp .ne 64, 3) := by decide +kernel
theorem dL_isSecretRight_384 : decode cL_isSecretRight 384 = .ok (.aload_n 0, 1) := by decide +kernel
theorem dL_isSecretRight_385 : decode cL_isSecretRight 385 = .ok (.bipush 8, 2) := by decide +kernel
theorem dL_isSecretRight_387 : decode cL_isSecretRight 387 = .ok (.iload_n 1, 1) := by decide +kernel
theorem dL_isSecretRight_388 : decode cL_isSecretRight 388 = .ok (.iconst 0, 1) := by decide +kernel
theorem dL_isSecretRight_389 : decode cL_isSecretRight 389 = .ok (.invokestatic 148, 3) := by decide +kernel
theorem dL_isSecretRight_392 : decode cL_isSecretRight 392 = .ok (.iload 10, 2) := by decide +kernel
theorem dL_isSecretRight_394 : decode cL_isSecretRight 394 = .ok (.if_icmp .ne 51, 3) := by decide +kernel
theorem dL_isSecretRight_397 : decode cL_isSecretRight 397 = .ok (.aload_n 0, 1) := by decide +kernel
theorem dL_isSecretRight_398 : decode cL_isSecretRight 398 = .ok (.bipush 9, 2) := by decide +kernel
theorem dL_isSecretRight_400 : decode cL_isSecretRight 400 = .ok (.iload_n 1, 1) := by decide +kernel
theorem dL_isSecretRight_401 : decode cL_isSecretRight 401 = .ok (.iconst 0, 1) := by decide +kernel
theorem dL_isSecretRight_402 : decode cL_isSecretRight 402 = .ok (.invokestatic 148, 3) := by decide +kernel
theorem dL_isSecretRight_405 : decode cL_isSecretRight 405 = .ok (.iload 11, 2) := by decide +kernel
theorem dL_isSecretRight_407 : decode cL_isSecretRight 407 = .ok (.if_icmp .ne 38, 3) := by decide +kernel
theorem dL_isSecretRight_410 : decode cL_isSecretRight 410 = .ok (.aload_n 0, 1) := by decide +kernel
theorem dL_isSecretRight_411 : decode cL_isSecretRight 411 = .ok (.bipush 10, 2) := by decide +kernel
theorem dL_isSecretRight_413 : decode cL_isSecretRight 413 = .ok (.iload_n 1, 1) := by decide +kernel
theorem dL_isSecretRight_414 : decode cL_isSecretRight 414 = .ok (.iconst 0, 1) := by decide +kernel
theorem dL_isSecretRight_415 : decode cL_isSecretRight 415 = .ok (.invokestatic 148, 3) := by decide +kernel
theorem dL_isSecretRight_418 : decode cL_isSecretRight 418 = .ok (.iload 9, 2) := by decide +kernel
theorem dL_isSecretRight_420 : decode cL_isSecretRight 420 = .ok (.ifCond .eq 15, 3) := by decide +kernel
theorem dL_isSecretRight_423 : decode cL_isSecretRight 423 = .ok (.aload_n 3, 1) := by decide +kernel
theorem dL_isSecretRight_424 : decode cL_isSecretRight 424 = .ok (.aload 4, 2) := by decide +kernel
theorem dL_isSecretRight_426 : decode cL_isSecretRight 426 = .ok (.iload 6, 2) := by decide +kernel
theorem dL_isSecretRight_428 : decode cL_isSecretRight 428 = .ok (.iload_n 2, 1) := by decide +kernel
theorem dL_isSecretRight_429 : decode cL_isSecretRight 429 = .ok (.invokestatic 202, 3) := by decide +kernel
theorem dL_isSecretRight_432 : decode cL_isSecretRight 432 = .ok (.goto 6, 3) := by decide +kernel
theorem dL_isSecretRight_435 : decode cL_isSecretRight 435 = .ok (.sipush (-2005), 3) := by decide +kernel
theorem dL_isSecretRight_438 : decode cL_isSecretRight 438 = .ok (.if_icmp .ne 7, 3) := by decide +kernel
theorem dL_isSecretRight_441 : decode cL_isSecretRight 441 = .ok (.iconst 1, 1) := by decide +kernel
theorem dL_isSecretRight_442 : decode cL_isSecretRight 442 = .ok (.goto 4, 3) := by decide +kernel
theorem dL_isSecretRight_445 : decode cL_isSecretRight 445 = .ok (.iconst 0, 1) := by decide +kernel
theorem dL_isSecretRight_446 : decode cL_isSecretRight 446 = .ok (.istore 8, 2) := by decide +kernel
theorem dL_isSecretRight_448 : decode cL_isSecretRight 448 = .ok (.iconst 0, 1) := by decide +kernel
theorem dL_isSecretRight_449 : decode cL_isSecretRight 449 = .ok (.istore 12, 2) := by decide +kernel
theorem dL_isSecretRight_451 : decode cL_isSecretRight 451 = .ok (.iload 12, 2) := by decide +kernel
theorem dL_isSecretRight_453 : decode cL_isSecretRight 453 = .ok (.iload 6, 2) := by decide +kernel
theorem dL_isSecretRight_455 : decode cL_isSecretRight 455 = .ok (.if_icmp .gt 78, 3) := by decide +kernel
theorem dL_isSecretRight_458 : decode cL_isSecretRight 458 = .ok (.iload 12, 2) := by decide +kernel
theorem dL_isSecretRight_460 : decode cL_isSecretRight 460 = .ok (.iload_n 2, 1) := by decide +kernel
theorem dL_isSecretRight_461 : decode cL_isSecretRight 461 = .ok (.if_icmp .ge 8, 3) := by decide +kernel
theorem dL_isSecretRight_464 : decode cL_isSecretRight 464 = .ok (.bipush 97, 2) := by decide +kernel
theorem dL_isSecretRight_466 : decode cL_isSecretRight 466 = .ok (.goto 23, 3) := by decide +kernel
theorem dL_isSecretRight_469 : decode cL_isSecretRight 469 = .ok (.aload_n 3, 1) := by decide +kernel
theorem dL_isSecretRight_470 : decode cL_isSecretRight 470 = .ok (.aload 4, 2) := by decide +kernel
theorem dL_isSecretRight_472 : decode cL_isSecretRight 472 = .ok (.iload 12, 2) := by decide +kernel
theorem dL_isSecretRight_474 : decode cL_isSecretRight 474 = .ok (.aload_n 3, 1) := by decide +kernel
theorem dL_isSecretRight_475 : decode cL_isSecretRight 475 = .ok (.aload 4, 2) := by decide +kernel
theorem dL_isSecretRight_477 : decode cL_isSecretRight 477 = .ok (.iload_n 2, 1) := by decide +kernel
theorem dL_isSecretRight_478 : decode cL_isSecretRight 478 = .ok (.invokestatic 195, 3) := by decide +kernel
theorem dL_isSecretRight_481 : decode cL_isSecretRight 481 = .ok (.ifCond .ne 7, 3) := by decide +kernel
theorem dL_isSecretRight_484 : decode cL_isSecretRight 484 = .ok (.iconst 1, 1) := by decide +kernel
theorem dL_isSecretRight_485 : decode cL_isSecretRight 485 = .ok (.goto 4, 3) := by decide +kernel
theorem dL_isSecretRight_488 : decode cL_isSecretRight 488 = .ok (.iconst 0, 1) := by decide +kernel
theorem dL_isSecretRight_489 : decode cL_isSecretRight 489 = .ok (.istore 13, 2) := by decide +kernel
theorem dL_isSecretRight_491 : decode cL_isSecretRight 491 = .ok (.iload 8, 2) := by decide +kernel
theorem dL_isSecretRight_493 : decode cL_isSecretRight 493 = .ok (.ifCond .eq 31, 3) := by decide +kernel
theorem dL_isSecretRight_496 : decode cL_isSecretRight 496 = .ok (.aload_n 0, 1) := by decide +kernel
theorem dL_isSecretRight_497 : decode cL_isSecretRight 497 = .ok (.iload_n 1, 1) := by decide +kernel
theorem dL_isSecretRight_498 : decode cL_isSecretRight 498 = .ok (.iload 12, 2) := by decide +kernel
theorem dL_isSecretRight_500 : decode cL_isSecretRight 500 = .ok (.invokevirtual 100, 3) := by decide +kernel
theorem dL_isSecretRight_503 : decode cL_isSecretRight 503 = .ok (.iload 13, 2) := by decide +kernel
theorem dL_isSecretRight_505 : decode cL_isSecretRight 505 = .ok (.if_icmp .ne 19, 3) := by decide +kernel
theorem dL_isSecretRight_508 : decode cL_isSecretRight 508 = .ok (.aload_n 0, 1) := by decide +kernel
theorem dL_isSecretRight_509 : decode cL_isSecretRight 509 = .ok (.iload_n 1, 1) := by decide +kernel
theorem dL_isSecretRight_510 : decode cL_isSecretRight 510 = .ok (.iload 12, 2) := by decide +kernel
theorem dL_isSecretRight_512 : decode cL_isSecretRight 512 = .ok (.invokevirtual 103, 3) := by decide +kernel
theorem dL_isSecretRight_515 : decode cL_isSecretRight 515 = .ok (.iload 13, 2) := by decide +kernel
theorem dL_isSecretRight_517 : decode cL_isSecretRight 517 = .ok (.if_icmp .ne 7, 3) := by decide +kernel
theorem dL_isSecretRight_520 : decode cL_isSecretRight 520 = .ok (.iconst 1, 1) := by decide +kernel
theorem dL_isSecretRight_521 : decode cL_isSecretRight 521 = .ok (.goto 4, 3) := by decide +kernel
theorem dL_isSecretRight_524 : decode cL_isSecretRight 524 = .ok (.iconst 0, 1) := by decide +kernel
theorem dL_isSecretRight_525 : decode cL_isSecretRight 525 = .ok (.istore 8, 2) := by decide +kernel
theorem dL_isSecretRight_527 : decode cL_isSecretRight 527 = .ok (.iinc 12 1, 3) := by decide +kernel
theorem dL_isSecretRight_530 : decode cL_isSecretRight 530 = .ok (.goto (-79), 3) := by decide +kernel
theorem dL_isSecretRight_533 : decode cL_isSecretRight 533 = .ok (.iload 8, 2) := by decide +kernel
theorem dL_isSecretRight_535 : decode cL_isSecretRight 535 = .ok (.ifCond .eq 52, 3) := by decide +kernel
theorem dL_isSecretRight_538 : decode cL_isSecretRight 538 = .ok (.aload_n 0, 1) := by decide +kernel
theorem dL_isSecretRight_539 : decode cL_isSecretRight 539 = .ok (.bipush 11, 2) := by decide +kernel
theorem dL_isSecretRight_541 : decode cL_isSecretRight 541 = .ok (.iload_n 1, 1) := by decide +kernel
theorem dL_isSecretRight_542 : decode cL_isSecretRight 542 = .ok (.iload 6, 2) := by decide +kernel
theorem dL_isSecretRight_544 : decode cL_isSecretRight 544 = .ok (.iconst 1, 1) := by decide +kernel
theorem dL_isSecretRight_545 : decode cL_isSecretRight 545 = .ok (.iadd, 1) := by decide +kernel
theorem dL_isSecretRight_546 : decode cL_isSecretRight 546 = .ok (.invokestatic 148, 3) := by decide +kernel
theorem dL_isSecretRight_549 : decode cL_isSecretRight 549 = .ok (.sipush (-2003), 3) := by decide +kernel
theorem dL_isSecretRight_552 : decode cL_isSecretRight 552 = .ok (.if_icmp .ne 35, 3) := by decide +kernel
theorem dL_isSecretRight_555 : decode cL_isSecretRight 555 = .ok (.aload_n 0, 1) := by decide +kernel
theorem dL_isSecretRight_556 : decode cL_isSecretRight 556 = .ok (.bipush 12, 2) := by decide +kernel
theorem dL_isSecretRight_558 : decode cL_isSecretRight 558 = .ok (.iload_n 1, 1) := by decide +kernel
theorem dL_isSecretRight_559 : decode cL_isSecretRight 559 = .ok (.iconst (-1), 1) := by decide +kernel
theorem dL_isSecretRight_560 : decode cL_isSecretRight 560 = .ok (.invokestatic 148, 3) := by decide +kernel
theorem dL_isSecretRight_563 : decode cL_isSecretRight 563 = .ok (.sipush (-2003), 3) := by decide +kernel
theorem dL_isSecretRight_566 : decode cL_isSecretRight 566 = .ok (.if_icmp .ne 21, 3) := by decide +kernel
theorem dL_isSecretRight_569 : decode cL_isSecretRight 569 = .ok (.aload_n 0, 1) := by decide +kernel
theorem dL_isSecretRight_570 : decode cL_isSecretRight 570 = .ok (.aload_n 0, 1) := by decide +kernel
theorem dL_isSecretRight_571 : decode cL_isSecretRight 571 = .ok (.iload_n 1, 1) := by decide +kernel
theorem dL_isSecretRight_572 : decode cL_isSecretRight 572 = .ok (.invokevirtual 205, 3) := by decide +kernel
theorem dL_isSecretRight_575 : decode cL_isSecretRight 575 = .ok (.aload 7, 2) := by decide +kernel
theorem dL_isSecretRight_577 : decode cL_isSecretRight 577 = .ok (.invokestatic 208, 3) := by decide +kernel
theorem dL_isSecretRight_580 : decode cL_isSecretRight 580 = .ok (.ifCond .eq 7, 3) := by decide +kernel
theorem dL_isSecretRight_583 : decode cL_isSecretRight 583 = .ok (.iconst 1, 1) := by decide +kernel
theorem dL_isSecretRight_584 : decode cL_isSecretRight 584 = .ok (.goto 4, 3) := by decide +kernel
theorem dL_isSecretRight_587 : decode cL_isSecretRight 587 = .ok (.iconst 0, 1) := by decide +kernel
theorem dL_isSecretRight_588 : decode cL_isSecretRight 588 = .ok (.ireturn, 1) := by decide +kernel
theorem dL_least_0 : decode cL_least 0 = .ok (.iload_n 2, 1) := by decide +kernel
theorem dL_least_1 : decode cL_least 1 = .ok (.istore 4, 2) := by decide +kernel
theorem dL_least_3 : decode cL_least 3 = .ok (.bipush 8, 2) := by decide +kernel
theorem dL_least_5 : decode cL_least 5 = .ok (.newarray .int, 2) := by decide +kernel
theorem dL_least_7 : decode cL_least 7 = .ok (.astore 5, 2) := by decide +kernel
theorem dL_least_9 : decode cL_least 9 = .ok (.bipush 8, 2) := by decide +kernel
theorem dL_least_11 : decode cL_least 11 = .ok (.newarray .int, 2) := by decide +kernel
theorem dL_least_13 : decode cL_least 13 = .ok (.astore 6, 2) := by decide +kernel
theorem dL_least_15 : decode cL_least 15 = .ok (.iconst 0, 1) := by decide +kernel
theorem dL_least_16 : decode cL_least 16 = .ok (.istore 7, 2) := by decide +kernel
theorem dL_least_18 : decode cL_least 18 = .ok (.iload 7, 2) := by decide +kernel
theorem dL_least_20 : decode cL_least 20 = .ok (.iconst 1, 1) := by decide +kernel
theorem dL_least_21 : decode cL_least 21 = .ok (.iload_n 2, 1) := by decide +kernel
theorem dL_least_22 : decode cL_least 22 = .ok (.ishl, 1) := by decide +kernel
theorem dL_least_23 : decode cL_least 23 = .ok (.if_icmp .ge 88, 3) := by decide +kernel
theorem dL_least_26 : decode cL_least 26 = .ok (.iconst 0, 1) := by decide +kernel
theorem dL_least_27 : decode cL_least 27 = .ok (.istore 8, 2) := by decide +kernel
theorem dL_least_29 : decode cL_least 29 = .ok (.iconst 0, 1) := by decide +kernel
theorem dL_least_30 : decode cL_least 30 = .ok (.istore 9, 2) := by decide +kernel
theorem dL_least_32 : decode cL_least 32 = .ok (.iload 9, 2) := by decide +kernel
theorem dL_least_34 : decode cL_least 34 = .ok (.iload_n 2, 1) := by decide +kernel
theorem dL_least_35 : decode cL_least 35 = .ok (.if_icmp .ge 41, 3) := by decide +kernel
theorem dL_least_38 : decode cL_least 38 = .ok (.iload 7, 2) := by decide +kernel
theorem dL_least_40 : decode cL_least 40 = .ok (.iload 9, 2) := by decide +kernel
theorem dL_least_42 : decode cL_least 42 = .ok (.ishr, 1) := by decide +kernel
theorem dL_least_43 : decode cL_least 43 = .ok (.iconst 2, 1) := by decide +kernel
theorem dL_least_44 : decode cL_least 44 = .ok (.irem, 1) := by decide +kernel
theorem dL_least_45 : decode cL_least 45 = .ok (.iconst 1, 1) := by decide +kernel
theorem dL_least_46 : decode cL_least 46 = .ok (.if_icmp .ne 24, 3) := by decide +kernel
theorem dL_least_49 : decode cL_least 49 = .ok (.aload 5, 2) := by decide +kernel
theorem dL_least_51 : decode cL_least 51 = .ok (.iload 8, 2) := by decide +kernel
theorem dL_least_53 : decode cL_least 53 = .ok (.aload_n 0, 1) := by decide +kernel
theorem dL_least_54 : decode cL_least 54 = .ok (.iload 9, 2) := by decide +kernel
theorem dL_least_56 : decode cL_least 56 = .ok (.iaload, 1) := by decide +kernel
theorem dL_least_57 : decode cL_least 57 = .ok (.iastore, 1) := by decide +kernel
theorem dL_least_58 : decode cL_least 58 = .ok (.aload 6, 2) := by decide +kernel
theorem dL_least_60 : decode cL_least 60 = .ok (.iload 8, 2) := by decide +kernel
theorem dL_least_62 : decode cL_least 62 = .ok (.aload_n 1, 1) := by decide +kernel
theorem dL_least_63 : decode cL_least 63 = .ok (.iload 9, 2) := by decide +kernel
theorem dL_least_65 : decode cL_least 65 = .ok (.iaload, 1) := by decide +kernel
theorem dL_least_66 : decode cL_least 66 = .ok (.iastore, 1) := by decide +kernel
theorem dL_least_67 : decode cL_least 67 = .ok (.iinc 8 1, 3) := by decide +kernel
theorem dL_least_70 : decode cL_least 70 = .ok (.iinc 9 1, 3) := by decide +kernel
theorem dL_least_73 : decode cL_least 73 = .ok (.goto (-41), 3) := by decide +kernel
theorem dL_least_76 : decode cL_least 76 = .ok (.iload 8, 2) := by decide +kernel
theorem dL_least_78 : decode cL_least 78 = .ok (.iload_n 3, 1) := by decide +kernel
theorem dL_least_79 : decode cL_least 79 = .ok (.if_icmp .ne 22, 3) := by decide +kernel
theorem dL_least_82 : decode cL_least 82 = .ok (.iload 4, 2) := by decide +kernel
theorem dL_least_84 : decode cL_least 84 = .ok (.aload_n 0, 1) := by decide +kernel
theorem dL_least_85 : decode cL_least 85 = .ok (.aload_n 1, 1) := by decide +kernel
theorem dL_least_86 : decode cL_least 86 = .ok (.iload_n 2, 1) := by decide +kernel
theorem dL_least_87 : decode cL_least 87 = .ok (.aload 5, 2) := by decide +kernel
theorem dL_least_89 : decode cL_least 89 = .ok (.aload 6, 2) := by decide +kernel
theorem dL_least_91 : decode cL_least 91 = .ok (.iload_n 3, 1) := by decide +kernel
theorem dL_least_92 : decode cL_least 92 = .ok (.invokestatic 195, 3) := by decide +kernel
theorem dL_least_95 : decode cL_least 95 = .ok (.invokestatic 212, 3) := by decide +kernel
theorem dL_least_98 : decode cL_least 98 = .ok (.goto 5, 3) := by decide +kernel
theorem dL_least_101 : decode cL_least 101 = .ok (.iload 4, 2) := by decide +kernel
theorem dL_least_103 : decode cL_least 103 = .ok (.istore 4, 2) := by decide +kernel
theorem dL_least_105 : decode cL_least 105 = .ok (.iinc 7 1, 3) := by decide +kernel
theorem dL_least_108 : decode cL_least 108 = .ok (.goto (-90), 3) := by decide +kernel
theorem dL_least_111 : decode cL_least 111 = .ok (.iload 4, 2) := by decide +kernel
theorem dL_least_113 : decode cL_least 113 = .ok (.ireturn, 1) := by decide +kernel
theorem dL_areBirdsRight_0 : decode cL_areBirdsRight 0 = .ok (.aload_n 0, 1) := by decide +kernel
theorem dL_areBirdsRight_1 : decode cL_areBirdsRight 1 = .ok (.invokevirtual 126, 3) := by decide +kernel
theorem dL_areBirdsRight_4 : decode cL_areBirdsRight 4 = .ok (.istore_n 1, 1) := by decide +kernel
theorem dL_areBirdsRight_5 : decode cL_areBirdsRight 5 = .ok (.iconst 0, 1) := by decide +kernel
theorem dL_areBirdsRight_6 : decode cL_areBirdsRight 6 = .ok (.istore_n 2, 1) := by decide +kernel
theorem dL_areBirdsRight_7 : decode cL_areBirdsRight 7 = .ok (.iconst 0, 1) := by decide +kernel
theorem dL_areBirdsRight_8 : decode cL_areBirdsRight 8 = .ok (.istore_n 3, 1) := by decide +kernel
theorem dL_areBirdsRight_9 : decode cL_areBirdsRight 9 = .ok (.aload_n 0, 1) := by decide +kernel
theorem dL_areBirdsRight_10 : decode cL_areBirdsRight 10 = .ok (.iconst 0, 1) := by decide +kernel
theorem dL_areBirdsRight_11 : decode cL_areBirdsRight 11 = .ok (.iload_n 1, 1) := by decide +kernel
theorem dL_areBirdsRight_12 : decode cL_areBirdsRight 12 = .ok (.iconst 0, 1) := by decide +kernel
theorem dL_areBirdsRight_13 : decode cL_areBirdsRight 13 = .ok (.invokestatic 148, 3) := by decide +kernel
theorem dL_areBirdsRight_16 : decode cL_areBirdsRight 16 = .ok (.sipush (-2002), 3) := by decide +kernel
theorem dL_areBirdsRight_19 : decode cL_areBirdsRight 19 = .ok (.if_icmp .ne 125, 3) := by decide +kernel
theorem dL_areBirdsRight_22 : decode cL_areBirdsRight 22 = .ok (.aload_n 0, 1) := by decide +kernel
theorem dL_areBirdsRight_23 : decode cL_areBirdsRight 23 = .ok (.iconst 1, 1) := by decide +kernel
theorem dL_areBirdsRight_24 : decode cL_areBirdsRight 24 = .ok (.iconst 4, 1) := by decide +kernel
theorem dL_areBirdsRight_25 : decode cL_areBirdsRight 25 = .ok (.iconst 0, 1) := by decide +kernel
theorem dL_areBirdsRight_26 : decode cL_areBirdsRight 26 = .ok (.invokestatic 148, 3) := by decide +kernel
theorem dL_areBirdsRight_29 : decode cL_areBirdsRight 29 = .ok (.sipush (-2003), 3) := by decide +kernel
theorem dL_areBirdsRight_32 : decode cL_areBirdsRight 32 = .ok (.if_icmp .ne 112, 3) := by decide +kernel
theorem dL_areBirdsRight_35 : decode cL_areBirdsRight 35 = .ok (.aload_n 0, 1) := by decide +kernel
theorem dL_areBirdsRight_36 : decode cL_areBirdsRight 36 = .ok (.iconst 2, 1) := by decide +kernel
theorem dL_areBirdsRight_37 : decode cL_areBirdsRight 37 = .ok (.iload_n 1, 1) := by decide +kernel
theorem dL_areBirdsRight_38 : decode cL_areBirdsRight 38 = .ok (.iconst 0, 1) := by decide +kernel
theorem dL_areBirdsRight_39 : decode cL_areBirdsRight 39 = .ok (.invokestatic 148, 3) := by decide +kernel
theorem dL_areBirdsRight_42 : decode cL_areBirdsRight 42 = .ok (.sipush (-2004), 3) := by decide +kernel
theorem dL_areBirdsRight_45 : decode cL_areBirdsRight 45 = .ok (.if_icmp .ne 99, 3) := by decide +kernel
theorem dL_areBirdsRight_48 : decode cL_areBirdsRight 48 = .ok (.aload_n 0, 1) := by decide +kernel
theorem dL_areBirdsRight_49 : decode cL_areBirdsRight 49 = .ok (.iconst 2, 1) := by decide +kernel
theorem dL_areBirdsRight_50 : decode cL_areBirdsRight 50 = .ok (.iconst (-1), 1) := by decide +kernel
theorem dL_areBirdsRight_51 : decode cL_areBirdsRight 51 = .ok (.iconst 0, 1) := by decide +kernel
theorem dL_areBirdsRight_52 : decode cL_areBirdsRight 52 = .ok (.invokestatic 148, 3) := by decide +kernel
theorem dL_areBirdsRight_55 : decode cL_areBirdsRight 55 = .ok (.sipush (-2004), 3) := by decide +kernel
theorem dL_areBirdsRight_58 : decode cL_areBirdsRight 58 = .ok (.if_icmp .ne 86, 3) := by decide +kernel
theorem dL_areBirdsRight_61 : decode cL_areBirdsRight 61 = .ok (.aload_n 0, 1) := by decide +kernel
theorem dL_areBirdsRight_62 : decode cL_areBirdsRight 62 = .ok (.iconst 3, 1) := by decide +kernel
theorem dL_areBirdsRight_63 : decode cL_areBirdsRight 63 = .ok (.aload_n 0, 1) := by decide +kernel
theorem dL_areBirdsRight_64 : decode cL_areBirdsRight 64 = .ok (.invokevirtual 138, 3) := by decide +kernel
theorem dL_areBirdsRight_67 : decode cL_areBirdsRight 67 = .ok (.iconst 0, 1) := by decide +kernel
theorem dL_areBirdsRight_68 : decode cL_areBirdsRight 68 = .ok (.invokestatic 148, 3) := by decide +kernel
theorem dL_areBirdsRight_71 : decode cL_areBirdsRight 71 = .ok (.sipush (-2002), 3) := by decide +kernel
theorem dL_areBirdsRight_74 : decode cL_areBirdsRight 74 = .ok (.if_icmp .ne 70, 3) := by decide +kernel
theorem dL_areBirdsRight_77 : decode cL_areBirdsRight 77 = .ok (.aload_n 0, 1) := by decide +kernel
theorem dL_areBirdsRight_78 : decode cL_areBirdsRight 78 = .ok (.iconst 5, 1) := by decide +kernel
theorem dL_areBirdsRight_79 : decode cL_areBirdsRight 79 = .ok (.iconst 0, 1) := by decide +kernel
theorem dL_areBirdsRight_80 : decode cL_areBirdsRight 80 = .ok (.iconst 0, 1) := by decide +kernel
theorem dL_areBirdsRight_81 : decode cL_areBirdsRight 81 = .ok (.invokestatic 148, 3) := by decide +kernel
theorem dL_areBirdsRight_84 : decode cL_areBirdsRight 84 = .ok (.sipush (-2004), 3) := by decide +kernel
theorem dL_areBirdsRight_87 : decode cL_areBirdsRight 87 = .ok (.if_icmp .ne 57, 3) := by decide +kernel
theorem dL_areBirdsRight_90 : decode cL_areBirdsRight 90 = .ok (.aload_n 0, 1) := by decide +kernel
theorem dL_areBirdsRight_91 : decode cL_areBirdsRight 91 = .ok (.bipush 7, 2) := by decide +kernel
theorem dL_areBirdsRight_93 : decode cL_areBirdsRight 93 = .ok (.iconst 0, 1) := by decide +kernel
theorem dL_areBirdsRight_94 : decode cL_areBirdsRight 94 = .ok (.iconst 0, 1) := by decide +kernel
theorem dL_areBirdsRight_95 : decode cL_areBirdsRight 95 = .ok (.invokestatic 148, 3) := by decide +kernel
theorem dL_areBirdsRight_98 : decode cL_areBirdsRight 98 = .ok (.sipush (-2004), 3) := by decide +kernel
theorem dL_areBirdsRight_101 : decode cL_areBirdsRight 101 = .ok (.if_icmp .ne 43, 3) := by decide +kernel
theorem dL_areBirdsRight_104 : decode cL_areBirdsRight 104 = .ok (.aload_n 0, 1) := by decide +kernel
theorem dL_areBirdsRight_105 : decode cL_areBirdsRight 105 = .ok (.bipush 6, 2) := by decide +kernel
theorem dL_areBirdsRight_107 : decode cL_areBirdsRight 107 = .ok (.iconst 4, 1) := by decide +kernel
theorem dL_areBirdsRight_108 : decode cL_areBirdsRight 108 = .ok (.iconst 0, 1) := by decide +kernel
theorem dL_areBirdsRight_109 : decode cL_areBirdsRight 109 = .ok (.invokestatic 148, 3) := by decide +kernel
theorem dL_areBirdsRight_112 : decode cL_areBirdsRight 112 = .ok (.sipush (-2003), 3) := by decide +kernel
theorem dL_areBirdsRight_115 : decode cL_areBirdsRight 115 = .ok (.if_icmp .ne 29, 3) := by decide +kernel
theorem dL_areBirdsRight_118 : decode cL_areBirdsRight 118 = .ok (.aload_n 0, 1) := by decide +kernel
theorem dL_areBirdsRight_119 : decode cL_areBirdsRight 119 = .ok (.bipush 6, 2) := by decide +kernel
theorem dL_areBirdsRight_121 : decode cL_areBirdsRight 121 = .ok (.iconst 0, 1) := by decide +kernel
theorem dL_areBirdsRight_122 : decode cL_areBirdsRight 122 = .ok (.iconst 0, 1) := by decide +kernel
theorem dL_areBirdsRight_123 : decode cL_areBirdsRight 123 = .ok (.invokestatic 148, 3) := by decide +kernel
theorem dL_areBirdsRight_126 : decode cL_areBirdsRight 126 = .ok (.sipush (-2004), 3) := by decide +kernel
theorem dL_areBirdsRight_129 : decode cL_areBirdsRight 129 = .ok (.if_icmp .ne 15, 3) := by decide +kernel
theorem dL_areBirdsRight_132 : decode cL_areBirdsRight 132 = .ok (.aload_n 0, 1) := by decide +kernel
theorem dL_areBirdsRight_133 : decode cL_areBirdsRight 133 = .ok (.iconst 0, 1) := by decide +kernel
theorem dL_areBirdsRight_134 : decode cL_areBirdsRight 134 = .ok (.invokevirtual 184, 3) := by decide +kernel
theorem dL_areBirdsRight_137 : decode cL_areBirdsRight 137 = .ok (.ifCond .ne 7, 3) := by decide +kernel
theorem dL_areBirdsRight_140 : decode cL_areBirdsRight 140 = .ok (.iconst 1, 1) := by decide +kernel
theorem dL_areBirdsRight_141 : decode cL_areBirdsRight 141 = .ok (.goto 4, 3) := by decide +kernel
theorem dL_areBirdsRight_144 : decode cL_areBirdsRight 144 = .ok (.iconst 0, 1) := by decide +kernel
theorem dL_areBirdsRight_145 : decode cL_areBirdsRight 145 = .ok (.istore 4, 2) := by decide +kernel
theorem dL_areBirdsRight_147 : decode cL_areBirdsRight 147 = .ok (.iconst 0, 1) := by decide +kernel
theorem dL_areBirdsRight_148 : decode cL_areBirdsRight 148 = .ok (.istore 5, 2) := by decide +kernel
theorem dL_areBirdsRight_150 : decode cL_areBirdsRight 150 = .ok (.iload 5, 2) := by decide +kernel
theorem dL_areBirdsRight_152 : decode cL_areBirdsRight 152 = .ok (.iload_n 1, 1) := by decide +kernel
theorem dL_areBirdsRight_153 : decode cL_areBirdsRight 153 = .ok (.if_icmp .ge 78, 3) := by decide +kernel
theorem dL_areBirdsRight_156 : decode cL_areBirdsRight 156 = .ok (.iconst 0, 1) := by decide +kernel
theorem dL_areBirdsRight_157 : decode cL_areBirdsRight 157 = .ok (.istore 6, 2) := by decide +kernel
theorem dL_areBirdsRight_159 : decode cL_areBirdsRight 159 = .ok (.iconst 0, 1) := by decide +kernel
theorem dL_areBirdsRight_160 : decode cL_areBirdsRight 160 = .ok (.istore 7, 2) := by decide +kernel
theorem dL_areBirdsRight_162 : decode cL_areBirdsRight 162 = .ok (.iload 7, 2) := by decide +kernel
theorem dL_areBirdsRight_164 : decode cL_areBirdsRight 164 = .ok (.aload_n 0, 1) := by decide +kernel
theorem dL_areBirdsRight_165 : decode cL_areBirdsRight 165 = .ok (.invokevirtual 138, 3) := by decide +kernel
theorem dL_areBirdsRight_168 : decode cL_areBirdsRight 168 = .ok (.if_icmp .ge 29, 3) := by decide +kernel
theorem dL_areBirdsRight_171 : decode cL_areBirdsRight 171 = .ok (.iload 6, 2) := by decide +kernel
theorem dL_areBirdsRight_173 : decode cL_areBirdsRight 173 = .ok (.aload_n 0, 1) := by decide +kernel
theorem dL_areBirdsRight_174 : decode cL_areBirdsRight 174 = .ok (.iload 5, 2) := by decide +kernel
theorem dL_areBirdsRight_176 : decode cL_areBirdsRight 176 = .ok (.aload_n 0, 1) := by decide +kernel
theorem dL_areBirdsRight_177 : decode cL_areBirdsRight 177 = .ok (.iload 7, 2) := by decide +kernel
theorem dL_areBirdsRight_179 : decode cL_areBirdsRight 179 = .ok (.invokevirtual 71, 3) := by decide +kernel
theorem dL_areBirdsRight_182 : decode cL_areBirdsRight 182 = .ok (.invokevirtual 188, 3) := by decide +kernel
theorem dL_areBirdsRight_185 : decode cL_areBirdsRight 185 = .ok (.invokestatic 84, 3) := by decide +kernel
theorem dL_areBirdsRight_188 : decode cL_areBirdsRight 188 = .ok (.iadd, 1) := by decide +kernel
theorem dL_areBirdsRight_189 : decode cL_areBirdsRight 189 = .ok (.istore 6, 2) := by decide +kernel
theorem dL_areBirdsRight_191 : decode cL_areBirdsRight 191 = .ok (.iinc 7 1, 3) := by decide +kernel
theorem dL_areBirdsRight_194 : decode cL_areBirdsRight 194 = .ok (.goto (-32), 3) := by decide +kernel
theorem dL_areBirdsRight_197 : decode cL_areBirdsRight 197 = .ok (.iload_n 2, 1) := by decide +kernel
theorem dL_areBirdsRight_198 : decode cL_areBirdsRight 198 = .ok (.iload 6, 2) := by decide +kernel
theorem dL_areBirdsRight_200 : decode cL_areBirdsRight 200 = .ok (.iadd, 1) := by decide +kernel
theorem dL_areBirdsRight_201 : decode cL_areBirdsRight 201 = .ok (.istore_n 2, 1) := by decide +kernel
theorem dL_areBirdsRight_202 : decode cL_areBirdsRight 202 = .ok (.iload 4, 2) := by decide +kernel
theorem dL_areBirdsRight_204 : decode cL_areBirdsRight 204 = .ok (.ifCond .eq 18, 3) := by decide +kernel
theorem dL_areBirdsRight_207 : decode cL_areBirdsRight 207 = .ok (.aload_n 0, 1) := by decide +kernel
theorem dL_areBirdsRight_208 : decode cL_areBirdsRight 208 = .ok (.iload 5, 2) := by decide +kernel
theorem dL_areBirdsRight_210 : decode cL_areBirdsRight 210 = .ok (.invokevirtual 215, 3) := by decide +kernel
theorem dL_areBirdsRight_213 : decode cL_areBirdsRight 213 = .ok (.iload 6, 2) := by decide +kernel
theorem dL_areBirdsRight_215 : decode cL_areBirdsRight 215 = .ok (.if_icmp .ne 7, 3) := by decide +kernel
theorem dL_areBirdsRight_218 : decode cL_areBirdsRight 218 = .ok (.iconst 1, 1) := by decide +kernel
theorem dL_areBirdsRight_219 : decode cL_areBirdsRight 219 = .ok (.goto 4, 3) := by decide +kernel
theorem dL_areBirdsRight_222 : decode cL_areBirdsRight 222 = .ok (.iconst 0, 1) := by decide +kernel
theorem dL_areBirdsRight_223 : decode cL_areBirdsRight 223 = .ok (.istore 4, 2) := by decide +kernel
theorem dL_areBirdsRight_225 : decode cL_areBirdsRight 225 = .ok (.iinc 5 1, 3) := by decide +kernel
theorem dL_areBirdsRight_228 : decode cL_areBirdsRight 228 = .ok (.goto (-78), 3) := by decide +kernel
theorem dL_areBirdsRight_231 : decode cL_areBirdsRight 231 = .ok (.iconst 0, 1) := by decide +kernel
theorem dL_areBirdsRight_232 : decode cL_areBirdsRight 232 = .ok (.istore 5, 2) := by decide +kernel
theorem dL_areBirdsRight_234 : decode cL_areBirdsRight 234 = .ok (.iload 5, 2) := by decide +kernel
theorem dL_areBirdsRight_236 : decode cL_areBirdsRight 236 = .ok (.aload_n 0, 1) := by decide +kernel
theorem dL_areBirdsRight_237 : decode cL_areBirdsRight 237 = .ok (.invokevirtual 138, 3) := by decide +kernel
theorem dL_areBirdsRight_240 : decode cL_areBirdsRight 240 = .ok (.if_icmp .ge 80, 3) := by decide +kernel
theorem dL_areBirdsRight_243 : decode cL_areBirdsRight 243 = .ok (.iload_n 3, 1) := by decide +kernel
theorem dL_areBirdsRight_244 : decode cL_areBirdsRight 244 = .ok (.aload_n 0, 1) := by decide +kernel
theorem dL_areBirdsRight_245 : decode cL_areBirdsRight 245 = .ok (.aload_n 0, 1) := by decide +kernel
theorem dL_areBirdsRight_246 : decode cL_areBirdsRight 246 = .ok (.iload 5, 2) := by decide +kernel
theorem dL_areBirdsRight_248 : decode cL_areBirdsRight 248 = .ok (.invokevirtual 71, 3) := by decide +kernel
theorem dL_areBirdsRight_251 : decode cL_areBirdsRight 251 = .ok (.invokevirtual 199, 3) := by decide +kernel
theorem dL_areBirdsRight_254 : decode cL_areBirdsRight 254 = .ok (.ifCond .lt 7, 3) := by decide +kernel
theorem dL_areBirdsRight_257 : decode cL_areBirdsRight 257 = .ok (.iconst 1, 1) := by decide +kernel
theorem dL_areBirdsRight_258 : decode cL_areBirdsRight 258 = .ok (.goto 4, 3) := by decide +kernel
theorem dL_areBirdsRight_261 : decode cL_areBirdsRight 261 = .ok (.iconst 0, 1) := by decide +kernel
theorem dL_areBirdsRight_262 : decode cL_areBirdsRight 262 = .ok (.invokestatic 84, 3) := by decide +kernel
theorem dL_areBirdsRight_265 : decode cL_areBirdsRight 265 = .ok (.iadd, 1) := by decide +kernel
theorem dL_areBirdsRight_266 : decode cL_areBirdsRight 266 = .ok (.istore_n 3, 1) := by decide +kernel
theorem dL_areBirdsRight_267 : decode cL_areBirdsRight 267 = .ok (.iload 4, 2) := by decide +kernel
theorem dL_areBirdsRight_269 : decode cL_areBirdsRight 269 = .ok (.ifCond .eq 42, 3) := by decide +kernel
theorem dL_areBirdsRight_272 : decode cL_areBirdsRight 272 = .ok (.iload 5, 2) := by decide +kernel
theorem dL_areBirdsRight_274 : decode cL_areBirdsRight 274 = .ok (.ifCond .eq 20, 3) := by decide +kernel
theorem dL_areBirdsRight_277 : decode cL_areBirdsRight 277 = .ok (.aload_n 0, 1) := by decide +kernel
theorem dL_areBirdsRight_278 : decode cL_areBirdsRight 278 = .ok (.iload 5, 2) := by decide +kernel
theorem dL_areBirdsRight_280 : decode cL_areBirdsRight 280 = .ok (.iconst 1, 1) := by decide +kernel
theorem dL_areBirdsRight_281 : decode cL_areBirdsRight 281 = .ok (.isub, 1) := by decide +kernel
theorem dL_areBirdsRight_282 : decode cL_areBirdsRight 282 = .ok (.invokevirtual 71, 3) := by decide +kernel
theorem dL_areBirdsRight_285 : decode cL_areBirdsRight 285 = .ok (.aload_n 0, 1) := by decide +kernel
theorem dL_areBirdsRight_286 : decode cL_areBirdsRight 286 = .ok (.iload 5, 2) := by decide +kernel
theorem dL_areBirdsRight_288 : decode cL_areBirdsRight 288 = .ok (.invokevirtual 71, 3) := by decide +kernel
theorem dL_areBirdsRight_291 : decode cL_areBirdsRight 291 = .ok (.if_icmp .ge 20, 3) := by decide +kernel
theorem dL_areBirdsRight_294 : decode cL_areBirdsRight 294 = .ok (.aload_n 0, 1) := by decide +kernel
theorem dL_areBirdsRight_295 : decode cL_areBirdsRight 295 = .ok (.aload_n 0, 1) := by decide +kernel
theorem dL_areBirdsRight_296 : decode cL_areBirdsRight 296 = .ok (.iload 5, 2) := by decide +kernel
theorem dL_areBirdsRight_298 : decode cL_areBirdsRight 298 = .ok (.invokevirtual 71, 3) := by decide +kernel
theorem dL_areBirdsRight_301 : decode cL_areBirdsRight 301 = .ok (.invokestatic 218, 3) := by decide +kernel
theorem dL_areBirdsRight_304 : decode cL_areBirdsRight 304 = .ok (.ifCond .eq 7, 3) := by decide +kernel
theorem dL_areBirdsRight_307 : decode cL_areBirdsRight 307 = .ok (.iconst 1, 1) := by decide +kernel
theorem dL_areBirdsRight_308 : decode cL_areBirdsRight 308 = .ok (.goto 4, 3) := by decide +kernel
theorem dL_areBirdsRight_311 : decode cL_areBirdsRight 311 = .ok (.iconst 0, 1) := by decide +kernel
theorem dL_areBirdsRight_312 : decode cL_areBirdsRight 312 = .ok (.istore 4, 2) := by decide +kernel
theorem dL_areBirdsRight_314 : decode cL_areBirdsRight 314 = .ok (.iinc 5 1, 3) := by decide +kernel
theorem dL_areBirdsRight_317 : decode cL_areBirdsRight 317 = .ok (.goto (-83), 3) := by decide +kernel
theorem dL_areBirdsRight_320 : decode cL_areBirdsRight 320 = .ok (.iconst 0, 1) := by decide +kernel
theorem dL_areBirdsRight_321 : decode cL_areBirdsRight 321 = .ok (.istore 5, 2) := by decide +kernel
theorem dL_areBirdsRight_323 : decode cL_areBirdsRight 323 = .ok (.iload 5, 2) := by decide +kernel
theorem dL_areBirdsRight_325 : decode cL_areBirdsRight 325 = .ok (.iconst 1, 1) := by decide +kernel
theorem dL_areBirdsRight_326 : decode cL_areBirdsRight 326 = .ok (.iadd, 1) := by decide +kernel
theorem dL_areBirdsRight_327 : decode cL_areBirdsRight 327 = .ok (.iload_n 1, 1) := by decide +kernel
theorem dL_areBirdsRight_328 : decode cL_areBirdsRight 328 = .ok (.if_icmp .ge 96, 3) := by decide +kernel
theorem dL_areBirdsRight_331 : decode cL_areBirdsRight 331 = .ok (.aload_n 0, 1) := by decide +kernel
theorem dL_areBirdsRight_332 : decode cL_areBirdsRight 332 = .ok (.iload 5, 2) := by decide +kernel
theorem dL_areBirdsRight_334 : decode cL_areBirdsRight 334 = .ok (.invokevirtual 68, 3) := by decide +kernel
theorem dL_areBirdsRight_337 : decode cL_areBirdsRight 337 = .ok (.istore 6, 2) := by decide +kernel
theorem dL_areBirdsRight_339 : decode cL_areBirdsRight 339 = .ok (.aload_n 0, 1) := by decide +kernel
theorem dL_areBirdsRight_340 : decode cL_areBirdsRight 340 = .ok (.iload 5, 2) := by decide +kernel
theorem dL_areBirdsRight_342 : decode cL_areBirdsRight 342 = .ok (.iconst 1, 1) := by decide +kernel
theorem dL_areBirdsRight_343 : decode cL_areBirdsRight 343 = .ok (.iadd, 1) := by decide +kernel
theorem dL_areBirdsRight_344 : decode cL_areBirdsRight 344 = .ok (.invokevirtual 68, 3) := by decide +kernel
theorem dL_areBirdsRight_347 : decode cL_areBirdsRight 347 = .ok (.istore 7, 2) := by decide +kernel
theorem dL_areBirdsRight_349 : decode cL_areBirdsRight 349 = .ok (.aload_n 0, 1) := by decide +kernel
theorem dL_areBirdsRight_350 : decode cL_areBirdsRight 350 = .ok (.iload 6, 2) := by decide +kernel
theorem dL_areBirdsRight_352 : decode cL_areBirdsRight 352 = .ok (.invokevirtual 215, 3) := by decide +kernel
theorem dL_areBirdsRight_355 : decode cL_areBirdsRight 355 = .ok (.aload_n 0, 1) := by decide +kernel
theorem dL_areBirdsRight_356 : decode cL_areBirdsRight 356 = .ok (.iload 7, 2) := by decide +kernel
theorem dL_areBirdsRight_358 : decode cL_areBirdsRight 358 = .ok (.invokevirtual 215, 3) := by decide +kernel
theorem dL_areBirdsRight_361 : decode cL_areBirdsRight 361 = .ok (.isub, 1) := by decide +kernel
theorem dL_areBirdsRight_362 : decode cL_areBirdsRight 362 = .ok (.istore 8, 2) := by decide +kernel
theorem dL_areBirdsRight_364 : decode cL_areBirdsRight 364 = .ok (.aload_n 0, 1) := by decide +kernel
theorem dL_areBirdsRight_365 : decode cL_areBirdsRight 365 = .ok (.iload 7, 2) := by decide +kernel
theorem dL_areBirdsRight_367 : decode cL_areBirdsRight 367 = .ok (.invokevirtual 62, 3) := by decide +kernel
theorem dL_areBirdsRight_370 : decode cL_areBirdsRight 370 = .ok (.aload_n 0, 1) := by decide +kernel
theorem dL_areBirdsRight_371 : decode cL_areBirdsRight 371 = .ok (.iload 6, 2) := by decide +kernel
theorem dL_areBirdsRight_373 : decode cL_areBirdsRight 373 = .ok (.invokevirtual 62, 3) := by decide +kernel
theorem dL_areBirdsRight_376 : decode cL_areBirdsRight 376 = .ok (.isub, 1) := by decide +kernel
theorem dL_areBirdsRight_377 : decode cL_areBirdsRight 377 = .ok (.istore 9, 2) := by decide +kernel
theorem dL_areBirdsRight_379 : decode cL_areBirdsRight 379 = .ok (.iload 4, 2) := by decide +kernel
theorem dL_areBirdsRight_381 : decode cL_areBirdsRight 381 = .ok (.ifCond .eq 34, 3) := by decide +kernel
theorem dL_areBirdsRight_384 : decode cL_areBirdsRight 384 = .ok (.iload 8, 2) := by decide +kernel
theorem dL_areBirdsRight_386 : decode cL_areBirdsRight 386 = .ok (.ifCond .gt 25, 3) := by decide +kernel
theorem dL_areBirdsRight_389 : decode cL_areBirdsRight 389 = .ok (.iload 8, 2) := by decide +kernel
theorem dL_areBirdsRight_391 : decode cL_areBirdsRight 391 = .ok (.ifCond .ne 24, 3) := by decide +kernel
theorem dL_areBirdsRight_394 : decode cL_areBirdsRight 394 = .ok (.iload 9, 2) := by decide +kernel
theorem dL_areBirdsRight_396 : decode cL_areBirdsRight 396 = .ok (.ifCond .gt 15, 3) := by decide +kernel
theorem dL_areBirdsRight_399 : decode cL_areBirdsRight 399 = .ok (.iload 9, 2) := by decide +kernel
theorem dL_areBirdsRight_401 : decode cL_areBirdsRight 401 = .ok (.ifCond .ne 14, 3) := by decide +kernel
theorem dL_areBirdsRight_404 : decode cL_areBirdsRight 404 = .ok (.iload 6, 2) := by decide +kernel
theorem dL_areBirdsRight_406 : decode cL_areBirdsRight 406 = .ok (.iload 7, 2) := by decide +kernel
theorem dL_areBirdsRight_408 : decode cL_areBirdsRight 408 = .ok (.if_icmp .ge 7, 3) := by decide +kernel
theorem dL_areBirdsRight_411 : decode cL_areBirdsRight 411 = .ok (.iconst 1, 1) := by decide +kernel
theorem dL_areBirdsRight_412 : decode cL_areBirdsRight 412 = .ok (.goto 4, 3) := by decide +kernel
theorem dL_areBirdsRight_415 : decode cL_areBirdsRight 415 = .ok (.iconst 0, 1) := by decide +kernel
theorem dL_areBirdsRight_416 : decode cL_areBirdsRight 416 = .ok (.istore 4, 2) := by decide +kernel
theorem dL_areBirdsRight_418 : decode cL_areBirdsRight 418 = .ok (.iinc 5 1, 3) := by decide +kernel
theorem dL_areBirdsRight_421 : decode cL_areBirdsRight 421 = .ok (.goto (-98), 3) := by decide +kernel
theorem dL_areBirdsRight_424 : decode cL_areBirdsRight 424 = .ok (.iload 4, 2) := by decide +kernel
theorem dL_areBirdsRight_426 : decode cL_areBirdsRight 426 = .ok (.ifCond .eq 39, 3) := by decide +kernel
theorem dL_areBirdsRight_429 : decode cL_areBirdsRight 429 = .ok (.aload_n 0, 1) := by decide +kernel
theorem dL_areBirdsRight_430 : decode cL_areBirdsRight 430 = .ok (.invokevirtual 222, 3) := by decide +kernel
theorem dL_areBirdsRight_433 : decode cL_areBirdsRight 433 = .ok (.iload_n 2, 1) := by decide +kernel
theorem dL_areBirdsRight_434 : decode cL_areBirdsRight 434 = .ok (.if_icmp .ne 31, 3) := by decide +kernel
theorem dL_areBirdsRight_437 : decode cL_areBirdsRight 437 = .ok (.aload_n 0, 1) := by decide +kernel
theorem dL_areBirdsRight_438 : decode cL_areBirdsRight 438 = .ok (.invokevirtual 225, 3) := by decide +kernel
theorem dL_areBirdsRight_441 : decode cL_areBirdsRight 441 = .ok (.ifCond .eq 24, 3) := by decide +kernel
theorem dL_areBirdsRight_444 : decode cL_areBirdsRight 444 = .ok (.iload_n 1, 1) := by decide +kernel
theorem dL_areBirdsRight_445 : decode cL_areBirdsRight 445 = .ok (.ifCond .eq 16, 3) := by decide +kernel
theorem dL_areBirdsRight_448 : decode cL_areBirdsRight 448 = .ok (.aload_n 0, 1) := by decide +kernel
theorem dL_areBirdsRight_449 : decode cL_areBirdsRight 449 = .ok (.invokevirtual 229, 3) := by decide +kernel
theorem dL_areBirdsRight_452 : decode cL_areBirdsRight 452 = .ok (.iload_n 2, 1) := by decide +kernel
theorem dL_areBirdsRight_453 : decode cL_areBirdsRight 453 = .ok (.i2d, 1) := by decide +kernel
theorem dL_areBirdsRight_454 : decode cL_areBirdsRight 454 = .ok (.iload_n 1, 1) := by decide +kernel
theorem dL_areBirdsRight_455 : decode cL_areBirdsRight 455 = .ok (.i2d, 1) := by decide +kernel
theorem dL_areBirdsRight_456 : decode cL_areBirdsRight 456 = .ok (.ddiv, 1) := by decide +kernel
theorem dL_areBirdsRight_457 : decode cL_areBirdsRight 457 = .ok (.dcmp .l, 1) := by decide +kernel
theorem dL_areBirdsRight_458 : decode cL_areBirdsRight 458 = .ok (.ifCond .ne 7, 3) := by decide +kernel
theorem dL_areBirdsRight_461 : decode cL_areBirdsRight 461 = .ok (.iconst 1, 1) := by decide +kernel
theorem dL_areBirdsRight_462 : decode cL_areBirdsRight 462 = .ok (.goto 4, 3) := by decide +kernel
theorem dL_areBirdsRight_465 : decode cL_areBirdsRight 465 = .ok (.iconst 0, 1) := by decide +kernel
theorem dL_areBirdsRight_466 : decode cL_areBirdsRight 466 = .ok (.istore 4, 2) := by decide +kernel
theorem dL_areBirdsRight_468 : decode cL_areBirdsRight 468 = .ok (.iload 4, 2) := by decide +kernel
theorem dL_areBirdsRight_470 : decode cL_areBirdsRight 470 = .ok (.ifCond .eq 37, 3) := by decide +kernel
theorem dL_areBirdsRight_473 : decode cL_areBirdsRight 473 = .ok (.aload_n 0, 1) := by decide +kernel
theorem dL_areBirdsRight_474 : decode cL_areBirdsRight 474 = .ok (.invokevirtual 138, 3) := by decide +kernel
theorem dL_areBirdsRight_477 : decode cL_areBirdsRight 477 = .ok (.ifCond .eq 19, 3) := by decide +kernel
theorem dL_areBirdsRight_480 : decode cL_areBirdsRight 480 = .ok (.aload_n 0, 1) := by decide +kernel
theorem dL_areBirdsRight_481 : decode cL_areBirdsRight 481 = .ok (.invokevirtual 233, 3) := by decide +kernel
theorem dL_areBirdsRight_484 : decode cL_areBirdsRight 484 = .ok (.iload_n 3, 1) := by decide +kernel
theorem dL_areBirdsRight_485 : decode cL_areBirdsRight 485 = .ok (.i2f, 1) := by decide +kernel
theorem dL_areBirdsRight_486 : decode cL_areBirdsRight 486 = .ok (.aload_n 0, 1) := by decide +kernel
theorem dL_areBirdsRight_487 : decode cL_areBirdsRight 487 = .ok (.invokevirtual 138, 3) := by decide +kernel
theorem dL_areBirdsRight_490 : decode cL_areBirdsRight 490 = .ok (.i2f, 1) := by decide +kernel
theorem dL_areBirdsRight_491 : decode cL_areBirdsRight 491 = .ok (.fdiv, 1) := by decide +kernel
theorem dL_areBirdsRight_492 : decode cL_areBirdsRight 492 = .ok (.fcmp .l, 1) := by decide +kernel
theorem dL_areBirdsRight_493 : decode cL_areBirdsRight 493 = .ok (.ifCond .ne 14, 3) := by decide +kernel
theorem dL_areBirdsRight_496 : decode cL_areBirdsRight 496 = .ok (.aload_n 0, 1) := by decide +kernel
theorem dL_areBirdsRight_497 : decode cL_areBirdsRight 497 = .ok (.invokestatic 237, 3) := by decide +kernel
theorem dL_areBirdsRight_500 : decode cL_areBirdsRight 500 = .ok (.ifCond .eq 7, 3) := by decide +kernel
theorem dL_areBirdsRight_503 : decode cL_areBirdsRight 503 = .ok (.iconst 1, 1) := by decide +kernel
theorem dL_areBirdsRight_504 : decode cL_areBirdsRight 504 = .ok (.goto 4, 3) := by decide +kernel
theorem dL_areBirdsRight_507 : decode cL_areBirdsRight 507 = .ok (.iconst 0, 1) := by decide +kernel
theorem dL_areBirdsRight_508 : decode cL_areBirdsRight 508 = .ok (.ireturn, 1) := by decide +kernel
theorem dL_areNestsRight_0 : decode cL_areNestsRight 0 = .ok (.ldc 241, 2) := by decide +kernel
theorem dL_areNestsRight_2 : decode cL_areNestsRight 2 = .ok (.astore_n 1, 1) := by decide +kernel
theorem dL_areNestsRight_3 : decode cL_areNestsRight 3 = .ok (.iconst 1, 1) := by decide +kernel
theorem dL_areNestsRight_4 : decode cL_areNestsRight 4 = .ok (.istore_n 2, 1) := by decide +kernel
theorem dL_areNestsRight_5 : decode cL_areNestsRight 5 = .ok (.iconst 0, 1) := by decide +kernel
theorem dL_areNestsRight_6 : decode cL_areNestsRight 6 = .ok (.istore_n 3, 1) := by decide +kernel
theorem dL_areNestsRight_7 : decode cL_areNestsRight 7 = .ok (.iload_n 3, 1) := by decide +kernel
theorem dL_areNestsRight_8 : decode cL_areNestsRight 8 = .ok (.iconst 4, 1) := by decide +kernel
theorem dL_areNestsRight_9 : decode cL_areNestsRight 9 = .ok (.if_icmp .ge 165, 3) := by decide +kernel
theorem dL_areNestsRight_12 : decode cL_areNestsRight 12 = .ok (.iconst 0, 1) := by decide +kernel
theorem dL_areNestsRight_13 : decode cL_areNestsRight 13 = .ok (.istore 4, 2) := by decide +kernel
theorem dL_areNestsRight_15 : decode cL_areNestsRight 15 = .ok (.new 168, 3) := by decide +kernel
theorem dL_areNestsRight_18 : decode cL_areNestsRight 18 = .ok (.dup, 1) := by decide +kernel
theorem dL_areNestsRight_19 : decode cL_areNestsRight 19 = .ok (.invokespecial 170, 3) := by decide +kernel
theorem dL_areNestsRight_22 : decode cL_areNestsRight 22 = .ok (.aload_n 1, 1) := by decide +kernel
theorem dL_areNestsRight_23 : decode cL_areNestsRight 23 = .ok (.invokevirtual 177, 3) := by decide +kernel
theorem dL_areNestsRight_26 : decode cL_areNestsRight 26 = .ok (.ldc 243, 2) := by decide +kernel
theorem dL_areNestsRight_28 : decode cL_areNestsRight 28 = .ok (.invokevirtual 177, 3) := by decide +kernel
theorem dL_areNestsRight_31 : decode cL_areNestsRight 31 = .ok (.invokevirtual 180, 3) := by decide +kernel
theorem dL_areNestsRight_34 : decode cL_areNestsRight 34 = .ok (.astore_n 1, 1) := by decide +kernel
theorem dL_areNestsRight_35 : decode cL_areNestsRight 35 = .ok (.iconst 0, 1) := by decide +kernel
theorem dL_areNestsRight_36 : decode cL_areNestsRight 36 = .ok (.istore 5, 2) := by decide +kernel
theorem dL_areNestsRight_38 : decode cL_areNestsRight 38 = .ok (.iload 5, 2) := by decide +kernel
theorem dL_areNestsRight_40 : decode cL_areNestsRight 40 = .ok (.aload_n 0, 1) := by decide +kernel
theorem dL_areNestsRight_41 : decode cL_areNestsRight 41 = .ok (.invokevirtual 126, 3) := by decide +kernel
theorem dL_areNestsRight_44 : decode cL_areNestsRight 44 = .ok (.if_icmp .ge 84, 3) := by decide +kernel
theorem dL_areNestsRight_47 : decode cL_areNestsRight 47 = .ok (.aload_n 0, 1) := by decide +kernel
theorem dL_areNestsRight_48 : decode cL_areNestsRight 48 = .ok (.iload 5, 2) := by decide +kernel
theorem dL_areNestsRight_50 : decode cL_areNestsRight 50 = .ok (.invokevirtual 62, 3) := by decide +kernel
theorem dL_areNestsRight_53 : decode cL_areNestsRight 53 = .ok (.iload_n 3, 1) := by decide +kernel
theorem dL_areNestsRight_54 : decode cL_areNestsRight 54 = .ok (.if_icmp .ne 7, 3) := by decide +kernel
theorem dL_areNestsRight_57 : decode cL_areNestsRight 57 = .ok (.iconst 1, 1) := by decide +kernel
theorem dL_areNestsRight_58 : decode cL_areNestsRight 58 = .ok (.goto 4, 3) := by decide +kernel
theorem dL_areNestsRight_61 : decode cL_areNestsRight 61 = .ok (.iconst 0, 1) := by decide +kernel
theorem dL_areNestsRight_62 : decode cL_areNestsRight 62 = .ok (.istore 6, 2) := by decide +kernel
theorem dL_areNestsRight_64 : decode cL_areNestsRight 64 = .ok (.iload 4, 2) := by decide +kernel
theorem dL_areNestsRight_66 : decode cL_areNestsRight 66 = .ok (.iload 6, 2) := by decide +kernel
theorem dL_areNestsRight_68 : decode cL_areNestsRight 68 = .ok (.invokestatic 84, 3) := by decide +kernel
theorem dL_areNestsRight_71 : decode cL_areNestsRight 71 = .ok (.iadd, 1) := by decide +kernel
theorem dL_areNestsRight_72 : decode cL_areNestsRight 72 = .ok (.istore 4, 2) := by decide +kernel
theorem dL_areNestsRight_74 : decode cL_areNestsRight 74 = .ok (.new 168, 3) := by decide +kernel
theorem dL_areNestsRight_77 : decode cL_areNestsRight 77 = .ok (.dup, 1) := by decide +kernel
theorem dL_areNestsRight_78 : decode cL_areNestsRight 78 = .ok (.invokespecial 170, 3) := by decide +kernel
theorem dL_areNestsRight_81 : decode cL_areNestsRight 81 = .ok (.aload_n 1, 1) := by decide +kernel
theorem dL_areNestsRight_82 : decode cL_areNestsRight 82 = .ok (.invokevirtual 177, 3) := by decide +kernel
theorem dL_areNestsRight_85 : decode cL_areNestsRight 85 = .ok (.iload 6, 2) := by decide +kernel
theorem dL_areNestsRight_87 : decode cL_areNestsRight 87 = .ok (.ifCond .eq 26, 3) := by decide +kernel
theorem dL_areNestsRight_90 : decode cL_areNestsRight 90 = .ok (.new 168, 3) := by decide +kernel
theorem dL_areNestsRight_93 : decode cL_areNestsRight 93 = .ok (.dup, 1) := by decide +kernel
theorem dL_areNestsRight_94 : decode cL_areNestsRight 94 = .ok (.invokespecial 170, 3) := by decide +kernel
theorem dL_areNestsRight_97 : decode cL_areNestsRight 97 = .ok (.ldc 241, 2) := by decide +kernel
theorem dL_areNestsRight_99 : decode cL_areNestsRight 99 = .ok (.invokevirtual 177, 3) := by decide +kernel
theorem dL_areNestsRight_102 : decode cL_areNestsRight 102 = .ok (.iload 5, 2) := by decide +kernel
theorem dL_areNestsRight_104 : decode cL_areNestsRight 104 = .ok (.invokevirtual 171, 3) := by decide +kernel
theorem dL_areNestsRight_107 : decode cL_areNestsRight 107 = .ok (.invokevirtual 180, 3) := by decide +kernel
theorem dL_areNestsRight_110 : decode cL_areNestsRight 110 = .ok (.goto 5, 3) := by decide +kernel
theorem dL_areNestsRight_113 : decode cL_areNestsRight 113 = .ok (.ldc 241, 2) := by decide +kernel
theorem dL_areNestsRight_115 : decode cL_areNestsRight 115 = .ok (.invokevirtual 177, 3) := by decide +kernel
theorem dL_areNestsRight_118 : decode cL_areNestsRight 118 = .ok (.invokevirtual 180, 3) := by decide +kernel
theorem dL_areNestsRight_121 : decode cL_areNestsRight 121 = .ok (.astore_n 1, 1) := by decide +kernel
theorem dL_areNestsRight_122 : decode cL_areNestsRight 122 = .ok (.iinc 5 1, 3) := by decide +kernel
theorem dL_areNestsRight_125 : decode cL_areNestsRight 125 = .ok (.goto (-87), 3) := by decide +kernel
theorem dL_areNestsRight_128 : decode cL_areNestsRight 128 = .ok (.new 168, 3) := by decide +kernel
theorem dL_areNestsRight_131 : decode cL_areNestsRight 131 = .ok (.dup, 1) := by decide +kernel
theorem dL_areNestsRight_132 : decode cL_areNestsRight 132 = .ok (.invokespecial 170, 3) := by decide +kernel
theorem dL_areNestsRight_135 : decode cL_areNestsRight 135 = .ok (.aload_n 1, 1) := by decide +kernel
theorem dL_areNestsRight_136 : decode cL_areNestsRight 136 = .ok (.invokevirtual 177, 3) := by decide +kernel
theorem dL_areNestsRight_139 : decode cL_areNestsRight 139 = .ok (.ldc 245, 2) := by decide +kernel
theorem dL_areNestsRight_141 : decode cL_areNestsRight 141 = .ok (.invokevirtual 177, 3) := by decide +kernel
theorem dL_areNestsRight_144 : decode cL_areNestsRight 144 = .ok (.invokevirtual 180, 3) := by decide +kernel
theorem dL_areNestsRight_147 : decode cL_areNestsRight 147 = .ok (.astore_n 1, 1) := by decide +kernel
theorem dL_areNestsRight_148 : decode cL_areNestsRight 148 = .ok (.iload_n 2, 1) := by decide +kernel
theorem dL_areNestsRight_149 : decode cL_areNestsRight 149 = .ok (.ifCond .eq 17, 3) := by decide +kernel
theorem dL_areNestsRight_152 : decode cL_areNestsRight 152 = .ok (.aload_n 0, 1) := by decide +kernel
theorem dL_areNestsRight_153 : decode cL_areNestsRight 153 = .ok (.iload_n 3, 1) := by decide +kernel
theorem dL_areNestsRight_154 : decode cL_areNestsRight 154 = .ok (.invokevirtual 65, 3) := by decide +kernel
theorem dL_areNestsRight_157 : decode cL_areNestsRight 157 = .ok (.iload 4, 2) := by decide +kernel
theorem dL_areNestsRight_159 : decode cL_areNestsRight 159 = .ok (.if_icmp .ne 7, 3) := by decide +kernel
theorem dL_areNestsRight_162 : decode cL_areNestsRight 162 = .ok (.iconst 1, 1) := by decide +kernel
theorem dL_areNestsRight_163 : decode cL_areNestsRight 163 = .ok (.goto 4, 3) := by decide +kernel
theorem dL_areNestsRight_166 : decode cL_areNestsRight 166 = .ok (.iconst 0, 1) := by decide +kernel
theorem dL_areNestsRight_167 : decode cL_areNestsRight 167 = .ok (.istore_n 2, 1) := by decide +kernel
theorem dL_areNestsRight_168 : decode cL_areNestsRight 168 = .ok (.iinc 3 1, 3) := by decide +kernel
theorem dL_areNestsRight_171 : decode cL_areNestsRight 171 = .ok (.goto (-164), 3) := by decide +kernel
theorem dL_areNestsRight_174 : decode cL_areNestsRight 174 = .ok (.iload_n 2, 1) := by decide +kernel
theorem dL_areNestsRight_175 : decode cL_areNestsRight 175 = .ok (.ifCond .eq 19, 3) := by decide +kernel
theorem dL_areNestsRight_178 : decode cL_areNestsRight 178 = .ok (.aload_n 0, 1) := by decide +kernel
theorem dL_areNestsRight_179 : decode cL_areNestsRight 179 = .ok (.aload_n 0, 1) := by decide +kernel
theorem dL_areNestsRight_180 : decode cL_areNestsRight 180 = .ok (.invokevirtual 247, 3) := by decide +kernel
theorem dL_areNestsRight_183 : decode cL_areNestsRight 183 = .ok (.aload_n 1, 1) := by decide +kernel
theorem dL_areNestsRight_184 : decode cL_areNestsRight 184 = .ok (.invokestatic 208, 3) := by decide +kernel
theorem dL_areNestsRight_187 : decode cL_areNestsRight 187 = .ok (.ifCond .eq 7, 3) := by decide +kernel
theorem dL_areNestsRight_190 : decode cL_areNestsRight 190 = .ok (.iconst 1, 1) := by decide +kernel
theorem dL_areNestsRight_191 : decode cL_areNestsRight 191 = .ok (.goto 4, 3) := by decide +kernel
theorem dL_areNestsRight_194 : decode cL_areNestsRight 194 = .ok (.iconst 0, 1) := by decide +kernel
theorem dL_areNestsRight_195 : decode cL_areNestsRight 195 = .ok (.ireturn, 1) := by decide +kernel
theorem dL_isIssueRight_0 : decode cL_isIssueRight 0 = .ok (.aload_n 0, 1) := by decide +kernel
theorem dL_isIssueRight_1 : decode cL_isIssueRight 1 = .ok (.iconst 4, 1) := by decide +kernel
theorem dL_isIssueRight_2 : decode cL_isIssueRight 2 = .ok (.iload_n 1, 1) := by decide +kernel
theorem dL_isIssueRight_3 : decode cL_isIssueRight 3 = .ok (.iload_n 2, 1) := by decide +kernel
theorem dL_isIssueRight_4 : decode cL_isIssueRight 4 = .ok (.invokestatic 148, 3) := by decide +kernel
theorem dL_isIssueRight_7 : decode cL_isIssueRight 7 = .ok (.ifCond .lt 12, 3) := by decide +kernel
theorem dL_isIssueRight_10 : decode cL_isIssueRight 10 = .ok (.aload_n 0, 1) := by decide +kernel
theorem dL_isIssueRight_11 : decode cL_isIssueRight 11 = .ok (.iload_n 2, 1) := by decide +kernel
theorem dL_isIssueRight_12 : decode cL_isIssueRight 12 = .ok (.invokevirtual 199, 3) := by decide +kernel
theorem dL_isIssueRight_15 : decode cL_isIssueRight 15 = .ok (.iconst 1, 1) := by decide +kernel
theorem dL_isIssueRight_16 : decode cL_isIssueRight 16 = .ok (.if_icmp .ge 5, 3) := by decide +kernel
theorem dL_isIssueRight_19 : decode cL_isIssueRight 19 = .ok (.iconst 1, 1) := by decide +kernel
theorem dL_isIssueRight_20 : decode cL_isIssueRight 20 = .ok (.ireturn, 1) := by decide +kernel
theorem dL_isIssueRight_21 : decode cL_isIssueRight 21 = .ok (.aload_n 0, 1) := by decide +kernel
theorem dL_isIssueRight_22 : decode cL_isIssueRight 22 = .ok (.invokestatic 250, 3) := by decide +kernel
theorem dL_isIssueRight_25 : decode cL_isIssueRight 25 = .ok (.istore_n 3, 1) := by decide +kernel
theorem dL_isIssueRight_26 : decode cL_isIssueRight 26 = .ok (.aload_n 0, 1) := by decide +kernel
theorem dL_isIssueRight_27 : decode cL_isIssueRight 27 = .ok (.invokevirtual 254, 3) := by decide +kernel
theorem dL_isIssueRight_30 : decode cL_isIssueRight 30 = .ok (.aload_n 0, 1) := by decide +kernel
theorem dL_isIssueRight_31 : decode cL_isIssueRight 31 = .ok (.iload_n 1, 1) := by decide +kernel
theorem dL_isIssueRight_32 : decode cL_isIssueRight 32 = .ok (.iload_n 2, 1) := by decide +kernel
theorem dL_isIssueRight_33 : decode cL_isIssueRight 33 = .ok (.invokevirtual 74, 3) := by decide +kernel
theorem dL_isIssueRight_36 : decode cL_isIssueRight 36 = .ok (.istore 4, 2) := by decide +kernel
theorem dL_isIssueRight_38 : decode cL_isIssueRight 38 = .ok (.aload_n 0, 1) := by decide +kernel
theorem dL_isIssueRight_39 : decode cL_isIssueRight 39 = .ok (.iload_n 2, 1) := by decide +kernel
theorem dL_isIssueRight_40 : decode cL_isIssueRight 40 = .ok (.invokevirtual 94, 3) := by decide +kernel
theorem dL_isIssueRight_43 : decode cL_isIssueRight 43 = .ok (.ifCond .ne 7, 3) := by decide +kernel
theorem dL_isIssueRight_46 : decode cL_isIssueRight 46 = .ok (.iconst 1, 1) := by decide +kernel
theorem dL_isIssueRight_47 : decode cL_isIssueRight 47 = .ok (.goto 4, 3) := by decide +kernel
theorem dL_isIssueRight_50 : decode cL_isIssueRight 50 = .ok (.iconst 0, 1) := by decide +kernel
theorem dL_isIssueRight_51 : decode cL_isIssueRight 51 = .ok (.istore 5, 2) := by decide +kernel
theorem dL_isIssueRight_53 : decode cL_isIssueRight 53 = .ok (.aload_n 0, 1) := by decide +kernel
theorem dL_isIssueRight_54 : decode cL_isIssueRight 54 = .ok (.iload_n 1, 1) := by decide +kernel
theorem dL_isIssueRight_55 : decode cL_isIssueRight 55 = .ok (.iload_n 2, 1) := by decide +kernel
theorem dL_isIssueRight_56 : decode cL_isIssueRight 56 = .ok (.invokevirtual 29, 3) := by decide +kernel
theorem dL_isIssueRight_59 : decode cL_isIssueRight 59 = .ok (.istore 6, 2) := by decide +kernel
theorem dL_isIssueRight_61 : decode cL_isIssueRight 61 = .ok (.aload_n 0, 1) := by decide +kernel
theorem dL_isIssueRight_62 : decode cL_isIssueRight 62 = .ok (.iload_n 2, 1) := by decide +kernel
theorem dL_isIssueRight_63 : decode cL_isIssueRight 63 = .ok (.invokevirtual 88, 3) := by decide +kernel
theorem dL_isIssueRight_66 : decode cL_isIssueRight 66 = .ok (.istore 7, 2) := by decide +kernel
theorem dL_isIssueRight_68 : decode cL_isIssueRight 68 = .ok (.aload_n 0, 1) := by decide +kernel
theorem dL_isIssueRight_69 : decode cL_isIssueRight 69 = .ok (.iload_n 1, 1) := by decide +kernel
theorem dL_isIssueRight_70 : decode cL_isIssueRight 70 = .ok (.iload_n 2, 1) := by decide +kernel
theorem dL_isIssueRight_71 : decode cL_isIssueRight 71 = .ok (.invokevirtual 35, 3) := by decide +kernel
theorem dL_isIssueRight_74 : decode cL_isIssueRight 74 = .ok (.istore 8, 2) := by decide +kernel
theorem dL_isIssueRight_76 : decode cL_isIssueRight 76 = .ok (.iload 5, 2) := by decide +kernel
theorem dL_isIssueRight_78 : decode cL_isIssueRight 78 = .ok (.ifCond .eq 10, 3) := by decide +kernel
theorem dL_isIssueRight_81 : decode cL_isIssueRight 81 = .ok (.iload 8, 2) := by decide +kernel
theorem dL_isIssueRight_83 : decode cL_isIssueRight 83 = .ok (.iload 4, 2) := by decide +kernel
theorem dL_isIssueRight_85 : decode cL_isIssueRight 85 = .ok (.if_icmp .ne 34, 3) := by decide +kernel
theorem dL_isIssueRight_88 : decode cL_isIssueRight 88 = .ok (.aload_n 0, 1) := by decide +kernel
theorem dL_isIssueRight_89 : decode cL_isIssueRight 89 = .ok (.iload_n 2, 1) := by decide +kernel
theorem dL_isIssueRight_90 : decode cL_isIssueRight 90 = .ok (.invokevirtual 77, 3) := by decide +kernel
theorem dL_isIssueRight_93 : decode cL_isIssueRight 93 = .ok (.iload 6, 2) := by decide +kernel
theorem dL_isIssueRight_95 : decode cL_isIssueRight 95 = .ok (.iconst 1, 1) := by decide +kernel
theorem dL_isIssueRight_96 : decode cL_isIssueRight 96 = .ok (.iadd, 1) := by decide +kernel
theorem dL_isIssueRight_97 : decode cL_isIssueRight 97 = .ok (.if_icmp .ne 22, 3) := by decide +kernel
theorem dL_isIssueRight_100 : decode cL_isIssueRight 100 = .ok (.iload 5, 2) := by decide +kernel
theorem dL_isIssueRight_102 : decode cL_isIssueRight 102 = .ok (.ifCond .eq 13, 3) := by decide +kernel
theorem dL_isIssueRight_105 : decode cL_isIssueRight 105 = .ok (.aload_n 0, 1) := by decide +kernel
theorem dL_isIssueRight_106 : decode cL_isIssueRight 106 = .ok (.iload_n 2, 1) := by decide +kernel
theorem dL_isIssueRight_107 : decode cL_isIssueRight 107 = .ok (.invokevirtual 88, 3) := by decide +kernel
theorem dL_isIssueRight_110 : decode cL_isIssueRight 110 = .ok (.iload 7, 2) := by decide +kernel
theorem dL_isIssueRight_112 : decode cL_isIssueRight 112 = .ok (.if_icmp .ne 7, 3) := by decide +kernel
theorem dL_isIssueRight_115 : decode cL_isIssueRight 115 = .ok (.iconst 1, 1) := by decide +kernel
theorem dL_isIssueRight_116 : decode cL_isIssueRight 116 = .ok (.goto 4, 3) := by decide +kernel
theorem dL_isIssueRight_119 : decode cL_isIssueRight 119 = .ok (.iconst 0, 1) := by decide +kernel
theorem dL_isIssueRight_120 : decode cL_isIssueRight 120 = .ok (.istore 9, 2) := by decide +kernel
theorem dL_isIssueRight_122 : decode cL_isIssueRight 122 = .ok (.aload_n 0, 1) := by decide +kernel
theorem dL_isIssueRight_123 : decode cL_isIssueRight 123 = .ok (.invokevirtual 257, 3) := by decide +kernel
theorem dL_isIssueRight_126 : decode cL_isIssueRight 126 = .ok (.iload 9, 2) := by decide +kernel
theorem dL_isIssueRight_128 : decode cL_isIssueRight 128 = .ok (.ifCond .eq 15, 3) := by decide +kernel
theorem dL_isIssueRight_131 : decode cL_isIssueRight 131 = .ok (.aload_n 0, 1) := by decide +kernel
theorem dL_isIssueRight_132 : decode cL_isIssueRight 132 = .ok (.invokestatic 250, 3) := by decide +kernel
theorem dL_isIssueRight_135 : decode cL_isIssueRight 135 = .ok (.iload_n 3, 1) := by decide +kernel
theorem dL_isIssueRight_136 : decode cL_isIssueRight 136 = .ok (.if_icmp .ne 7, 3) := by decide +kernel
theorem dL_isIssueRight_139 : decode cL_isIssueRight 139 = .ok (.iconst 1, 1) := by decide +kernel
theorem dL_isIssueRight_140 : decode cL_isIssueRight 140 = .ok (.goto 4, 3) := by decide +kernel
theorem dL_isIssueRight_143 : decode cL_isIssueRight 143 = .ok (.iconst 0, 1) := by decide +kernel
theorem dL_isIssueRight_144 : decode cL_isIssueRight 144 = .ok (.ireturn, 1) := by decide +kernel
theorem dL_areInversesRight_0 : decode cL_areInversesRight 0 = .ok (.aload_n 0, 1) := by decide +kernel
theorem dL_areInversesRight_1 : decode cL_areInversesRight 1 = .ok (.bipush 13, 2) := by decide +kernel
theorem dL_areInversesRight_3 : decode cL_areInversesRight 3 = .ok (.iconst 0, 1) := by decide +kernel
theorem dL_areInversesRight_4 : decode cL_areInversesRight 4 = .ok (.iconst 0, 1) := by decide +kernel
theorem dL_areInversesRight_5 : decode cL_areInversesRight 5 = .ok (.invokestatic 148, 3) := by decide +kernel
theorem dL_areInversesRight_8 : decode cL_areInversesRight 8 = .ok (.sipush (-2003), 3) := by decide +kernel
theorem dL_areInversesRight_11 : decode cL_areInversesRight 11 = .ok (.if_icmp .ne 22, 3) := by decide +kernel
theorem dL_areInversesRight_14 : decode cL_areInversesRight 14 = .ok (.aload_n 0, 1) := by decide +kernel
theorem dL_areInversesRight_15 : decode cL_areInversesRight 15 = .ok (.bipush 13, 2) := by decide +kernel
theorem dL_areInversesRight_17 : decode cL_areInversesRight 17 = .ok (.bipush 97, 2) := by decide +kernel
theorem dL_areInversesRight_19 : decode cL_areInversesRight 19 = .ok (.iconst 0, 1) := by decide +kernel
theorem dL_areInversesRight_20 : decode cL_areInversesRight 20 = .ok (.invokestatic 148, 3) := by decide +kernel
theorem dL_areInversesRight_23 : decode cL_areInversesRight 23 = .ok (.sipush (-2003), 3) := by decide +kernel
theorem dL_areInversesRight_26 : decode cL_areInversesRight 26 = .ok (.if_icmp .ne 7, 3) := by decide +kernel
theorem dL_areInversesRight_29 : decode cL_areInversesRight 29 = .ok (.iconst 1, 1) := by decide +kernel
theorem dL_areInversesRight_30 : decode cL_areInversesRight 30 = .ok (.goto 4, 3) := by decide +kernel
theorem dL_areInversesRight_33 : decode cL_areInversesRight 33 = .ok (.iconst 0, 1) := by decide +kernel
theorem dL_areInversesRight_34 : decode cL_areInversesRight 34 = .ok (.istore_n 1, 1) := by decide +kernel
theorem dL_areInversesRight_35 : decode cL_areInversesRight 35 = .ok (.iconst 1, 1) := by decide +kernel
theorem dL_areInversesRight_36 : decode cL_areInversesRight 36 = .ok (.istore_n 2, 1) := by decide +kernel
theorem dL_areInversesRight_37 : decode cL_areInversesRight 37 = .ok (.iload_n 2, 1) := by decide +kernel
theorem dL_areInversesRight_38 : decode cL_areInversesRight 38 = .ok (.bipush 97, 2) := by decide +kernel
theorem dL_areInversesRight_40 : decode cL_areInversesRight 40 = .ok (.if_icmp .ge 51, 3) := by decide +kernel
theorem dL_areInversesRight_43 : decode cL_areInversesRight 43 = .ok (.iload_n 1, 1) := by decide +kernel
theorem dL_areInversesRight_44 : decode cL_areInversesRight 44 = .ok (.ifCond .eq 39, 3) := by decide +kernel
theorem dL_areInversesRight_47 : decode cL_areInversesRight 47 = .ok (.aload_n 0, 1) := by decide +kernel
theorem dL_areInversesRight_48 : decode cL_areInversesRight 48 = .ok (.iload_n 2, 1) := by decide +kernel
theorem dL_areInversesRight_49 : decode cL_areInversesRight 49 = .ok (.invokevirtual 106, 3) := by decide +kernel
theorem dL_areInversesRight_52 : decode cL_areInversesRight 52 = .ok (.ifCond .le 31, 3) := by decide +kernel
theorem dL_areInversesRight_55 : decode cL_areInversesRight 55 = .ok (.aload_n 0, 1) := by decide +kernel
theorem dL_areInversesRight_56 : decode cL_areInversesRight 56 = .ok (.iload_n 2, 1) := by decide +kernel
theorem dL_areInversesRight_57 : decode cL_areInversesRight 57 = .ok (.invokevirtual 106, 3) := by decide +kernel
theorem dL_areInversesRight_60 : decode cL_areInversesRight 60 = .ok (.bipush 97, 2) := by decide +kernel
theorem dL_areInversesRight_62 : decode cL_areInversesRight 62 = .ok (.if_icmp .ge 21, 3) := by decide +kernel
theorem dL_areInversesRight_65 : decode cL_areInversesRight 65 = .ok (.iload_n 2, 1) := by decide +kernel
theorem dL_areInversesRight_66 : decode cL_areInversesRight 66 = .ok (.aload_n 0, 1) := by decide +kernel
theorem dL_areInversesRight_67 : decode cL_areInversesRight 67 = .ok (.iload_n 2, 1) := by decide +kernel
theorem dL_areInversesRight_68 : decode cL_areInversesRight 68 = .ok (.invokevirtual 106, 3) := by decide +kernel
theorem dL_areInversesRight_71 : decode cL_areInversesRight 71 = .ok (.imul, 1) := by decide +kernel
theorem dL_areInversesRight_72 : decode cL_areInversesRight 72 = .ok (.bipush 97, 2) := by decide +kernel
theorem dL_areInversesRight_74 : decode cL_areInversesRight 74 = .ok (.irem, 1) := by decide +kernel
theorem dL_areInversesRight_75 : decode cL_areInversesRight 75 = .ok (.iconst 1, 1) := by decide +kernel
theorem dL_areInversesRight_76 : decode cL_areInversesRight 76 = .ok (.if_icmp .ne 7, 3) := by decide +kernel
theorem dL_areInversesRight_79 : decode cL_areInversesRight 79 = .ok (.iconst 1, 1) := by decide +kernel
theorem dL_areInversesRight_80 : decode cL_areInversesRight 80 = .ok (.goto 4, 3) := by decide +kernel
theorem dL_areInversesRight_83 : decode cL_areInversesRight 83 = .ok (.iconst 0, 1) := by decide +kernel
theorem dL_areInversesRight_84 : decode cL_areInversesRight 84 = .ok (.istore_n 1, 1) := by decide +kernel
theorem dL_areInversesRight_85 : decode cL_areInversesRight 85 = .ok (.iinc 2 1, 3) := by decide +kernel
theorem dL_areInversesRight_88 : decode cL_areInversesRight 88 = .ok (.goto (-51), 3) := by decide +kernel
theorem dL_areInversesRight_91 : decode cL_areInversesRight 91 = .ok (.iload_n 1, 1) := by decide +kernel
theorem dL_areInversesRight_92 : decode cL_areInversesRight 92 = .ok (.ireturn, 1) := by decide +kernel
theorem dL_law_0 : decode cL_law 0 = .ok (.new 16, 3) := by decide +kernel
theorem dL_law_3 : decode cL_law 3 = .ok (.dup, 1) := by decide +kernel
theorem dL_law_4 : decode cL_law 4 = .ok (.invokespecial 260, 3) := by decide +kernel
theorem dL_law_7 : decode cL_law 7 = .ok (.astore_n 1, 1) := by decide +kernel
theorem dL_law_8 : decode cL_law 8 = .ok (.aload_n 1, 1) := by decide +kernel
theorem dL_law_9 : decode cL_law 9 = .ok (.invokestatic 261, 3) := by decide +kernel
theorem dL_law_12 : decode cL_law 12 = .ok (.ifCond .ne 5, 3) := by decide +kernel
theorem dL_law_15 : decode cL_law 15 = .ok (.iconst 0, 1) := by decide +kernel
theorem dL_law_16 : decode cL_law 16 = .ok (.ireturn, 1) := by decide +kernel
theorem dL_law_17 : decode cL_law 17 = .ok (.aload_n 1, 1) := by decide +kernel
theorem dL_law_18 : decode cL_law 18 = .ok (.aload_n 0, 1) := by decide +kernel
theorem dL_law_19 : decode cL_law 19 = .ok (.invokestatic 264, 3) := by decide +kernel
theorem dL_law_22 : decode cL_law 22 = .ok (.iconst 0, 1) := by decide +kernel
theorem dL_law_23 : decode cL_law 23 = .ok (.istore_n 2, 1) := by decide +kernel
theorem dL_law_24 : decode cL_law 24 = .ok (.iload_n 2, 1) := by decide +kernel
theorem dL_law_25 : decode cL_law 25 = .ok (.bipush 8, 2) := by decide +kernel
theorem dL_law_27 : decode cL_law 27 = .ok (.if_icmp .ge 71, 3) := by decide +kernel
theorem dL_law_30 : decode cL_law 30 = .ok (.aload_n 1, 1) := by decide +kernel
theorem dL_law_31 : decode cL_law 31 = .ok (.aload_n 0, 1) := by decide +kernel
theorem dL_law_32 : decode cL_law 32 = .ok (.sipush 200, 3) := by decide +kernel
theorem dL_law_35 : decode cL_law 35 = .ok (.bipush 6, 2) := by decide +kernel
theorem dL_law_37 : decode cL_law 37 = .ok (.iload_n 2, 1) := by decide +kernel
theorem dL_law_38 : decode cL_law 38 = .ok (.imul, 1) := by decide +kernel
theorem dL_law_39 : decode cL_law 39 = .ok (.iadd, 1) := by decide +kernel
theorem dL_law_40 : decode cL_law 40 = .ok (.invokestatic 268, 3) := by decide +kernel
theorem dL_law_43 : decode cL_law 43 = .ok (.istore_n 3, 1) := by decide +kernel
theorem dL_law_44 : decode cL_law 44 = .ok (.aload_n 1, 1) := by decide +kernel
theorem dL_law_45 : decode cL_law 45 = .ok (.invokestatic 272, 3) := by decide +kernel
theorem dL_law_48 : decode cL_law 48 = .ok (.ifCond .eq 42, 3) := by decide +kernel
theorem dL_law_51 : decode cL_law 51 = .ok (.aload_n 1, 1) := by decide +kernel
theorem dL_law_52 : decode cL_law 52 = .ok (.aload_n 0, 1) := by decide +kernel
theorem dL_law_53 : decode cL_law 53 = .ok (.sipush 300, 3) := by decide +kernel
theorem dL_law_56 : decode cL_law 56 = .ok (.iload_n 2, 1) := by decide +kernel
theorem dL_law_57 : decode cL_law 57 = .ok (.iadd, 1) := by decide +kernel
theorem dL_law_58 : decode cL_law 58 = .ok (.iconst 1, 1) := by decide +kernel
theorem dL_law_59 : decode cL_law 59 = .ok (.aload_n 1, 1) := by decide +kernel
theorem dL_law_60 : decode cL_law 60 = .ok (.invokevirtual 126, 3) := by decide +kernel
theorem dL_law_63 : decode cL_law 63 = .ok (.invokestatic 129, 3) := by decide +kernel
theorem dL_law_66 : decode cL_law 66 = .ok (.invokestatic 119, 3) := by decide +kernel
theorem dL_law_69 : decode cL_law 69 = .ok (.aload_n 1, 1) := by decide +kernel
theorem dL_law_70 : decode cL_law 70 = .ok (.aload_n 0, 1) := by decide +kernel
theorem dL_law_71 : decode cL_law 71 = .ok (.sipush 320, 3) := by decide +kernel
theorem dL_law_74 : decode cL_law 74 = .ok (.iload_n 2, 1) := by decide +kernel
theorem dL_law_75 : decode cL_law 75 = .ok (.iadd, 1) := by decide +kernel
theorem dL_law_76 : decode cL_law 76 = .ok (.bipush 6, 2) := by decide +kernel
theorem dL_law_78 : decode cL_law 78 = .ok (.invokestatic 119, 3) := by decide +kernel
theorem dL_law_81 : decode cL_law 81 = .ok (.invokestatic 134, 3) := by decide +kernel
theorem dL_law_84 : decode cL_law 84 = .ok (.invokestatic 275, 3) := by decide +kernel
theorem dL_law_87 : decode cL_law 87 = .ok (.ifCond .ne 5, 3) := by decide +kernel
theorem dL_law_90 : decode cL_law 90 = .ok (.iconst 0, 1) := by decide +kernel
theorem dL_law_91 : decode cL_law 91 = .ok (.ireturn, 1) := by decide +kernel
theorem dL_law_92 : decode cL_law 92 = .ok (.iinc 2 1, 3) := by decide +kernel
theorem dL_law_95 : decode cL_law 95 = .ok (.goto (-71), 3) := by decide +kernel
theorem dL_law_98 : decode cL_law 98 = .ok (.iconst 1, 1) := by decide +kernel
theorem dL_law_99 : decode cL_law 99 = .ok (.ireturn, 1) := by decide +kernel
