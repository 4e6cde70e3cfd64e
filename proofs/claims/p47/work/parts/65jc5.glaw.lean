/-! words of the law's calls, piece by piece (gen/s65big.py) -/
theorem gq_L_law_L_areBirdsRight_wsX110 : GoodIn wsL_law wsX110 := goodIn_r _ [1119, 1120, 1121, 1122, 1123, 1124] (by decide +kernel) (by decide +kernel)
theorem gq_L_law_L_areBirdsRight_wsX100 : GoodIn wsL_law wsX100 := goodIn_r _ [1141, 1142, 1143] (by decide +kernel) (by decide +kernel)
theorem gq_L_law_L_areBirdsRight_wsX80 : GoodIn wsL_law wsX80 := goodIn_r _ [1139, 1140] (by decide +kernel) (by decide +kernel)
theorem gq_L_law_L_areBirdsRight_wsX50 : GoodIn wsL_law wsX50 := goodIn_r _ [1144, 1145, 1146] (by decide +kernel) (by decide +kernel)
theorem gq_L_law_L_areBirdsRight_wsX30 : GoodIn wsL_law wsX30 := goodIn_r _ [1147, 1148, 1149, 1150, 1151] (by decide +kernel) (by decide +kernel)
theorem gq_L_law_L_areBirdsRight_wsJ40 : GoodIn wsL_law wsJ40 := goodIn_r _ [1135, 1136, 1137, 1138] (by decide +kernel) (by decide +kernel)
theorem gq_L_law_L_areBirdsRight_wsJ00 : GoodIn wsL_law wsJ00 := goodIn_r _ [1152, 1153, 1154, 1155] (by decide +kernel) (by decide +kernel)
theorem gq_L_law_L_areBirdsRight_wsJx7c7330 : GoodIn wsL_law wsJx7c7330 := goodIn_r _ [1156, 1157, 1158, 1159, 1160, 1161] (by decide +kernel) (by decide +kernel)
