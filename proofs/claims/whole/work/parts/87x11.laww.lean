set_option maxRecDepth 20000 in
theorem ggL_law_X7_errorPosition : GoodIn wsL_law wsX7_errorPosition := goodIn_r _ [995, 34, 1130, 1131, 1132, 1133, 1134, 1135, 1136, 1137, 1138, 1139, 1140] (by decide +kernel) (by decide +kernel)
set_option maxRecDepth 20000 in
theorem gL_law_X7_errorPosition : GoodIn wsL_law (wsV RL 232 RX7 yX7_errorPosition wsX7_errorPosition) := goodIn_app (goodIn_of _ (by decide +kernel)) ggL_law_X7_errorPosition
set_option maxRecDepth 20000 in
theorem ggL_law_X8_errorPosition : GoodIn wsL_law wsX8_errorPosition := goodIn_r _ [999, 360, 109, 1141, 1142, 1143, 1144, 1145, 1146, 1147, 1148, 1149, 1150, 1151, 1152, 1153, 1154, 1155, 1156, 1157, 1158, 1159] (by decide +kernel) (by decide +kernel)
set_option maxRecDepth 20000 in
theorem gL_law_X8_errorPosition : GoodIn wsL_law (wsV RL 235 RX8 yX8_errorPosition wsX8_errorPosition) := goodIn_app (goodIn_of _ (by decide +kernel)) ggL_law_X8_errorPosition
set_option maxRecDepth 20000 in
theorem ggL_law_L_refusal : GoodIn wsL_law wsL_refusal := goodIn_ca (goodIn_ca (goodIn_r _ [1002, 634, 1003, 1004, 1005, 2, 1006, 643, 644, 35, 36, 1130, 1131, 1132, 1133, 1134, 1135, 1136, 1137, 1138, 1139, 1140] (by decide +kernel) (by decide +kernel)) (goodIn_sub (fun _ h => List.mem_append_left _ (List.mem_append_left _ (List.mem_append_left _ (List.mem_append_left _ (List.mem_append_left _ (List.mem_append_left _ (List.mem_append_right _ h))))))) (by decide +kernel))) (goodIn_sub (fun _ h => List.mem_append_left _ (List.mem_append_left _ (List.mem_append_right _ h))) (by decide +kernel))
set_option maxRecDepth 20000 in
theorem gL_law_L_refusal : GoodIn wsL_law (va_wsS RL 236 yL_refusal wsL_refusal) := goodIn_app (goodIn_of _ (by decide +kernel)) ggL_law_L_refusal
set_option maxRecDepth 20000 in
theorem ggL_law_X8_refusal : GoodIn wsL_law wsX8_refusal := goodIn_r _ [1010, 370, 371, 356, 357, 358, 5, 359, 360, 361, 1141, 1142, 1143, 1144, 1145, 1146, 1147, 1148, 1149, 1150, 1151, 1152, 1153, 1154, 1155, 1156, 1157, 1158, 1159] (by decide +kernel) (by decide +kernel)
set_option maxRecDepth 20000 in
theorem gL_law_X8_refusal : GoodIn wsL_law (wsV RL 239 RX8 yX8_refusal wsX8_refusal) := goodIn_app (goodIn_of _ (by decide +kernel)) ggL_law_X8_refusal
set_option maxRecDepth 20000 in
theorem ggL_law_L_account : GoodIn wsL_law wsL_account := goodIn_ca (goodIn_ca (goodIn_r _ [1013, 121, 1014, 1015, 1016, 2, 1017, 28, 905, 24, 1018, 17, 564, 565, 566, 133, 134, 1019, 1020, 1021, 16, 1022, 47, 159, 51, 141, 52, 53, 54, 55, 56, 57, 58, 59, 1023, 1024, 1025, 1026, 43, 158, 1027, 1028, 1029, 1030, 1031, 568, 569, 42, 570, 64, 571, 572, 246, 247, 46, 248, 249, 165, 166, 167, 75, 74, 1032, 1033, 1034, 1035, 265, 1130, 1131, 1132, 1133, 1134, 1135, 1136, 1137, 1138, 1139, 1140, 1174, 1175, 1171, 1172, 1173, 1160, 1161, 1162, 1163, 1164, 1165, 1166, 1167, 1168, 1169, 1170, 1184, 1185, 1186, 1187, 1178, 1179, 1180, 1181, 1182, 1183] (by decide +kernel) (by decide +kernel)) (goodIn_sub (fun _ h => List.mem_append_left _ (List.mem_append_left _ (List.mem_append_left _ (List.mem_append_left _ (List.mem_append_left _ (List.mem_append_left _ (List.mem_append_right _ h))))))) (by decide +kernel))) (goodIn_sub (fun _ h => List.mem_append_left _ (List.mem_append_left _ (List.mem_append_left _ (List.mem_append_left _ (List.mem_append_right _ h))))) (by decide +kernel))
set_option maxRecDepth 20000 in
theorem gL_law_L_account : GoodIn wsL_law (va_wsS RL 240 yL_account wsL_account) := goodIn_app (goodIn_of _ (by decide +kernel)) ggL_law_L_account
set_option maxRecDepth 20000 in
theorem ggL_law_X8_account : GoodIn wsL_law wsX8_account := goodIn_ca (goodIn_r _ [1039, 104, 914, 377, 353, 354, 5, 355, 356, 357, 358, 359, 360, 361, 1040, 1041, 1042, 1043, 362, 363, 364, 365, 577, 578, 579, 580, 438, 439, 440, 441, 818, 819, 820, 821, 434, 435, 436, 437, 1141, 1142, 1143, 1144, 1145, 1146, 1147, 1148, 1149, 1150, 1151, 1152, 1153, 1154, 1155, 1156, 1157, 1158, 1159] (by decide +kernel) (by decide +kernel)) (goodIn_sub (fun _ h => List.mem_append_left _ (List.mem_append_left _ (List.mem_append_left _ (List.mem_append_left _ (List.mem_append_left _ (List.mem_append_left _ (List.mem_append_right _ h))))))) (by decide +kernel))
set_option maxRecDepth 20000 in
theorem gL_law_X8_account : GoodIn wsL_law (wsV RL 242 RX8 yX8_account wsX8_account) := goodIn_app (goodIn_of _ (by decide +kernel)) ggL_law_X8_account
