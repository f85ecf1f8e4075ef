set_option maxRecDepth 20000 in
theorem ggL_law_X8_isBalanced : GoodIn wsL_law wsX8_isBalanced := goodIn_r _ [972, 973, 974, 975, 2, 976, 15, 339, 304, 338, 956, 957, 958, 378, 977, 978, 979, 980, 162, 301, 302, 303, 269, 270, 271, 981, 646, 647, 40, 648, 136, 309, 310, 669, 312, 313, 44, 314, 151, 64, 241, 242, 315, 316, 982, 537, 538, 539, 16, 540, 121, 122, 14, 123, 41, 45, 49, 51, 124, 125, 126, 127, 128, 129, 130, 131, 132, 133, 134, 135, 55, 56, 57, 58, 59, 60, 137, 138, 139, 140, 141, 142, 143, 144, 145, 146, 147, 148, 149, 150, 65, 66, 152, 153, 154, 48, 155, 156, 157, 70, 71, 72, 73, 404, 405, 406, 407, 408, 409, 410, 411, 412, 413, 414, 415, 416, 417, 418, 354, 355, 356, 357, 175, 176, 419, 420, 240, 243, 421, 422, 423, 424, 425, 426, 427, 428, 429, 430, 431, 432, 433, 434, 435, 436, 437, 438, 439, 440, 441, 442, 443, 444, 445, 117, 118, 119, 983, 546, 547, 548, 163, 549, 550, 551, 552, 553, 554, 495, 555, 556, 557, 558, 559, 984, 985, 986, 987, 668, 599, 600, 601, 590, 340, 341, 342, 602, 603, 604, 605, 606, 607, 608, 609, 610, 611, 612, 613, 614, 615, 616, 988, 630, 631, 632, 633, 634, 635, 636, 637, 638, 639, 640, 641, 642, 643, 644, 645, 1040, 1041, 1042, 1043, 1044, 1045, 1046, 1047, 1048, 1067, 1068, 1069, 1070, 1071, 1072, 1073, 1074, 1075, 1076, 1077, 1078, 1097, 1098, 1099, 1100, 1090, 1091, 1092, 1093, 1094, 1095, 1096, 1101, 1102, 1103, 1104, 1105, 1106] (by decide +kernel) (by decide +kernel)
set_option maxRecDepth 20000 in
theorem gL_law_X8_isBalanced : GoodIn wsL_law (wsV RL 134 RX8 yX8_isBalanced wsX8_isBalanced) := goodIn_app (goodIn_of _ (by decide +kernel)) ggL_law_X8_isBalanced
set_option maxRecDepth 20000 in
theorem ggL_law_X9_isBalanced : GoodIn wsL_law wsX9_isBalanced := goodIn_r _ [992, 96, 1049, 1050, 1051, 1052, 1053, 1054, 1055, 1056, 1057, 1058, 1059, 1060, 1061, 1062, 1063, 1064, 1065, 1066] (by decide +kernel) (by decide +kernel)
set_option maxRecDepth 20000 in
theorem gL_law_X9_isBalanced : GoodIn wsL_law (wsV RL 137 RX9 yX9_isBalanced wsX9_isBalanced) := goodIn_app (goodIn_of _ (by decide +kernel)) ggL_law_X9_isBalanced
set_option maxRecDepth 20000 in
theorem ggL_law_X8_meanRust : GoodIn wsL_law wsX8_meanRust := goodIn_r _ [996, 15, 162, 163, 288, 269, 270, 2, 271, 1040, 1041, 1042, 1043, 1044, 1045, 1046, 1047, 1048, 1067, 1068, 1069, 1070, 1071, 1072, 1073, 1074, 1075, 1076, 1077, 1078, 1090, 1091, 1092, 1093, 1094, 1095, 1096] (by decide +kernel) (by decide +kernel)
set_option maxRecDepth 20000 in
theorem gL_law_X8_meanRust : GoodIn wsL_law (wsV RL 138 RX8 yX8_meanRust wsX8_meanRust) := goodIn_app (goodIn_of _ (by decide +kernel)) ggL_law_X8_meanRust
set_option maxRecDepth 20000 in
theorem ggL_law_X9_meanRust : GoodIn wsL_law wsX9_meanRust := goodIn_r _ [1000, 96, 965, 966, 967, 5, 968, 219, 220, 221, 1049, 1050, 1051, 1052, 1053, 1054, 1055, 1056, 1057, 1058, 1059, 1060, 1061, 1062, 1063, 1064, 1065, 1066] (by decide +kernel) (by decide +kernel)
set_option maxRecDepth 20000 in
theorem gL_law_X9_meanRust : GoodIn wsL_law (wsV RL 142 RX9 yX9_meanRust wsX9_meanRust) := goodIn_app (goodIn_of _ (by decide +kernel)) ggL_law_X9_meanRust
set_option maxRecDepth 20000 in
theorem ggL_law_X8_answerShare : GoodIn wsL_law wsX8_answerShare := goodIn_r _ [1004, 15, 956, 957, 958, 1040, 1041, 1042, 1043, 1044, 1045, 1046, 1047, 1048, 1067, 1068, 1069, 1070, 1071, 1072, 1073, 1074, 1075, 1076, 1077, 1078] (by decide +kernel) (by decide +kernel)
set_option maxRecDepth 20000 in
theorem gL_law_X8_answerShare : GoodIn wsL_law (wsV RL 143 RX8 yX8_answerShare wsX8_answerShare) := goodIn_app (goodIn_of _ (by decide +kernel)) ggL_law_X8_answerShare
set_option maxRecDepth 20000 in
theorem ggL_law_X9_answerShare : GoodIn wsL_law wsX9_answerShare := goodIn_r _ [1008, 96, 1049, 1050, 1051, 1052, 1053, 1054, 1055, 1056, 1057, 1058, 1059, 1060, 1061, 1062, 1063, 1064, 1065, 1066] (by decide +kernel) (by decide +kernel)
set_option maxRecDepth 20000 in
theorem gL_law_X9_answerShare : GoodIn wsL_law (wsV RL 147 RX9 yX9_answerShare wsX9_answerShare) := goodIn_app (goodIn_of _ (by decide +kernel)) ggL_law_X9_answerShare
