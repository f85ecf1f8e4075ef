set_option maxRecDepth 20000 in
theorem ggL_law_X8_answerOf : GoodIn wsL_law wsX8_answerOf := goodIn_r _ [568, 15, 569, 570, 571, 572, 573, 574, 575, 576, 48, 577, 156, 578, 579, 580, 581, 157, 445, 117, 118, 119, 240, 241, 2, 242, 1040, 1041, 1042, 1043, 1044, 1045, 1046, 1047, 1048, 1067, 1068, 1069, 1070, 1071, 1072, 1073, 1074, 1075, 1076, 1077, 1078, 1101, 1102, 1103, 1104, 1105, 1106] (by decide +kernel) (by decide +kernel)
set_option maxRecDepth 20000 in
theorem gL_law_X8_answerOf : GoodIn wsL_law (wsV RL 73 RX8 yX8_answerOf wsX8_answerOf) := goodIn_app (goodIn_of _ (by decide +kernel)) ggL_law_X8_answerOf
set_option maxRecDepth 20000 in
theorem ggL_law_X9_answerOf : GoodIn wsL_law wsX9_answerOf := goodIn_r _ [585, 96, 206, 207, 5, 208, 1049, 1050, 1051, 1052, 1053, 1054, 1055, 1056, 1057, 1058, 1059, 1060, 1061, 1062, 1063, 1064, 1065, 1066] (by decide +kernel) (by decide +kernel)
set_option maxRecDepth 20000 in
theorem gL_law_X9_answerOf : GoodIn wsL_law (wsV RL 76 RX9 yX9_answerOf wsX9_answerOf) := goodIn_app (goodIn_of _ (by decide +kernel)) ggL_law_X9_answerOf
set_option maxRecDepth 20000 in
theorem ggL_law_X8_answered : GoodIn wsL_law wsX8_answered := goodIn_r _ [589, 15, 590, 340, 341, 2, 342, 240, 241, 242, 1040, 1041, 1042, 1043, 1044, 1045, 1046, 1047, 1048, 1067, 1068, 1069, 1070, 1071, 1072, 1073, 1074, 1075, 1076, 1077, 1078] (by decide +kernel) (by decide +kernel)
set_option maxRecDepth 20000 in
theorem gL_law_X8_answered : GoodIn wsL_law (wsV RL 77 RX8 yX8_answered wsX8_answered) := goodIn_app (goodIn_of _ (by decide +kernel)) ggL_law_X8_answered
set_option maxRecDepth 20000 in
theorem ggL_law_X9_answered : GoodIn wsL_law wsX9_answered := goodIn_r _ [594, 96, 595, 596, 5, 597, 206, 207, 208, 1049, 1050, 1051, 1052, 1053, 1054, 1055, 1056, 1057, 1058, 1059, 1060, 1061, 1062, 1063, 1064, 1065, 1066] (by decide +kernel) (by decide +kernel)
set_option maxRecDepth 20000 in
theorem gL_law_X9_answered : GoodIn wsL_law (wsV RL 80 RX9 yX9_answered wsX9_answered) := goodIn_app (goodIn_of _ (by decide +kernel)) ggL_law_X9_answered
set_option maxRecDepth 20000 in
theorem ggL_law_X8_guess : GoodIn wsL_law wsX8_guess := goodIn_r _ [601, 15, 162, 590, 340, 341, 2, 342, 240, 241, 242, 602, 603, 604, 40, 605, 606, 607, 608, 609, 136, 55, 309, 310, 610, 611, 612, 613, 614, 615, 616, 1040, 1041, 1042, 1043, 1044, 1045, 1046, 1047, 1048, 1067, 1068, 1069, 1070, 1071, 1072, 1073, 1074, 1075, 1076, 1077, 1078, 1090, 1091, 1092, 1093, 1094, 1095, 1096] (by decide +kernel) (by decide +kernel)
set_option maxRecDepth 20000 in
theorem gL_law_X8_guess : GoodIn wsL_law (wsV RL 81 RX8 yX8_guess wsX8_guess) := goodIn_app (goodIn_of _ (by decide +kernel)) ggL_law_X8_guess
set_option maxRecDepth 20000 in
theorem ggL_law_X9_guess : GoodIn wsL_law wsX9_guess := goodIn_r _ [620, 595, 596, 5, 597, 206, 207, 208, 621, 622, 623, 624, 96, 625, 626, 627, 628, 219, 220, 221, 1049, 1050, 1051, 1052, 1053, 1054, 1055, 1056, 1057, 1058, 1059, 1060, 1061, 1062, 1063, 1064, 1065, 1066] (by decide +kernel) (by decide +kernel)
set_option maxRecDepth 20000 in
theorem gL_law_X9_guess : GoodIn wsL_law (wsV RL 84 RX9 yX9_guess wsX9_guess) := goodIn_app (goodIn_of _ (by decide +kernel)) ggL_law_X9_guess
