set_option maxRecDepth 20000 in
theorem ggL_law_X8_guessAgain : GoodIn wsL_law wsX8_guessAgain := goodIn_r _ [632, 15, 162, 590, 340, 341, 2, 342, 240, 241, 242, 633, 634, 635, 40, 636, 136, 55, 315, 316, 637, 638, 639, 640, 641, 642, 643, 644, 645, 646, 647, 648, 309, 310, 1040, 1041, 1042, 1043, 1044, 1045, 1046, 1047, 1048, 1067, 1068, 1069, 1070, 1071, 1072, 1073, 1074, 1075, 1076, 1077, 1078, 1090, 1091, 1092, 1093, 1094, 1095, 1096] (by decide +kernel) (by decide +kernel)
set_option maxRecDepth 20000 in
theorem gL_law_X8_guessAgain : GoodIn wsL_law (wsV RL 85 RX8 yX8_guessAgain wsX8_guessAgain) := goodIn_app (goodIn_of _ (by decide +kernel)) ggL_law_X8_guessAgain
set_option maxRecDepth 20000 in
theorem ggL_law_X9_guessAgain : GoodIn wsL_law wsX9_guessAgain := goodIn_r _ [652, 653, 618, 619, 5, 620, 595, 596, 597, 206, 207, 208, 621, 622, 623, 624, 96, 625, 626, 627, 628, 219, 220, 221, 1049, 1050, 1051, 1052, 1053, 1054, 1055, 1056, 1057, 1058, 1059, 1060, 1061, 1062, 1063, 1064, 1065, 1066] (by decide +kernel) (by decide +kernel)
set_option maxRecDepth 20000 in
theorem gL_law_X9_guessAgain : GoodIn wsL_law (wsV RL 88 RX9 yX9_guessAgain wsX9_guessAgain) := goodIn_app (goodIn_of _ (by decide +kernel)) ggL_law_X9_guessAgain
set_option maxRecDepth 20000 in
theorem ggL_law_X8_parishOf : GoodIn wsL_law wsX8_parishOf := goodIn_r _ [657, 15, 162, 301, 288, 304, 164, 165, 2, 166, 658, 607, 608, 40, 609, 136, 55, 241, 242, 309, 310, 659, 611, 612, 613, 614, 615, 616, 660, 661, 662, 663, 664, 665, 666, 667, 668, 599, 600, 601, 590, 340, 341, 342, 240, 602, 603, 604, 605, 606, 610, 669, 312, 313, 44, 314, 151, 64, 315, 316, 1040, 1041, 1042, 1043, 1044, 1045, 1046, 1047, 1048, 1067, 1068, 1069, 1070, 1071, 1072, 1073, 1074, 1075, 1076, 1077, 1078, 1090, 1091, 1092, 1093, 1094, 1095, 1096, 1097, 1098, 1099, 1100] (by decide +kernel) (by decide +kernel)
set_option maxRecDepth 20000 in
theorem gL_law_X8_parishOf : GoodIn wsL_law (wsV RL 89 RX8 yX8_parishOf wsX8_parishOf) := goodIn_app (goodIn_of _ (by decide +kernel)) ggL_law_X8_parishOf
set_option maxRecDepth 20000 in
theorem ggL_law_X9_parishOf : GoodIn wsL_law wsX9_parishOf := goodIn_r _ [673, 203, 204, 5, 205, 206, 207, 208, 625, 626, 627, 628, 96, 219, 220, 221, 674, 675, 676, 677, 321, 322, 323, 324, 325, 326, 327, 328, 678, 679, 680, 681, 621, 622, 623, 624, 1049, 1050, 1051, 1052, 1053, 1054, 1055, 1056, 1057, 1058, 1059, 1060, 1061, 1062, 1063, 1064, 1065, 1066] (by decide +kernel) (by decide +kernel)
set_option maxRecDepth 20000 in
theorem gL_law_X9_parishOf : GoodIn wsL_law (wsV RL 92 RX9 yX9_parishOf wsX9_parishOf) := goodIn_app (goodIn_of _ (by decide +kernel)) ggL_law_X9_parishOf
set_option maxRecDepth 20000 in
theorem ggL_law_X8_busiest : GoodIn wsL_law wsX8_busiest := goodIn_r _ [685, 15, 590, 240, 241, 2, 242, 659, 611, 612, 613, 614, 615, 616, 1040, 1041, 1042, 1043, 1044, 1045, 1046, 1047, 1048, 1067, 1068, 1069, 1070, 1071, 1072, 1073, 1074, 1075, 1076, 1077, 1078] (by decide +kernel) (by decide +kernel)
set_option maxRecDepth 20000 in
theorem gL_law_X8_busiest : GoodIn wsL_law (wsV RL 93 RX8 yX8_busiest wsX8_busiest) := goodIn_app (goodIn_of _ (by decide +kernel)) ggL_law_X8_busiest
set_option maxRecDepth 20000 in
theorem ggL_law_X9_busiest : GoodIn wsL_law wsX9_busiest := goodIn_r _ [689, 96, 690, 691, 5, 692, 1049, 1050, 1051, 1052, 1053, 1054, 1055, 1056, 1057, 1058, 1059, 1060, 1061, 1062, 1063, 1064, 1065, 1066] (by decide +kernel) (by decide +kernel)
set_option maxRecDepth 20000 in
theorem gL_law_X9_busiest : GoodIn wsL_law (wsV RL 96 RX9 yX9_busiest wsX9_busiest) := goodIn_app (goodIn_of _ (by decide +kernel)) ggL_law_X9_busiest
