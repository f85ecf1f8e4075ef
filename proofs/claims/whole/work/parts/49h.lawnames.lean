set_option maxRecDepth 20000 in
theorem ggL_law_X8_rustiest : GoodIn wsL_law wsX8_rustiest := goodIn_r _ [696, 15, 162, 163, 697, 698, 699, 40, 700, 136, 701, 702, 703, 704, 57, 58, 241, 2, 242, 1040, 1041, 1042, 1043, 1044, 1045, 1046, 1047, 1048, 1067, 1068, 1069, 1070, 1071, 1072, 1073, 1074, 1075, 1076, 1077, 1078, 1090, 1091, 1092, 1093, 1094, 1095, 1096] (by decide +kernel) (by decide +kernel)
set_option maxRecDepth 20000 in
theorem gL_law_X8_rustiest : GoodIn wsL_law (wsV RL 97 RX8 yX8_rustiest wsX8_rustiest) := goodIn_app (goodIn_of _ (by decide +kernel)) ggL_law_X8_rustiest
set_option maxRecDepth 20000 in
theorem ggL_law_X9_rustiest : GoodIn wsL_law wsX9_rustiest := goodIn_r _ [708, 96, 219, 220, 5, 221, 1049, 1050, 1051, 1052, 1053, 1054, 1055, 1056, 1057, 1058, 1059, 1060, 1061, 1062, 1063, 1064, 1065, 1066] (by decide +kernel) (by decide +kernel)
set_option maxRecDepth 20000 in
theorem gL_law_X9_rustiest : GoodIn wsL_law (wsV RL 100 RX9 yX9_rustiest wsX9_rustiest) := goodIn_app (goodIn_of _ (by decide +kernel)) ggL_law_X9_rustiest
set_option maxRecDepth 20000 in
theorem ggL_law_X8_ranked : GoodIn wsL_law wsX8_ranked := goodIn_r _ [712, 15, 162, 713, 714, 715, 40, 716, 717, 718, 719, 720, 58, 721, 661, 662, 663, 136, 55, 241, 2, 242, 606, 607, 608, 609, 309, 310, 610, 611, 612, 613, 614, 615, 616, 1040, 1041, 1042, 1043, 1044, 1045, 1046, 1047, 1048, 1067, 1068, 1069, 1070, 1071, 1072, 1073, 1074, 1075, 1076, 1077, 1078, 1090, 1091, 1092, 1093, 1094, 1095, 1096] (by decide +kernel) (by decide +kernel)
set_option maxRecDepth 20000 in
theorem gL_law_X8_ranked : GoodIn wsL_law (wsV RL 101 RX8 yX8_ranked wsX8_ranked) := goodIn_app (goodIn_of _ (by decide +kernel)) ggL_law_X8_ranked
set_option maxRecDepth 20000 in
theorem ggL_law_X9_ranked : GoodIn wsL_law wsX9_ranked := goodIn_r _ [725, 674, 675, 676, 5, 677, 96, 219, 220, 221, 321, 322, 323, 324, 325, 326, 327, 328, 625, 626, 627, 628, 1049, 1050, 1051, 1052, 1053, 1054, 1055, 1056, 1057, 1058, 1059, 1060, 1061, 1062, 1063, 1064, 1065, 1066] (by decide +kernel) (by decide +kernel)
set_option maxRecDepth 20000 in
theorem gL_law_X9_ranked : GoodIn wsL_law (wsV RL 104 RX9 yX9_ranked wsX9_ranked) := goodIn_app (goodIn_of _ (by decide +kernel)) ggL_law_X9_ranked
set_option maxRecDepth 20000 in
theorem ggL_law_X8_append : GoodIn wsL_law wsX8_append := goodIn_r _ [729, 24, 730, 731, 732, 733, 23, 734, 82, 735, 736, 140, 141, 142, 175, 2, 176, 1040, 1041, 1042, 1043, 1044, 1045, 1046, 1047, 1048, 1082, 1083] (by decide +kernel) (by decide +kernel)
set_option maxRecDepth 20000 in
theorem gL_law_X8_append : GoodIn wsL_law (wsV RL 105 RX8 yX8_append wsX8_append) := goodIn_app (goodIn_of _ (by decide +kernel)) ggL_law_X8_append
set_option maxRecDepth 20000 in
theorem ggL_law_X9_append : GoodIn wsL_law wsX9_append := goodIn_r _ [740, 741, 101, 206, 207, 5, 208, 1049, 1050, 1051, 1052, 1053, 1054, 1055, 1056, 1057, 1058, 1059, 1060, 1061, 1062, 1063, 1064, 1065, 1066] (by decide +kernel) (by decide +kernel)
set_option maxRecDepth 20000 in
theorem gL_law_X9_append : GoodIn wsL_law (wsV RL 108 RX9 yX9_append wsX9_append) := goodIn_app (goodIn_of _ (by decide +kernel)) ggL_law_X9_append
