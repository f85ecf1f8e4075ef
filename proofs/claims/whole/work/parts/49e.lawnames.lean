set_option maxRecDepth 20000 in
theorem ggL_law_X8_would : GoodIn wsL_law wsX8_would := goodIn_r _ [530, 15, 162, 236, 237, 238, 40, 239, 136, 343, 344, 2, 345, 531, 422, 423, 424, 56, 57, 241, 242, 1040, 1041, 1042, 1043, 1044, 1045, 1046, 1047, 1048, 1067, 1068, 1069, 1070, 1071, 1072, 1073, 1074, 1075, 1076, 1077, 1078, 1090, 1091, 1092, 1093, 1094, 1095, 1096] (by decide +kernel) (by decide +kernel)
set_option maxRecDepth 20000 in
theorem gL_law_X8_would : GoodIn wsL_law (wsV RL 61 RX8 yX8_would wsX8_would) := goodIn_app (goodIn_of _ (by decide +kernel)) ggL_law_X8_would
set_option maxRecDepth 20000 in
theorem ggL_law_X9_would : GoodIn wsL_law wsX9_would := goodIn_r _ [535, 252, 253, 254, 5, 255, 96, 206, 207, 208, 458, 459, 460, 461, 219, 220, 221, 1049, 1050, 1051, 1052, 1053, 1054, 1055, 1056, 1057, 1058, 1059, 1060, 1061, 1062, 1063, 1064, 1065, 1066] (by decide +kernel) (by decide +kernel)
set_option maxRecDepth 20000 in
theorem gL_law_X9_would : GoodIn wsL_law (wsV RL 64 RX9 yX9_would wsX9_would) := goodIn_app (goodIn_of _ (by decide +kernel)) ggL_law_X9_would
set_option maxRecDepth 20000 in
theorem ggL_law_X8_forecast : GoodIn wsL_law wsX8_forecast := goodIn_r _ [539, 16, 15, 304, 338, 540, 121, 122, 14, 123, 41, 45, 49, 51, 124, 125, 126, 127, 128, 129, 130, 131, 132, 133, 134, 40, 135, 136, 55, 56, 57, 58, 59, 60, 137, 2, 138, 139, 140, 141, 142, 143, 144, 145, 146, 147, 148, 149, 44, 150, 151, 64, 65, 66, 152, 153, 154, 48, 155, 156, 157, 70, 71, 72, 73, 404, 405, 406, 407, 408, 409, 410, 411, 241, 242, 412, 413, 414, 415, 416, 417, 418, 354, 355, 356, 357, 175, 176, 315, 316, 419, 420, 240, 243, 421, 422, 423, 424, 425, 426, 427, 428, 429, 430, 431, 432, 433, 434, 435, 436, 437, 438, 439, 309, 310, 440, 441, 442, 443, 444, 445, 117, 118, 119, 1040, 1041, 1042, 1043, 1044, 1045, 1046, 1047, 1048, 1067, 1068, 1069, 1070, 1071, 1072, 1073, 1074, 1075, 1076, 1077, 1078, 1097, 1098, 1099, 1100, 1090, 1091, 1092, 1093, 1094, 1095, 1096, 1101, 1102, 1103, 1104, 1105, 1106] (by decide +kernel) (by decide +kernel)
set_option maxRecDepth 20000 in
theorem gL_law_X8_forecast : GoodIn wsL_law (wsV RL 65 RX8 yX8_forecast wsX8_forecast) := goodIn_app (goodIn_of _ (by decide +kernel)) ggL_law_X8_forecast
set_option maxRecDepth 20000 in
theorem ggL_law_X9_forecast : GoodIn wsL_law wsX9_forecast := goodIn_r _ [544, 99, 96, 196, 197, 5, 198, 454, 455, 456, 457, 325, 326, 327, 328, 391, 392, 393, 394, 219, 220, 221, 458, 459, 460, 461, 462, 463, 464, 465, 1049, 1050, 1051, 1052, 1053, 1054, 1055, 1056, 1057, 1058, 1059, 1060, 1061, 1062, 1063, 1064, 1065, 1066] (by decide +kernel) (by decide +kernel)
set_option maxRecDepth 20000 in
theorem gL_law_X9_forecast : GoodIn wsL_law (wsV RL 68 RX9 yX9_forecast wsX9_forecast) := goodIn_app (goodIn_of _ (by decide +kernel)) ggL_law_X9_forecast
set_option maxRecDepth 20000 in
theorem ggL_law_X8_forecastAgain : GoodIn wsL_law wsX8_forecastAgain := goodIn_r _ [548, 15, 162, 163, 549, 550, 551, 14, 552, 41, 553, 554, 45, 495, 410, 408, 409, 555, 140, 141, 142, 241, 2, 242, 556, 557, 558, 559, 51, 315, 316, 309, 310, 1040, 1041, 1042, 1043, 1044, 1045, 1046, 1047, 1048, 1067, 1068, 1069, 1070, 1071, 1072, 1073, 1074, 1075, 1076, 1077, 1078, 1090, 1091, 1092, 1093, 1094, 1095, 1096, 1097, 1098, 1099, 1100] (by decide +kernel) (by decide +kernel)
set_option maxRecDepth 20000 in
theorem gL_law_X8_forecastAgain : GoodIn wsL_law (wsV RL 69 RX8 yX8_forecastAgain wsX8_forecastAgain) := goodIn_app (goodIn_of _ (by decide +kernel)) ggL_law_X8_forecastAgain
set_option maxRecDepth 20000 in
theorem ggL_law_X9_forecastAgain : GoodIn wsL_law wsX9_forecastAgain := goodIn_r _ [563, 564, 542, 543, 5, 544, 99, 96, 196, 197, 198, 454, 455, 456, 457, 325, 326, 327, 328, 391, 392, 393, 394, 219, 220, 221, 458, 459, 460, 461, 462, 463, 464, 465, 1049, 1050, 1051, 1052, 1053, 1054, 1055, 1056, 1057, 1058, 1059, 1060, 1061, 1062, 1063, 1064, 1065, 1066] (by decide +kernel) (by decide +kernel)
set_option maxRecDepth 20000 in
theorem gL_law_X9_forecastAgain : GoodIn wsL_law (wsV RL 72 RX9 yX9_forecastAgain wsX9_forecastAgain) := goodIn_app (goodIn_of _ (by decide +kernel)) ggL_law_X9_forecastAgain
