set_option maxRecDepth 20000 in
theorem ggL_law_X9_run : GoodIn wsL_law wsX9_run := goodIn_r _ [845, 741, 846, 847, 848, 849, 195, 191, 192, 193, 5, 194, 97, 96, 196, 197, 198, 850, 851, 852, 853, 854, 855, 856, 857, 858, 859, 860, 861, 101, 862, 863, 864, 865, 866, 867, 868, 206, 207, 208, 869, 870, 871, 872, 873, 874, 875, 876, 877, 878, 879, 880, 881, 882, 883, 884, 199, 200, 201, 202, 203, 204, 205, 209, 210, 211, 212, 213, 214, 215, 216, 217, 218, 219, 220, 221, 248, 249, 250, 251, 252, 253, 254, 255, 256, 257, 258, 259, 276, 277, 278, 279, 362, 363, 364, 365, 366, 367, 368, 369, 325, 326, 327, 328, 387, 388, 389, 390, 321, 322, 323, 324, 391, 392, 393, 394, 450, 451, 452, 453, 454, 455, 456, 457, 458, 459, 460, 461, 462, 463, 464, 465, 483, 484, 485, 486, 293, 294, 295, 296, 509, 510, 511, 512, 222, 223, 224, 225, 226, 100, 1049, 1050, 1051, 1052, 1053, 1054, 1055, 1056, 1057, 1058, 1059, 1060, 1061, 1062, 1063, 1064, 1065, 1066] (by decide +kernel) (by decide +kernel)
set_option maxRecDepth 20000 in
theorem gL_law_X9_run : GoodIn wsL_law (wsV RL 112 RX9 yX9_run wsX9_run) := goodIn_app (goodIn_of _ (by decide +kernel)) ggL_law_X9_run
set_option maxRecDepth 20000 in
theorem ggL_law_X8_tell : GoodIn wsL_law wsX8_tell := goodIn_r _ [888, 15, 162, 32, 889, 236, 237, 238, 40, 239, 136, 890, 891, 892, 2, 893, 235, 268, 288, 894, 895, 896, 31, 897, 898, 899, 900, 901, 91, 902, 903, 140, 141, 142, 175, 176, 904, 240, 241, 242, 905, 906, 907, 908, 304, 338, 517, 474, 518, 1040, 1041, 1042, 1043, 1044, 1045, 1046, 1047, 1048, 1067, 1068, 1069, 1070, 1071, 1072, 1073, 1074, 1075, 1076, 1077, 1078, 1088, 1089, 1090, 1091, 1092, 1093, 1094, 1095, 1096, 1097, 1098, 1099, 1100] (by decide +kernel) (by decide +kernel)
set_option maxRecDepth 20000 in
theorem gL_law_X8_tell : GoodIn wsL_law (wsV RL 113 RX8 yX8_tell wsX8_tell) := goodIn_app (goodIn_of _ (by decide +kernel)) ggL_law_X8_tell
set_option maxRecDepth 20000 in
theorem ggL_law_X9_tell : GoodIn wsL_law wsX9_tell := goodIn_r _ [912, 913, 96, 252, 253, 254, 5, 255, 206, 207, 208, 914, 915, 916, 917, 918, 919, 920, 921, 102, 219, 220, 221, 325, 326, 327, 328, 1049, 1050, 1051, 1052, 1053, 1054, 1055, 1056, 1057, 1058, 1059, 1060, 1061, 1062, 1063, 1064, 1065, 1066] (by decide +kernel) (by decide +kernel)
set_option maxRecDepth 20000 in
theorem gL_law_X9_tell : GoodIn wsL_law (wsV RL 116 RX9 yX9_tell wsX9_tell) := goodIn_app (goodIn_of _ (by decide +kernel)) ggL_law_X9_tell
set_option maxRecDepth 20000 in
theorem ggL_law_X8_tellDay : GoodIn wsL_law wsX8_tellDay := goodIn_r _ [925, 32, 889, 15, 590, 240, 241, 2, 242, 926, 927, 928, 929, 904, 899, 900, 31, 901, 91, 902, 903, 140, 141, 142, 175, 176, 894, 895, 896, 897, 898, 668, 599, 600, 601, 162, 340, 341, 342, 602, 603, 604, 40, 605, 606, 607, 608, 609, 136, 55, 309, 310, 610, 611, 612, 613, 614, 615, 616, 1040, 1041, 1042, 1043, 1044, 1045, 1046, 1047, 1048, 1088, 1089, 1067, 1068, 1069, 1070, 1071, 1072, 1073, 1074, 1075, 1076, 1077, 1078, 1090, 1091, 1092, 1093, 1094, 1095, 1096] (by decide +kernel) (by decide +kernel)
set_option maxRecDepth 20000 in
theorem gL_law_X8_tellDay : GoodIn wsL_law (wsV RL 117 RX8 yX8_tellDay wsX8_tellDay) := goodIn_app (goodIn_of _ (by decide +kernel)) ggL_law_X8_tellDay
set_option maxRecDepth 20000 in
theorem ggL_law_X9_tellDay : GoodIn wsL_law wsX9_tellDay := goodIn_r _ [933, 913, 96, 918, 919, 920, 5, 921, 102, 914, 915, 916, 917, 621, 622, 623, 624, 625, 626, 627, 628, 219, 220, 221, 1049, 1050, 1051, 1052, 1053, 1054, 1055, 1056, 1057, 1058, 1059, 1060, 1061, 1062, 1063, 1064, 1065, 1066] (by decide +kernel) (by decide +kernel)
set_option maxRecDepth 20000 in
theorem gL_law_X9_tellDay : GoodIn wsL_law (wsV RL 120 RX9 yX9_tellDay wsX9_tellDay) := goodIn_app (goodIn_of _ (by decide +kernel)) ggL_law_X9_tellDay
