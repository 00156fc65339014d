set_option maxRecDepth 20000 in
theorem ggL_law_X9_permit : GoodIn wsL_law wsX9_permit := goodIn_r _ [1032, 74, 441, 442, 443, 5, 444, 332, 196, 197, 198, 253, 254, 255, 256, 195, 199, 200, 201, 202, 203, 452, 453, 454, 455, 272, 1040, 1041, 1042, 1043, 1044, 1045, 1046, 1047, 1048, 1049, 1050, 1051, 1052, 1053, 1054, 1055, 1056, 1057, 1058, 1059, 1060, 1061, 1062, 1063, 1064, 1065, 1066, 1067, 1068, 1069, 1070, 1071, 1072, 1073, 1074, 1075, 1076, 1077, 1078, 1079, 1080, 1081, 1082, 1083, 1084] (by decide +kernel) (by decide +kernel)
set_option maxRecDepth 20000 in
theorem gL_law_X9_permit : GoodIn wsL_law (wsV RL 232 RX9 yX9_permit wsX9_permit) := goodIn_app (goodIn_of _ (by decide +kernel)) ggL_law_X9_permit
