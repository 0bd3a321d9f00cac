set_option maxRecDepth 20000 in
theorem ggL_law_X9_init : GoodIn wsL_law wsX9_init := goodIn_r _ [8, 9, 10, 11, 12, 13, 14, 15, 16, 17, 18, 19, 20, 21, 22, 23, 24, 25, 26, 27, 28, 29, 30, 31, 32, 33, 34, 35, 36, 37, 38, 39, 40, 41, 42, 43, 44, 45, 46, 47, 48, 49, 50, 51, 52, 53, 54, 55, 56, 57, 58, 59, 60, 61, 62, 63, 64, 65, 66, 67, 68, 69, 70, 71, 72, 73, 74, 75, 76, 77, 78, 79, 80, 81, 82, 83, 84, 85, 86, 87, 88, 89, 90, 91, 92, 93, 94, 95, 96, 97, 98, 99, 100, 101, 102, 103, 104, 105, 106, 107, 108, 109, 110, 111, 112, 113, 114, 115, 116, 117, 118, 119, 120, 1064, 1065, 1006, 1007, 1008, 1009, 1010, 1011, 1012, 1013, 1014, 1015, 1016, 1017, 1018, 1019, 1066, 1067, 1068, 1069, 1070, 1071, 1072, 1073, 1074, 1075, 1076, 1077, 1078, 1079, 1080, 1081, 1082, 1083, 1084, 1085, 1086, 1087, 1088, 1089, 1090, 1091, 1092, 1093, 1094, 1095, 1096, 1097, 1098, 1099, 1100, 1101, 1102, 1103, 1104, 1105, 1106, 1107] (by decide +kernel) (by decide +kernel)
set_option maxRecDepth 20000 in
theorem gL_law_X9_init : GoodIn wsL_law (wsX9_init) := ggL_law_X9_init
set_option maxRecDepth 20000 in
theorem ggL_law_X10_init : GoodIn wsL_law wsX10_init := goodIn_r _ [123, 124, 10, 11, 49, 125, 126, 127, 128, 129, 130, 131, 132, 76, 133, 134, 135, 136, 137, 138, 139, 140, 141, 142, 143, 144, 145, 146, 147, 148, 149, 150, 151, 152, 153, 154, 155, 156, 157, 158, 159, 1020, 1021, 1022, 1023, 1024, 1025, 1026, 1027, 1028, 1029, 1030, 1031, 1032, 1033, 1034, 1035, 1036, 1037, 1038, 1039, 1040, 1041, 1042, 1043, 1044, 1045, 1046, 1047, 1048, 1049, 1050, 1051, 1052, 1053, 1054, 1055, 1056, 1057, 1058, 1059, 1060, 1061, 1062, 1063] (by decide +kernel) (by decide +kernel)
set_option maxRecDepth 20000 in
theorem gL_law_X10_init : GoodIn wsL_law (wsX10_init) := ggL_law_X10_init
set_option maxRecDepth 20000 in
theorem ggL_law_X9_letter : GoodIn wsL_law wsX9_letter := goodIn_r _ [163, 19, 164, 165, 18, 166, 167, 168, 2, 169, 170, 171, 172, 173, 67, 1006, 1007, 1008, 1009, 1010, 1011, 1012, 1013, 1014, 1015, 1016, 1017, 1018, 1019, 1066, 1067, 1068, 1069, 1070, 1071, 1072, 1073, 1074, 1075] (by decide +kernel) (by decide +kernel)
set_option maxRecDepth 20000 in
theorem gL_law_X9_letter : GoodIn wsL_law (wsV RL 13 RX9 yX9_letter wsX9_letter) := goodIn_app (goodIn_of _ (by decide +kernel)) ggL_law_X9_letter
set_option maxRecDepth 20000 in
theorem ggL_law_X10_letter : GoodIn wsL_law wsX10_letter := goodIn_r _ [177, 126, 178, 179, 5, 180, 181, 182, 183, 1020, 1021, 1022, 1023, 1024, 1025, 1026, 1027, 1028, 1029, 1030, 1031, 1032, 1033, 1034, 1035, 1036, 1037, 1038, 1039, 1040, 1041, 1042, 1043, 1044, 1045, 1046, 1047, 1048, 1049, 1050, 1051, 1052, 1053, 1054, 1055, 1056, 1057, 1058, 1059, 1060, 1061, 1062, 1063] (by decide +kernel) (by decide +kernel)
set_option maxRecDepth 20000 in
theorem gL_law_X10_letter : GoodIn wsL_law (wsV RL 17 RX10 yX10_letter wsX10_letter) := goodIn_app (goodIn_of _ (by decide +kernel)) ggL_law_X10_letter
set_option maxRecDepth 20000 in
theorem ggL_law_X9_sheet : GoodIn wsL_law wsX9_sheet := goodIn_r _ [187, 15, 188, 189, 14, 190, 191, 192, 193, 2, 194, 195, 51, 196, 197, 198, 199, 58, 59, 200, 201, 62, 202, 1006, 1007, 1008, 1009, 1010, 1011, 1012, 1013, 1014, 1015, 1016, 1017, 1018, 1019, 1064, 1065] (by decide +kernel) (by decide +kernel)
set_option maxRecDepth 20000 in
theorem gL_law_X9_sheet : GoodIn wsL_law (wsV RL 18 RX9 yX9_sheet wsX9_sheet) := goodIn_app (goodIn_of _ (by decide +kernel)) ggL_law_X9_sheet
set_option maxRecDepth 20000 in
theorem ggL_law_X10_sheet : GoodIn wsL_law wsX10_sheet := goodIn_r _ [206, 127, 128, 207, 208, 5, 209, 181, 182, 183, 210, 211, 212, 213, 214, 125, 1020, 1021, 1022, 1023, 1024, 1025, 1026, 1027, 1028, 1029, 1030, 1031, 1032, 1033, 1034, 1035, 1036, 1037, 1038, 1039, 1040, 1041, 1042, 1043, 1044, 1045, 1046, 1047, 1048, 1049, 1050, 1051, 1052, 1053, 1054, 1055, 1056, 1057, 1058, 1059, 1060, 1061, 1062, 1063] (by decide +kernel) (by decide +kernel)
set_option maxRecDepth 20000 in
theorem gL_law_X10_sheet : GoodIn wsL_law (wsV RL 21 RX10 yX10_sheet wsX10_sheet) := goodIn_app (goodIn_of _ (by decide +kernel)) ggL_law_X10_sheet
set_option maxRecDepth 20000 in
theorem ggL_law_X9_lay : GoodIn wsL_law wsX9_lay := goodIn_r _ [218, 15, 188, 189, 14, 190, 219, 220, 221, 222, 59, 191, 192, 193, 2, 194, 195, 51, 223, 224, 225, 226, 227, 228, 229, 230, 58, 1006, 1007, 1008, 1009, 1010, 1011, 1012, 1013, 1014, 1015, 1016, 1017, 1018, 1019, 1064, 1065] (by decide +kernel) (by decide +kernel)
set_option maxRecDepth 20000 in
theorem gL_law_X9_lay : GoodIn wsL_law (wsV RL 22 RX9 yX9_lay wsX9_lay) := goodIn_app (goodIn_of _ (by decide +kernel)) ggL_law_X9_lay
set_option maxRecDepth 20000 in
theorem ggL_law_X10_lay : GoodIn wsL_law wsX10_lay := goodIn_r _ [234, 127, 128, 235, 236, 237, 5, 238, 207, 208, 209, 181, 182, 183, 210, 211, 212, 213, 214, 125, 1020, 1021, 1022, 1023, 1024, 1025, 1026, 1027, 1028, 1029, 1030, 1031, 1032, 1033, 1034, 1035, 1036, 1037, 1038, 1039, 1040, 1041, 1042, 1043, 1044, 1045, 1046, 1047, 1048, 1049, 1050, 1051, 1052, 1053, 1054, 1055, 1056, 1057, 1058, 1059, 1060, 1061, 1062, 1063] (by decide +kernel) (by decide +kernel)
set_option maxRecDepth 20000 in
theorem gL_law_X10_lay : GoodIn wsL_law (wsV RL 26 RX10 yX10_lay wsX10_lay) := goodIn_app (goodIn_of _ (by decide +kernel)) ggL_law_X10_lay
set_option maxRecDepth 20000 in
theorem ggL_law_X9_tear : GoodIn wsL_law wsX9_tear := goodIn_r _ [242, 15, 188, 189, 14, 190, 219, 220, 221, 222, 59, 191, 192, 193, 2, 194, 195, 51, 243, 244, 245, 246, 1006, 1007, 1008, 1009, 1010, 1011, 1012, 1013, 1014, 1015, 1016, 1017, 1018, 1019, 1064, 1065] (by decide +kernel) (by decide +kernel)
set_option maxRecDepth 20000 in
theorem gL_law_X9_tear : GoodIn wsL_law (wsV RL 27 RX9 yX9_tear wsX9_tear) := goodIn_app (goodIn_of _ (by decide +kernel)) ggL_law_X9_tear
set_option maxRecDepth 20000 in
theorem ggL_law_X10_tear : GoodIn wsL_law wsX10_tear := goodIn_r _ [250, 127, 235, 236, 237, 5, 238, 207, 208, 209, 181, 182, 183, 210, 211, 212, 213, 214, 125, 1020, 1021, 1022, 1023, 1024, 1025, 1026, 1027, 1028, 1029, 1030, 1031, 1032, 1033, 1034, 1035, 1036, 1037, 1038, 1039, 1040, 1041, 1042, 1043, 1044, 1045, 1046, 1047, 1048, 1049, 1050, 1051, 1052, 1053, 1054, 1055, 1056, 1057, 1058, 1059, 1060, 1061, 1062, 1063] (by decide +kernel) (by decide +kernel)
set_option maxRecDepth 20000 in
theorem gL_law_X10_tear : GoodIn wsL_law (wsV RL 31 RX10 yX10_tear wsX10_tear) := goodIn_app (goodIn_of _ (by decide +kernel)) ggL_law_X10_tear
set_option maxRecDepth 20000 in
theorem ggL_law_X9_copy : GoodIn wsL_law wsX9_copy := goodIn_r _ [254, 15, 188, 189, 14, 190, 191, 192, 193, 2, 194, 195, 51, 219, 220, 221, 222, 59, 223, 224, 225, 226, 255, 256, 257, 258, 58, 259, 260, 261, 262, 1006, 1007, 1008, 1009, 1010, 1011, 1012, 1013, 1014, 1015, 1016, 1017, 1018, 1019, 1064, 1065] (by decide +kernel) (by decide +kernel)
set_option maxRecDepth 20000 in
theorem gL_law_X9_copy : GoodIn wsL_law (wsV RL 32 RX9 yX9_copy wsX9_copy) := goodIn_app (goodIn_of _ (by decide +kernel)) ggL_law_X9_copy
set_option maxRecDepth 20000 in
theorem ggL_law_X10_copy : GoodIn wsL_law wsX10_copy := goodIn_r _ [266, 127, 129, 128, 207, 208, 5, 209, 181, 182, 183, 210, 211, 212, 213, 214, 125, 1020, 1021, 1022, 1023, 1024, 1025, 1026, 1027, 1028, 1029, 1030, 1031, 1032, 1033, 1034, 1035, 1036, 1037, 1038, 1039, 1040, 1041, 1042, 1043, 1044, 1045, 1046, 1047, 1048, 1049, 1050, 1051, 1052, 1053, 1054, 1055, 1056, 1057, 1058, 1059, 1060, 1061, 1062, 1063] (by decide +kernel) (by decide +kernel)
set_option maxRecDepth 20000 in
theorem gL_law_X10_copy : GoodIn wsL_law (wsV RL 36 RX10 yX10_copy wsX10_copy) := goodIn_app (goodIn_of _ (by decide +kernel)) ggL_law_X10_copy
set_option maxRecDepth 20000 in
theorem ggL_law_X9_word : GoodIn wsL_law wsX9_word := goodIn_r _ [270, 19, 15, 271, 272, 188, 189, 14, 190, 273, 274, 275, 18, 276, 277, 219, 220, 221, 222, 59, 191, 192, 193, 2, 194, 195, 51, 278, 279, 280, 281, 282, 283, 284, 285, 165, 166, 286, 287, 288, 289, 69, 70, 71, 72, 290, 291, 292, 293, 73, 74, 75, 1006, 1007, 1008, 1009, 1010, 1011, 1012, 1013, 1014, 1015, 1016, 1017, 1018, 1019, 1064, 1065, 1066, 1067, 1068, 1069, 1070, 1071, 1072, 1073, 1074, 1075] (by decide +kernel) (by decide +kernel)
set_option maxRecDepth 20000 in
theorem gL_law_X9_word : GoodIn wsL_law (wsV RL 37 RX9 yX9_word wsX9_word) := goodIn_app (goodIn_of _ (by decide +kernel)) ggL_law_X9_word
set_option maxRecDepth 20000 in
theorem ggL_law_X10_word : GoodIn wsL_law wsX10_word := goodIn_r _ [297, 298, 127, 207, 208, 5, 209, 181, 182, 183, 210, 211, 212, 213, 214, 125, 299, 300, 301, 302, 128, 132, 130, 131, 134, 135, 136, 137, 303, 304, 305, 306, 178, 179, 180, 1020, 1021, 1022, 1023, 1024, 1025, 1026, 1027, 1028, 1029, 1030, 1031, 1032, 1033, 1034, 1035, 1036, 1037, 1038, 1039, 1040, 1041, 1042, 1043, 1044, 1045, 1046, 1047, 1048, 1049, 1050, 1051, 1052, 1053, 1054, 1055, 1056, 1057, 1058, 1059, 1060, 1061, 1062, 1063] (by decide +kernel) (by decide +kernel)
set_option maxRecDepth 20000 in
theorem gL_law_X10_word : GoodIn wsL_law (wsV RL 40 RX10 yX10_word wsX10_word) := goodIn_app (goodIn_of _ (by decide +kernel)) ggL_law_X10_word
set_option maxRecDepth 20000 in
theorem ggL_law_X9_firm : GoodIn wsL_law wsX9_firm := goodIn_r _ [310, 19, 15, 311, 271, 272, 188, 189, 14, 190, 312, 313, 26, 314, 315, 316, 317, 18, 318, 277, 319, 320, 321, 273, 274, 275, 276, 219, 220, 221, 222, 59, 191, 192, 193, 2, 194, 195, 51, 322, 323, 324, 325, 71, 278, 279, 280, 281, 282, 283, 284, 285, 165, 166, 286, 287, 288, 289, 69, 70, 72, 290, 291, 292, 293, 73, 74, 75, 326, 1006, 1007, 1008, 1009, 1010, 1011, 1012, 1013, 1014, 1015, 1016, 1017, 1018, 1019, 1066, 1067, 1068, 1069, 1070, 1071, 1072, 1073, 1074, 1075, 1064, 1065] (by decide +kernel) (by decide +kernel)
set_option maxRecDepth 20000 in
theorem gL_law_X9_firm : GoodIn wsL_law (wsV RL 41 RX9 yX9_firm wsX9_firm) := goodIn_app (goodIn_of _ (by decide +kernel)) ggL_law_X9_firm
set_option maxRecDepth 20000 in
theorem ggL_law_X10_firm : GoodIn wsL_law wsX10_firm := goodIn_r _ [330, 298, 127, 133, 207, 208, 5, 209, 181, 182, 183, 331, 332, 333, 334, 335, 336, 337, 338, 339, 340, 210, 211, 212, 213, 214, 125, 341, 342, 343, 344, 130, 299, 300, 301, 302, 128, 132, 131, 134, 135, 136, 137, 303, 304, 305, 306, 178, 179, 180, 1020, 1021, 1022, 1023, 1024, 1025, 1026, 1027, 1028, 1029, 1030, 1031, 1032, 1033, 1034, 1035, 1036, 1037, 1038, 1039, 1040, 1041, 1042, 1043, 1044, 1045, 1046, 1047, 1048, 1049, 1050, 1051, 1052, 1053, 1054, 1055, 1056, 1057, 1058, 1059, 1060, 1061, 1062, 1063] (by decide +kernel) (by decide +kernel)
set_option maxRecDepth 20000 in
theorem gL_law_X10_firm : GoodIn wsL_law (wsV RL 44 RX10 yX10_firm wsX10_firm) := goodIn_app (goodIn_of _ (by decide +kernel)) ggL_law_X10_firm
set_option maxRecDepth 20000 in
theorem ggL_law_X9_slogan : GoodIn wsL_law wsX9_slogan := goodIn_r _ [348, 19, 15, 311, 271, 272, 349, 350, 351, 188, 189, 14, 190, 315, 316, 317, 18, 318, 277, 273, 274, 275, 276, 219, 220, 221, 222, 59, 191, 192, 193, 2, 194, 195, 51, 322, 323, 324, 325, 71, 278, 279, 280, 281, 282, 283, 284, 285, 165, 166, 286, 287, 288, 289, 69, 70, 72, 290, 291, 292, 293, 73, 74, 75, 326, 1006, 1007, 1008, 1009, 1010, 1011, 1012, 1013, 1014, 1015, 1016, 1017, 1018, 1019, 1066, 1067, 1068, 1069, 1070, 1071, 1072, 1073, 1074, 1075, 1064, 1065] (by decide +kernel) (by decide +kernel)
set_option maxRecDepth 20000 in
theorem gL_law_X9_slogan : GoodIn wsL_law (wsV RL 45 RX9 yX9_slogan wsX9_slogan) := goodIn_app (goodIn_of _ (by decide +kernel)) ggL_law_X9_slogan
set_option maxRecDepth 20000 in
theorem ggL_law_X10_slogan : GoodIn wsL_law wsX10_slogan := goodIn_r _ [355, 298, 127, 133, 134, 135, 136, 207, 208, 5, 209, 181, 182, 183, 337, 338, 339, 340, 210, 211, 212, 213, 214, 125, 341, 342, 343, 344, 130, 299, 300, 301, 302, 128, 132, 131, 137, 303, 304, 305, 306, 178, 179, 180, 1020, 1021, 1022, 1023, 1024, 1025, 1026, 1027, 1028, 1029, 1030, 1031, 1032, 1033, 1034, 1035, 1036, 1037, 1038, 1039, 1040, 1041, 1042, 1043, 1044, 1045, 1046, 1047, 1048, 1049, 1050, 1051, 1052, 1053, 1054, 1055, 1056, 1057, 1058, 1059, 1060, 1061, 1062, 1063] (by decide +kernel) (by decide +kernel)
set_option maxRecDepth 20000 in
theorem gL_law_X10_slogan : GoodIn wsL_law (wsV RL 48 RX10 yX10_slogan wsX10_slogan) := goodIn_app (goodIn_of _ (by decide +kernel)) ggL_law_X10_slogan
set_option maxRecDepth 20000 in
theorem ggL_law_X9_strike : GoodIn wsL_law wsX9_strike := goodIn_r _ [359, 19, 311, 315, 316, 317, 18, 318, 277, 191, 192, 193, 2, 194, 195, 51, 360, 361, 362, 363, 21, 364, 365, 366, 23, 367, 368, 83, 369, 370, 371, 372, 77, 72, 1006, 1007, 1008, 1009, 1010, 1011, 1012, 1013, 1014, 1015, 1016, 1017, 1018, 1019, 1066, 1067, 1068, 1069, 1070, 1071, 1072, 1073, 1074, 1075, 1076, 1077, 1078, 1079, 1080] (by decide +kernel) (by decide +kernel)
set_option maxRecDepth 20000 in
theorem gL_law_X9_strike : GoodIn wsL_law (wsV RL 49 RX9 yX9_strike wsX9_strike) := goodIn_app (goodIn_of _ (by decide +kernel)) ggL_law_X9_strike
set_option maxRecDepth 20000 in
theorem ggL_law_X10_strike : GoodIn wsL_law wsX10_strike := goodIn_r _ [376, 140, 141, 133, 377, 378, 379, 5, 380, 337, 338, 339, 340, 298, 181, 182, 183, 210, 211, 212, 213, 214, 125, 381, 382, 383, 384, 137, 1020, 1021, 1022, 1023, 1024, 1025, 1026, 1027, 1028, 1029, 1030, 1031, 1032, 1033, 1034, 1035, 1036, 1037, 1038, 1039, 1040, 1041, 1042, 1043, 1044, 1045, 1046, 1047, 1048, 1049, 1050, 1051, 1052, 1053, 1054, 1055, 1056, 1057, 1058, 1059, 1060, 1061, 1062, 1063] (by decide +kernel) (by decide +kernel)
set_option maxRecDepth 20000 in
theorem gL_law_X10_strike : GoodIn wsL_law (wsV RL 52 RX10 yX10_strike wsX10_strike) := goodIn_app (goodIn_of _ (by decide +kernel)) ggL_law_X10_strike
set_option maxRecDepth 20000 in
theorem ggL_law_X9_told : GoodIn wsL_law wsX9_told := goodIn_r _ [388, 19, 311, 315, 316, 317, 18, 318, 277, 191, 192, 193, 2, 194, 195, 51, 389, 390, 391, 392, 71, 70, 74, 75, 73, 393, 394, 395, 396, 397, 398, 399, 400, 67, 69, 401, 402, 403, 404, 405, 406, 407, 1006, 1007, 1008, 1009, 1010, 1011, 1012, 1013, 1014, 1015, 1016, 1017, 1018, 1019, 1066, 1067, 1068, 1069, 1070, 1071, 1072, 1073, 1074, 1075] (by decide +kernel) (by decide +kernel)
set_option maxRecDepth 20000 in
theorem gL_law_X9_told : GoodIn wsL_law (wsV RL 53 RX9 yX9_told wsX9_told) := goodIn_app (goodIn_of _ (by decide +kernel)) ggL_law_X9_told
set_option maxRecDepth 20000 in
theorem ggL_law_X10_told : GoodIn wsL_law wsX10_told := goodIn_r _ [411, 181, 182, 5, 183, 377, 378, 379, 380, 133, 337, 338, 339, 340, 298, 210, 211, 212, 213, 214, 125, 412, 413, 414, 415, 131, 126, 132, 130, 135, 136, 134, 416, 417, 418, 1020, 1021, 1022, 1023, 1024, 1025, 1026, 1027, 1028, 1029, 1030, 1031, 1032, 1033, 1034, 1035, 1036, 1037, 1038, 1039, 1040, 1041, 1042, 1043, 1044, 1045, 1046, 1047, 1048, 1049, 1050, 1051, 1052, 1053, 1054, 1055, 1056, 1057, 1058, 1059, 1060, 1061, 1062, 1063] (by decide +kernel) (by decide +kernel)
set_option maxRecDepth 20000 in
theorem gL_law_X10_told : GoodIn wsL_law (wsV RL 56 RX10 yX10_told wsX10_told) := goodIn_app (goodIn_of _ (by decide +kernel)) ggL_law_X10_told
set_option maxRecDepth 20000 in
theorem ggL_law_X9_mark : GoodIn wsL_law wsX9_mark := goodIn_r _ [422, 19, 311, 423, 315, 316, 317, 18, 318, 277, 191, 192, 193, 2, 194, 195, 51, 322, 323, 324, 325, 71, 369, 370, 371, 372, 77, 72, 424, 425, 426, 427, 1006, 1007, 1008, 1009, 1010, 1011, 1012, 1013, 1014, 1015, 1016, 1017, 1018, 1019, 1066, 1067, 1068, 1069, 1070, 1071, 1072, 1073, 1074, 1075] (by decide +kernel) (by decide +kernel)
set_option maxRecDepth 20000 in
theorem gL_law_X9_mark : GoodIn wsL_law (wsV RL 57 RX9 yX9_mark wsX9_mark) := goodIn_app (goodIn_of _ (by decide +kernel)) ggL_law_X9_mark
set_option maxRecDepth 20000 in
theorem ggL_law_X10_mark : GoodIn wsL_law wsX10_mark := goodIn_r _ [431, 130, 137, 181, 182, 5, 183, 377, 378, 379, 380, 133, 337, 338, 339, 340, 298, 210, 211, 212, 213, 214, 125, 381, 382, 383, 384, 1020, 1021, 1022, 1023, 1024, 1025, 1026, 1027, 1028, 1029, 1030, 1031, 1032, 1033, 1034, 1035, 1036, 1037, 1038, 1039, 1040, 1041, 1042, 1043, 1044, 1045, 1046, 1047, 1048, 1049, 1050, 1051, 1052, 1053, 1054, 1055, 1056, 1057, 1058, 1059, 1060, 1061, 1062, 1063] (by decide +kernel) (by decide +kernel)
set_option maxRecDepth 20000 in
theorem gL_law_X10_mark : GoodIn wsL_law (wsV RL 60 RX10 yX10_mark wsX10_mark) := goodIn_app (goodIn_of _ (by decide +kernel)) ggL_law_X10_mark
set_option maxRecDepth 20000 in
theorem ggL_law_X9_mean : GoodIn wsL_law wsX9_mean := goodIn_r _ [435, 19, 436, 437, 438, 18, 439, 277, 77, 191, 192, 193, 2, 194, 195, 51, 440, 441, 442, 443, 70, 1006, 1007, 1008, 1009, 1010, 1011, 1012, 1013, 1014, 1015, 1016, 1017, 1018, 1019, 1066, 1067, 1068, 1069, 1070, 1071, 1072, 1073, 1074, 1075] (by decide +kernel) (by decide +kernel)
set_option maxRecDepth 20000 in
theorem gL_law_X9_mean : GoodIn wsL_law (wsV RL 61 RX9 yX9_mean wsX9_mean) := goodIn_app (goodIn_of _ (by decide +kernel)) ggL_law_X9_mean
set_option maxRecDepth 20000 in
theorem ggL_law_X10_mean : GoodIn wsL_law wsX10_mean := goodIn_r _ [447, 298, 133, 131, 210, 211, 212, 5, 213, 214, 125, 1020, 1021, 1022, 1023, 1024, 1025, 1026, 1027, 1028, 1029, 1030, 1031, 1032, 1033, 1034, 1035, 1036, 1037, 1038, 1039, 1040, 1041, 1042, 1043, 1044, 1045, 1046, 1047, 1048, 1049, 1050, 1051, 1052, 1053, 1054, 1055, 1056, 1057, 1058, 1059, 1060, 1061, 1062, 1063] (by decide +kernel) (by decide +kernel)
set_option maxRecDepth 20000 in
theorem gL_law_X10_mean : GoodIn wsL_law (wsV RL 65 RX10 yX10_mean wsX10_mean) := goodIn_app (goodIn_of _ (by decide +kernel)) ggL_law_X10_mean
set_option maxRecDepth 20000 in
theorem ggL_law_X9_see : GoodIn wsL_law wsX9_see := goodIn_r _ [451, 21, 452, 453, 2, 454, 167, 168, 169, 455, 456, 457, 191, 192, 193, 194, 195, 51, 458, 459, 460, 23, 461, 82, 462, 463, 464, 465, 466, 402, 403, 404, 405, 406, 407, 1006, 1007, 1008, 1009, 1010, 1011, 1012, 1013, 1014, 1015, 1016, 1017, 1018, 1019, 1076, 1077, 1078, 1079, 1080] (by decide +kernel) (by decide +kernel)
set_option maxRecDepth 20000 in
theorem gL_law_X9_see : GoodIn wsL_law (wsV RL 66 RX9 yX9_see wsX9_see) := goodIn_app (goodIn_of _ (by decide +kernel)) ggL_law_X9_see
set_option maxRecDepth 20000 in
theorem ggL_law_X10_see : GoodIn wsL_law wsX10_see := goodIn_r _ [470, 138, 471, 472, 5, 473, 181, 182, 183, 474, 475, 476, 210, 211, 212, 213, 214, 125, 1020, 1021, 1022, 1023, 1024, 1025, 1026, 1027, 1028, 1029, 1030, 1031, 1032, 1033, 1034, 1035, 1036, 1037, 1038, 1039, 1040, 1041, 1042, 1043, 1044, 1045, 1046, 1047, 1048, 1049, 1050, 1051, 1052, 1053, 1054, 1055, 1056, 1057, 1058, 1059, 1060, 1061, 1062, 1063] (by decide +kernel) (by decide +kernel)
set_option maxRecDepth 20000 in
theorem gL_law_X10_see : GoodIn wsL_law (wsV RL 70 RX10 yX10_see wsX10_see) := goodIn_app (goodIn_of _ (by decide +kernel)) ggL_law_X10_see
set_option maxRecDepth 20000 in
theorem ggL_law_X9_seen : GoodIn wsL_law wsX9_seen := goodIn_r _ [480, 21, 452, 453, 2, 454, 455, 456, 457, 191, 192, 193, 194, 195, 51, 481, 482, 483, 23, 484, 82, 1006, 1007, 1008, 1009, 1010, 1011, 1012, 1013, 1014, 1015, 1016, 1017, 1018, 1019, 1076, 1077, 1078, 1079, 1080] (by decide +kernel) (by decide +kernel)
set_option maxRecDepth 20000 in
theorem gL_law_X9_seen : GoodIn wsL_law (wsV RL 71 RX9 yX9_seen wsX9_seen) := goodIn_app (goodIn_of _ (by decide +kernel)) ggL_law_X9_seen
set_option maxRecDepth 20000 in
theorem ggL_law_X10_seen : GoodIn wsL_law wsX10_seen := goodIn_r _ [488, 138, 471, 472, 5, 473, 181, 182, 183, 474, 475, 476, 210, 211, 212, 213, 214, 125, 1020, 1021, 1022, 1023, 1024, 1025, 1026, 1027, 1028, 1029, 1030, 1031, 1032, 1033, 1034, 1035, 1036, 1037, 1038, 1039, 1040, 1041, 1042, 1043, 1044, 1045, 1046, 1047, 1048, 1049, 1050, 1051, 1052, 1053, 1054, 1055, 1056, 1057, 1058, 1059, 1060, 1061, 1062, 1063] (by decide +kernel) (by decide +kernel)
set_option maxRecDepth 20000 in
theorem gL_law_X10_seen : GoodIn wsL_law (wsV RL 74 RX10 yX10_seen wsX10_seen) := goodIn_app (goodIn_of _ (by decide +kernel)) ggL_law_X10_seen
set_option maxRecDepth 20000 in
theorem ggL_law_X9_lack : GoodIn wsL_law wsX9_lack := goodIn_r _ [492, 19, 311, 21, 452, 453, 2, 454, 315, 316, 317, 18, 318, 277, 493, 494, 495, 191, 192, 193, 194, 195, 51, 496, 497, 498, 499, 70, 500, 501, 502, 503, 504, 505, 398, 399, 400, 67, 69, 506, 463, 464, 23, 465, 82, 507, 402, 403, 404, 405, 406, 407, 1006, 1007, 1008, 1009, 1010, 1011, 1012, 1013, 1014, 1015, 1016, 1017, 1018, 1019, 1066, 1067, 1068, 1069, 1070, 1071, 1072, 1073, 1074, 1075, 1076, 1077, 1078, 1079, 1080] (by decide +kernel) (by decide +kernel)
set_option maxRecDepth 20000 in
theorem gL_law_X9_lack : GoodIn wsL_law (wsV RL 75 RX9 yX9_lack wsX9_lack) := goodIn_app (goodIn_of _ (by decide +kernel)) ggL_law_X9_lack
set_option maxRecDepth 20000 in
theorem ggL_law_X10_lack : GoodIn wsL_law wsX10_lack := goodIn_r _ [511, 471, 472, 5, 473, 181, 182, 183, 512, 513, 514, 377, 378, 379, 380, 133, 337, 338, 339, 340, 298, 210, 211, 212, 213, 214, 125, 515, 516, 517, 518, 131, 519, 520, 521, 522, 138, 523, 524, 525, 526, 126, 132, 1020, 1021, 1022, 1023, 1024, 1025, 1026, 1027, 1028, 1029, 1030, 1031, 1032, 1033, 1034, 1035, 1036, 1037, 1038, 1039, 1040, 1041, 1042, 1043, 1044, 1045, 1046, 1047, 1048, 1049, 1050, 1051, 1052, 1053, 1054, 1055, 1056, 1057, 1058, 1059, 1060, 1061, 1062, 1063] (by decide +kernel) (by decide +kernel)
set_option maxRecDepth 20000 in
theorem gL_law_X10_lack : GoodIn wsL_law (wsV RL 78 RX10 yX10_lack wsX10_lack) := goodIn_app (goodIn_of _ (by decide +kernel)) ggL_law_X10_lack
set_option maxRecDepth 20000 in
theorem ggL_law_X9_reading : GoodIn wsL_law wsX9_reading := goodIn_r _ [530, 21, 43, 531, 532, 533, 452, 453, 2, 454, 493, 494, 495, 534, 535, 536, 537, 538, 19, 539, 540, 541, 542, 18, 543, 77, 544, 316, 317, 318, 277, 496, 497, 498, 499, 70, 500, 501, 502, 503, 504, 505, 398, 399, 400, 67, 69, 506, 463, 464, 23, 465, 82, 507, 402, 403, 404, 405, 406, 407, 545, 546, 547, 548, 549, 550, 551, 42, 552, 114, 553, 115, 116, 117, 554, 555, 556, 557, 558, 559, 560, 561, 562, 563, 564, 565, 1006, 1007, 1008, 1009, 1010, 1011, 1012, 1013, 1014, 1015, 1016, 1017, 1018, 1019, 1099, 1100, 1101, 1102, 1103, 1066, 1067, 1068, 1069, 1070, 1071, 1072, 1073, 1074, 1075, 1076, 1077, 1078, 1079, 1080] (by decide +kernel) (by decide +kernel)
set_option maxRecDepth 20000 in
theorem gL_law_X9_reading : GoodIn wsL_law (wsV RL 79 RX9 yX9_reading wsX9_reading) := goodIn_app (goodIn_of _ (by decide +kernel)) ggL_law_X9_reading
set_option maxRecDepth 20000 in
theorem ggL_law_X10_reading : GoodIn wsL_law wsX10_reading := goodIn_r _ [569, 570, 139, 571, 471, 472, 5, 473, 181, 182, 183, 512, 513, 514, 572, 573, 574, 575, 298, 133, 515, 516, 517, 518, 131, 519, 520, 521, 522, 138, 523, 524, 525, 526, 126, 132, 1020, 1021, 1022, 1023, 1024, 1025, 1026, 1027, 1028, 1029, 1030, 1031, 1032, 1033, 1034, 1035, 1036, 1037, 1038, 1039, 1040, 1041, 1042, 1043, 1044, 1045, 1046, 1047, 1048, 1049, 1050, 1051, 1052, 1053, 1054, 1055, 1056, 1057, 1058, 1059, 1060, 1061, 1062, 1063] (by decide +kernel) (by decide +kernel)
set_option maxRecDepth 20000 in
theorem gL_law_X10_reading : GoodIn wsL_law (wsV RL 82 RX10 yX10_reading wsX10_reading) := goodIn_app (goodIn_of _ (by decide +kernel)) ggL_law_X10_reading
set_option maxRecDepth 20000 in
theorem ggL_law_X9_rivals : GoodIn wsL_law wsX9_rivals := goodIn_r _ [579, 21, 43, 452, 453, 2, 454, 493, 494, 495, 534, 535, 536, 537, 538, 19, 539, 540, 541, 542, 18, 543, 77, 544, 316, 317, 318, 277, 496, 497, 498, 499, 70, 500, 501, 502, 503, 504, 505, 398, 399, 400, 67, 69, 506, 463, 464, 23, 465, 82, 507, 402, 403, 404, 405, 406, 407, 545, 546, 547, 548, 549, 550, 551, 42, 552, 114, 553, 115, 116, 117, 580, 581, 582, 583, 558, 559, 560, 561, 562, 563, 564, 565, 1006, 1007, 1008, 1009, 1010, 1011, 1012, 1013, 1014, 1015, 1016, 1017, 1018, 1019, 1099, 1100, 1101, 1102, 1103, 1066, 1067, 1068, 1069, 1070, 1071, 1072, 1073, 1074, 1075, 1076, 1077, 1078, 1079, 1080] (by decide +kernel) (by decide +kernel)
set_option maxRecDepth 20000 in
theorem gL_law_X9_rivals : GoodIn wsL_law (wsV RL 83 RX9 yX9_rivals wsX9_rivals) := goodIn_app (goodIn_of _ (by decide +kernel)) ggL_law_X9_rivals
set_option maxRecDepth 20000 in
theorem ggL_law_X10_rivals : GoodIn wsL_law wsX10_rivals := goodIn_r _ [587, 570, 471, 472, 5, 473, 181, 182, 183, 512, 513, 514, 572, 573, 574, 575, 298, 133, 139, 515, 516, 517, 518, 131, 519, 520, 521, 522, 138, 523, 524, 525, 526, 126, 132, 1020, 1021, 1022, 1023, 1024, 1025, 1026, 1027, 1028, 1029, 1030, 1031, 1032, 1033, 1034, 1035, 1036, 1037, 1038, 1039, 1040, 1041, 1042, 1043, 1044, 1045, 1046, 1047, 1048, 1049, 1050, 1051, 1052, 1053, 1054, 1055, 1056, 1057, 1058, 1059, 1060, 1061, 1062, 1063] (by decide +kernel) (by decide +kernel)
set_option maxRecDepth 20000 in
theorem gL_law_X10_rivals : GoodIn wsL_law (wsV RL 86 RX10 yX10_rivals wsX10_rivals) := goodIn_app (goodIn_of _ (by decide +kernel)) ggL_law_X10_rivals
set_option maxRecDepth 20000 in
theorem ggL_law_X9_layer : GoodIn wsL_law wsX9_layer := goodIn_r _ [591, 19, 21, 311, 592, 452, 453, 2, 454, 315, 316, 317, 18, 318, 277, 493, 494, 495, 593, 594, 595, 23, 596, 368, 597, 598, 599, 600, 85, 191, 192, 193, 194, 195, 51, 496, 497, 498, 499, 70, 601, 602, 603, 604, 83, 84, 1006, 1007, 1008, 1009, 1010, 1011, 1012, 1013, 1014, 1015, 1016, 1017, 1018, 1019, 1066, 1067, 1068, 1069, 1070, 1071, 1072, 1073, 1074, 1075, 1076, 1077, 1078, 1079, 1080] (by decide +kernel) (by decide +kernel)
set_option maxRecDepth 20000 in
theorem gL_law_X9_layer : GoodIn wsL_law (wsV RL 87 RX9 yX9_layer wsX9_layer) := goodIn_app (goodIn_of _ (by decide +kernel)) ggL_law_X9_layer
set_option maxRecDepth 20000 in
theorem ggL_law_X10_layer : GoodIn wsL_law wsX10_layer := goodIn_r _ [608, 140, 143, 133, 471, 472, 5, 473, 181, 182, 183, 512, 513, 514, 337, 338, 339, 340, 298, 210, 211, 212, 213, 214, 125, 515, 516, 517, 518, 131, 609, 610, 611, 612, 141, 142, 1020, 1021, 1022, 1023, 1024, 1025, 1026, 1027, 1028, 1029, 1030, 1031, 1032, 1033, 1034, 1035, 1036, 1037, 1038, 1039, 1040, 1041, 1042, 1043, 1044, 1045, 1046, 1047, 1048, 1049, 1050, 1051, 1052, 1053, 1054, 1055, 1056, 1057, 1058, 1059, 1060, 1061, 1062, 1063] (by decide +kernel) (by decide +kernel)
set_option maxRecDepth 20000 in
theorem gL_law_X10_layer : GoodIn wsL_law (wsV RL 90 RX10 yX10_layer wsX10_layer) := goodIn_app (goodIn_of _ (by decide +kernel)) ggL_law_X10_layer
set_option maxRecDepth 20000 in
theorem ggL_law_X9_bare : GoodIn wsL_law wsX9_bare := goodIn_r _ [616, 21, 592, 452, 453, 2, 454, 1006, 1007, 1008, 1009, 1010, 1011, 1012, 1013, 1014, 1015, 1016, 1017, 1018, 1019, 1076, 1077, 1078, 1079, 1080] (by decide +kernel) (by decide +kernel)
set_option maxRecDepth 20000 in
theorem gL_law_X9_bare : GoodIn wsL_law (wsV RL 91 RX9 yX9_bare wsX9_bare) := goodIn_app (goodIn_of _ (by decide +kernel)) ggL_law_X9_bare
set_option maxRecDepth 20000 in
theorem ggL_law_X10_bare : GoodIn wsL_law wsX10_bare := goodIn_r _ [620, 140, 471, 472, 5, 473, 181, 182, 183, 1020, 1021, 1022, 1023, 1024, 1025, 1026, 1027, 1028, 1029, 1030, 1031, 1032, 1033, 1034, 1035, 1036, 1037, 1038, 1039, 1040, 1041, 1042, 1043, 1044, 1045, 1046, 1047, 1048, 1049, 1050, 1051, 1052, 1053, 1054, 1055, 1056, 1057, 1058, 1059, 1060, 1061, 1062, 1063] (by decide +kernel) (by decide +kernel)
set_option maxRecDepth 20000 in
theorem gL_law_X10_bare : GoodIn wsL_law (wsV RL 94 RX10 yX10_bare wsX10_bare) := goodIn_app (goodIn_of _ (by decide +kernel)) ggL_law_X10_bare
set_option maxRecDepth 20000 in
theorem ggL_law_X9_layerTold : GoodIn wsL_law wsX9_layerTold := goodIn_r _ [624, 21, 592, 452, 453, 2, 454, 625, 626, 627, 23, 628, 83, 84, 85, 1006, 1007, 1008, 1009, 1010, 1011, 1012, 1013, 1014, 1015, 1016, 1017, 1018, 1019, 1076, 1077, 1078, 1079, 1080] (by decide +kernel) (by decide +kernel)
set_option maxRecDepth 20000 in
theorem gL_law_X9_layerTold : GoodIn wsL_law (wsV RL 95 RX9 yX9_layerTold wsX9_layerTold) := goodIn_app (goodIn_of _ (by decide +kernel)) ggL_law_X9_layerTold
set_option maxRecDepth 20000 in
theorem ggL_law_X10_layerTold : GoodIn wsL_law wsX10_layerTold := goodIn_r _ [632, 140, 141, 142, 143, 471, 472, 5, 473, 181, 182, 183, 1020, 1021, 1022, 1023, 1024, 1025, 1026, 1027, 1028, 1029, 1030, 1031, 1032, 1033, 1034, 1035, 1036, 1037, 1038, 1039, 1040, 1041, 1042, 1043, 1044, 1045, 1046, 1047, 1048, 1049, 1050, 1051, 1052, 1053, 1054, 1055, 1056, 1057, 1058, 1059, 1060, 1061, 1062, 1063] (by decide +kernel) (by decide +kernel)
set_option maxRecDepth 20000 in
theorem gL_law_X10_layerTold : GoodIn wsL_law (wsV RL 98 RX10 yX10_layerTold wsX10_layerTold) := goodIn_app (goodIn_of _ (by decide +kernel)) ggL_law_X10_layerTold
set_option maxRecDepth 20000 in
theorem ggL_law_X9_faded : GoodIn wsL_law wsX9_faded := goodIn_r _ [636, 21, 452, 453, 2, 454, 637, 638, 639, 640, 592, 641, 504, 642, 643, 644, 645, 19, 646, 647, 505, 398, 399, 18, 400, 70, 67, 69, 648, 649, 650, 651, 507, 402, 403, 404, 405, 406, 407, 1006, 1007, 1008, 1009, 1010, 1011, 1012, 1013, 1014, 1015, 1016, 1017, 1018, 1019, 1076, 1077, 1078, 1079, 1080, 1066, 1067, 1068, 1069, 1070, 1071, 1072, 1073, 1074, 1075] (by decide +kernel) (by decide +kernel)
set_option maxRecDepth 20000 in
theorem gL_law_X9_faded : GoodIn wsL_law (wsV RL 99 RX9 yX9_faded wsX9_faded) := goodIn_app (goodIn_of _ (by decide +kernel)) ggL_law_X9_faded
set_option maxRecDepth 20000 in
theorem ggL_law_X10_faded : GoodIn wsL_law wsX10_faded := goodIn_r _ [655, 471, 472, 5, 473, 181, 182, 183, 656, 657, 658, 659, 138, 140, 141, 142, 143, 523, 524, 525, 526, 131, 126, 132, 1020, 1021, 1022, 1023, 1024, 1025, 1026, 1027, 1028, 1029, 1030, 1031, 1032, 1033, 1034, 1035, 1036, 1037, 1038, 1039, 1040, 1041, 1042, 1043, 1044, 1045, 1046, 1047, 1048, 1049, 1050, 1051, 1052, 1053, 1054, 1055, 1056, 1057, 1058, 1059, 1060, 1061, 1062, 1063] (by decide +kernel) (by decide +kernel)
set_option maxRecDepth 20000 in
theorem gL_law_X10_faded : GoodIn wsL_law (wsV RL 102 RX10 yX10_faded wsX10_faded) := goodIn_app (goodIn_of _ (by decide +kernel)) ggL_law_X10_faded
set_option maxRecDepth 20000 in
theorem ggL_law_X9_two : GoodIn wsL_law wsX9_two := goodIn_r _ [663, 21, 43, 44, 48, 592, 664, 665, 666, 667, 452, 453, 2, 454, 493, 494, 495, 534, 535, 536, 537, 538, 19, 539, 540, 541, 542, 18, 543, 77, 544, 316, 317, 318, 277, 496, 497, 498, 499, 70, 500, 501, 502, 503, 504, 505, 398, 399, 400, 67, 69, 506, 463, 464, 23, 465, 82, 507, 402, 403, 404, 405, 406, 407, 545, 546, 547, 548, 549, 550, 551, 42, 552, 114, 553, 115, 116, 117, 668, 669, 670, 47, 671, 672, 673, 674, 675, 676, 677, 678, 679, 680, 681, 682, 683, 684, 685, 686, 687, 688, 689, 690, 691, 692, 693, 694, 695, 533, 531, 601, 602, 603, 604, 83, 368, 84, 85, 1006, 1007, 1008, 1009, 1010, 1011, 1012, 1013, 1014, 1015, 1016, 1017, 1018, 1019, 1076, 1077, 1078, 1079, 1080, 1104, 1105, 1106, 1107, 1099, 1100, 1101, 1102, 1103, 1066, 1067, 1068, 1069, 1070, 1071, 1072, 1073, 1074, 1075] (by decide +kernel) (by decide +kernel)
set_option maxRecDepth 20000 in
theorem gL_law_X9_two : GoodIn wsL_law (wsV RL 103 RX9 yX9_two wsX9_two) := goodIn_app (goodIn_of _ (by decide +kernel)) ggL_law_X9_two
set_option maxRecDepth 20000 in
theorem ggL_law_X10_two : GoodIn wsL_law wsX10_two := goodIn_r _ [699, 700, 298, 140, 144, 471, 472, 5, 473, 181, 182, 183, 512, 513, 514, 701, 702, 703, 704, 141, 145, 142, 143, 705, 706, 707, 708, 133, 515, 516, 517, 518, 131, 519, 520, 521, 522, 138, 523, 524, 525, 526, 126, 132, 709, 710, 711, 712, 609, 610, 611, 612, 656, 657, 658, 659, 1020, 1021, 1022, 1023, 1024, 1025, 1026, 1027, 1028, 1029, 1030, 1031, 1032, 1033, 1034, 1035, 1036, 1037, 1038, 1039, 1040, 1041, 1042, 1043, 1044, 1045, 1046, 1047, 1048, 1049, 1050, 1051, 1052, 1053, 1054, 1055, 1056, 1057, 1058, 1059, 1060, 1061, 1062, 1063] (by decide +kernel) (by decide +kernel)
set_option maxRecDepth 20000 in
theorem gL_law_X10_two : GoodIn wsL_law (wsV RL 106 RX10 yX10_two wsX10_two) := goodIn_app (goodIn_of _ (by decide +kernel)) ggL_law_X10_two
set_option maxRecDepth 20000 in
theorem ggL_law_X9_renumber : GoodIn wsL_law wsX9_renumber := goodIn_r _ [716, 27, 717, 319, 320, 26, 321, 718, 719, 720, 721, 722, 89, 723, 724, 725, 726, 727, 728, 729, 730, 90, 91, 1006, 1007, 1008, 1009, 1010, 1011, 1012, 1013, 1014, 1015, 1016, 1017, 1018, 1019, 1081, 1082, 1083, 1084, 1085, 1086] (by decide +kernel) (by decide +kernel)
set_option maxRecDepth 20000 in
theorem gL_law_X9_renumber : GoodIn wsL_law (wsV RL 107 RX9 yX9_renumber wsX9_renumber) := goodIn_app (goodIn_of _ (by decide +kernel)) ggL_law_X9_renumber
set_option maxRecDepth 20000 in
theorem ggL_law_X10_renumber : GoodIn wsL_law wsX10_renumber := goodIn_r _ [734, 735, 146, 147, 148, 334, 335, 5, 336, 181, 182, 183, 1020, 1021, 1022, 1023, 1024, 1025, 1026, 1027, 1028, 1029, 1030, 1031, 1032, 1033, 1034, 1035, 1036, 1037, 1038, 1039, 1040, 1041, 1042, 1043, 1044, 1045, 1046, 1047, 1048, 1049, 1050, 1051, 1052, 1053, 1054, 1055, 1056, 1057, 1058, 1059, 1060, 1061, 1062, 1063] (by decide +kernel) (by decide +kernel)
set_option maxRecDepth 20000 in
theorem gL_law_X10_renumber : GoodIn wsL_law (wsV RL 110 RX10 yX10_renumber wsX10_renumber) := goodIn_app (goodIn_of _ (by decide +kernel)) ggL_law_X10_renumber
set_option maxRecDepth 20000 in
theorem ggL_law_X9_number : GoodIn wsL_law wsX9_number := goodIn_r _ [739, 27, 312, 313, 26, 314, 319, 320, 321, 740, 741, 742, 743, 722, 89, 90, 91, 744, 745, 564, 746, 747, 563, 565, 1006, 1007, 1008, 1009, 1010, 1011, 1012, 1013, 1014, 1015, 1016, 1017, 1018, 1019, 1081, 1082, 1083, 1084, 1085, 1086] (by decide +kernel) (by decide +kernel)
set_option maxRecDepth 20000 in
theorem gL_law_X9_number : GoodIn wsL_law (wsV RL 111 RX9 yX9_number wsX9_number) := goodIn_app (goodIn_of _ (by decide +kernel)) ggL_law_X9_number
set_option maxRecDepth 20000 in
theorem ggL_law_X10_number : GoodIn wsL_law wsX10_number := goodIn_r _ [751, 331, 332, 5, 333, 181, 182, 183, 334, 335, 336, 752, 753, 754, 755, 735, 146, 147, 148, 1020, 1021, 1022, 1023, 1024, 1025, 1026, 1027, 1028, 1029, 1030, 1031, 1032, 1033, 1034, 1035, 1036, 1037, 1038, 1039, 1040, 1041, 1042, 1043, 1044, 1045, 1046, 1047, 1048, 1049, 1050, 1051, 1052, 1053, 1054, 1055, 1056, 1057, 1058, 1059, 1060, 1061, 1062, 1063] (by decide +kernel) (by decide +kernel)
set_option maxRecDepth 20000 in
theorem gL_law_X10_number : GoodIn wsL_law (wsV RL 114 RX10 yX10_number wsX10_number) := goodIn_app (goodIn_of _ (by decide +kernel)) ggL_law_X10_number
set_option maxRecDepth 20000 in
theorem ggL_law_X9_address : GoodIn wsL_law wsX9_address := goodIn_r _ [759, 27, 760, 761, 312, 313, 26, 314, 319, 320, 321, 1006, 1007, 1008, 1009, 1010, 1011, 1012, 1013, 1014, 1015, 1016, 1017, 1018, 1019, 1081, 1082, 1083, 1084, 1085, 1086] (by decide +kernel) (by decide +kernel)
set_option maxRecDepth 20000 in
theorem gL_law_X9_address : GoodIn wsL_law (wsV RL 115 RX9 yX9_address wsX9_address) := goodIn_app (goodIn_of _ (by decide +kernel)) ggL_law_X9_address
set_option maxRecDepth 20000 in
theorem ggL_law_X10_address : GoodIn wsL_law wsX10_address := goodIn_r _ [765, 149, 150, 331, 332, 5, 333, 181, 182, 183, 334, 335, 336, 1020, 1021, 1022, 1023, 1024, 1025, 1026, 1027, 1028, 1029, 1030, 1031, 1032, 1033, 1034, 1035, 1036, 1037, 1038, 1039, 1040, 1041, 1042, 1043, 1044, 1045, 1046, 1047, 1048, 1049, 1050, 1051, 1052, 1053, 1054, 1055, 1056, 1057, 1058, 1059, 1060, 1061, 1062, 1063] (by decide +kernel) (by decide +kernel)
set_option maxRecDepth 20000 in
theorem gL_law_X10_address : GoodIn wsL_law (wsV RL 118 RX10 yX10_address wsX10_address) := goodIn_app (goodIn_of _ (by decide +kernel)) ggL_law_X10_address
set_option maxRecDepth 20000 in
theorem ggL_law_X9_span : GoodIn wsL_law wsX9_span := goodIn_r _ [769, 19, 311, 315, 316, 317, 18, 318, 277, 191, 192, 193, 2, 194, 195, 51, 770, 771, 772, 773, 774, 351, 27, 760, 761, 349, 350, 740, 741, 742, 26, 743, 722, 89, 90, 91, 744, 745, 564, 746, 747, 563, 565, 775, 776, 777, 778, 779, 780, 781, 782, 1006, 1007, 1008, 1009, 1010, 1011, 1012, 1013, 1014, 1015, 1016, 1017, 1018, 1019, 1066, 1067, 1068, 1069, 1070, 1071, 1072, 1073, 1074, 1075, 1081, 1082, 1083, 1084, 1085, 1086] (by decide +kernel) (by decide +kernel)
set_option maxRecDepth 20000 in
theorem gL_law_X9_span : GoodIn wsL_law (wsV RL 119 RX9 yX9_span wsX9_span) := goodIn_app (goodIn_of _ (by decide +kernel)) ggL_law_X9_span
set_option maxRecDepth 20000 in
theorem ggL_law_X10_span : GoodIn wsL_law wsX10_span := goodIn_r _ [786, 377, 378, 379, 5, 380, 133, 337, 338, 339, 340, 298, 181, 182, 183, 210, 211, 212, 213, 214, 125, 787, 788, 789, 790, 130, 136, 150, 149, 134, 135, 752, 753, 754, 755, 735, 146, 147, 148, 791, 792, 793, 794, 1020, 1021, 1022, 1023, 1024, 1025, 1026, 1027, 1028, 1029, 1030, 1031, 1032, 1033, 1034, 1035, 1036, 1037, 1038, 1039, 1040, 1041, 1042, 1043, 1044, 1045, 1046, 1047, 1048, 1049, 1050, 1051, 1052, 1053, 1054, 1055, 1056, 1057, 1058, 1059, 1060, 1061, 1062, 1063] (by decide +kernel) (by decide +kernel)
set_option maxRecDepth 20000 in
theorem gL_law_X10_span : GoodIn wsL_law (wsV RL 123 RX10 yX10_span wsX10_span) := goodIn_app (goodIn_of _ (by decide +kernel)) ggL_law_X10_span
set_option maxRecDepth 20000 in
theorem ggL_law_X9_agrees : GoodIn wsL_law wsX9_agrees := goodIn_r _ [798, 21, 592, 646, 799, 745, 564, 746, 452, 453, 2, 454, 779, 780, 781, 782, 19, 774, 350, 770, 771, 772, 773, 351, 27, 760, 761, 349, 740, 741, 742, 26, 743, 722, 89, 90, 91, 744, 747, 563, 565, 775, 776, 777, 778, 1006, 1007, 1008, 1009, 1010, 1011, 1012, 1013, 1014, 1015, 1016, 1017, 1018, 1019, 1076, 1077, 1078, 1079, 1080, 1066, 1067, 1068, 1069, 1070, 1071, 1072, 1073, 1074, 1075, 1081, 1082, 1083, 1084, 1085, 1086] (by decide +kernel) (by decide +kernel)
set_option maxRecDepth 20000 in
theorem gL_law_X9_agrees : GoodIn wsL_law (wsV RL 124 RX9 yX9_agrees wsX9_agrees) := goodIn_app (goodIn_of _ (by decide +kernel)) ggL_law_X9_agrees
set_option maxRecDepth 20000 in
theorem ggL_law_X10_agrees : GoodIn wsL_law wsX10_agrees := goodIn_r _ [803, 140, 141, 471, 472, 5, 473, 181, 182, 183, 791, 792, 793, 794, 130, 136, 135, 787, 788, 789, 790, 150, 149, 134, 752, 753, 754, 755, 735, 146, 147, 148, 1020, 1021, 1022, 1023, 1024, 1025, 1026, 1027, 1028, 1029, 1030, 1031, 1032, 1033, 1034, 1035, 1036, 1037, 1038, 1039, 1040, 1041, 1042, 1043, 1044, 1045, 1046, 1047, 1048, 1049, 1050, 1051, 1052, 1053, 1054, 1055, 1056, 1057, 1058, 1059, 1060, 1061, 1062, 1063] (by decide +kernel) (by decide +kernel)
set_option maxRecDepth 20000 in
theorem gL_law_X10_agrees : GoodIn wsL_law (wsV RL 127 RX10 yX10_agrees wsX10_agrees) := goodIn_app (goodIn_of _ (by decide +kernel)) ggL_law_X10_agrees
set_option maxRecDepth 20000 in
theorem ggL_law_X9_light : GoodIn wsL_law wsX9_light := goodIn_r _ [807, 31, 808, 809, 810, 30, 811, 452, 453, 2, 454, 167, 168, 169, 812, 813, 814, 815, 816, 455, 456, 457, 191, 192, 193, 194, 195, 51, 817, 818, 819, 820, 97, 98, 99, 100, 1006, 1007, 1008, 1009, 1010, 1011, 1012, 1013, 1014, 1015, 1016, 1017, 1018, 1019, 1087, 1088, 1089, 1090, 1091] (by decide +kernel) (by decide +kernel)
set_option maxRecDepth 20000 in
theorem gL_law_X9_light : GoodIn wsL_law (wsV RL 128 RX9 yX9_light wsX9_light) := goodIn_app (goodIn_of _ (by decide +kernel)) ggL_law_X9_light
set_option maxRecDepth 20000 in
theorem ggL_law_X10_light : GoodIn wsL_law wsX10_light := goodIn_r _ [824, 825, 151, 152, 153, 154, 181, 182, 5, 183, 471, 472, 473, 474, 475, 476, 210, 211, 212, 213, 214, 125, 1020, 1021, 1022, 1023, 1024, 1025, 1026, 1027, 1028, 1029, 1030, 1031, 1032, 1033, 1034, 1035, 1036, 1037, 1038, 1039, 1040, 1041, 1042, 1043, 1044, 1045, 1046, 1047, 1048, 1049, 1050, 1051, 1052, 1053, 1054, 1055, 1056, 1057, 1058, 1059, 1060, 1061, 1062, 1063] (by decide +kernel) (by decide +kernel)
set_option maxRecDepth 20000 in
theorem gL_law_X10_light : GoodIn wsL_law (wsV RL 131 RX10 yX10_light wsX10_light) := goodIn_app (goodIn_of _ (by decide +kernel)) ggL_law_X10_light
set_option maxRecDepth 20000 in
theorem ggL_law_X9_gain : GoodIn wsL_law wsX9_gain := goodIn_r _ [829, 21, 809, 810, 30, 811, 452, 453, 2, 454, 493, 494, 495, 830, 831, 832, 833, 43, 538, 834, 19, 533, 531, 50, 534, 535, 536, 537, 539, 540, 541, 542, 18, 543, 77, 544, 316, 317, 318, 277, 496, 497, 498, 499, 70, 500, 501, 502, 503, 504, 505, 398, 399, 400, 67, 69, 506, 463, 464, 23, 465, 82, 507, 402, 403, 404, 405, 406, 407, 545, 546, 547, 548, 549, 550, 551, 42, 552, 114, 553, 115, 116, 117, 835, 559, 560, 561, 562, 563, 564, 565, 836, 837, 838, 839, 31, 840, 841, 842, 843, 816, 97, 98, 99, 100, 1006, 1007, 1008, 1009, 1010, 1011, 1012, 1013, 1014, 1015, 1016, 1017, 1018, 1019, 1099, 1100, 1101, 1102, 1103, 1066, 1067, 1068, 1069, 1070, 1071, 1072, 1073, 1074, 1075, 1076, 1077, 1078, 1079, 1080, 1087, 1088, 1089, 1090, 1091] (by decide +kernel) (by decide +kernel)
set_option maxRecDepth 20000 in
theorem gL_law_X9_gain : GoodIn wsL_law (wsV RL 132 RX9 yX9_gain wsX9_gain) := goodIn_app (goodIn_of _ (by decide +kernel)) ggL_law_X9_gain
set_option maxRecDepth 20000 in
theorem ggL_law_X10_gain : GoodIn wsL_law wsX10_gain := goodIn_r _ [847, 181, 182, 5, 183, 471, 472, 473, 512, 513, 514, 572, 573, 574, 575, 570, 298, 133, 139, 515, 516, 517, 518, 131, 519, 520, 521, 522, 138, 523, 524, 525, 526, 126, 132, 848, 849, 850, 851, 825, 151, 152, 153, 154, 1020, 1021, 1022, 1023, 1024, 1025, 1026, 1027, 1028, 1029, 1030, 1031, 1032, 1033, 1034, 1035, 1036, 1037, 1038, 1039, 1040, 1041, 1042, 1043, 1044, 1045, 1046, 1047, 1048, 1049, 1050, 1051, 1052, 1053, 1054, 1055, 1056, 1057, 1058, 1059, 1060, 1061, 1062, 1063] (by decide +kernel) (by decide +kernel)
set_option maxRecDepth 20000 in
theorem gL_law_X10_gain : GoodIn wsL_law (wsV RL 135 RX10 yX10_gain wsX10_gain) := goodIn_app (goodIn_of _ (by decide +kernel)) ggL_law_X10_gain
set_option maxRecDepth 20000 in
theorem ggL_law_X9_next : GoodIn wsL_law wsX9_next := goodIn_r _ [855, 21, 452, 453, 2, 454, 493, 494, 495, 830, 831, 832, 833, 43, 538, 834, 19, 533, 531, 50, 534, 535, 536, 537, 539, 540, 541, 542, 18, 543, 77, 544, 316, 317, 318, 277, 496, 497, 498, 499, 70, 500, 501, 502, 503, 504, 505, 398, 399, 400, 67, 69, 506, 463, 464, 23, 465, 82, 507, 402, 403, 404, 405, 406, 407, 545, 546, 547, 548, 549, 550, 551, 42, 552, 114, 553, 115, 116, 117, 835, 559, 560, 561, 562, 563, 564, 565, 836, 837, 838, 839, 31, 840, 841, 842, 30, 843, 816, 97, 98, 99, 100, 1006, 1007, 1008, 1009, 1010, 1011, 1012, 1013, 1014, 1015, 1016, 1017, 1018, 1019, 1099, 1100, 1101, 1102, 1103, 1066, 1067, 1068, 1069, 1070, 1071, 1072, 1073, 1074, 1075, 1076, 1077, 1078, 1079, 1080, 1087, 1088, 1089, 1090, 1091] (by decide +kernel) (by decide +kernel)
set_option maxRecDepth 20000 in
theorem gL_law_X9_next : GoodIn wsL_law (wsV RL 136 RX9 yX9_next wsX9_next) := goodIn_app (goodIn_of _ (by decide +kernel)) ggL_law_X9_next
set_option maxRecDepth 20000 in
theorem ggL_law_X10_next : GoodIn wsL_law wsX10_next := goodIn_r _ [859, 471, 472, 5, 473, 181, 182, 183, 512, 513, 514, 572, 573, 574, 575, 570, 298, 133, 139, 515, 516, 517, 518, 131, 519, 520, 521, 522, 138, 523, 524, 525, 526, 126, 132, 848, 849, 850, 851, 825, 151, 152, 153, 154, 1020, 1021, 1022, 1023, 1024, 1025, 1026, 1027, 1028, 1029, 1030, 1031, 1032, 1033, 1034, 1035, 1036, 1037, 1038, 1039, 1040, 1041, 1042, 1043, 1044, 1045, 1046, 1047, 1048, 1049, 1050, 1051, 1052, 1053, 1054, 1055, 1056, 1057, 1058, 1059, 1060, 1061, 1062, 1063] (by decide +kernel) (by decide +kernel)
set_option maxRecDepth 20000 in
theorem gL_law_X10_next : GoodIn wsL_law (wsV RL 139 RX10 yX10_next wsX10_next) := goodIn_app (goodIn_of _ (by decide +kernel)) ggL_law_X10_next
set_option maxRecDepth 20000 in
theorem ggL_law_X9_read : GoodIn wsL_law wsX9_read := goodIn_r _ [863, 19, 35, 311, 864, 452, 453, 2, 454, 315, 316, 317, 18, 318, 277, 865, 866, 867, 34, 868, 869, 191, 192, 193, 194, 195, 51, 870, 871, 872, 873, 104, 105, 1006, 1007, 1008, 1009, 1010, 1011, 1012, 1013, 1014, 1015, 1016, 1017, 1018, 1019, 1066, 1067, 1068, 1069, 1070, 1071, 1072, 1073, 1074, 1075, 1092, 1093, 1094] (by decide +kernel) (by decide +kernel)
set_option maxRecDepth 20000 in
theorem gL_law_X9_read : GoodIn wsL_law (wsV RL 140 RX9 yX9_read wsX9_read) := goodIn_app (goodIn_of _ (by decide +kernel)) ggL_law_X9_read
set_option maxRecDepth 20000 in
theorem ggL_law_X10_read : GoodIn wsL_law wsX10_read := goodIn_r _ [877, 878, 133, 155, 156, 471, 472, 5, 473, 181, 182, 183, 337, 338, 339, 340, 298, 210, 211, 212, 213, 214, 125, 1020, 1021, 1022, 1023, 1024, 1025, 1026, 1027, 1028, 1029, 1030, 1031, 1032, 1033, 1034, 1035, 1036, 1037, 1038, 1039, 1040, 1041, 1042, 1043, 1044, 1045, 1046, 1047, 1048, 1049, 1050, 1051, 1052, 1053, 1054, 1055, 1056, 1057, 1058, 1059, 1060, 1061, 1062, 1063] (by decide +kernel) (by decide +kernel)
set_option maxRecDepth 20000 in
theorem gL_law_X10_read : GoodIn wsL_law (wsV RL 143 RX10 yX10_read wsX10_read) := goodIn_app (goodIn_of _ (by decide +kernel)) ggL_law_X10_read
set_option maxRecDepth 20000 in
theorem ggL_law_X9_spread : GoodIn wsL_law wsX9_spread := goodIn_r _ [882, 532, 19, 539, 35, 452, 453, 2, 454, 883, 884, 885, 34, 886, 869, 104, 105, 1006, 1007, 1008, 1009, 1010, 1011, 1012, 1013, 1014, 1015, 1016, 1017, 1018, 1019, 1066, 1067, 1068, 1069, 1070, 1071, 1072, 1073, 1074, 1075, 1092, 1093, 1094] (by decide +kernel) (by decide +kernel)
set_option maxRecDepth 20000 in
theorem gL_law_X9_spread : GoodIn wsL_law (wsV RL 144 RX9 yX9_spread wsX9_spread) := goodIn_app (goodIn_of _ (by decide +kernel)) ggL_law_X9_spread
set_option maxRecDepth 20000 in
theorem ggL_law_X10_spread : GoodIn wsL_law wsX10_spread := goodIn_r _ [890, 298, 878, 155, 156, 571, 471, 472, 5, 473, 181, 182, 183, 1020, 1021, 1022, 1023, 1024, 1025, 1026, 1027, 1028, 1029, 1030, 1031, 1032, 1033, 1034, 1035, 1036, 1037, 1038, 1039, 1040, 1041, 1042, 1043, 1044, 1045, 1046, 1047, 1048, 1049, 1050, 1051, 1052, 1053, 1054, 1055, 1056, 1057, 1058, 1059, 1060, 1061, 1062, 1063] (by decide +kernel) (by decide +kernel)
set_option maxRecDepth 20000 in
theorem gL_law_X10_spread : GoodIn wsL_law (wsV RL 147 RX10 yX10_spread wsX10_spread) := goodIn_app (goodIn_of _ (by decide +kernel)) ggL_law_X10_spread
set_option maxRecDepth 20000 in
theorem ggL_law_X9_wall : GoodIn wsL_law wsX9_wall := goodIn_r _ [894, 39, 895, 896, 897, 38, 898, 899, 900, 901, 902, 903, 109, 110, 904, 1006, 1007, 1008, 1009, 1010, 1011, 1012, 1013, 1014, 1015, 1016, 1017, 1018, 1019, 1095, 1096, 1097, 1098] (by decide +kernel) (by decide +kernel)
set_option maxRecDepth 20000 in
theorem gL_law_X9_wall : GoodIn wsL_law (wsV RL 148 RX9 yX9_wall wsX9_wall) := goodIn_app (goodIn_of _ (by decide +kernel)) ggL_law_X9_wall
set_option maxRecDepth 20000 in
theorem ggL_law_X10_wall : GoodIn wsL_law wsX10_wall := goodIn_r _ [908, 909, 157, 158, 159, 181, 182, 5, 183, 1020, 1021, 1022, 1023, 1024, 1025, 1026, 1027, 1028, 1029, 1030, 1031, 1032, 1033, 1034, 1035, 1036, 1037, 1038, 1039, 1040, 1041, 1042, 1043, 1044, 1045, 1046, 1047, 1048, 1049, 1050, 1051, 1052, 1053, 1054, 1055, 1056, 1057, 1058, 1059, 1060, 1061, 1062, 1063] (by decide +kernel) (by decide +kernel)
set_option maxRecDepth 20000 in
theorem gL_law_X10_wall : GoodIn wsL_law (wsV RL 152 RX10 yX10_wall wsX10_wall) := goodIn_app (goodIn_of _ (by decide +kernel)) ggL_law_X10_wall
set_option maxRecDepth 20000 in
theorem ggL_law_X9_keep : GoodIn wsL_law wsX9_keep := goodIn_r _ [913, 39, 532, 914, 915, 916, 917, 38, 918, 899, 904, 110, 109, 919, 920, 921, 922, 1006, 1007, 1008, 1009, 1010, 1011, 1012, 1013, 1014, 1015, 1016, 1017, 1018, 1019, 1095, 1096, 1097, 1098] (by decide +kernel) (by decide +kernel)
set_option maxRecDepth 20000 in
theorem gL_law_X9_keep : GoodIn wsL_law (wsV RL 153 RX9 yX9_keep wsX9_keep) := goodIn_app (goodIn_of _ (by decide +kernel)) ggL_law_X9_keep
set_option maxRecDepth 20000 in
theorem ggL_law_X10_keep : GoodIn wsL_law wsX10_keep := goodIn_r _ [926, 909, 157, 158, 159, 571, 181, 182, 5, 183, 1020, 1021, 1022, 1023, 1024, 1025, 1026, 1027, 1028, 1029, 1030, 1031, 1032, 1033, 1034, 1035, 1036, 1037, 1038, 1039, 1040, 1041, 1042, 1043, 1044, 1045, 1046, 1047, 1048, 1049, 1050, 1051, 1052, 1053, 1054, 1055, 1056, 1057, 1058, 1059, 1060, 1061, 1062, 1063] (by decide +kernel) (by decide +kernel)
set_option maxRecDepth 20000 in
theorem gL_law_X10_keep : GoodIn wsL_law (wsV RL 156 RX10 yX10_keep wsX10_keep) := goodIn_app (goodIn_of _ (by decide +kernel)) ggL_law_X10_keep
set_option maxRecDepth 20000 in
theorem ggL_law_X9_asked : GoodIn wsL_law wsX9_asked := goodIn_r _ [930, 532, 1006, 1007, 1008, 1009, 1010, 1011, 1012, 1013, 1014, 1015, 1016, 1017, 1018, 1019] (by decide +kernel) (by decide +kernel)
set_option maxRecDepth 20000 in
theorem gL_law_X9_asked : GoodIn wsL_law (wsV RL 157 RX9 yX9_asked wsX9_asked) := goodIn_app (goodIn_of _ (by decide +kernel)) ggL_law_X9_asked
set_option maxRecDepth 20000 in
theorem ggL_law_X10_asked : GoodIn wsL_law wsX10_asked := goodIn_r _ [934, 571, 1020, 1021, 1022, 1023, 1024, 1025, 1026, 1027, 1028, 1029, 1030, 1031, 1032, 1033, 1034, 1035, 1036, 1037, 1038, 1039, 1040, 1041, 1042, 1043, 1044, 1045, 1046, 1047, 1048, 1049, 1050, 1051, 1052, 1053, 1054, 1055, 1056, 1057, 1058, 1059, 1060, 1061, 1062, 1063] (by decide +kernel) (by decide +kernel)
set_option maxRecDepth 20000 in
theorem gL_law_X10_asked : GoodIn wsL_law (wsV RL 160 RX10 yX10_asked wsX10_asked) := goodIn_app (goodIn_of _ (by decide +kernel)) ggL_law_X10_asked
set_option maxRecDepth 20000 in
theorem ggL_law_X9_count : GoodIn wsL_law wsX9_count := goodIn_r _ [938, 939, 940, 941, 2, 942, 19, 539, 21, 592, 35, 864, 39, 943, 436, 437, 438, 18, 439, 277, 77, 944, 945, 946, 23, 947, 462, 463, 464, 465, 82, 466, 402, 403, 404, 405, 406, 407, 1006, 1007, 1008, 1009, 1010, 1011, 1012, 1013, 1014, 1015, 1016, 1017, 1018, 1019, 1066, 1067, 1068, 1069, 1070, 1071, 1072, 1073, 1074, 1075, 1076, 1077, 1078, 1079, 1080, 1092, 1093, 1094, 1095, 1096, 1097, 1098] (by decide +kernel) (by decide +kernel)
set_option maxRecDepth 20000 in
theorem gL_law_X9_count : GoodIn wsL_law (wsV RL 161 RX9 yX9_count wsX9_count) := goodIn_app (goodIn_of _ (by decide +kernel)) ggL_law_X9_count
set_option maxRecDepth 20000 in
theorem ggL_law_X10_count : GoodIn wsL_law wsX10_count := goodIn_r _ [951, 181, 182, 5, 183, 952, 953, 954, 955, 298, 133, 138, 140, 878, 909, 1020, 1021, 1022, 1023, 1024, 1025, 1026, 1027, 1028, 1029, 1030, 1031, 1032, 1033, 1034, 1035, 1036, 1037, 1038, 1039, 1040, 1041, 1042, 1043, 1044, 1045, 1046, 1047, 1048, 1049, 1050, 1051, 1052, 1053, 1054, 1055, 1056, 1057, 1058, 1059, 1060, 1061, 1062, 1063] (by decide +kernel) (by decide +kernel)
set_option maxRecDepth 20000 in
theorem gL_law_X10_count : GoodIn wsL_law (wsV RL 164 RX10 yX10_count wsX10_count) := goodIn_app (goodIn_of _ (by decide +kernel)) ggL_law_X10_count
set_option maxRecDepth 20000 in
theorem ggL_law_X9_finding : GoodIn wsL_law wsX9_finding := goodIn_r _ [959, 195, 1006, 1007, 1008, 1009, 1010, 1011, 1012, 1013, 1014, 1015, 1016, 1017, 1018, 1019] (by decide +kernel) (by decide +kernel)
set_option maxRecDepth 20000 in
theorem gL_law_X9_finding : GoodIn wsL_law (wsV RL 165 RX9 yX9_finding wsX9_finding) := goodIn_app (goodIn_of _ (by decide +kernel)) ggL_law_X9_finding
set_option maxRecDepth 20000 in
theorem ggL_law_X10_finding : GoodIn wsL_law wsX10_finding := goodIn_r _ [963, 214, 1020, 1021, 1022, 1023, 1024, 1025, 1026, 1027, 1028, 1029, 1030, 1031, 1032, 1033, 1034, 1035, 1036, 1037, 1038, 1039, 1040, 1041, 1042, 1043, 1044, 1045, 1046, 1047, 1048, 1049, 1050, 1051, 1052, 1053, 1054, 1055, 1056, 1057, 1058, 1059, 1060, 1061, 1062, 1063] (by decide +kernel) (by decide +kernel)
set_option maxRecDepth 20000 in
theorem gL_law_X10_finding : GoodIn wsL_law (wsV RL 168 RX10 yX10_finding wsX10_finding) := goodIn_app (goodIn_of _ (by decide +kernel)) ggL_law_X10_finding
set_option maxRecDepth 20000 in
theorem ggL_law_X9_findings : GoodIn wsL_law wsX9_findings := goodIn_r _ [967, 51, 1006, 1007, 1008, 1009, 1010, 1011, 1012, 1013, 1014, 1015, 1016, 1017, 1018, 1019] (by decide +kernel) (by decide +kernel)
set_option maxRecDepth 20000 in
theorem gL_law_X9_findings : GoodIn wsL_law (wsV RL 169 RX9 yX9_findings wsX9_findings) := goodIn_app (goodIn_of _ (by decide +kernel)) ggL_law_X9_findings
set_option maxRecDepth 20000 in
theorem ggL_law_X10_findings : GoodIn wsL_law wsX10_findings := goodIn_r _ [971, 125, 181, 182, 5, 183, 1020, 1021, 1022, 1023, 1024, 1025, 1026, 1027, 1028, 1029, 1030, 1031, 1032, 1033, 1034, 1035, 1036, 1037, 1038, 1039, 1040, 1041, 1042, 1043, 1044, 1045, 1046, 1047, 1048, 1049, 1050, 1051, 1052, 1053, 1054, 1055, 1056, 1057, 1058, 1059, 1060, 1061, 1062, 1063] (by decide +kernel) (by decide +kernel)
set_option maxRecDepth 20000 in
theorem gL_law_X10_findings : GoodIn wsL_law (wsV RL 172 RX10 yX10_findings wsX10_findings) := goodIn_app (goodIn_of _ (by decide +kernel)) ggL_law_X10_findings
set_option maxRecDepth 20000 in
theorem ggL_law_X9_digest : GoodIn wsL_law wsX9_digest := goodIn_r _ [975, 976, 977, 19, 21, 15, 939, 940, 941, 2, 942, 539, 592, 35, 864, 39, 943, 436, 437, 438, 18, 439, 277, 77, 944, 945, 946, 23, 947, 462, 463, 464, 465, 82, 466, 402, 403, 404, 405, 406, 407, 978, 979, 980, 981, 982, 983, 390, 391, 392, 71, 70, 74, 75, 73, 393, 394, 395, 396, 397, 398, 399, 400, 67, 69, 401, 984, 985, 986, 987, 988, 989, 482, 483, 484, 990, 991, 992, 993, 368, 994, 626, 627, 628, 83, 84, 85, 995, 996, 997, 14, 998, 999, 59, 58, 1006, 1007, 1008, 1009, 1010, 1011, 1012, 1013, 1014, 1015, 1016, 1017, 1018, 1019, 1066, 1067, 1068, 1069, 1070, 1071, 1072, 1073, 1074, 1075, 1076, 1077, 1078, 1079, 1080, 1092, 1093, 1094, 1095, 1096, 1097, 1098, 1064, 1065] (by decide +kernel) (by decide +kernel)
set_option maxRecDepth 20000 in
theorem gL_law_X9_digest : GoodIn wsL_law (wsV RL 173 RX9 yX9_digest wsX9_digest) := goodIn_app (goodIn_of _ (by decide +kernel)) ggL_law_X9_digest
set_option maxRecDepth 20000 in
theorem ggL_law_X10_digest : GoodIn wsL_law wsX10_digest := goodIn_r _ [1003, 1004, 1005, 298, 133, 138, 140, 141, 142, 143, 127, 128, 952, 953, 954, 5, 955, 878, 909, 412, 413, 414, 415, 131, 126, 132, 130, 135, 136, 134, 416, 417, 418, 1020, 1021, 1022, 1023, 1024, 1025, 1026, 1027, 1028, 1029, 1030, 1031, 1032, 1033, 1034, 1035, 1036, 1037, 1038, 1039, 1040, 1041, 1042, 1043, 1044, 1045, 1046, 1047, 1048, 1049, 1050, 1051, 1052, 1053, 1054, 1055, 1056, 1057, 1058, 1059, 1060, 1061, 1062, 1063] (by decide +kernel) (by decide +kernel)
set_option maxRecDepth 20000 in
theorem gL_law_X10_digest : GoodIn wsL_law (wsV RL 177 RX10 yX10_digest wsX10_digest) := goodIn_app (goodIn_of _ (by decide +kernel)) ggL_law_X10_digest
