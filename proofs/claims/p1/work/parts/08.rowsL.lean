set_option maxRecDepth 20000 in
theorem ggL_law_X7_init : GoodIn wsL_law wsX7_init := goodIn_r _ [9, 10, 11, 12, 13, 14, 15, 16, 17, 18, 19, 20, 21, 22, 23, 24, 25, 26, 27, 28, 29, 30, 31, 32, 33, 34, 35, 36, 37, 38, 39, 40, 41, 42, 43, 44, 45, 46, 47, 48, 49, 50, 51, 52, 53, 54, 55, 56, 57, 58, 59, 60, 61, 62, 63, 64, 65, 66, 67, 68, 69, 70, 71, 72, 73, 74, 75, 76, 77, 78, 79, 80, 81, 82, 83, 84, 85, 86, 87, 88, 89, 90, 91, 92, 93, 94, 95, 96, 97, 98, 99, 1155, 1156, 1157, 1158, 1159, 1160, 1161, 1162, 1163, 1202, 1203, 1204, 1205, 1206, 1207, 1208, 1209, 1210, 1211, 1212, 1213, 1214, 1215, 1216, 1217, 1218, 1219, 1220, 1221, 1222, 1223, 1224, 1225, 1226, 1227, 1228, 1229, 1230, 1231, 1232, 1233, 1234, 1235, 1236, 1237, 1238] (by decide +kernel) (by decide +kernel)
set_option maxRecDepth 20000 in
theorem gL_law_X7_init : GoodIn wsL_law (wsX7_init) := ggL_law_X7_init
set_option maxRecDepth 20000 in
theorem ggL_law_X8_init : GoodIn wsL_law wsX8_init := goodIn_r _ [102, 103, 11, 12, 104, 105, 106, 107, 108, 32, 109, 110, 111, 112, 113, 114, 115, 116, 117, 118, 119, 96, 120, 121, 122, 123, 124, 125, 126, 127, 128, 129, 1164, 1165, 1166, 1167, 1168, 1169, 1170, 1171, 1172, 1173, 1174, 1175, 1176, 1177, 1178, 1179, 1180, 1181, 1182, 1183, 1184, 1185, 1186, 1187, 1188, 1189, 1190, 1191, 1192, 1193, 1194, 1195, 1196, 1197, 1198, 1199, 1200, 1201] (by decide +kernel) (by decide +kernel)
set_option maxRecDepth 20000 in
theorem gL_law_X8_init : GoodIn wsL_law (wsX8_init) := ggL_law_X8_init
set_option maxRecDepth 20000 in
theorem ggL_law_X7_row : GoodIn wsL_law wsX7_row := goodIn_r _ [133, 134, 135, 136, 2, 137, 14, 138, 139, 140, 141, 142, 143, 144, 33, 145, 146, 147, 37, 148, 98, 99, 97, 149, 150, 151, 152, 1155, 1156, 1157, 1158, 1159, 1160, 1161, 1162, 1163, 1231, 1232, 1233] (by decide +kernel) (by decide +kernel)
set_option maxRecDepth 20000 in
theorem gL_law_X7_row : GoodIn wsL_law (wsV RL 13 RX7 yX7_row wsX7_row) := goodIn_app (goodIn_of _ (by decide +kernel)) ggL_law_X7_row
set_option maxRecDepth 20000 in
theorem ggL_law_X8_row : GoodIn wsL_law wsX8_row := goodIn_r _ [156, 116, 117, 118, 120, 157, 158, 159, 5, 160, 161, 162, 163, 164, 109, 1164, 1165, 1166, 1167, 1168, 1169, 1170, 1171, 1172, 1173, 1174, 1175, 1176, 1177, 1178, 1179, 1180, 1181, 1182, 1183, 1184, 1185, 1186, 1187, 1188, 1189, 1190, 1191, 1192, 1193, 1194, 1195, 1196, 1197, 1198, 1199, 1200, 1201] (by decide +kernel) (by decide +kernel)
set_option maxRecDepth 20000 in
theorem gL_law_X8_row : GoodIn wsL_law (wsV RL 17 RX8 yX8_row wsX8_row) := goodIn_app (goodIn_of _ (by decide +kernel)) ggL_law_X8_row
set_option maxRecDepth 20000 in
theorem ggL_law_X7_set : GoodIn wsL_law wsX7_set := goodIn_r _ [168, 134, 135, 136, 2, 137, 14, 138, 139, 140, 141, 142, 143, 144, 33, 169, 170, 171, 37, 172, 98, 173, 174, 175, 176, 99, 177, 178, 179, 180, 97, 1155, 1156, 1157, 1158, 1159, 1160, 1161, 1162, 1163, 1231, 1232, 1233] (by decide +kernel) (by decide +kernel)
set_option maxRecDepth 20000 in
theorem gL_law_X7_set : GoodIn wsL_law (wsV RL 20 RX7 yX7_set wsX7_set) := goodIn_app (goodIn_of _ (by decide +kernel)) ggL_law_X7_set
set_option maxRecDepth 20000 in
theorem ggL_law_X8_set : GoodIn wsL_law wsX8_set := goodIn_r _ [184, 116, 118, 120, 117, 157, 158, 159, 5, 160, 161, 162, 163, 164, 109, 1164, 1165, 1166, 1167, 1168, 1169, 1170, 1171, 1172, 1173, 1174, 1175, 1176, 1177, 1178, 1179, 1180, 1181, 1182, 1183, 1184, 1185, 1186, 1187, 1188, 1189, 1190, 1191, 1192, 1193, 1194, 1195, 1196, 1197, 1198, 1199, 1200, 1201] (by decide +kernel) (by decide +kernel)
set_option maxRecDepth 20000 in
theorem gL_law_X8_set : GoodIn wsL_law (wsV RL 24 RX8 yX8_set wsX8_set) := goodIn_app (goodIn_of _ (by decide +kernel)) ggL_law_X8_set
set_option maxRecDepth 20000 in
theorem ggL_law_X7_copy : GoodIn wsL_law wsX7_copy := goodIn_r _ [188, 189, 190, 191, 192, 193, 194, 134, 135, 136, 2, 137, 14, 138, 139, 140, 141, 142, 143, 144, 33, 169, 170, 171, 37, 172, 98, 173, 174, 175, 176, 99, 1231, 1232, 1233, 1155, 1156, 1157, 1158, 1159, 1160, 1161, 1162, 1163] (by decide +kernel) (by decide +kernel)
set_option maxRecDepth 20000 in
theorem gL_law_X7_copy : GoodIn wsL_law (wsV RL 25 RX7 yX7_copy wsX7_copy) := goodIn_app (goodIn_of _ (by decide +kernel)) ggL_law_X7_copy
set_option maxRecDepth 20000 in
theorem ggL_law_X8_copy : GoodIn wsL_law wsX8_copy := goodIn_r _ [198, 116, 117, 118, 121, 120, 157, 158, 159, 5, 160, 161, 162, 163, 164, 109, 1164, 1165, 1166, 1167, 1168, 1169, 1170, 1171, 1172, 1173, 1174, 1175, 1176, 1177, 1178, 1179, 1180, 1181, 1182, 1183, 1184, 1185, 1186, 1187, 1188, 1189, 1190, 1191, 1192, 1193, 1194, 1195, 1196, 1197, 1198, 1199, 1200, 1201] (by decide +kernel) (by decide +kernel)
set_option maxRecDepth 20000 in
theorem gL_law_X8_copy : GoodIn wsL_law (wsV RL 29 RX8 yX8_copy wsX8_copy) := goodIn_app (goodIn_of _ (by decide +kernel)) ggL_law_X8_copy
set_option maxRecDepth 20000 in
theorem ggL_law_X7_element : GoodIn wsL_law wsX7_element := goodIn_r _ [202, 190, 134, 135, 136, 2, 137, 14, 138, 139, 140, 169, 170, 171, 37, 172, 98, 173, 174, 175, 176, 99, 1231, 1232, 1233, 1155, 1156, 1157, 1158, 1159, 1160, 1161, 1162, 1163] (by decide +kernel) (by decide +kernel)
set_option maxRecDepth 20000 in
theorem gL_law_X7_element : GoodIn wsL_law (wsV RL 30 RX7 yX7_element wsX7_element) := goodIn_app (goodIn_of _ (by decide +kernel)) ggL_law_X7_element
set_option maxRecDepth 20000 in
theorem ggL_law_X8_element : GoodIn wsL_law wsX8_element := goodIn_r _ [206, 116, 118, 120, 157, 158, 159, 5, 160, 1164, 1165, 1166, 1167, 1168, 1169, 1170, 1171, 1172, 1173, 1174, 1175, 1176, 1177, 1178, 1179, 1180, 1181, 1182, 1183, 1184, 1185, 1186, 1187, 1188, 1189, 1190, 1191, 1192, 1193, 1194, 1195, 1196, 1197, 1198, 1199, 1200, 1201] (by decide +kernel) (by decide +kernel)
set_option maxRecDepth 20000 in
theorem gL_law_X8_element : GoodIn wsL_law (wsV RL 34 RX8 yX8_element wsX8_element) := goodIn_app (goodIn_of _ (by decide +kernel)) ggL_law_X8_element
set_option maxRecDepth 20000 in
theorem ggL_law_X7_show : GoodIn wsL_law wsX7_show := goodIn_r _ [210, 18, 189, 134, 135, 136, 2, 137, 14, 138, 139, 140, 211, 212, 213, 17, 214, 48, 46, 141, 142, 143, 144, 33, 1155, 1156, 1157, 1158, 1159, 1160, 1161, 1162, 1163, 1231, 1232, 1233, 1202, 1203, 1204, 1205, 1206, 1207, 1208, 1209, 1210] (by decide +kernel) (by decide +kernel)
set_option maxRecDepth 20000 in
theorem gL_law_X7_show : GoodIn wsL_law (wsV RL 35 RX7 yX7_show wsX7_show) := goodIn_app (goodIn_of _ (by decide +kernel)) ggL_law_X7_show
set_option maxRecDepth 20000 in
theorem ggL_law_X8_show : GoodIn wsL_law wsX8_show := goodIn_r _ [218, 116, 119, 157, 158, 159, 5, 160, 219, 220, 221, 222, 223, 161, 162, 163, 164, 109, 1164, 1165, 1166, 1167, 1168, 1169, 1170, 1171, 1172, 1173, 1174, 1175, 1176, 1177, 1178, 1179, 1180, 1181, 1182, 1183, 1184, 1185, 1186, 1187, 1188, 1189, 1190, 1191, 1192, 1193, 1194, 1195, 1196, 1197, 1198, 1199, 1200, 1201] (by decide +kernel) (by decide +kernel)
set_option maxRecDepth 20000 in
theorem gL_law_X8_show : GoodIn wsL_law (wsV RL 39 RX8 yX8_show wsX8_show) := goodIn_app (goodIn_of _ (by decide +kernel)) ggL_law_X8_show
set_option maxRecDepth 20000 in
theorem ggL_law_X7_holds : GoodIn wsL_law wsX7_holds := goodIn_r _ [227, 189, 134, 135, 136, 2, 137, 14, 138, 139, 140, 1231, 1232, 1233, 1155, 1156, 1157, 1158, 1159, 1160, 1161, 1162, 1163] (by decide +kernel) (by decide +kernel)
set_option maxRecDepth 20000 in
theorem gL_law_X7_holds : GoodIn wsL_law (wsV RL 40 RX7 yX7_holds wsX7_holds) := goodIn_app (goodIn_of _ (by decide +kernel)) ggL_law_X7_holds
set_option maxRecDepth 20000 in
theorem ggL_law_X8_holds : GoodIn wsL_law wsX8_holds := goodIn_r _ [231, 116, 117, 119, 157, 158, 159, 5, 160, 1164, 1165, 1166, 1167, 1168, 1169, 1170, 1171, 1172, 1173, 1174, 1175, 1176, 1177, 1178, 1179, 1180, 1181, 1182, 1183, 1184, 1185, 1186, 1187, 1188, 1189, 1190, 1191, 1192, 1193, 1194, 1195, 1196, 1197, 1198, 1199, 1200, 1201] (by decide +kernel) (by decide +kernel)
set_option maxRecDepth 20000 in
theorem gL_law_X8_holds : GoodIn wsL_law (wsV RL 44 RX8 yX8_holds wsX8_holds) := goodIn_app (goodIn_of _ (by decide +kernel)) ggL_law_X8_holds
set_option maxRecDepth 20000 in
theorem ggL_law_X7_says : GoodIn wsL_law wsX7_says := goodIn_r _ [235, 189, 18, 236, 237, 134, 135, 136, 2, 137, 14, 138, 139, 140, 141, 142, 143, 144, 33, 211, 212, 213, 17, 214, 48, 46, 238, 239, 240, 241, 242, 243, 244, 245, 246, 247, 248, 249, 250, 251, 252, 253, 254, 255, 256, 257, 258, 259, 260, 261, 262, 263, 1231, 1232, 1233, 1155, 1156, 1157, 1158, 1159, 1160, 1161, 1162, 1163, 1239, 1240, 1241, 1202, 1203, 1204, 1205, 1206, 1207, 1208, 1209, 1210] (by decide +kernel) (by decide +kernel)
set_option maxRecDepth 20000 in
theorem gL_law_X7_says : GoodIn wsL_law (wsV RL 45 RX7 yX7_says wsX7_says) := goodIn_app (goodIn_of _ (by decide +kernel)) ggL_law_X7_says
set_option maxRecDepth 20000 in
theorem ggL_law_X8_says : GoodIn wsL_law wsX8_says := goodIn_r _ [267, 116, 119, 110, 112, 157, 158, 159, 5, 160, 161, 162, 163, 164, 109, 268, 269, 270, 271, 111, 272, 273, 274, 275, 276, 1164, 1165, 1166, 1167, 1168, 1169, 1170, 1171, 1172, 1173, 1174, 1175, 1176, 1177, 1178, 1179, 1180, 1181, 1182, 1183, 1184, 1185, 1186, 1187, 1188, 1189, 1190, 1191, 1192, 1193, 1194, 1195, 1196, 1197, 1198, 1199, 1200, 1201] (by decide +kernel) (by decide +kernel)
set_option maxRecDepth 20000 in
theorem gL_law_X8_says : GoodIn wsL_law (wsV RL 48 RX8 yX8_says wsX8_says) := goodIn_app (goodIn_of _ (by decide +kernel)) ggL_law_X8_says
set_option maxRecDepth 20000 in
theorem ggL_law_X7_pull : GoodIn wsL_law wsX7_pull := goodIn_r _ [280, 18, 281, 138, 139, 2, 140, 141, 142, 143, 144, 33, 282, 283, 284, 17, 285, 48, 46, 45, 286, 241, 287, 288, 289, 290, 11, 12, 243, 248, 291, 1155, 1156, 1157, 1158, 1159, 1160, 1161, 1162, 1163, 1202, 1203, 1204, 1205, 1206, 1207, 1208, 1209, 1210, 1239, 1240, 1241] (by decide +kernel) (by decide +kernel)
set_option maxRecDepth 20000 in
theorem gL_law_X7_pull : GoodIn wsL_law (wsV RL 49 RX7 yX7_pull wsX7_pull) := goodIn_app (goodIn_of _ (by decide +kernel)) ggL_law_X7_pull
set_option maxRecDepth 20000 in
theorem ggL_law_X8_pull : GoodIn wsL_law wsX8_pull := goodIn_r _ [295, 223, 161, 162, 163, 5, 164, 109, 296, 297, 298, 299, 110, 111, 112, 1164, 1165, 1166, 1167, 1168, 1169, 1170, 1171, 1172, 1173, 1174, 1175, 1176, 1177, 1178, 1179, 1180, 1181, 1182, 1183, 1184, 1185, 1186, 1187, 1188, 1189, 1190, 1191, 1192, 1193, 1194, 1195, 1196, 1197, 1198, 1199, 1200, 1201] (by decide +kernel) (by decide +kernel)
set_option maxRecDepth 20000 in
theorem gL_law_X8_pull : GoodIn wsL_law (wsV RL 52 RX8 yX8_pull wsX8_pull) := goodIn_app (goodIn_of _ (by decide +kernel)) ggL_law_X8_pull
set_option maxRecDepth 20000 in
theorem ggL_law_X7_pullOf : GoodIn wsL_law wsX7_pullOf := goodIn_r _ [303, 18, 304, 305, 236, 211, 212, 213, 17, 214, 48, 46, 139, 2, 140, 141, 142, 143, 144, 33, 138, 244, 245, 246, 241, 247, 243, 248, 306, 307, 308, 309, 49, 51, 310, 311, 312, 313, 291, 1155, 1156, 1157, 1158, 1159, 1160, 1161, 1162, 1163, 1239, 1240, 1241, 1202, 1203, 1204, 1205, 1206, 1207, 1208, 1209, 1210] (by decide +kernel) (by decide +kernel)
set_option maxRecDepth 20000 in
theorem gL_law_X7_pullOf : GoodIn wsL_law (wsV RL 53 RX7 yX7_pullOf wsX7_pullOf) := goodIn_app (goodIn_of _ (by decide +kernel)) ggL_law_X7_pullOf
set_option maxRecDepth 20000 in
theorem ggL_law_X8_pullOf : GoodIn wsL_law wsX8_pullOf := goodIn_r _ [317, 110, 111, 112, 318, 105, 219, 220, 221, 5, 222, 223, 161, 162, 163, 164, 109, 268, 269, 270, 271, 319, 320, 321, 322, 1164, 1165, 1166, 1167, 1168, 1169, 1170, 1171, 1172, 1173, 1174, 1175, 1176, 1177, 1178, 1179, 1180, 1181, 1182, 1183, 1184, 1185, 1186, 1187, 1188, 1189, 1190, 1191, 1192, 1193, 1194, 1195, 1196, 1197, 1198, 1199, 1200, 1201] (by decide +kernel) (by decide +kernel)
set_option maxRecDepth 20000 in
theorem gL_law_X8_pullOf : GoodIn wsL_law (wsV RL 56 RX8 yX8_pullOf wsX8_pullOf) := goodIn_app (goodIn_of _ (by decide +kernel)) ggL_law_X8_pullOf
set_option maxRecDepth 20000 in
theorem ggL_law_X7_teeth : GoodIn wsL_law wsX7_teeth := goodIn_r _ [326, 18, 327, 328, 138, 139, 2, 140, 141, 142, 143, 144, 33, 329, 330, 331, 43, 332, 60, 61, 58, 59, 1155, 1156, 1157, 1158, 1159, 1160, 1161, 1162, 1163, 1202, 1203, 1204, 1205, 1206, 1207, 1208, 1209, 1210, 1234, 1235, 1236, 1237, 1238] (by decide +kernel) (by decide +kernel)
set_option maxRecDepth 20000 in
theorem gL_law_X7_teeth : GoodIn wsL_law (wsV RL 57 RX7 yX7_teeth wsX7_teeth) := goodIn_app (goodIn_of _ (by decide +kernel)) ggL_law_X7_teeth
set_option maxRecDepth 20000 in
theorem ggL_law_X8_teeth : GoodIn wsL_law wsX8_teeth := goodIn_r _ [336, 104, 161, 162, 163, 5, 164, 109, 337, 338, 339, 340, 341, 113, 114, 1164, 1165, 1166, 1167, 1168, 1169, 1170, 1171, 1172, 1173, 1174, 1175, 1176, 1177, 1178, 1179, 1180, 1181, 1182, 1183, 1184, 1185, 1186, 1187, 1188, 1189, 1190, 1191, 1192, 1193, 1194, 1195, 1196, 1197, 1198, 1199, 1200, 1201] (by decide +kernel) (by decide +kernel)
set_option maxRecDepth 20000 in
theorem gL_law_X8_teeth : GoodIn wsL_law (wsV RL 60 RX8 yX8_teeth wsX8_teeth) := goodIn_app (goodIn_of _ (by decide +kernel)) ggL_law_X8_teeth
set_option maxRecDepth 20000 in
theorem ggL_law_X7_lack : GoodIn wsL_law wsX7_lack := goodIn_r _ [345, 18, 327, 346, 347, 348, 349, 43, 350, 60, 141, 142, 143, 2, 144, 33, 138, 139, 140, 1155, 1156, 1157, 1158, 1159, 1160, 1161, 1162, 1163, 1202, 1203, 1204, 1205, 1206, 1207, 1208, 1209, 1210, 1234, 1235, 1236, 1237, 1238] (by decide +kernel) (by decide +kernel)
set_option maxRecDepth 20000 in
theorem gL_law_X7_lack : GoodIn wsL_law (wsV RL 61 RX7 yX7_lack wsX7_lack) := goodIn_app (goodIn_of _ (by decide +kernel)) ggL_law_X7_lack
set_option maxRecDepth 20000 in
theorem ggL_law_X8_lack : GoodIn wsL_law wsX8_lack := goodIn_r _ [354, 113, 355, 356, 357, 5, 358, 104, 161, 162, 163, 164, 109, 1164, 1165, 1166, 1167, 1168, 1169, 1170, 1171, 1172, 1173, 1174, 1175, 1176, 1177, 1178, 1179, 1180, 1181, 1182, 1183, 1184, 1185, 1186, 1187, 1188, 1189, 1190, 1191, 1192, 1193, 1194, 1195, 1196, 1197, 1198, 1199, 1200, 1201] (by decide +kernel) (by decide +kernel)
set_option maxRecDepth 20000 in
theorem gL_law_X8_lack : GoodIn wsL_law (wsV RL 65 RX8 yX8_lack wsX8_lack) := goodIn_app (goodIn_of _ (by decide +kernel)) ggL_law_X8_lack
set_option maxRecDepth 20000 in
theorem ggL_law_X7_slack : GoodIn wsL_law wsX7_slack := goodIn_r _ [362, 18, 327, 363, 347, 348, 349, 43, 350, 60, 141, 142, 143, 2, 144, 33, 138, 139, 140, 1155, 1156, 1157, 1158, 1159, 1160, 1161, 1162, 1163, 1202, 1203, 1204, 1205, 1206, 1207, 1208, 1209, 1210, 1234, 1235, 1236, 1237, 1238] (by decide +kernel) (by decide +kernel)
set_option maxRecDepth 20000 in
theorem gL_law_X7_slack : GoodIn wsL_law (wsV RL 66 RX7 yX7_slack wsX7_slack) := goodIn_app (goodIn_of _ (by decide +kernel)) ggL_law_X7_slack
set_option maxRecDepth 20000 in
theorem ggL_law_X8_slack : GoodIn wsL_law wsX8_slack := goodIn_r _ [367, 114, 355, 356, 357, 5, 358, 104, 161, 162, 163, 164, 109, 1164, 1165, 1166, 1167, 1168, 1169, 1170, 1171, 1172, 1173, 1174, 1175, 1176, 1177, 1178, 1179, 1180, 1181, 1182, 1183, 1184, 1185, 1186, 1187, 1188, 1189, 1190, 1191, 1192, 1193, 1194, 1195, 1196, 1197, 1198, 1199, 1200, 1201] (by decide +kernel) (by decide +kernel)
set_option maxRecDepth 20000 in
theorem gL_law_X8_slack : GoodIn wsL_law (wsV RL 69 RX8 yX8_slack wsX8_slack) := goodIn_app (goodIn_of _ (by decide +kernel)) ggL_law_X8_slack
set_option maxRecDepth 20000 in
theorem ggL_law_X7_ask : GoodIn wsL_law wsX7_ask := goodIn_r _ [371, 18, 138, 139, 2, 140, 372, 373, 17, 374, 375, 376, 377, 378, 44, 379, 141, 142, 143, 144, 33, 380, 381, 382, 383, 49, 51, 52, 384, 385, 47, 386, 387, 388, 389, 1155, 1156, 1157, 1158, 1159, 1160, 1161, 1162, 1163, 1202, 1203, 1204, 1205, 1206, 1207, 1208, 1209, 1210, 1234, 1235, 1236, 1237, 1238] (by decide +kernel) (by decide +kernel)
set_option maxRecDepth 20000 in
theorem gL_law_X7_ask : GoodIn wsL_law (wsV RL 70 RX7 yX7_ask wsX7_ask) := goodIn_app (goodIn_of _ (by decide +kernel)) ggL_law_X7_ask
set_option maxRecDepth 20000 in
theorem ggL_law_X8_ask : GoodIn wsL_law wsX8_ask := goodIn_r _ [393, 394, 395, 396, 5, 397, 398, 399, 400, 401, 104, 161, 162, 163, 164, 109, 402, 403, 404, 405, 318, 105, 276, 106, 341, 115, 406, 407, 408, 409, 1164, 1165, 1166, 1167, 1168, 1169, 1170, 1171, 1172, 1173, 1174, 1175, 1176, 1177, 1178, 1179, 1180, 1181, 1182, 1183, 1184, 1185, 1186, 1187, 1188, 1189, 1190, 1191, 1192, 1193, 1194, 1195, 1196, 1197, 1198, 1199, 1200, 1201] (by decide +kernel) (by decide +kernel)
set_option maxRecDepth 20000 in
theorem gL_law_X8_ask : GoodIn wsL_law (wsV RL 73 RX8 yX8_ask wsX8_ask) := goodIn_app (goodIn_of _ (by decide +kernel)) ggL_law_X8_ask
set_option maxRecDepth 20000 in
theorem ggL_law_X7_jacket : GoodIn wsL_law wsX7_jacket := goodIn_r _ [413, 27, 18, 327, 328, 281, 35, 414, 134, 135, 136, 2, 137, 14, 138, 139, 140, 141, 142, 143, 144, 33, 169, 170, 171, 37, 172, 98, 415, 416, 417, 26, 418, 83, 84, 81, 82, 80, 79, 419, 420, 421, 422, 423, 424, 254, 255, 256, 78, 425, 426, 427, 428, 97, 429, 174, 175, 176, 99, 430, 431, 432, 433, 77, 434, 435, 436, 437, 438, 258, 259, 439, 440, 441, 442, 443, 444, 445, 446, 447, 448, 449, 450, 451, 452, 453, 454, 455, 456, 457, 458, 459, 460, 461, 462, 463, 464, 465, 466, 467, 468, 469, 470, 471, 472, 473, 474, 475, 476, 477, 478, 479, 480, 481, 482, 483, 484, 485, 486, 487, 488, 489, 490, 491, 492, 493, 494, 495, 496, 497, 498, 499, 500, 501, 502, 503, 504, 505, 506, 507, 508, 509, 510, 511, 512, 513, 514, 515, 516, 517, 518, 519, 520, 521, 522, 523, 524, 525, 526, 527, 528, 529, 530, 531, 532, 533, 534, 535, 536, 537, 330, 331, 43, 332, 60, 61, 58, 59, 538, 283, 284, 17, 285, 48, 46, 45, 286, 241, 287, 288, 289, 290, 11, 12, 243, 248, 291, 539, 387, 388, 389, 49, 51, 52, 44, 384, 385, 47, 1155, 1156, 1157, 1158, 1159, 1160, 1161, 1162, 1163, 1202, 1203, 1204, 1205, 1206, 1207, 1208, 1209, 1210, 1234, 1235, 1236, 1237, 1238, 1218, 1219, 1220, 1221, 1222, 1223, 1224, 1225, 1231, 1232, 1233, 1239, 1240, 1241] (by decide +kernel) (by decide +kernel)
set_option maxRecDepth 20000 in
theorem gL_law_X7_jacket : GoodIn wsL_law (wsV RL 74 RX7 yX7_jacket wsX7_jacket) := goodIn_app (goodIn_of _ (by decide +kernel)) ggL_law_X7_jacket
set_option maxRecDepth 20000 in
theorem ggL_law_X8_jacket : GoodIn wsL_law wsX8_jacket := goodIn_r _ [543, 125, 544, 545, 118, 546, 108, 120, 547, 548, 549, 550, 5, 551, 116, 157, 158, 159, 160, 161, 162, 163, 164, 109, 552, 553, 554, 555, 110, 111, 112, 113, 114, 115, 223, 104, 341, 318, 556, 105, 276, 106, 107, 557, 558, 559, 560, 561, 562, 563, 564, 123, 124, 565, 566, 567, 568, 569, 122, 570, 571, 572, 573, 574, 575, 576, 577, 578, 579, 580, 581, 582, 583, 584, 585, 586, 587, 588, 589, 394, 395, 396, 397, 398, 399, 400, 401, 337, 338, 339, 340, 296, 297, 298, 299, 406, 407, 408, 409, 1164, 1165, 1166, 1167, 1168, 1169, 1170, 1171, 1172, 1173, 1174, 1175, 1176, 1177, 1178, 1179, 1180, 1181, 1182, 1183, 1184, 1185, 1186, 1187, 1188, 1189, 1190, 1191, 1192, 1193, 1194, 1195, 1196, 1197, 1198, 1199, 1200, 1201] (by decide +kernel) (by decide +kernel)
set_option maxRecDepth 20000 in
theorem gL_law_X8_jacket : GoodIn wsL_law (wsV RL 77 RX8 yX8_jacket wsX8_jacket) := goodIn_app (goodIn_of _ (by decide +kernel)) ggL_law_X8_jacket
set_option maxRecDepth 20000 in
theorem ggL_law_X7_fault : GoodIn wsL_law wsX7_fault := goodIn_r _ [593, 35, 1155, 1156, 1157, 1158, 1159, 1160, 1161, 1162, 1163] (by decide +kernel) (by decide +kernel)
set_option maxRecDepth 20000 in
theorem gL_law_X7_fault : GoodIn wsL_law (wsV RL 78 RX7 yX7_fault wsX7_fault) := goodIn_app (goodIn_of _ (by decide +kernel)) ggL_law_X7_fault
set_option maxRecDepth 20000 in
theorem ggL_law_X8_fault : GoodIn wsL_law wsX8_fault := goodIn_r _ [597, 108, 1164, 1165, 1166, 1167, 1168, 1169, 1170, 1171, 1172, 1173, 1174, 1175, 1176, 1177, 1178, 1179, 1180, 1181, 1182, 1183, 1184, 1185, 1186, 1187, 1188, 1189, 1190, 1191, 1192, 1193, 1194, 1195, 1196, 1197, 1198, 1199, 1200, 1201] (by decide +kernel) (by decide +kernel)
set_option maxRecDepth 20000 in
theorem gL_law_X8_fault : GoodIn wsL_law (wsV RL 82 RX8 yX8_fault wsX8_fault) := goodIn_app (goodIn_of _ (by decide +kernel)) ggL_law_X8_fault
set_option maxRecDepth 20000 in
theorem ggL_law_X7_frees : GoodIn wsL_law wsX7_frees := goodIn_r _ [601, 18, 237, 211, 212, 213, 17, 214, 48, 46, 139, 2, 140, 141, 142, 143, 144, 33, 138, 249, 250, 251, 241, 252, 243, 253, 254, 255, 256, 257, 258, 259, 260, 261, 262, 263, 248, 602, 603, 604, 605, 606, 245, 246, 247, 607, 608, 609, 610, 1155, 1156, 1157, 1158, 1159, 1160, 1161, 1162, 1163, 1202, 1203, 1204, 1205, 1206, 1207, 1208, 1209, 1210, 1239, 1240, 1241] (by decide +kernel) (by decide +kernel)
set_option maxRecDepth 20000 in
theorem gL_law_X7_frees : GoodIn wsL_law (wsV RL 83 RX7 yX7_frees wsX7_frees) := goodIn_app (goodIn_of _ (by decide +kernel)) ggL_law_X7_frees
set_option maxRecDepth 20000 in
theorem ggL_law_X8_frees : GoodIn wsL_law wsX8_frees := goodIn_r _ [614, 219, 220, 221, 5, 222, 223, 161, 162, 163, 164, 109, 272, 273, 274, 275, 110, 111, 276, 615, 616, 617, 618, 268, 269, 270, 271, 1164, 1165, 1166, 1167, 1168, 1169, 1170, 1171, 1172, 1173, 1174, 1175, 1176, 1177, 1178, 1179, 1180, 1181, 1182, 1183, 1184, 1185, 1186, 1187, 1188, 1189, 1190, 1191, 1192, 1193, 1194, 1195, 1196, 1197, 1198, 1199, 1200, 1201] (by decide +kernel) (by decide +kernel)
set_option maxRecDepth 20000 in
theorem gL_law_X8_frees : GoodIn wsL_law (wsV RL 86 RX8 yX8_frees wsX8_frees) := goodIn_app (goodIn_of _ (by decide +kernel)) ggL_law_X8_frees
set_option maxRecDepth 20000 in
theorem ggL_law_X7_cases : GoodIn wsL_law wsX7_cases := goodIn_r _ [622, 23, 18, 237, 623, 624, 138, 139, 2, 140, 625, 626, 627, 628, 141, 142, 143, 144, 33, 629, 630, 631, 22, 632, 633, 71, 72, 73, 634, 70, 635, 636, 258, 255, 259, 637, 68, 638, 192, 193, 194, 66, 67, 639, 212, 213, 17, 214, 48, 46, 640, 641, 151, 642, 643, 644, 645, 646, 647, 648, 649, 650, 651, 311, 312, 241, 313, 291, 652, 653, 654, 655, 656, 250, 251, 252, 243, 253, 254, 256, 257, 260, 261, 262, 263, 248, 657, 603, 604, 605, 606, 245, 246, 247, 658, 659, 660, 661, 608, 609, 610, 662, 663, 1155, 1156, 1157, 1158, 1159, 1160, 1161, 1162, 1163, 1202, 1203, 1204, 1205, 1206, 1207, 1208, 1209, 1210, 1211, 1212, 1213, 1214, 1215, 1216, 1217, 1239, 1240, 1241] (by decide +kernel) (by decide +kernel)
set_option maxRecDepth 20000 in
theorem gL_law_X7_cases : GoodIn wsL_law (wsV RL 87 RX7 yX7_cases wsX7_cases) := goodIn_app (goodIn_of _ (by decide +kernel)) ggL_law_X7_cases
set_option maxRecDepth 20000 in
theorem ggL_law_X8_cases : GoodIn wsL_law wsX8_cases := goodIn_r _ [667, 318, 105, 668, 669, 670, 5, 671, 109, 672, 673, 674, 675, 676, 677, 678, 679, 223, 319, 320, 321, 322, 112, 680, 681, 682, 683, 272, 273, 274, 275, 110, 111, 276, 615, 616, 617, 618, 268, 269, 270, 271, 684, 685, 686, 687, 688, 689, 690, 691, 1164, 1165, 1166, 1167, 1168, 1169, 1170, 1171, 1172, 1173, 1174, 1175, 1176, 1177, 1178, 1179, 1180, 1181, 1182, 1183, 1184, 1185, 1186, 1187, 1188, 1189, 1190, 1191, 1192, 1193, 1194, 1195, 1196, 1197, 1198, 1199, 1200, 1201] (by decide +kernel) (by decide +kernel)
set_option maxRecDepth 20000 in
theorem gL_law_X8_cases : GoodIn wsL_law (wsV RL 90 RX8 yX8_cases wsX8_cases) := goodIn_app (goodIn_of _ (by decide +kernel)) ggL_law_X8_cases
set_option maxRecDepth 20000 in
theorem ggL_law_X7_line : GoodIn wsL_law wsX7_line := goodIn_r _ [695, 23, 18, 237, 623, 624, 138, 139, 2, 140, 625, 626, 627, 628, 141, 142, 143, 144, 33, 629, 630, 631, 22, 632, 633, 71, 72, 73, 634, 70, 635, 636, 258, 255, 259, 637, 68, 638, 192, 193, 194, 66, 67, 639, 212, 213, 17, 214, 48, 46, 640, 641, 151, 642, 696, 697, 698, 699, 700, 701, 702, 703, 704, 254, 256, 705, 706, 707, 708, 663, 709, 710, 711, 712, 647, 648, 649, 650, 651, 311, 312, 241, 313, 291, 713, 714, 715, 716, 656, 250, 251, 252, 243, 253, 257, 260, 261, 262, 263, 248, 657, 603, 604, 605, 606, 245, 246, 247, 661, 608, 609, 610, 1155, 1156, 1157, 1158, 1159, 1160, 1161, 1162, 1163, 1202, 1203, 1204, 1205, 1206, 1207, 1208, 1209, 1210, 1211, 1212, 1213, 1214, 1215, 1216, 1217, 1239, 1240, 1241] (by decide +kernel) (by decide +kernel)
set_option maxRecDepth 20000 in
theorem gL_law_X7_line : GoodIn wsL_law (wsV RL 91 RX7 yX7_line wsX7_line) := goodIn_app (goodIn_of _ (by decide +kernel)) ggL_law_X7_line
set_option maxRecDepth 20000 in
theorem ggL_law_X8_line : GoodIn wsL_law wsX8_line := goodIn_r _ [720, 318, 105, 668, 669, 670, 5, 671, 109, 672, 673, 674, 675, 721, 722, 723, 724, 115, 223, 688, 689, 690, 691, 319, 320, 321, 322, 112, 725, 726, 727, 728, 110, 272, 273, 274, 275, 111, 276, 615, 616, 617, 618, 268, 269, 270, 271, 729, 730, 731, 732, 1164, 1165, 1166, 1167, 1168, 1169, 1170, 1171, 1172, 1173, 1174, 1175, 1176, 1177, 1178, 1179, 1180, 1181, 1182, 1183, 1184, 1185, 1186, 1187, 1188, 1189, 1190, 1191, 1192, 1193, 1194, 1195, 1196, 1197, 1198, 1199, 1200, 1201] (by decide +kernel) (by decide +kernel)
set_option maxRecDepth 20000 in
theorem gL_law_X8_line : GoodIn wsL_law (wsV RL 94 RX8 yX8_line wsX8_line) := goodIn_app (goodIn_of _ (by decide +kernel)) ggL_law_X8_line
set_option maxRecDepth 20000 in
theorem ggL_law_X7_haste : GoodIn wsL_law wsX7_haste := goodIn_r _ [736, 138, 139, 2, 140, 141, 142, 143, 144, 33, 737, 738, 739, 740, 23, 18, 623, 624, 629, 630, 631, 22, 632, 633, 71, 72, 73, 634, 70, 635, 636, 258, 255, 259, 637, 68, 638, 192, 193, 194, 66, 67, 639, 212, 213, 17, 214, 48, 46, 640, 641, 151, 642, 659, 660, 662, 663, 647, 648, 649, 650, 651, 311, 312, 241, 313, 291, 652, 653, 654, 655, 656, 250, 251, 252, 243, 253, 254, 256, 257, 260, 261, 262, 263, 248, 657, 603, 604, 605, 606, 245, 246, 247, 658, 661, 608, 609, 610, 1155, 1156, 1157, 1158, 1159, 1160, 1161, 1162, 1163, 1202, 1203, 1204, 1205, 1206, 1207, 1208, 1209, 1210, 1211, 1212, 1213, 1214, 1215, 1216, 1217, 1239, 1240, 1241] (by decide +kernel) (by decide +kernel)
set_option maxRecDepth 20000 in
theorem gL_law_X7_haste : GoodIn wsL_law (wsV RL 95 RX7 yX7_haste wsX7_haste) := goodIn_app (goodIn_of _ (by decide +kernel)) ggL_law_X7_haste
set_option maxRecDepth 20000 in
theorem ggL_law_X8_haste : GoodIn wsL_law wsX8_haste := goodIn_r _ [744, 161, 162, 163, 5, 164, 109, 672, 673, 674, 675, 745, 746, 747, 748, 276, 318, 105, 684, 685, 686, 687, 223, 110, 688, 689, 690, 691, 319, 320, 321, 322, 112, 680, 681, 682, 683, 272, 273, 274, 275, 111, 615, 616, 617, 618, 268, 269, 270, 271, 1164, 1165, 1166, 1167, 1168, 1169, 1170, 1171, 1172, 1173, 1174, 1175, 1176, 1177, 1178, 1179, 1180, 1181, 1182, 1183, 1184, 1185, 1186, 1187, 1188, 1189, 1190, 1191, 1192, 1193, 1194, 1195, 1196, 1197, 1198, 1199, 1200, 1201] (by decide +kernel) (by decide +kernel)
set_option maxRecDepth 20000 in
theorem gL_law_X8_haste : GoodIn wsL_law (wsV RL 98 RX8 yX8_haste wsX8_haste) := goodIn_app (goodIn_of _ (by decide +kernel)) ggL_law_X8_haste
set_option maxRecDepth 20000 in
theorem ggL_law_X7_freed : GoodIn wsL_law wsX7_freed := goodIn_r _ [752, 18, 134, 135, 136, 2, 137, 14, 138, 139, 140, 211, 212, 213, 17, 214, 48, 46, 141, 142, 143, 144, 33, 753, 754, 755, 37, 756, 99, 757, 170, 171, 172, 98, 758, 759, 760, 761, 762, 426, 427, 428, 97, 429, 174, 175, 176, 763, 764, 765, 766, 237, 767, 249, 250, 251, 241, 252, 243, 253, 254, 255, 256, 257, 258, 259, 260, 261, 262, 263, 248, 1155, 1156, 1157, 1158, 1159, 1160, 1161, 1162, 1163, 1202, 1203, 1204, 1205, 1206, 1207, 1208, 1209, 1210, 1231, 1232, 1233, 1239, 1240, 1241] (by decide +kernel) (by decide +kernel)
set_option maxRecDepth 20000 in
theorem gL_law_X7_freed : GoodIn wsL_law (wsV RL 99 RX7 yX7_freed wsX7_freed) := goodIn_app (goodIn_of _ (by decide +kernel)) ggL_law_X7_freed
set_option maxRecDepth 20000 in
theorem ggL_law_X8_freed : GoodIn wsL_law wsX8_freed := goodIn_r _ [771, 157, 158, 159, 5, 160, 219, 220, 221, 222, 223, 772, 773, 774, 775, 118, 548, 549, 550, 551, 116, 776, 777, 778, 779, 120, 161, 162, 163, 164, 109, 780, 781, 782, 783, 272, 273, 274, 275, 110, 111, 276, 1164, 1165, 1166, 1167, 1168, 1169, 1170, 1171, 1172, 1173, 1174, 1175, 1176, 1177, 1178, 1179, 1180, 1181, 1182, 1183, 1184, 1185, 1186, 1187, 1188, 1189, 1190, 1191, 1192, 1193, 1194, 1195, 1196, 1197, 1198, 1199, 1200, 1201] (by decide +kernel) (by decide +kernel)
set_option maxRecDepth 20000 in
theorem gL_law_X8_freed : GoodIn wsL_law (wsV RL 102 RX8 yX8_freed wsX8_freed) := goodIn_app (goodIn_of _ (by decide +kernel)) ggL_law_X8_freed
set_option maxRecDepth 20000 in
theorem ggL_law_X7_best : GoodIn wsL_law wsX7_best := goodIn_r _ [787, 18, 281, 134, 135, 136, 2, 137, 14, 138, 139, 140, 625, 626, 627, 628, 141, 142, 143, 144, 33, 753, 754, 755, 37, 756, 99, 757, 170, 171, 172, 98, 758, 759, 760, 761, 762, 426, 427, 428, 97, 429, 174, 175, 176, 211, 212, 213, 17, 214, 48, 46, 763, 764, 765, 766, 237, 767, 249, 250, 251, 241, 252, 243, 253, 254, 255, 256, 257, 258, 259, 260, 261, 262, 263, 248, 1155, 1156, 1157, 1158, 1159, 1160, 1161, 1162, 1163, 1202, 1203, 1204, 1205, 1206, 1207, 1208, 1209, 1210, 1231, 1232, 1233, 1239, 1240, 1241] (by decide +kernel) (by decide +kernel)
set_option maxRecDepth 20000 in
theorem gL_law_X7_best : GoodIn wsL_law (wsV RL 103 RX7 yX7_best wsX7_best) := goodIn_app (goodIn_of _ (by decide +kernel)) ggL_law_X7_best
set_option maxRecDepth 20000 in
theorem ggL_law_X8_best : GoodIn wsL_law wsX8_best := goodIn_r _ [791, 223, 772, 773, 774, 5, 775, 118, 548, 549, 550, 551, 116, 157, 158, 159, 160, 776, 777, 778, 779, 120, 668, 669, 670, 671, 109, 780, 781, 782, 783, 272, 273, 274, 275, 110, 111, 276, 1164, 1165, 1166, 1167, 1168, 1169, 1170, 1171, 1172, 1173, 1174, 1175, 1176, 1177, 1178, 1179, 1180, 1181, 1182, 1183, 1184, 1185, 1186, 1187, 1188, 1189, 1190, 1191, 1192, 1193, 1194, 1195, 1196, 1197, 1198, 1199, 1200, 1201] (by decide +kernel) (by decide +kernel)
set_option maxRecDepth 20000 in
theorem gL_law_X8_best : GoodIn wsL_law (wsV RL 106 RX8 yX8_best wsX8_best) := goodIn_app (goodIn_of _ (by decide +kernel)) ggL_law_X8_best
set_option maxRecDepth 20000 in
theorem ggL_law_X7_behind : GoodIn wsL_law wsX7_behind := goodIn_r _ [795, 18, 237, 134, 135, 136, 2, 137, 14, 138, 139, 140, 211, 212, 213, 17, 214, 48, 46, 141, 142, 143, 144, 33, 753, 754, 755, 37, 756, 99, 757, 170, 171, 172, 98, 758, 759, 760, 761, 762, 426, 427, 428, 97, 429, 174, 175, 176, 767, 249, 250, 251, 241, 252, 243, 253, 254, 255, 256, 257, 258, 259, 260, 261, 262, 263, 248, 602, 603, 604, 605, 606, 245, 246, 247, 607, 608, 609, 610, 1155, 1156, 1157, 1158, 1159, 1160, 1161, 1162, 1163, 1202, 1203, 1204, 1205, 1206, 1207, 1208, 1209, 1210, 1231, 1232, 1233, 1239, 1240, 1241] (by decide +kernel) (by decide +kernel)
set_option maxRecDepth 20000 in
theorem gL_law_X7_behind : GoodIn wsL_law (wsV RL 107 RX7 yX7_behind wsX7_behind) := goodIn_app (goodIn_of _ (by decide +kernel)) ggL_law_X7_behind
set_option maxRecDepth 20000 in
theorem ggL_law_X8_behind : GoodIn wsL_law wsX8_behind := goodIn_r _ [799, 157, 158, 159, 5, 160, 219, 220, 221, 222, 223, 772, 773, 774, 775, 118, 548, 549, 550, 551, 116, 776, 777, 778, 779, 120, 161, 162, 163, 164, 109, 272, 273, 274, 275, 110, 111, 276, 615, 616, 617, 618, 268, 269, 270, 271, 1164, 1165, 1166, 1167, 1168, 1169, 1170, 1171, 1172, 1173, 1174, 1175, 1176, 1177, 1178, 1179, 1180, 1181, 1182, 1183, 1184, 1185, 1186, 1187, 1188, 1189, 1190, 1191, 1192, 1193, 1194, 1195, 1196, 1197, 1198, 1199, 1200, 1201] (by decide +kernel) (by decide +kernel)
set_option maxRecDepth 20000 in
theorem gL_law_X8_behind : GoodIn wsL_law (wsV RL 110 RX8 yX8_behind wsX8_behind) := goodIn_app (goodIn_of _ (by decide +kernel)) ggL_law_X8_behind
set_option maxRecDepth 20000 in
theorem ggL_law_X7_strong : GoodIn wsL_law wsX7_strong := goodIn_r _ [803, 18, 327, 804, 805, 806, 43, 807, 60, 808, 809, 810, 811, 812, 813, 814, 815, 58, 816, 348, 349, 350, 817, 818, 819, 820, 821, 822, 823, 824, 825, 826, 827, 828, 829, 830, 258, 255, 259, 831, 832, 833, 834, 141, 142, 143, 2, 144, 33, 138, 139, 140, 1155, 1156, 1157, 1158, 1159, 1160, 1161, 1162, 1163, 1202, 1203, 1204, 1205, 1206, 1207, 1208, 1209, 1210, 1234, 1235, 1236, 1237, 1238] (by decide +kernel) (by decide +kernel)
set_option maxRecDepth 20000 in
theorem gL_law_X7_strong : GoodIn wsL_law (wsV RL 111 RX7 yX7_strong wsX7_strong) := goodIn_app (goodIn_of _ (by decide +kernel)) ggL_law_X7_strong
set_option maxRecDepth 20000 in
theorem ggL_law_X8_strong : GoodIn wsL_law wsX8_strong := goodIn_r _ [838, 839, 840, 841, 5, 842, 104, 843, 844, 845, 846, 113, 847, 848, 849, 850, 851, 852, 853, 854, 127, 128, 855, 856, 857, 858, 859, 860, 861, 862, 161, 162, 163, 164, 109, 1164, 1165, 1166, 1167, 1168, 1169, 1170, 1171, 1172, 1173, 1174, 1175, 1176, 1177, 1178, 1179, 1180, 1181, 1182, 1183, 1184, 1185, 1186, 1187, 1188, 1189, 1190, 1191, 1192, 1193, 1194, 1195, 1196, 1197, 1198, 1199, 1200, 1201] (by decide +kernel) (by decide +kernel)
set_option maxRecDepth 20000 in
theorem gL_law_X8_strong : GoodIn wsL_law (wsV RL 114 RX8 yX8_strong wsX8_strong) := goodIn_app (goodIn_of _ (by decide +kernel)) ggL_law_X8_strong
set_option maxRecDepth 20000 in
theorem ggL_law_X7_catches : GoodIn wsL_law wsX7_catches := goodIn_r _ [866, 18, 327, 867, 868, 869, 43, 870, 60, 871, 872, 873, 874, 58, 59, 62, 816, 348, 349, 350, 141, 142, 143, 2, 144, 33, 138, 139, 140, 1155, 1156, 1157, 1158, 1159, 1160, 1161, 1162, 1163, 1202, 1203, 1204, 1205, 1206, 1207, 1208, 1209, 1210, 1234, 1235, 1236, 1237, 1238] (by decide +kernel) (by decide +kernel)
set_option maxRecDepth 20000 in
theorem gL_law_X7_catches : GoodIn wsL_law (wsV RL 115 RX7 yX7_catches wsX7_catches) := goodIn_app (goodIn_of _ (by decide +kernel)) ggL_law_X7_catches
set_option maxRecDepth 20000 in
theorem ggL_law_X8_catches : GoodIn wsL_law wsX8_catches := goodIn_r _ [878, 104, 161, 162, 163, 5, 164, 109, 879, 880, 881, 882, 113, 114, 106, 1164, 1165, 1166, 1167, 1168, 1169, 1170, 1171, 1172, 1173, 1174, 1175, 1176, 1177, 1178, 1179, 1180, 1181, 1182, 1183, 1184, 1185, 1186, 1187, 1188, 1189, 1190, 1191, 1192, 1193, 1194, 1195, 1196, 1197, 1198, 1199, 1200, 1201] (by decide +kernel) (by decide +kernel)
set_option maxRecDepth 20000 in
theorem gL_law_X8_catches : GoodIn wsL_law (wsV RL 118 RX8 yX8_catches wsX8_catches) := goodIn_app (goodIn_of _ (by decide +kernel)) ggL_law_X8_catches
set_option maxRecDepth 20000 in
theorem ggL_law_X7_stitches : GoodIn wsL_law wsX7_stitches := goodIn_r _ [886, 18, 327, 887, 888, 889, 43, 890, 60, 891, 254, 255, 256, 871, 872, 873, 874, 58, 59, 62, 816, 348, 349, 350, 141, 142, 143, 2, 144, 33, 138, 139, 140, 1155, 1156, 1157, 1158, 1159, 1160, 1161, 1162, 1163, 1202, 1203, 1204, 1205, 1206, 1207, 1208, 1209, 1210, 1234, 1235, 1236, 1237, 1238] (by decide +kernel) (by decide +kernel)
set_option maxRecDepth 20000 in
theorem gL_law_X7_stitches : GoodIn wsL_law (wsV RL 119 RX7 yX7_stitches wsX7_stitches) := goodIn_app (goodIn_of _ (by decide +kernel)) ggL_law_X7_stitches
set_option maxRecDepth 20000 in
theorem ggL_law_X8_stitches : GoodIn wsL_law wsX8_stitches := goodIn_r _ [895, 104, 161, 162, 163, 5, 164, 109, 879, 880, 881, 882, 113, 114, 106, 1164, 1165, 1166, 1167, 1168, 1169, 1170, 1171, 1172, 1173, 1174, 1175, 1176, 1177, 1178, 1179, 1180, 1181, 1182, 1183, 1184, 1185, 1186, 1187, 1188, 1189, 1190, 1191, 1192, 1193, 1194, 1195, 1196, 1197, 1198, 1199, 1200, 1201] (by decide +kernel) (by decide +kernel)
set_option maxRecDepth 20000 in
theorem gL_law_X8_stitches : GoodIn wsL_law (wsV RL 122 RX8 yX8_stitches wsX8_stitches) := goodIn_app (goodIn_of _ (by decide +kernel)) ggL_law_X8_stitches
set_option maxRecDepth 20000 in
theorem ggL_law_X7_judge : GoodIn wsL_law wsX7_judge := goodIn_r _ [899, 134, 135, 136, 2, 137, 14, 138, 139, 140, 625, 626, 627, 628, 141, 142, 143, 144, 33, 900, 901, 902, 37, 903, 99, 757, 170, 171, 172, 98, 904, 905, 906, 907, 18, 623, 624, 237, 236, 767, 426, 427, 428, 97, 429, 174, 175, 176, 211, 212, 213, 17, 214, 48, 46, 908, 311, 312, 241, 313, 291, 249, 250, 251, 252, 243, 253, 254, 255, 256, 257, 258, 259, 260, 261, 262, 263, 248, 602, 603, 604, 605, 606, 245, 246, 247, 607, 608, 609, 610, 1155, 1156, 1157, 1158, 1159, 1160, 1161, 1162, 1163, 1231, 1232, 1233, 1202, 1203, 1204, 1205, 1206, 1207, 1208, 1209, 1210, 1239, 1240, 1241] (by decide +kernel) (by decide +kernel)
set_option maxRecDepth 20000 in
theorem gL_law_X7_judge : GoodIn wsL_law (wsV RL 123 RX7 yX7_judge wsX7_judge) := goodIn_app (goodIn_of _ (by decide +kernel)) ggL_law_X7_judge
set_option maxRecDepth 20000 in
theorem ggL_law_X8_judge : GoodIn wsL_law wsX8_judge := goodIn_r _ [912, 118, 318, 105, 112, 548, 549, 550, 5, 551, 116, 157, 158, 159, 160, 668, 669, 670, 671, 109, 776, 777, 778, 779, 120, 219, 220, 221, 222, 223, 319, 320, 321, 322, 272, 273, 274, 275, 110, 111, 276, 615, 616, 617, 618, 268, 269, 270, 271, 1164, 1165, 1166, 1167, 1168, 1169, 1170, 1171, 1172, 1173, 1174, 1175, 1176, 1177, 1178, 1179, 1180, 1181, 1182, 1183, 1184, 1185, 1186, 1187, 1188, 1189, 1190, 1191, 1192, 1193, 1194, 1195, 1196, 1197, 1198, 1199, 1200, 1201] (by decide +kernel) (by decide +kernel)
set_option maxRecDepth 20000 in
theorem gL_law_X8_judge : GoodIn wsL_law (wsV RL 126 RX8 yX8_judge wsX8_judge) := goodIn_app (goodIn_of _ (by decide +kernel)) ggL_law_X8_judge
set_option maxRecDepth 20000 in
theorem ggL_law_X7_meant : GoodIn wsL_law wsX7_meant := goodIn_r _ [916, 18, 623, 134, 135, 136, 2, 137, 14, 138, 139, 140, 141, 142, 143, 144, 33, 900, 901, 902, 37, 903, 99, 757, 170, 171, 172, 98, 917, 759, 760, 761, 762, 426, 427, 428, 97, 429, 174, 175, 176, 918, 919, 920, 921, 922, 923, 254, 255, 256, 767, 924, 925, 926, 17, 927, 48, 52, 928, 212, 213, 214, 46, 929, 930, 931, 241, 932, 933, 250, 251, 252, 243, 253, 257, 258, 259, 260, 261, 262, 263, 248, 934, 603, 604, 605, 606, 245, 246, 247, 935, 608, 609, 610, 936, 937, 938, 939, 1155, 1156, 1157, 1158, 1159, 1160, 1161, 1162, 1163, 1202, 1203, 1204, 1205, 1206, 1207, 1208, 1209, 1210, 1231, 1232, 1233, 1239, 1240, 1241] (by decide +kernel) (by decide +kernel)
set_option maxRecDepth 20000 in
theorem gL_law_X7_meant : GoodIn wsL_law (wsV RL 127 RX7 yX7_meant wsX7_meant) := goodIn_app (goodIn_of _ (by decide +kernel)) ggL_law_X7_meant
set_option maxRecDepth 20000 in
theorem ggL_law_X8_meant : GoodIn wsL_law wsX8_meant := goodIn_r _ [943, 118, 318, 223, 944, 548, 549, 550, 5, 551, 116, 157, 158, 159, 160, 776, 777, 778, 779, 120, 161, 162, 163, 164, 109, 945, 946, 947, 948, 272, 273, 274, 275, 110, 111, 276, 615, 616, 617, 618, 268, 269, 270, 271, 1164, 1165, 1166, 1167, 1168, 1169, 1170, 1171, 1172, 1173, 1174, 1175, 1176, 1177, 1178, 1179, 1180, 1181, 1182, 1183, 1184, 1185, 1186, 1187, 1188, 1189, 1190, 1191, 1192, 1193, 1194, 1195, 1196, 1197, 1198, 1199, 1200, 1201] (by decide +kernel) (by decide +kernel)
set_option maxRecDepth 20000 in
theorem gL_law_X8_meant : GoodIn wsL_law (wsV RL 130 RX8 yX8_meant wsX8_meant) := goodIn_app (goodIn_of _ (by decide +kernel)) ggL_law_X8_meant
set_option maxRecDepth 20000 in
theorem ggL_law_X7_closed : GoodIn wsL_law wsX7_closed := goodIn_r _ [952, 18, 327, 953, 954, 955, 43, 956, 61, 60, 871, 872, 873, 874, 58, 59, 62, 816, 348, 349, 350, 808, 809, 810, 811, 812, 813, 814, 815, 1155, 1156, 1157, 1158, 1159, 1160, 1161, 1162, 1163, 1202, 1203, 1204, 1205, 1206, 1207, 1208, 1209, 1210, 1234, 1235, 1236, 1237, 1238] (by decide +kernel) (by decide +kernel)
set_option maxRecDepth 20000 in
theorem gL_law_X7_closed : GoodIn wsL_law (wsV RL 131 RX7 yX7_closed wsX7_closed) := goodIn_app (goodIn_of _ (by decide +kernel)) ggL_law_X7_closed
set_option maxRecDepth 20000 in
theorem ggL_law_X8_closed : GoodIn wsL_law wsX8_closed := goodIn_r _ [960, 341, 104, 879, 880, 881, 5, 882, 113, 114, 106, 843, 844, 845, 846, 1164, 1165, 1166, 1167, 1168, 1169, 1170, 1171, 1172, 1173, 1174, 1175, 1176, 1177, 1178, 1179, 1180, 1181, 1182, 1183, 1184, 1185, 1186, 1187, 1188, 1189, 1190, 1191, 1192, 1193, 1194, 1195, 1196, 1197, 1198, 1199, 1200, 1201] (by decide +kernel) (by decide +kernel)
set_option maxRecDepth 20000 in
theorem gL_law_X8_closed : GoodIn wsL_law (wsV RL 134 RX8 yX8_closed wsX8_closed) := goodIn_app (goodIn_of _ (by decide +kernel)) ggL_law_X8_closed
set_option maxRecDepth 20000 in
theorem ggL_law_X7_pulls : GoodIn wsL_law wsX7_pulls := goodIn_r _ [964, 18, 623, 211, 212, 213, 17, 214, 48, 46, 139, 2, 140, 141, 142, 143, 144, 33, 138, 306, 307, 308, 309, 49, 51, 310, 311, 312, 241, 313, 291, 965, 966, 967, 968, 52, 969, 970, 50, 971, 972, 973, 974, 53, 975, 976, 250, 251, 252, 243, 253, 254, 255, 256, 257, 258, 259, 260, 261, 262, 263, 248, 977, 603, 604, 605, 606, 245, 246, 247, 978, 608, 609, 610, 1155, 1156, 1157, 1158, 1159, 1160, 1161, 1162, 1163, 1202, 1203, 1204, 1205, 1206, 1207, 1208, 1209, 1210, 1239, 1240, 1241] (by decide +kernel) (by decide +kernel)
set_option maxRecDepth 20000 in
theorem gL_law_X7_pulls : GoodIn wsL_law (wsV RL 135 RX7 yX7_pulls wsX7_pulls) := goodIn_app (goodIn_of _ (by decide +kernel)) ggL_law_X7_pulls
set_option maxRecDepth 20000 in
theorem ggL_law_X8_pulls : GoodIn wsL_law wsX8_pulls := goodIn_r _ [982, 318, 105, 219, 220, 221, 5, 222, 223, 161, 162, 163, 164, 109, 319, 320, 321, 322, 112, 983, 984, 985, 986, 110, 556, 987, 988, 989, 990, 107, 991, 272, 273, 274, 275, 111, 276, 615, 616, 617, 618, 268, 269, 270, 271, 1164, 1165, 1166, 1167, 1168, 1169, 1170, 1171, 1172, 1173, 1174, 1175, 1176, 1177, 1178, 1179, 1180, 1181, 1182, 1183, 1184, 1185, 1186, 1187, 1188, 1189, 1190, 1191, 1192, 1193, 1194, 1195, 1196, 1197, 1198, 1199, 1200, 1201] (by decide +kernel) (by decide +kernel)
set_option maxRecDepth 20000 in
theorem gL_law_X8_pulls : GoodIn wsL_law (wsV RL 138 RX8 yX8_pulls wsX8_pulls) := goodIn_app (goodIn_of _ (by decide +kernel)) ggL_law_X8_pulls
set_option maxRecDepth 20000 in
theorem ggL_law_X7_close : GoodIn wsL_law wsX7_close := goodIn_r _ [995, 18, 623, 327, 996, 141, 142, 143, 2, 144, 33, 138, 139, 140, 997, 998, 999, 17, 1000, 44, 385, 379, 1001, 384, 49, 1002, 872, 873, 43, 874, 58, 59, 62, 816, 348, 349, 350, 60, 971, 972, 973, 974, 53, 975, 1003, 809, 810, 811, 812, 813, 814, 815, 1155, 1156, 1157, 1158, 1159, 1160, 1161, 1162, 1163, 1202, 1203, 1204, 1205, 1206, 1207, 1208, 1209, 1210, 1234, 1235, 1236, 1237, 1238] (by decide +kernel) (by decide +kernel)
set_option maxRecDepth 20000 in
theorem gL_law_X7_close : GoodIn wsL_law (wsV RL 139 RX7 yX7_close wsX7_close) := goodIn_app (goodIn_of _ (by decide +kernel)) ggL_law_X7_close
set_option maxRecDepth 20000 in
theorem ggL_law_X8_close : GoodIn wsL_law wsX8_close := goodIn_r _ [1007, 318, 341, 161, 162, 163, 5, 164, 109, 1008, 1009, 1010, 1011, 104, 114, 106, 843, 844, 845, 846, 113, 879, 880, 881, 882, 987, 988, 989, 990, 107, 991, 1164, 1165, 1166, 1167, 1168, 1169, 1170, 1171, 1172, 1173, 1174, 1175, 1176, 1177, 1178, 1179, 1180, 1181, 1182, 1183, 1184, 1185, 1186, 1187, 1188, 1189, 1190, 1191, 1192, 1193, 1194, 1195, 1196, 1197, 1198, 1199, 1200, 1201] (by decide +kernel) (by decide +kernel)
set_option maxRecDepth 20000 in
theorem gL_law_X8_close : GoodIn wsL_law (wsV RL 142 RX8 yX8_close wsX8_close) := goodIn_app (goodIn_of _ (by decide +kernel)) ggL_law_X8_close
set_option maxRecDepth 20000 in
theorem ggL_law_X7_winter : GoodIn wsL_law wsX7_winter := goodIn_r _ [1015, 23, 18, 237, 138, 139, 2, 140, 141, 142, 143, 144, 33, 629, 630, 631, 22, 632, 633, 71, 72, 73, 634, 70, 635, 636, 258, 255, 259, 637, 68, 638, 192, 193, 194, 66, 67, 639, 212, 213, 17, 214, 48, 46, 640, 641, 151, 642, 1016, 1017, 1018, 1019, 44, 385, 49, 51, 379, 1020, 998, 999, 1000, 1001, 384, 1002, 872, 873, 43, 874, 58, 59, 62, 816, 348, 349, 350, 60, 971, 972, 973, 974, 53, 975, 1003, 809, 810, 811, 812, 813, 814, 815, 1021, 1022, 1023, 1024, 1025, 644, 645, 646, 647, 648, 649, 650, 651, 311, 312, 241, 313, 291, 652, 653, 654, 655, 656, 250, 251, 252, 243, 253, 254, 256, 257, 260, 261, 262, 263, 248, 657, 603, 604, 605, 606, 245, 246, 247, 658, 659, 660, 661, 608, 609, 610, 662, 663, 928, 1026, 966, 967, 968, 52, 969, 970, 50, 976, 977, 978, 1155, 1156, 1157, 1158, 1159, 1160, 1161, 1162, 1163, 1202, 1203, 1204, 1205, 1206, 1207, 1208, 1209, 1210, 1211, 1212, 1213, 1214, 1215, 1216, 1217, 1239, 1240, 1241, 1234, 1235, 1236, 1237, 1238] (by decide +kernel) (by decide +kernel)
set_option maxRecDepth 20000 in
theorem gL_law_X7_winter : GoodIn wsL_law (wsV RL 143 RX7 yX7_winter wsX7_winter) := goodIn_app (goodIn_of _ (by decide +kernel)) ggL_law_X7_winter
set_option maxRecDepth 20000 in
theorem ggL_law_X8_winter : GoodIn wsL_law wsX8_winter := goodIn_r _ [1030, 161, 162, 163, 5, 164, 109, 1031, 1032, 1033, 1034, 341, 318, 105, 104, 1008, 1009, 1010, 1011, 114, 106, 843, 844, 845, 846, 113, 879, 880, 881, 882, 987, 988, 989, 990, 107, 991, 676, 677, 678, 679, 223, 319, 320, 321, 322, 112, 680, 681, 682, 683, 272, 273, 274, 275, 110, 111, 276, 615, 616, 617, 618, 268, 269, 270, 271, 684, 685, 686, 687, 688, 689, 690, 691, 983, 984, 985, 986, 556, 1164, 1165, 1166, 1167, 1168, 1169, 1170, 1171, 1172, 1173, 1174, 1175, 1176, 1177, 1178, 1179, 1180, 1181, 1182, 1183, 1184, 1185, 1186, 1187, 1188, 1189, 1190, 1191, 1192, 1193, 1194, 1195, 1196, 1197, 1198, 1199, 1200, 1201] (by decide +kernel) (by decide +kernel)
set_option maxRecDepth 20000 in
theorem gL_law_X8_winter : GoodIn wsL_law (wsV RL 146 RX8 yX8_winter wsX8_winter) := goodIn_app (goodIn_of _ (by decide +kernel)) ggL_law_X8_winter
set_option maxRecDepth 20000 in
theorem ggL_law_X7_stitch : GoodIn wsL_law wsX7_stitch := goodIn_r _ [1038, 18, 327, 347, 348, 349, 43, 350, 60, 141, 142, 143, 2, 144, 33, 138, 139, 140, 1039, 1040, 1041, 1042, 59, 816, 1155, 1156, 1157, 1158, 1159, 1160, 1161, 1162, 1163, 1202, 1203, 1204, 1205, 1206, 1207, 1208, 1209, 1210, 1234, 1235, 1236, 1237, 1238] (by decide +kernel) (by decide +kernel)
set_option maxRecDepth 20000 in
theorem gL_law_X7_stitch : GoodIn wsL_law (wsV RL 147 RX7 yX7_stitch wsX7_stitch) := goodIn_app (goodIn_of _ (by decide +kernel)) ggL_law_X7_stitch
set_option maxRecDepth 20000 in
theorem ggL_law_X8_stitch : GoodIn wsL_law wsX8_stitch := goodIn_r _ [1046, 114, 355, 356, 357, 5, 358, 104, 161, 162, 163, 164, 109, 1164, 1165, 1166, 1167, 1168, 1169, 1170, 1171, 1172, 1173, 1174, 1175, 1176, 1177, 1178, 1179, 1180, 1181, 1182, 1183, 1184, 1185, 1186, 1187, 1188, 1189, 1190, 1191, 1192, 1193, 1194, 1195, 1196, 1197, 1198, 1199, 1200, 1201] (by decide +kernel) (by decide +kernel)
set_option maxRecDepth 20000 in
theorem gL_law_X8_stitch : GoodIn wsL_law (wsV RL 150 RX8 yX8_stitch wsX8_stitch) := goodIn_app (goodIn_of _ (by decide +kernel)) ggL_law_X8_stitch
set_option maxRecDepth 20000 in
theorem ggL_law_X7_seed : GoodIn wsL_law wsX7_seed := goodIn_r _ [1050, 18, 1051, 1155, 1156, 1157, 1158, 1159, 1160, 1161, 1162, 1163, 1202, 1203, 1204, 1205, 1206, 1207, 1208, 1209, 1210] (by decide +kernel) (by decide +kernel)
set_option maxRecDepth 20000 in
theorem gL_law_X7_seed : GoodIn wsL_law (wsV RL 151 RX7 yX7_seed wsX7_seed) := goodIn_app (goodIn_of _ (by decide +kernel)) ggL_law_X7_seed
set_option maxRecDepth 20000 in
theorem ggL_law_X8_seed : GoodIn wsL_law wsX8_seed := goodIn_r _ [1055, 107, 1164, 1165, 1166, 1167, 1168, 1169, 1170, 1171, 1172, 1173, 1174, 1175, 1176, 1177, 1178, 1179, 1180, 1181, 1182, 1183, 1184, 1185, 1186, 1187, 1188, 1189, 1190, 1191, 1192, 1193, 1194, 1195, 1196, 1197, 1198, 1199, 1200, 1201] (by decide +kernel) (by decide +kernel)
set_option maxRecDepth 20000 in
theorem gL_law_X8_seed : GoodIn wsL_law (wsV RL 154 RX8 yX8_seed wsX8_seed) := goodIn_app (goodIn_of _ (by decide +kernel)) ggL_law_X8_seed
set_option maxRecDepth 20000 in
theorem ggL_law_X7_act : GoodIn wsL_law wsX7_act := goodIn_r _ [1059, 31, 1060, 18, 211, 212, 213, 17, 214, 48, 46, 139, 2, 140, 138, 1061, 1062, 1063, 30, 1064, 1065, 90, 91, 1066, 92, 1067, 1068, 1069, 1070, 1071, 1072, 1073, 1074, 1075, 1076, 1077, 1078, 1079, 1080, 89, 88, 1155, 1156, 1157, 1158, 1159, 1160, 1161, 1162, 1163, 1226, 1227, 1228, 1229, 1230, 1202, 1203, 1204, 1205, 1206, 1207, 1208, 1209, 1210, 1239, 1240, 1241] (by decide +kernel) (by decide +kernel)
set_option maxRecDepth 20000 in
theorem gL_law_X7_act : GoodIn wsL_law (wsV RL 155 RX7 yX7_act wsX7_act) := goodIn_app (goodIn_of _ (by decide +kernel)) ggL_law_X7_act
set_option maxRecDepth 20000 in
theorem ggL_law_X8_act : GoodIn wsL_law wsX8_act := goodIn_r _ [1084, 1085, 219, 220, 221, 5, 222, 223, 1086, 1087, 1088, 1089, 110, 111, 1090, 1091, 1092, 1093, 129, 1094, 1095, 1096, 1097, 1098, 1099, 1100, 1101, 1164, 1165, 1166, 1167, 1168, 1169, 1170, 1171, 1172, 1173, 1174, 1175, 1176, 1177, 1178, 1179, 1180, 1181, 1182, 1183, 1184, 1185, 1186, 1187, 1188, 1189, 1190, 1191, 1192, 1193, 1194, 1195, 1196, 1197, 1198, 1199, 1200, 1201] (by decide +kernel) (by decide +kernel)
set_option maxRecDepth 20000 in
theorem gL_law_X8_act : GoodIn wsL_law (wsV RL 158 RX8 yX8_act wsX8_act) := goodIn_app (goodIn_of _ (by decide +kernel)) ggL_law_X8_act
set_option maxRecDepth 20000 in
theorem ggL_law_X7_trace : GoodIn wsL_law wsX7_trace := goodIn_r _ [1105, 31, 1106, 1107, 1108, 30, 1109, 89, 1110, 254, 255, 256, 88, 139, 2, 140, 1155, 1156, 1157, 1158, 1159, 1160, 1161, 1162, 1163, 1226, 1227, 1228, 1229, 1230] (by decide +kernel) (by decide +kernel)
set_option maxRecDepth 20000 in
theorem gL_law_X7_trace : GoodIn wsL_law (wsV RL 159 RX7 yX7_trace wsX7_trace) := goodIn_app (goodIn_of _ (by decide +kernel)) ggL_law_X7_trace
set_option maxRecDepth 20000 in
theorem ggL_law_X8_trace : GoodIn wsL_law wsX8_trace := goodIn_r _ [1114, 1085, 129, 1164, 1165, 1166, 1167, 1168, 1169, 1170, 1171, 1172, 1173, 1174, 1175, 1176, 1177, 1178, 1179, 1180, 1181, 1182, 1183, 1184, 1185, 1186, 1187, 1188, 1189, 1190, 1191, 1192, 1193, 1194, 1195, 1196, 1197, 1198, 1199, 1200, 1201] (by decide +kernel) (by decide +kernel)
set_option maxRecDepth 20000 in
theorem gL_law_X8_trace : GoodIn wsL_law (wsV RL 162 RX8 yX8_trace wsX8_trace) := goodIn_app (goodIn_of _ (by decide +kernel)) ggL_law_X8_trace
set_option maxRecDepth 20000 in
theorem ggL_law_X7_image : GoodIn wsL_law wsX7_image := goodIn_r _ [1118, 19, 18, 34, 281, 1119, 1120, 1121, 17, 1122, 44, 46, 47, 1123, 192, 193, 194, 48, 49, 50, 51, 52, 53, 1124, 1125, 1126, 43, 1127, 58, 59, 60, 61, 62, 1155, 1156, 1157, 1158, 1159, 1160, 1161, 1162, 1163, 1202, 1203, 1204, 1205, 1206, 1207, 1208, 1209, 1210, 1234, 1235, 1236, 1237, 1238] (by decide +kernel) (by decide +kernel)
set_option maxRecDepth 20000 in
theorem gL_law_X7_image : GoodIn wsL_law (wsV RL 163 RX7 yX7_image wsX7_image) := goodIn_app (goodIn_of _ (by decide +kernel)) ggL_law_X7_image
set_option maxRecDepth 20000 in
theorem ggL_law_X8_image : GoodIn wsL_law wsX8_image := goodIn_r _ [1131, 1132, 126, 223, 552, 553, 554, 5, 555, 110, 111, 112, 113, 114, 115, 104, 341, 318, 556, 105, 276, 106, 107, 557, 558, 559, 560, 1164, 1165, 1166, 1167, 1168, 1169, 1170, 1171, 1172, 1173, 1174, 1175, 1176, 1177, 1178, 1179, 1180, 1181, 1182, 1183, 1184, 1185, 1186, 1187, 1188, 1189, 1190, 1191, 1192, 1193, 1194, 1195, 1196, 1197, 1198, 1199, 1200, 1201] (by decide +kernel) (by decide +kernel)
set_option maxRecDepth 20000 in
theorem gL_law_X8_image : GoodIn wsL_law (wsV RL 166 RX8 yX8_image wsX8_image) := goodIn_app (goodIn_of _ (by decide +kernel)) ggL_law_X8_image
set_option maxRecDepth 20000 in
theorem ggL_law_X7_restore : GoodIn wsL_law wsX7_restore := goodIn_r _ [1136, 34, 18, 19, 14, 281, 141, 142, 143, 2, 144, 33, 138, 139, 140, 1119, 1120, 1121, 17, 1122, 44, 46, 47, 1123, 192, 193, 194, 48, 49, 50, 51, 52, 53, 1124, 1125, 1126, 43, 1127, 58, 59, 60, 61, 62, 1137, 1138, 1139, 37, 1140, 98, 1155, 1156, 1157, 1158, 1159, 1160, 1161, 1162, 1163, 1202, 1203, 1204, 1205, 1206, 1207, 1208, 1209, 1210, 1234, 1235, 1236, 1237, 1238, 1231, 1232, 1233] (by decide +kernel) (by decide +kernel)
set_option maxRecDepth 20000 in
theorem gL_law_X7_restore : GoodIn wsL_law (wsV RL 167 RX7 yX7_restore wsX7_restore) := goodIn_app (goodIn_of _ (by decide +kernel)) ggL_law_X7_restore
set_option maxRecDepth 20000 in
theorem ggL_law_X8_restore : GoodIn wsL_law wsX8_restore := goodIn_r _ [1144, 1132, 126, 116, 119, 223, 161, 162, 163, 5, 164, 109, 552, 553, 554, 555, 110, 111, 112, 113, 114, 115, 104, 341, 318, 556, 105, 276, 106, 107, 557, 558, 559, 560, 1164, 1165, 1166, 1167, 1168, 1169, 1170, 1171, 1172, 1173, 1174, 1175, 1176, 1177, 1178, 1179, 1180, 1181, 1182, 1183, 1184, 1185, 1186, 1187, 1188, 1189, 1190, 1191, 1192, 1193, 1194, 1195, 1196, 1197, 1198, 1199, 1200, 1201] (by decide +kernel) (by decide +kernel)
set_option maxRecDepth 20000 in
theorem gL_law_X8_restore : GoodIn wsL_law (wsV RL 170 RX8 yX8_restore wsX8_restore) := goodIn_app (goodIn_of _ (by decide +kernel)) ggL_law_X8_restore
set_option maxRecDepth 20000 in
theorem ggL_law_X7_status : GoodIn wsL_law wsX7_status := goodIn_r _ [1148, 33, 18, 281, 327, 328, 996, 623, 1149, 624, 237, 1150, 1051, 31, 1060, 138, 139, 2, 140, 1155, 1156, 1157, 1158, 1159, 1160, 1161, 1162, 1163, 1202, 1203, 1204, 1205, 1206, 1207, 1208, 1209, 1210, 1234, 1235, 1236, 1237, 1238, 1226, 1227, 1228, 1229, 1230] (by decide +kernel) (by decide +kernel)
set_option maxRecDepth 20000 in
theorem gL_law_X7_status : GoodIn wsL_law (wsV RL 171 RX7 yX7_status wsX7_status) := goodIn_app (goodIn_of _ (by decide +kernel)) ggL_law_X7_status
set_option maxRecDepth 20000 in
theorem ggL_law_X8_status : GoodIn wsL_law wsX8_status := goodIn_r _ [1154, 109, 223, 104, 341, 318, 556, 105, 276, 106, 107, 1085, 1164, 1165, 1166, 1167, 1168, 1169, 1170, 1171, 1172, 1173, 1174, 1175, 1176, 1177, 1178, 1179, 1180, 1181, 1182, 1183, 1184, 1185, 1186, 1187, 1188, 1189, 1190, 1191, 1192, 1193, 1194, 1195, 1196, 1197, 1198, 1199, 1200, 1201] (by decide +kernel) (by decide +kernel)
set_option maxRecDepth 20000 in
theorem gL_law_X8_status : GoodIn wsL_law (wsV RL 174 RX8 yX8_status wsX8_status) := goodIn_app (goodIn_of _ (by decide +kernel)) ggL_law_X8_status
