abbrev cL_law : ByteArray := code
set_option maxRecDepth 20000 in
theorem ggL_law_X10_days : GoodIn wsL_law wsX10_days := goodIn_r _ [147, 148, 149, 150, 151, 2, 152, 39, 1100, 1101, 1102, 1103, 1104, 1105, 1106, 1107, 1108, 1109, 1110, 1111, 1112, 1113, 1114, 1115] (by decide +kernel) (by decide +kernel)
set_option maxRecDepth 20000 in
theorem gL_law_X10_days : GoodIn wsL_law (wsV RL 13 RX10 yX10_days wsX10_days) := goodIn_app (goodIn_of _ (by decide +kernel)) ggL_law_X10_days
set_option maxRecDepth 20000 in
theorem ggL_law_X11_days : GoodIn wsL_law wsX11_days := goodIn_r _ [156, 157, 158, 159, 160, 5, 161, 96, 1116, 1117, 1118, 1119, 1120, 1121, 1122, 1123, 1124, 1125, 1126, 1127, 1128, 1129, 1130, 1131, 1132, 1133, 1134, 1135, 1136, 1137, 1138, 1139, 1140, 1141, 1142, 1143, 1144, 1145, 1146, 1147, 1148, 1149, 1150, 1151, 1152, 1153, 1154, 1155, 1156, 1157, 1158, 1159, 1160, 1161, 1162, 1163, 1164, 1165, 1166, 1167, 1168, 1169, 1170, 1171, 1172, 1173, 1174, 1175, 1176, 1177, 1178] (by decide +kernel) (by decide +kernel)
set_option maxRecDepth 20000 in
theorem gL_law_X11_days : GoodIn wsL_law (wsV RL 17 RX11 yX11_days wsX11_days) := goodIn_app (goodIn_of _ (by decide +kernel)) ggL_law_X11_days
set_option maxRecDepth 20000 in
theorem ggL_law_X10_miles : GoodIn wsL_law wsX10_miles := goodIn_r _ [165, 30, 166, 167, 2, 168, 149, 150, 151, 152, 39, 169, 170, 171, 29, 172, 82, 1100, 1101, 1102, 1103, 1104, 1105, 1106, 1107, 1108, 1109, 1110, 1111, 1112, 1113, 1114, 1115, 1188, 1189] (by decide +kernel) (by decide +kernel)
set_option maxRecDepth 20000 in
theorem gL_law_X10_miles : GoodIn wsL_law (wsV RL 18 RX10 yX10_miles wsX10_miles) := goodIn_app (goodIn_of _ (by decide +kernel)) ggL_law_X10_miles
set_option maxRecDepth 20000 in
theorem ggL_law_X11_miles : GoodIn wsL_law wsX11_miles := goodIn_r _ [176, 97, 177, 178, 5, 179, 180, 181, 182, 158, 159, 160, 161, 96, 1116, 1117, 1118, 1119, 1120, 1121, 1122, 1123, 1124, 1125, 1126, 1127, 1128, 1129, 1130, 1131, 1132, 1133, 1134, 1135, 1136, 1137, 1138, 1139, 1140, 1141, 1142, 1143, 1144, 1145, 1146, 1147, 1148, 1149, 1150, 1151, 1152, 1153, 1154, 1155, 1156, 1157, 1158, 1159, 1160, 1161, 1162, 1163, 1164, 1165, 1166, 1167, 1168, 1169, 1170, 1171, 1172, 1173, 1174, 1175, 1176, 1177, 1178] (by decide +kernel) (by decide +kernel)
set_option maxRecDepth 20000 in
theorem gL_law_X11_miles : GoodIn wsL_law (wsV RL 22 RX11 yX11_miles wsX11_miles) := goodIn_app (goodIn_of _ (by decide +kernel)) ggL_law_X11_miles
set_option maxRecDepth 20000 in
theorem ggL_law_X10_man : GoodIn wsL_law wsX10_man := goodIn_r _ [186, 187, 148, 188, 14, 13, 189, 190, 149, 150, 151, 2, 152, 39, 191, 192, 193, 194, 11, 12, 36, 195, 196, 197, 198, 199, 200, 201, 202, 203, 204, 205, 206, 207, 208, 209, 210, 211, 212, 213, 214, 215, 216, 217, 218, 219, 220, 221, 222, 223, 1100, 1101, 1102, 1103, 1104, 1105, 1106, 1107, 1108, 1109, 1110, 1111, 1112, 1113, 1114, 1115, 1201, 1202, 1203, 1204, 1205, 1206] (by decide +kernel) (by decide +kernel)
set_option maxRecDepth 20000 in
theorem gL_law_X10_man : GoodIn wsL_law (wsV RL 23 RX10 yX10_man wsX10_man) := goodIn_app (goodIn_of _ (by decide +kernel)) ggL_law_X10_man
set_option maxRecDepth 20000 in
theorem ggL_law_X11_man : GoodIn wsL_law wsX11_man := goodIn_r _ [227, 228, 157, 229, 98, 99, 100, 158, 159, 160, 5, 161, 96, 1116, 1117, 1118, 1119, 1120, 1121, 1122, 1123, 1124, 1125, 1126, 1127, 1128, 1129, 1130, 1131, 1132, 1133, 1134, 1135, 1136, 1137, 1138, 1139, 1140, 1141, 1142, 1143, 1144, 1145, 1146, 1147, 1148, 1149, 1150, 1151, 1152, 1153, 1154, 1155, 1156, 1157, 1158, 1159, 1160, 1161, 1162, 1163, 1164, 1165, 1166, 1167, 1168, 1169, 1170, 1171, 1172, 1173, 1174, 1175, 1176, 1177, 1178] (by decide +kernel) (by decide +kernel)
set_option maxRecDepth 20000 in
theorem gL_law_X11_man : GoodIn wsL_law (wsV RL 26 RX11 yX11_man wsX11_man) := goodIn_app (goodIn_of _ (by decide +kernel)) ggL_law_X11_man
set_option maxRecDepth 20000 in
theorem ggL_law_X10_voyage : GoodIn wsL_law wsX10_voyage := goodIn_r _ [233, 234, 16, 15, 235, 236, 148, 166, 167, 2, 168, 149, 150, 151, 152, 39, 237, 238, 239, 240, 241, 242, 243, 244, 245, 246, 11, 12, 247, 248, 249, 250, 251, 252, 253, 254, 255, 1100, 1101, 1102, 1103, 1104, 1105, 1106, 1107, 1108, 1109, 1110, 1111, 1112, 1113, 1114, 1115, 1207, 1208, 1209, 1210, 1211, 1212, 1213, 1214, 1215, 1216] (by decide +kernel) (by decide +kernel)
set_option maxRecDepth 20000 in
theorem gL_law_X10_voyage : GoodIn wsL_law (wsV RL 27 RX10 yX10_voyage wsX10_voyage) := goodIn_app (goodIn_of _ (by decide +kernel)) ggL_law_X10_voyage
set_option maxRecDepth 20000 in
theorem ggL_law_X11_voyage : GoodIn wsL_law wsX11_voyage := goodIn_r _ [259, 260, 102, 105, 103, 157, 104, 180, 181, 5, 182, 177, 178, 179, 158, 159, 160, 161, 96, 1116, 1117, 1118, 1119, 1120, 1121, 1122, 1123, 1124, 1125, 1126, 1127, 1128, 1129, 1130, 1131, 1132, 1133, 1134, 1135, 1136, 1137, 1138, 1139, 1140, 1141, 1142, 1143, 1144, 1145, 1146, 1147, 1148, 1149, 1150, 1151, 1152, 1153, 1154, 1155, 1156, 1157, 1158, 1159, 1160, 1161, 1162, 1163, 1164, 1165, 1166, 1167, 1168, 1169, 1170, 1171, 1172, 1173, 1174, 1175, 1176, 1177, 1178] (by decide +kernel) (by decide +kernel)
set_option maxRecDepth 20000 in
theorem gL_law_X11_voyage : GoodIn wsL_law (wsV RL 31 RX11 yX11_voyage wsX11_voyage) := goodIn_app (goodIn_of _ (by decide +kernel)) ggL_law_X11_voyage
set_option maxRecDepth 20000 in
theorem ggL_law_X10_ended : GoodIn wsL_law wsX10_ended := goodIn_r _ [264, 242, 265, 266, 267, 18, 268, 148, 269, 270, 271, 272, 2, 273, 234, 16, 166, 167, 168, 149, 150, 151, 152, 39, 274, 275, 276, 277, 278, 279, 280, 281, 282, 283, 1207, 1208, 1209, 1210, 1211, 1212, 1213, 1214, 1215, 1216, 1100, 1101, 1102, 1103, 1104, 1105, 1106, 1107, 1108, 1109, 1110, 1111, 1112, 1113, 1114, 1115, 1217, 1218, 1219, 1220, 1221, 1222, 1223, 1224, 1225, 1226, 1227, 1228, 1229, 1230, 1231, 1232, 1233, 1234] (by decide +kernel) (by decide +kernel)
set_option maxRecDepth 20000 in
theorem gL_law_X10_ended : GoodIn wsL_law (wsV RL 32 RX10 yX10_ended wsX10_ended) := goodIn_app (goodIn_of _ (by decide +kernel)) ggL_law_X10_ended
set_option maxRecDepth 20000 in
theorem ggL_law_X11_ended : GoodIn wsL_law wsX11_ended := goodIn_r _ [287, 105, 288, 117, 122, 157, 289, 290, 291, 5, 292, 260, 180, 181, 182, 177, 178, 179, 158, 159, 160, 161, 96, 293, 294, 295, 296, 297, 106, 107, 298, 299, 300, 301, 1116, 1117, 1118, 1119, 1120, 1121, 1122, 1123, 1124, 1125, 1126, 1127, 1128, 1129, 1130, 1131, 1132, 1133, 1134, 1135, 1136, 1137, 1138, 1139, 1140, 1141, 1142, 1143, 1144, 1145, 1146, 1147, 1148, 1149, 1150, 1151, 1152, 1153, 1154, 1155, 1156, 1157, 1158, 1159, 1160, 1161, 1162, 1163, 1164, 1165, 1166, 1167, 1168, 1169, 1170, 1171, 1172, 1173, 1174, 1175, 1176, 1177, 1178] (by decide +kernel) (by decide +kernel)
set_option maxRecDepth 20000 in
theorem gL_law_X11_ended : GoodIn wsL_law (wsV RL 35 RX11 yX11_ended wsX11_ended) := goodIn_app (goodIn_of _ (by decide +kernel)) ggL_law_X11_ended
set_option maxRecDepth 20000 in
theorem ggL_law_X10_sailed : GoodIn wsL_law wsX10_sailed := goodIn_r _ [305, 306, 266, 307, 148, 308, 270, 271, 272, 2, 273, 234, 16, 149, 150, 151, 152, 39, 309, 310, 311, 312, 242, 313, 1207, 1208, 1209, 1210, 1211, 1212, 1213, 1214, 1215, 1216, 1100, 1101, 1102, 1103, 1104, 1105, 1106, 1107, 1108, 1109, 1110, 1111, 1112, 1113, 1114, 1115] (by decide +kernel) (by decide +kernel)
set_option maxRecDepth 20000 in
theorem gL_law_X10_sailed : GoodIn wsL_law (wsV RL 36 RX10 yX10_sailed wsX10_sailed) := goodIn_app (goodIn_of _ (by decide +kernel)) ggL_law_X10_sailed
set_option maxRecDepth 20000 in
theorem ggL_law_X11_sailed : GoodIn wsL_law wsX11_sailed := goodIn_r _ [317, 318, 319, 320, 5, 321, 105, 103, 289, 290, 291, 292, 260, 180, 181, 182, 158, 159, 160, 161, 96, 293, 294, 295, 296, 297, 106, 107, 322, 323, 324, 325, 157, 108, 109, 110, 111, 1116, 1117, 1118, 1119, 1120, 1121, 1122, 1123, 1124, 1125, 1126, 1127, 1128, 1129, 1130, 1131, 1132, 1133, 1134, 1135, 1136, 1137, 1138, 1139, 1140, 1141, 1142, 1143, 1144, 1145, 1146, 1147, 1148, 1149, 1150, 1151, 1152, 1153, 1154, 1155, 1156, 1157, 1158, 1159, 1160, 1161, 1162, 1163, 1164, 1165, 1166, 1167, 1168, 1169, 1170, 1171, 1172, 1173, 1174, 1175, 1176, 1177, 1178] (by decide +kernel) (by decide +kernel)
set_option maxRecDepth 20000 in
theorem gL_law_X11_sailed : GoodIn wsL_law (wsV RL 39 RX11 yX11_sailed wsX11_sailed) := goodIn_app (goodIn_of _ (by decide +kernel)) ggL_law_X11_sailed
set_option maxRecDepth 20000 in
theorem ggL_law_X10_heard : GoodIn wsL_law wsX10_heard := goodIn_r _ [329, 330, 331, 332, 148, 333, 308, 270, 271, 272, 2, 273, 234, 16, 149, 150, 151, 152, 39, 309, 310, 311, 312, 242, 313, 334, 335, 336, 337, 11, 12, 338, 339, 340, 341, 342, 343, 1235, 1236, 1237, 1238, 1239, 1240, 1100, 1101, 1102, 1103, 1104, 1105, 1106, 1107, 1108, 1109, 1110, 1111, 1112, 1113, 1114, 1115, 1207, 1208, 1209, 1210, 1211, 1212, 1213, 1214, 1215, 1216] (by decide +kernel) (by decide +kernel)
set_option maxRecDepth 20000 in
theorem gL_law_X10_heard : GoodIn wsL_law (wsV RL 40 RX10 yX10_heard wsX10_heard) := goodIn_app (goodIn_of _ (by decide +kernel)) ggL_law_X10_heard
set_option maxRecDepth 20000 in
theorem ggL_law_X11_heard : GoodIn wsL_law wsX11_heard := goodIn_r _ [347, 318, 319, 320, 5, 321, 105, 103, 289, 290, 291, 292, 260, 180, 181, 182, 158, 159, 160, 161, 96, 293, 294, 295, 296, 297, 106, 107, 322, 323, 324, 325, 157, 108, 109, 110, 111, 1116, 1117, 1118, 1119, 1120, 1121, 1122, 1123, 1124, 1125, 1126, 1127, 1128, 1129, 1130, 1131, 1132, 1133, 1134, 1135, 1136, 1137, 1138, 1139, 1140, 1141, 1142, 1143, 1144, 1145, 1146, 1147, 1148, 1149, 1150, 1151, 1152, 1153, 1154, 1155, 1156, 1157, 1158, 1159, 1160, 1161, 1162, 1163, 1164, 1165, 1166, 1167, 1168, 1169, 1170, 1171, 1172, 1173, 1174, 1175, 1176, 1177, 1178] (by decide +kernel) (by decide +kernel)
set_option maxRecDepth 20000 in
theorem gL_law_X11_heard : GoodIn wsL_law (wsV RL 43 RX11 yX11_heard wsX11_heard) := goodIn_app (goodIn_of _ (by decide +kernel)) ggL_law_X11_heard
set_option maxRecDepth 20000 in
theorem ggL_law_X10_lost : GoodIn wsL_law wsX10_lost := goodIn_r _ [351, 265, 266, 352, 148, 308, 270, 271, 272, 2, 273, 234, 16, 149, 150, 151, 152, 39, 309, 310, 311, 312, 242, 313, 1207, 1208, 1209, 1210, 1211, 1212, 1213, 1214, 1215, 1216, 1100, 1101, 1102, 1103, 1104, 1105, 1106, 1107, 1108, 1109, 1110, 1111, 1112, 1113, 1114, 1115] (by decide +kernel) (by decide +kernel)
set_option maxRecDepth 20000 in
theorem gL_law_X10_lost : GoodIn wsL_law (wsV RL 44 RX10 yX10_lost wsX10_lost) := goodIn_app (goodIn_of _ (by decide +kernel)) ggL_law_X10_lost
set_option maxRecDepth 20000 in
theorem ggL_law_X11_lost : GoodIn wsL_law wsX11_lost := goodIn_r _ [356, 318, 319, 320, 5, 321, 105, 103, 289, 290, 291, 292, 260, 180, 181, 182, 158, 159, 160, 161, 96, 293, 294, 295, 296, 297, 106, 107, 322, 323, 324, 325, 157, 108, 109, 110, 111, 1116, 1117, 1118, 1119, 1120, 1121, 1122, 1123, 1124, 1125, 1126, 1127, 1128, 1129, 1130, 1131, 1132, 1133, 1134, 1135, 1136, 1137, 1138, 1139, 1140, 1141, 1142, 1143, 1144, 1145, 1146, 1147, 1148, 1149, 1150, 1151, 1152, 1153, 1154, 1155, 1156, 1157, 1158, 1159, 1160, 1161, 1162, 1163, 1164, 1165, 1166, 1167, 1168, 1169, 1170, 1171, 1172, 1173, 1174, 1175, 1176, 1177, 1178] (by decide +kernel) (by decide +kernel)
set_option maxRecDepth 20000 in
theorem gL_law_X11_lost : GoodIn wsL_law (wsV RL 47 RX11 yX11_lost wsX11_lost) := goodIn_app (goodIn_of _ (by decide +kernel)) ggL_law_X11_lost
set_option maxRecDepth 20000 in
theorem ggL_law_X10_left : GoodIn wsL_law wsX10_left := goodIn_r _ [360, 361, 362, 363, 2, 364, 267, 18, 166, 167, 168, 149, 150, 151, 152, 39, 365, 366, 367, 368, 269, 266, 369, 148, 308, 370, 371, 372, 373, 330, 331, 332, 374, 334, 335, 336, 337, 11, 12, 338, 339, 340, 341, 342, 343, 1100, 1101, 1102, 1103, 1104, 1105, 1106, 1107, 1108, 1109, 1110, 1111, 1112, 1113, 1114, 1115, 1217, 1218, 1219, 1220, 1221, 1222, 1223, 1224, 1225, 1226, 1227, 1228, 1229, 1230, 1231, 1232, 1233, 1234, 1235, 1236, 1237, 1238, 1239, 1240] (by decide +kernel) (by decide +kernel)
set_option maxRecDepth 20000 in
theorem gL_law_X10_left : GoodIn wsL_law (wsV RL 48 RX10 yX10_left wsX10_left) := goodIn_app (goodIn_of _ (by decide +kernel)) ggL_law_X10_left
set_option maxRecDepth 20000 in
theorem ggL_law_X11_left : GoodIn wsL_law wsX11_left := goodIn_r _ [378, 122, 121, 379, 380, 381, 5, 382, 288, 180, 181, 182, 177, 178, 179, 158, 159, 160, 161, 96, 322, 323, 324, 325, 157, 297, 106, 107, 108, 109, 110, 111, 1116, 1117, 1118, 1119, 1120, 1121, 1122, 1123, 1124, 1125, 1126, 1127, 1128, 1129, 1130, 1131, 1132, 1133, 1134, 1135, 1136, 1137, 1138, 1139, 1140, 1141, 1142, 1143, 1144, 1145, 1146, 1147, 1148, 1149, 1150, 1151, 1152, 1153, 1154, 1155, 1156, 1157, 1158, 1159, 1160, 1161, 1162, 1163, 1164, 1165, 1166, 1167, 1168, 1169, 1170, 1171, 1172, 1173, 1174, 1175, 1176, 1177, 1178] (by decide +kernel) (by decide +kernel)
set_option maxRecDepth 20000 in
theorem gL_law_X11_left : GoodIn wsL_law (wsV RL 52 RX11 yX11_left wsX11_left) := goodIn_app (goodIn_of _ (by decide +kernel)) ggL_law_X11_left
set_option maxRecDepth 20000 in
theorem ggL_law_X10_died : GoodIn wsL_law wsX10_died := goodIn_r _ [386, 387, 361, 362, 363, 2, 364, 267, 18, 149, 150, 151, 152, 39, 365, 366, 367, 368, 269, 266, 369, 148, 308, 370, 371, 372, 373, 330, 331, 332, 374, 334, 335, 336, 337, 11, 12, 338, 339, 340, 341, 342, 343, 1217, 1218, 1219, 1220, 1221, 1222, 1223, 1224, 1225, 1226, 1227, 1228, 1229, 1230, 1231, 1232, 1233, 1234, 1100, 1101, 1102, 1103, 1104, 1105, 1106, 1107, 1108, 1109, 1110, 1111, 1112, 1113, 1114, 1115, 1235, 1236, 1237, 1238, 1239, 1240] (by decide +kernel) (by decide +kernel)
set_option maxRecDepth 20000 in
theorem gL_law_X10_died : GoodIn wsL_law (wsV RL 53 RX10 yX10_died wsX10_died) := goodIn_app (goodIn_of _ (by decide +kernel)) ggL_law_X10_died
set_option maxRecDepth 20000 in
theorem ggL_law_X11_died : GoodIn wsL_law wsX11_died := goodIn_r _ [391, 392, 393, 394, 5, 395, 122, 121, 379, 380, 381, 382, 288, 180, 181, 182, 158, 159, 160, 161, 96, 322, 323, 324, 325, 157, 297, 106, 107, 108, 109, 110, 111, 1116, 1117, 1118, 1119, 1120, 1121, 1122, 1123, 1124, 1125, 1126, 1127, 1128, 1129, 1130, 1131, 1132, 1133, 1134, 1135, 1136, 1137, 1138, 1139, 1140, 1141, 1142, 1143, 1144, 1145, 1146, 1147, 1148, 1149, 1150, 1151, 1152, 1153, 1154, 1155, 1156, 1157, 1158, 1159, 1160, 1161, 1162, 1163, 1164, 1165, 1166, 1167, 1168, 1169, 1170, 1171, 1172, 1173, 1174, 1175, 1176, 1177, 1178] (by decide +kernel) (by decide +kernel)
set_option maxRecDepth 20000 in
theorem gL_law_X11_died : GoodIn wsL_law (wsV RL 56 RX11 yX11_died wsX11_died) := goodIn_app (goodIn_of _ (by decide +kernel)) ggL_law_X11_died
set_option maxRecDepth 20000 in
theorem ggL_law_X10_back : GoodIn wsL_law wsX10_back := goodIn_r _ [399, 361, 362, 363, 2, 364, 267, 18, 149, 150, 151, 152, 39, 365, 366, 367, 368, 269, 266, 369, 148, 308, 370, 371, 372, 373, 330, 331, 332, 374, 334, 335, 336, 337, 11, 12, 338, 339, 340, 341, 342, 343, 1100, 1101, 1102, 1103, 1104, 1105, 1106, 1107, 1108, 1109, 1110, 1111, 1112, 1113, 1114, 1115, 1217, 1218, 1219, 1220, 1221, 1222, 1223, 1224, 1225, 1226, 1227, 1228, 1229, 1230, 1231, 1232, 1233, 1234, 1235, 1236, 1237, 1238, 1239, 1240] (by decide +kernel) (by decide +kernel)
set_option maxRecDepth 20000 in
theorem gL_law_X10_back : GoodIn wsL_law (wsV RL 57 RX10 yX10_back wsX10_back) := goodIn_app (goodIn_of _ (by decide +kernel)) ggL_law_X10_back
set_option maxRecDepth 20000 in
theorem ggL_law_X11_back : GoodIn wsL_law wsX11_back := goodIn_r _ [403, 392, 393, 394, 5, 395, 122, 121, 379, 380, 381, 382, 288, 180, 181, 182, 158, 159, 160, 161, 96, 322, 323, 324, 325, 157, 297, 106, 107, 108, 109, 110, 111, 1116, 1117, 1118, 1119, 1120, 1121, 1122, 1123, 1124, 1125, 1126, 1127, 1128, 1129, 1130, 1131, 1132, 1133, 1134, 1135, 1136, 1137, 1138, 1139, 1140, 1141, 1142, 1143, 1144, 1145, 1146, 1147, 1148, 1149, 1150, 1151, 1152, 1153, 1154, 1155, 1156, 1157, 1158, 1159, 1160, 1161, 1162, 1163, 1164, 1165, 1166, 1167, 1168, 1169, 1170, 1171, 1172, 1173, 1174, 1175, 1176, 1177, 1178] (by decide +kernel) (by decide +kernel)
set_option maxRecDepth 20000 in
theorem gL_law_X11_back : GoodIn wsL_law (wsV RL 60 RX11 yX11_back wsX11_back) := goodIn_app (goodIn_of _ (by decide +kernel)) ggL_law_X11_back
set_option maxRecDepth 20000 in
theorem ggL_law_X10_feed : GoodIn wsL_law wsX10_feed := goodIn_r _ [407, 26, 408, 409, 149, 150, 151, 2, 152, 39, 410, 411, 412, 25, 413, 414, 76, 1100, 1101, 1102, 1103, 1104, 1105, 1106, 1107, 1108, 1109, 1110, 1111, 1112, 1113, 1114, 1115, 1182, 1183, 1184, 1185, 1186, 1187] (by decide +kernel) (by decide +kernel)
set_option maxRecDepth 20000 in
theorem gL_law_X10_feed : GoodIn wsL_law (wsV RL 63 RX10 yX10_feed wsX10_feed) := goodIn_app (goodIn_of _ (by decide +kernel)) ggL_law_X10_feed
set_option maxRecDepth 20000 in
theorem ggL_law_X11_feed : GoodIn wsL_law wsX11_feed := goodIn_r _ [418, 419, 135, 420, 158, 159, 160, 5, 161, 96, 1116, 1117, 1118, 1119, 1120, 1121, 1122, 1123, 1124, 1125, 1126, 1127, 1128, 1129, 1130, 1131, 1132, 1133, 1134, 1135, 1136, 1137, 1138, 1139, 1140, 1141, 1142, 1143, 1144, 1145, 1146, 1147, 1148, 1149, 1150, 1151, 1152, 1153, 1154, 1155, 1156, 1157, 1158, 1159, 1160, 1161, 1162, 1163, 1164, 1165, 1166, 1167, 1168, 1169, 1170, 1171, 1172, 1173, 1174, 1175, 1176, 1177, 1178] (by decide +kernel) (by decide +kernel)
set_option maxRecDepth 20000 in
theorem gL_law_X11_feed : GoodIn wsL_law (wsV RL 67 RX11 yX11_feed wsX11_feed) := goodIn_app (goodIn_of _ (by decide +kernel)) ggL_law_X11_feed
theorem dL_law_18 : decode cL_law 18 = .ok (.iload_n 3, 1) := by decide +kernel
theorem dL_law_19 : decode cL_law 19 = .ok (.aload_n 0, 1) := by decide +kernel
theorem dL_law_20 : decode cL_law 20 = .ok (.arraylength, 1) := by decide +kernel
theorem dL_law_21 : decode cL_law 21 = .ok (.bipush 6, 2) := by decide +kernel
theorem dL_law_23 : decode cL_law 23 = .ok (.isub, 1) := by decide +kernel
theorem dL_law_24 : decode cL_law 24 = .ok (.if_icmp .gt 1481, 3) := by decide +kernel
theorem dL_law_188 : decode cL_law 188 = .ok (.aload_n 1, 1) := by decide +kernel
theorem dL_law_189 : decode cL_law 189 = .ok (.aload_n 0, 1) := by decide +kernel
theorem dL_law_190 : decode cL_law 190 = .ok (.iload_n 3, 1) := by decide +kernel
theorem dL_law_191 : decode cL_law 191 = .ok (.iconst 1, 1) := by decide +kernel
theorem dL_law_192 : decode cL_law 192 = .ok (.iadd, 1) := by decide +kernel
theorem dL_law_193 : decode cL_law 193 = .ok (.iaload, 1) := by decide +kernel
theorem dL_law_194 : decode cL_law 194 = .ok (.invokevirtual 13, 3) := by decide +kernel
theorem dL_law_197 : decode cL_law 197 = .ok (.aload_n 2, 1) := by decide +kernel
theorem dL_law_198 : decode cL_law 198 = .ok (.aload_n 0, 1) := by decide +kernel
theorem dL_law_199 : decode cL_law 199 = .ok (.iload_n 3, 1) := by decide +kernel
theorem dL_law_200 : decode cL_law 200 = .ok (.iconst 1, 1) := by decide +kernel
theorem dL_law_201 : decode cL_law 201 = .ok (.iadd, 1) := by decide +kernel
theorem dL_law_202 : decode cL_law 202 = .ok (.iaload, 1) := by decide +kernel
theorem dL_law_203 : decode cL_law 203 = .ok (.invokevirtual 17, 3) := by decide +kernel
theorem dL_law_206 : decode cL_law 206 = .ok (.if_icmp .eq 1293, 3) := by decide +kernel
theorem dL_law_211 : decode cL_law 211 = .ok (.aload_n 1, 1) := by decide +kernel
theorem dL_law_212 : decode cL_law 212 = .ok (.aload_n 0, 1) := by decide +kernel
theorem dL_law_213 : decode cL_law 213 = .ok (.iload_n 3, 1) := by decide +kernel
theorem dL_law_214 : decode cL_law 214 = .ok (.iconst 1, 1) := by decide +kernel
theorem dL_law_215 : decode cL_law 215 = .ok (.iadd, 1) := by decide +kernel
theorem dL_law_216 : decode cL_law 216 = .ok (.iaload, 1) := by decide +kernel
theorem dL_law_217 : decode cL_law 217 = .ok (.aload_n 0, 1) := by decide +kernel
theorem dL_law_218 : decode cL_law 218 = .ok (.iload_n 3, 1) := by decide +kernel
theorem dL_law_219 : decode cL_law 219 = .ok (.iconst 2, 1) := by decide +kernel
theorem dL_law_220 : decode cL_law 220 = .ok (.iadd, 1) := by decide +kernel
theorem dL_law_221 : decode cL_law 221 = .ok (.iaload, 1) := by decide +kernel
theorem dL_law_222 : decode cL_law 222 = .ok (.aload_n 0, 1) := by decide +kernel
theorem dL_law_223 : decode cL_law 223 = .ok (.iload_n 3, 1) := by decide +kernel
theorem dL_law_224 : decode cL_law 224 = .ok (.iconst 3, 1) := by decide +kernel
theorem dL_law_225 : decode cL_law 225 = .ok (.iadd, 1) := by decide +kernel
theorem dL_law_226 : decode cL_law 226 = .ok (.iaload, 1) := by decide +kernel
theorem dL_law_227 : decode cL_law 227 = .ok (.invokevirtual 18, 3) := by decide +kernel
theorem dL_law_230 : decode cL_law 230 = .ok (.aload_n 2, 1) := by decide +kernel
theorem dL_law_231 : decode cL_law 231 = .ok (.aload_n 0, 1) := by decide +kernel
theorem dL_law_232 : decode cL_law 232 = .ok (.iload_n 3, 1) := by decide +kernel
theorem dL_law_233 : decode cL_law 233 = .ok (.iconst 1, 1) := by decide +kernel
theorem dL_law_234 : decode cL_law 234 = .ok (.iadd, 1) := by decide +kernel
theorem dL_law_235 : decode cL_law 235 = .ok (.iaload, 1) := by decide +kernel
theorem dL_law_236 : decode cL_law 236 = .ok (.aload_n 0, 1) := by decide +kernel
theorem dL_law_237 : decode cL_law 237 = .ok (.iload_n 3, 1) := by decide +kernel
theorem dL_law_238 : decode cL_law 238 = .ok (.iconst 2, 1) := by decide +kernel
theorem dL_law_239 : decode cL_law 239 = .ok (.iadd, 1) := by decide +kernel
theorem dL_law_240 : decode cL_law 240 = .ok (.iaload, 1) := by decide +kernel
theorem dL_law_241 : decode cL_law 241 = .ok (.aload_n 0, 1) := by decide +kernel
theorem dL_law_242 : decode cL_law 242 = .ok (.iload_n 3, 1) := by decide +kernel
theorem dL_law_243 : decode cL_law 243 = .ok (.iconst 3, 1) := by decide +kernel
theorem dL_law_244 : decode cL_law 244 = .ok (.iadd, 1) := by decide +kernel
theorem dL_law_245 : decode cL_law 245 = .ok (.iaload, 1) := by decide +kernel
theorem dL_law_246 : decode cL_law 246 = .ok (.invokevirtual 22, 3) := by decide +kernel
theorem dL_law_249 : decode cL_law 249 = .ok (.if_icmp .eq 1250, 3) := by decide +kernel
theorem dL_law_254 : decode cL_law 254 = .ok (.aload_n 1, 1) := by decide +kernel
theorem dL_law_255 : decode cL_law 255 = .ok (.aload_n 0, 1) := by decide +kernel
theorem dL_law_256 : decode cL_law 256 = .ok (.iload_n 3, 1) := by decide +kernel
theorem dL_law_257 : decode cL_law 257 = .ok (.iconst 1, 1) := by decide +kernel
theorem dL_law_258 : decode cL_law 258 = .ok (.iadd, 1) := by decide +kernel
theorem dL_law_259 : decode cL_law 259 = .ok (.iaload, 1) := by decide +kernel
theorem dL_law_260 : decode cL_law 260 = .ok (.aload_n 0, 1) := by decide +kernel
theorem dL_law_261 : decode cL_law 261 = .ok (.iload_n 3, 1) := by decide +kernel
theorem dL_law_262 : decode cL_law 262 = .ok (.iconst 2, 1) := by decide +kernel
theorem dL_law_263 : decode cL_law 263 = .ok (.iadd, 1) := by decide +kernel
theorem dL_law_264 : decode cL_law 264 = .ok (.iaload, 1) := by decide +kernel
theorem dL_law_265 : decode cL_law 265 = .ok (.aload_n 0, 1) := by decide +kernel
theorem dL_law_266 : decode cL_law 266 = .ok (.iload_n 3, 1) := by decide +kernel
theorem dL_law_267 : decode cL_law 267 = .ok (.iconst 3, 1) := by decide +kernel
theorem dL_law_268 : decode cL_law 268 = .ok (.iadd, 1) := by decide +kernel
theorem dL_law_269 : decode cL_law 269 = .ok (.iaload, 1) := by decide +kernel
theorem dL_law_270 : decode cL_law 270 = .ok (.invokevirtual 23, 3) := by decide +kernel
theorem dL_law_273 : decode cL_law 273 = .ok (.aload_n 2, 1) := by decide +kernel
theorem dL_law_274 : decode cL_law 274 = .ok (.aload_n 0, 1) := by decide +kernel
theorem dL_law_275 : decode cL_law 275 = .ok (.iload_n 3, 1) := by decide +kernel
theorem dL_law_276 : decode cL_law 276 = .ok (.iconst 1, 1) := by decide +kernel
theorem dL_law_277 : decode cL_law 277 = .ok (.iadd, 1) := by decide +kernel
theorem dL_law_278 : decode cL_law 278 = .ok (.iaload, 1) := by decide +kernel
theorem dL_law_279 : decode cL_law 279 = .ok (.aload_n 0, 1) := by decide +kernel
theorem dL_law_280 : decode cL_law 280 = .ok (.iload_n 3, 1) := by decide +kernel
theorem dL_law_281 : decode cL_law 281 = .ok (.iconst 2, 1) := by decide +kernel
theorem dL_law_282 : decode cL_law 282 = .ok (.iadd, 1) := by decide +kernel
theorem dL_law_283 : decode cL_law 283 = .ok (.iaload, 1) := by decide +kernel
theorem dL_law_284 : decode cL_law 284 = .ok (.aload_n 0, 1) := by decide +kernel
theorem dL_law_285 : decode cL_law 285 = .ok (.iload_n 3, 1) := by decide +kernel
theorem dL_law_286 : decode cL_law 286 = .ok (.iconst 3, 1) := by decide +kernel
theorem dL_law_287 : decode cL_law 287 = .ok (.iadd, 1) := by decide +kernel
theorem dL_law_288 : decode cL_law 288 = .ok (.iaload, 1) := by decide +kernel
theorem dL_law_289 : decode cL_law 289 = .ok (.invokevirtual 26, 3) := by decide +kernel
theorem dL_law_292 : decode cL_law 292 = .ok (.if_icmp .eq 1207, 3) := by decide +kernel
theorem dL_law_297 : decode cL_law 297 = .ok (.aload_n 1, 1) := by decide +kernel
theorem dL_law_298 : decode cL_law 298 = .ok (.aload_n 0, 1) := by decide +kernel
theorem dL_law_299 : decode cL_law 299 = .ok (.iload_n 3, 1) := by decide +kernel
theorem dL_law_300 : decode cL_law 300 = .ok (.iconst 1, 1) := by decide +kernel
theorem dL_law_301 : decode cL_law 301 = .ok (.iadd, 1) := by decide +kernel
theorem dL_law_302 : decode cL_law 302 = .ok (.iaload, 1) := by decide +kernel
theorem dL_law_303 : decode cL_law 303 = .ok (.aload_n 0, 1) := by decide +kernel
theorem dL_law_304 : decode cL_law 304 = .ok (.iload_n 3, 1) := by decide +kernel
theorem dL_law_305 : decode cL_law 305 = .ok (.iconst 2, 1) := by decide +kernel
theorem dL_law_306 : decode cL_law 306 = .ok (.iadd, 1) := by decide +kernel
theorem dL_law_307 : decode cL_law 307 = .ok (.iaload, 1) := by decide +kernel
theorem dL_law_308 : decode cL_law 308 = .ok (.invokevirtual 27, 3) := by decide +kernel
theorem dL_law_311 : decode cL_law 311 = .ok (.aload_n 2, 1) := by decide +kernel
theorem dL_law_312 : decode cL_law 312 = .ok (.aload_n 0, 1) := by decide +kernel
theorem dL_law_313 : decode cL_law 313 = .ok (.iload_n 3, 1) := by decide +kernel
theorem dL_law_314 : decode cL_law 314 = .ok (.iconst 1, 1) := by decide +kernel
theorem dL_law_315 : decode cL_law 315 = .ok (.iadd, 1) := by decide +kernel
theorem dL_law_316 : decode cL_law 316 = .ok (.iaload, 1) := by decide +kernel
theorem dL_law_317 : decode cL_law 317 = .ok (.aload_n 0, 1) := by decide +kernel
theorem dL_law_318 : decode cL_law 318 = .ok (.iload_n 3, 1) := by decide +kernel
theorem dL_law_319 : decode cL_law 319 = .ok (.iconst 2, 1) := by decide +kernel
theorem dL_law_320 : decode cL_law 320 = .ok (.iadd, 1) := by decide +kernel
theorem dL_law_321 : decode cL_law 321 = .ok (.iaload, 1) := by decide +kernel
theorem dL_law_322 : decode cL_law 322 = .ok (.invokevirtual 31, 3) := by decide +kernel
theorem dL_law_325 : decode cL_law 325 = .ok (.if_icmp .eq 1174, 3) := by decide +kernel
theorem dL_law_330 : decode cL_law 330 = .ok (.aload_n 1, 1) := by decide +kernel
theorem dL_law_331 : decode cL_law 331 = .ok (.aload_n 0, 1) := by decide +kernel
theorem dL_law_332 : decode cL_law 332 = .ok (.iload_n 3, 1) := by decide +kernel
theorem dL_law_333 : decode cL_law 333 = .ok (.iconst 1, 1) := by decide +kernel
theorem dL_law_334 : decode cL_law 334 = .ok (.iadd, 1) := by decide +kernel
theorem dL_law_335 : decode cL_law 335 = .ok (.iaload, 1) := by decide +kernel
theorem dL_law_336 : decode cL_law 336 = .ok (.aload_n 0, 1) := by decide +kernel
theorem dL_law_337 : decode cL_law 337 = .ok (.iload_n 3, 1) := by decide +kernel
theorem dL_law_338 : decode cL_law 338 = .ok (.iconst 2, 1) := by decide +kernel
theorem dL_law_339 : decode cL_law 339 = .ok (.iadd, 1) := by decide +kernel
theorem dL_law_340 : decode cL_law 340 = .ok (.iaload, 1) := by decide +kernel
theorem dL_law_341 : decode cL_law 341 = .ok (.invokevirtual 32, 3) := by decide +kernel
theorem dL_law_344 : decode cL_law 344 = .ok (.aload_n 2, 1) := by decide +kernel
theorem dL_law_345 : decode cL_law 345 = .ok (.aload_n 0, 1) := by decide +kernel
theorem dL_law_346 : decode cL_law 346 = .ok (.iload_n 3, 1) := by decide +kernel
theorem dL_law_347 : decode cL_law 347 = .ok (.iconst 1, 1) := by decide +kernel
theorem dL_law_348 : decode cL_law 348 = .ok (.iadd, 1) := by decide +kernel
theorem dL_law_349 : decode cL_law 349 = .ok (.iaload, 1) := by decide +kernel
theorem dL_law_350 : decode cL_law 350 = .ok (.aload_n 0, 1) := by decide +kernel
theorem dL_law_351 : decode cL_law 351 = .ok (.iload_n 3, 1) := by decide +kernel
theorem dL_law_352 : decode cL_law 352 = .ok (.iconst 2, 1) := by decide +kernel
theorem dL_law_353 : decode cL_law 353 = .ok (.iadd, 1) := by decide +kernel
theorem dL_law_354 : decode cL_law 354 = .ok (.iaload, 1) := by decide +kernel
theorem dL_law_355 : decode cL_law 355 = .ok (.invokevirtual 35, 3) := by decide +kernel
theorem dL_law_358 : decode cL_law 358 = .ok (.if_icmp .eq 1141, 3) := by decide +kernel
theorem dL_law_363 : decode cL_law 363 = .ok (.aload_n 1, 1) := by decide +kernel
theorem dL_law_364 : decode cL_law 364 = .ok (.aload_n 0, 1) := by decide +kernel
theorem dL_law_365 : decode cL_law 365 = .ok (.iload_n 3, 1) := by decide +kernel
theorem dL_law_366 : decode cL_law 366 = .ok (.iconst 1, 1) := by decide +kernel
theorem dL_law_367 : decode cL_law 367 = .ok (.iadd, 1) := by decide +kernel
theorem dL_law_368 : decode cL_law 368 = .ok (.iaload, 1) := by decide +kernel
theorem dL_law_369 : decode cL_law 369 = .ok (.aload_n 0, 1) := by decide +kernel
theorem dL_law_370 : decode cL_law 370 = .ok (.iload_n 3, 1) := by decide +kernel
theorem dL_law_371 : decode cL_law 371 = .ok (.iconst 2, 1) := by decide +kernel
theorem dL_law_372 : decode cL_law 372 = .ok (.iadd, 1) := by decide +kernel
theorem dL_law_373 : decode cL_law 373 = .ok (.iaload, 1) := by decide +kernel
theorem dL_law_374 : decode cL_law 374 = .ok (.invokevirtual 36, 3) := by decide +kernel
theorem dL_law_377 : decode cL_law 377 = .ok (.aload_n 2, 1) := by decide +kernel
theorem dL_law_378 : decode cL_law 378 = .ok (.aload_n 0, 1) := by decide +kernel
theorem dL_law_379 : decode cL_law 379 = .ok (.iload_n 3, 1) := by decide +kernel
theorem dL_law_380 : decode cL_law 380 = .ok (.iconst 1, 1) := by decide +kernel
theorem dL_law_381 : decode cL_law 381 = .ok (.iadd, 1) := by decide +kernel
theorem dL_law_382 : decode cL_law 382 = .ok (.iaload, 1) := by decide +kernel
theorem dL_law_383 : decode cL_law 383 = .ok (.aload_n 0, 1) := by decide +kernel
theorem dL_law_384 : decode cL_law 384 = .ok (.iload_n 3, 1) := by decide +kernel
theorem dL_law_385 : decode cL_law 385 = .ok (.iconst 2, 1) := by decide +kernel
theorem dL_law_386 : decode cL_law 386 = .ok (.iadd, 1) := by decide +kernel
theorem dL_law_387 : decode cL_law 387 = .ok (.iaload, 1) := by decide +kernel
theorem dL_law_388 : decode cL_law 388 = .ok (.invokevirtual 39, 3) := by decide +kernel
theorem dL_law_391 : decode cL_law 391 = .ok (.if_icmp .eq 1108, 3) := by decide +kernel
theorem dL_law_396 : decode cL_law 396 = .ok (.aload_n 1, 1) := by decide +kernel
theorem dL_law_397 : decode cL_law 397 = .ok (.aload_n 0, 1) := by decide +kernel
theorem dL_law_398 : decode cL_law 398 = .ok (.iload_n 3, 1) := by decide +kernel
theorem dL_law_399 : decode cL_law 399 = .ok (.iconst 1, 1) := by decide +kernel
theorem dL_law_400 : decode cL_law 400 = .ok (.iadd, 1) := by decide +kernel
theorem dL_law_401 : decode cL_law 401 = .ok (.iaload, 1) := by decide +kernel
theorem dL_law_402 : decode cL_law 402 = .ok (.aload_n 0, 1) := by decide +kernel
theorem dL_law_403 : decode cL_law 403 = .ok (.iload_n 3, 1) := by decide +kernel
theorem dL_law_404 : decode cL_law 404 = .ok (.iconst 2, 1) := by decide +kernel
theorem dL_law_405 : decode cL_law 405 = .ok (.iadd, 1) := by decide +kernel
theorem dL_law_406 : decode cL_law 406 = .ok (.iaload, 1) := by decide +kernel
theorem dL_law_407 : decode cL_law 407 = .ok (.invokevirtual 40, 3) := by decide +kernel
theorem dL_law_410 : decode cL_law 410 = .ok (.aload_n 2, 1) := by decide +kernel
theorem dL_law_411 : decode cL_law 411 = .ok (.aload_n 0, 1) := by decide +kernel
theorem dL_law_412 : decode cL_law 412 = .ok (.iload_n 3, 1) := by decide +kernel
theorem dL_law_413 : decode cL_law 413 = .ok (.iconst 1, 1) := by decide +kernel
theorem dL_law_414 : decode cL_law 414 = .ok (.iadd, 1) := by decide +kernel
theorem dL_law_415 : decode cL_law 415 = .ok (.iaload, 1) := by decide +kernel
theorem dL_law_416 : decode cL_law 416 = .ok (.aload_n 0, 1) := by decide +kernel
theorem dL_law_417 : decode cL_law 417 = .ok (.iload_n 3, 1) := by decide +kernel
theorem dL_law_418 : decode cL_law 418 = .ok (.iconst 2, 1) := by decide +kernel
theorem dL_law_419 : decode cL_law 419 = .ok (.iadd, 1) := by decide +kernel
theorem dL_law_420 : decode cL_law 420 = .ok (.iaload, 1) := by decide +kernel
theorem dL_law_421 : decode cL_law 421 = .ok (.invokevirtual 43, 3) := by decide +kernel
theorem dL_law_424 : decode cL_law 424 = .ok (.if_icmp .eq 1075, 3) := by decide +kernel
theorem dL_law_429 : decode cL_law 429 = .ok (.aload_n 1, 1) := by decide +kernel
theorem dL_law_430 : decode cL_law 430 = .ok (.aload_n 0, 1) := by decide +kernel
theorem dL_law_431 : decode cL_law 431 = .ok (.iload_n 3, 1) := by decide +kernel
theorem dL_law_432 : decode cL_law 432 = .ok (.iconst 1, 1) := by decide +kernel
theorem dL_law_433 : decode cL_law 433 = .ok (.iadd, 1) := by decide +kernel
theorem dL_law_434 : decode cL_law 434 = .ok (.iaload, 1) := by decide +kernel
theorem dL_law_435 : decode cL_law 435 = .ok (.aload_n 0, 1) := by decide +kernel
theorem dL_law_436 : decode cL_law 436 = .ok (.iload_n 3, 1) := by decide +kernel
theorem dL_law_437 : decode cL_law 437 = .ok (.iconst 2, 1) := by decide +kernel
theorem dL_law_438 : decode cL_law 438 = .ok (.iadd, 1) := by decide +kernel
theorem dL_law_439 : decode cL_law 439 = .ok (.iaload, 1) := by decide +kernel
theorem dL_law_440 : decode cL_law 440 = .ok (.invokevirtual 44, 3) := by decide +kernel
theorem dL_law_443 : decode cL_law 443 = .ok (.aload_n 2, 1) := by decide +kernel
theorem dL_law_444 : decode cL_law 444 = .ok (.aload_n 0, 1) := by decide +kernel
theorem dL_law_445 : decode cL_law 445 = .ok (.iload_n 3, 1) := by decide +kernel
theorem dL_law_446 : decode cL_law 446 = .ok (.iconst 1, 1) := by decide +kernel
theorem dL_law_447 : decode cL_law 447 = .ok (.iadd, 1) := by decide +kernel
theorem dL_law_448 : decode cL_law 448 = .ok (.iaload, 1) := by decide +kernel
theorem dL_law_449 : decode cL_law 449 = .ok (.aload_n 0, 1) := by decide +kernel
theorem dL_law_450 : decode cL_law 450 = .ok (.iload_n 3, 1) := by decide +kernel
theorem dL_law_451 : decode cL_law 451 = .ok (.iconst 2, 1) := by decide +kernel
theorem dL_law_452 : decode cL_law 452 = .ok (.iadd, 1) := by decide +kernel
theorem dL_law_453 : decode cL_law 453 = .ok (.iaload, 1) := by decide +kernel
theorem dL_law_454 : decode cL_law 454 = .ok (.invokevirtual 47, 3) := by decide +kernel
theorem dL_law_457 : decode cL_law 457 = .ok (.if_icmp .eq 1042, 3) := by decide +kernel
theorem dL_law_462 : decode cL_law 462 = .ok (.aload_n 1, 1) := by decide +kernel
theorem dL_law_463 : decode cL_law 463 = .ok (.aload_n 0, 1) := by decide +kernel
theorem dL_law_464 : decode cL_law 464 = .ok (.iload_n 3, 1) := by decide +kernel
theorem dL_law_465 : decode cL_law 465 = .ok (.iconst 1, 1) := by decide +kernel
theorem dL_law_466 : decode cL_law 466 = .ok (.iadd, 1) := by decide +kernel
theorem dL_law_467 : decode cL_law 467 = .ok (.iaload, 1) := by decide +kernel
theorem dL_law_468 : decode cL_law 468 = .ok (.aload_n 0, 1) := by decide +kernel
theorem dL_law_469 : decode cL_law 469 = .ok (.iload_n 3, 1) := by decide +kernel
theorem dL_law_470 : decode cL_law 470 = .ok (.iconst 2, 1) := by decide +kernel
theorem dL_law_471 : decode cL_law 471 = .ok (.iadd, 1) := by decide +kernel
theorem dL_law_472 : decode cL_law 472 = .ok (.iaload, 1) := by decide +kernel
theorem dL_law_473 : decode cL_law 473 = .ok (.aload_n 0, 1) := by decide +kernel
theorem dL_law_474 : decode cL_law 474 = .ok (.iload_n 3, 1) := by decide +kernel
theorem dL_law_475 : decode cL_law 475 = .ok (.iconst 3, 1) := by decide +kernel
theorem dL_law_476 : decode cL_law 476 = .ok (.iadd, 1) := by decide +kernel
theorem dL_law_477 : decode cL_law 477 = .ok (.iaload, 1) := by decide +kernel
theorem dL_law_478 : decode cL_law 478 = .ok (.aload_n 0, 1) := by decide +kernel
theorem dL_law_479 : decode cL_law 479 = .ok (.iload_n 3, 1) := by decide +kernel
theorem dL_law_480 : decode cL_law 480 = .ok (.iconst 4, 1) := by decide +kernel
theorem dL_law_481 : decode cL_law 481 = .ok (.iadd, 1) := by decide +kernel
theorem dL_law_482 : decode cL_law 482 = .ok (.iaload, 1) := by decide +kernel
theorem dL_law_483 : decode cL_law 483 = .ok (.invokevirtual 48, 3) := by decide +kernel
theorem dL_law_486 : decode cL_law 486 = .ok (.aload_n 2, 1) := by decide +kernel
theorem dL_law_487 : decode cL_law 487 = .ok (.aload_n 0, 1) := by decide +kernel
theorem dL_law_488 : decode cL_law 488 = .ok (.iload_n 3, 1) := by decide +kernel
theorem dL_law_489 : decode cL_law 489 = .ok (.iconst 1, 1) := by decide +kernel
theorem dL_law_490 : decode cL_law 490 = .ok (.iadd, 1) := by decide +kernel
theorem dL_law_491 : decode cL_law 491 = .ok (.iaload, 1) := by decide +kernel
theorem dL_law_492 : decode cL_law 492 = .ok (.aload_n 0, 1) := by decide +kernel
theorem dL_law_493 : decode cL_law 493 = .ok (.iload_n 3, 1) := by decide +kernel
theorem dL_law_494 : decode cL_law 494 = .ok (.iconst 2, 1) := by decide +kernel
theorem dL_law_495 : decode cL_law 495 = .ok (.iadd, 1) := by decide +kernel
theorem dL_law_496 : decode cL_law 496 = .ok (.iaload, 1) := by decide +kernel
theorem dL_law_497 : decode cL_law 497 = .ok (.aload_n 0, 1) := by decide +kernel
theorem dL_law_498 : decode cL_law 498 = .ok (.iload_n 3, 1) := by decide +kernel
theorem dL_law_499 : decode cL_law 499 = .ok (.iconst 3, 1) := by decide +kernel
theorem dL_law_500 : decode cL_law 500 = .ok (.iadd, 1) := by decide +kernel
theorem dL_law_501 : decode cL_law 501 = .ok (.iaload, 1) := by decide +kernel
theorem dL_law_502 : decode cL_law 502 = .ok (.aload_n 0, 1) := by decide +kernel
theorem dL_law_503 : decode cL_law 503 = .ok (.iload_n 3, 1) := by decide +kernel
theorem dL_law_504 : decode cL_law 504 = .ok (.iconst 4, 1) := by decide +kernel
theorem dL_law_505 : decode cL_law 505 = .ok (.iadd, 1) := by decide +kernel
theorem dL_law_506 : decode cL_law 506 = .ok (.iaload, 1) := by decide +kernel
theorem dL_law_507 : decode cL_law 507 = .ok (.invokevirtual 52, 3) := by decide +kernel
theorem dL_law_510 : decode cL_law 510 = .ok (.if_icmp .eq 989, 3) := by decide +kernel
theorem dL_law_515 : decode cL_law 515 = .ok (.aload_n 1, 1) := by decide +kernel
theorem dL_law_516 : decode cL_law 516 = .ok (.aload_n 0, 1) := by decide +kernel
theorem dL_law_517 : decode cL_law 517 = .ok (.iload_n 3, 1) := by decide +kernel
theorem dL_law_518 : decode cL_law 518 = .ok (.iconst 1, 1) := by decide +kernel
theorem dL_law_519 : decode cL_law 519 = .ok (.iadd, 1) := by decide +kernel
theorem dL_law_520 : decode cL_law 520 = .ok (.iaload, 1) := by decide +kernel
theorem dL_law_521 : decode cL_law 521 = .ok (.aload_n 0, 1) := by decide +kernel
theorem dL_law_522 : decode cL_law 522 = .ok (.iload_n 3, 1) := by decide +kernel
theorem dL_law_523 : decode cL_law 523 = .ok (.iconst 2, 1) := by decide +kernel
theorem dL_law_524 : decode cL_law 524 = .ok (.iadd, 1) := by decide +kernel
theorem dL_law_525 : decode cL_law 525 = .ok (.iaload, 1) := by decide +kernel
theorem dL_law_526 : decode cL_law 526 = .ok (.invokevirtual 53, 3) := by decide +kernel
theorem dL_law_529 : decode cL_law 529 = .ok (.aload_n 2, 1) := by decide +kernel
theorem dL_law_530 : decode cL_law 530 = .ok (.aload_n 0, 1) := by decide +kernel
theorem dL_law_531 : decode cL_law 531 = .ok (.iload_n 3, 1) := by decide +kernel
theorem dL_law_532 : decode cL_law 532 = .ok (.iconst 1, 1) := by decide +kernel
theorem dL_law_533 : decode cL_law 533 = .ok (.iadd, 1) := by decide +kernel
theorem dL_law_534 : decode cL_law 534 = .ok (.iaload, 1) := by decide +kernel
theorem dL_law_535 : decode cL_law 535 = .ok (.aload_n 0, 1) := by decide +kernel
theorem dL_law_536 : decode cL_law 536 = .ok (.iload_n 3, 1) := by decide +kernel
theorem dL_law_537 : decode cL_law 537 = .ok (.iconst 2, 1) := by decide +kernel
theorem dL_law_538 : decode cL_law 538 = .ok (.iadd, 1) := by decide +kernel
theorem dL_law_539 : decode cL_law 539 = .ok (.iaload, 1) := by decide +kernel
theorem dL_law_540 : decode cL_law 540 = .ok (.invokevirtual 56, 3) := by decide +kernel
theorem dL_law_543 : decode cL_law 543 = .ok (.if_icmp .eq 956, 3) := by decide +kernel
theorem dL_law_548 : decode cL_law 548 = .ok (.aload_n 1, 1) := by decide +kernel
theorem dL_law_549 : decode cL_law 549 = .ok (.aload_n 0, 1) := by decide +kernel
theorem dL_law_550 : decode cL_law 550 = .ok (.iload_n 3, 1) := by decide +kernel
theorem dL_law_551 : decode cL_law 551 = .ok (.iconst 1, 1) := by decide +kernel
theorem dL_law_552 : decode cL_law 552 = .ok (.iadd, 1) := by decide +kernel
theorem dL_law_553 : decode cL_law 553 = .ok (.iaload, 1) := by decide +kernel
theorem dL_law_554 : decode cL_law 554 = .ok (.aload_n 0, 1) := by decide +kernel
theorem dL_law_555 : decode cL_law 555 = .ok (.iload_n 3, 1) := by decide +kernel
theorem dL_law_556 : decode cL_law 556 = .ok (.iconst 2, 1) := by decide +kernel
theorem dL_law_557 : decode cL_law 557 = .ok (.iadd, 1) := by decide +kernel
theorem dL_law_558 : decode cL_law 558 = .ok (.iaload, 1) := by decide +kernel
theorem dL_law_559 : decode cL_law 559 = .ok (.invokevirtual 57, 3) := by decide +kernel
theorem dL_law_562 : decode cL_law 562 = .ok (.aload_n 2, 1) := by decide +kernel
theorem dL_law_563 : decode cL_law 563 = .ok (.aload_n 0, 1) := by decide +kernel
theorem dL_law_564 : decode cL_law 564 = .ok (.iload_n 3, 1) := by decide +kernel
theorem dL_law_565 : decode cL_law 565 = .ok (.iconst 1, 1) := by decide +kernel
theorem dL_law_566 : decode cL_law 566 = .ok (.iadd, 1) := by decide +kernel
theorem dL_law_567 : decode cL_law 567 = .ok (.iaload, 1) := by decide +kernel
theorem dL_law_568 : decode cL_law 568 = .ok (.aload_n 0, 1) := by decide +kernel
theorem dL_law_569 : decode cL_law 569 = .ok (.iload_n 3, 1) := by decide +kernel
theorem dL_law_570 : decode cL_law 570 = .ok (.iconst 2, 1) := by decide +kernel
theorem dL_law_571 : decode cL_law 571 = .ok (.iadd, 1) := by decide +kernel
theorem dL_law_572 : decode cL_law 572 = .ok (.iaload, 1) := by decide +kernel
theorem dL_law_573 : decode cL_law 573 = .ok (.invokevirtual 60, 3) := by decide +kernel
theorem dL_law_576 : decode cL_law 576 = .ok (.if_icmp .eq 923, 3) := by decide +kernel
theorem dL_law_581 : decode cL_law 581 = .ok (.aload_n 1, 1) := by decide +kernel
theorem dL_law_582 : decode cL_law 582 = .ok (.aload_n 0, 1) := by decide +kernel
theorem dL_law_583 : decode cL_law 583 = .ok (.iload_n 3, 1) := by decide +kernel
theorem dL_law_584 : decode cL_law 584 = .ok (.iconst 1, 1) := by decide +kernel
theorem dL_law_585 : decode cL_law 585 = .ok (.iadd, 1) := by decide +kernel
theorem dL_law_586 : decode cL_law 586 = .ok (.iaload, 1) := by decide +kernel
theorem dL_law_587 : decode cL_law 587 = .ok (.aload_n 0, 1) := by decide +kernel
theorem dL_law_588 : decode cL_law 588 = .ok (.iload_n 3, 1) := by decide +kernel
theorem dL_law_589 : decode cL_law 589 = .ok (.iconst 2, 1) := by decide +kernel
theorem dL_law_590 : decode cL_law 590 = .ok (.iadd, 1) := by decide +kernel
theorem dL_law_591 : decode cL_law 591 = .ok (.iaload, 1) := by decide +kernel
theorem dL_law_592 : decode cL_law 592 = .ok (.i2l, 1) := by decide +kernel
theorem dL_law_593 : decode cL_law 593 = .ok (.bipush 32, 2) := by decide +kernel
theorem dL_law_595 : decode cL_law 595 = .ok (.lshl, 1) := by decide +kernel
theorem dL_law_596 : decode cL_law 596 = .ok (.aload_n 0, 1) := by decide +kernel
theorem dL_law_597 : decode cL_law 597 = .ok (.iload_n 3, 1) := by decide +kernel
theorem dL_law_598 : decode cL_law 598 = .ok (.iconst 3, 1) := by decide +kernel
theorem dL_law_599 : decode cL_law 599 = .ok (.iadd, 1) := by decide +kernel
theorem dL_law_600 : decode cL_law 600 = .ok (.iaload, 1) := by decide +kernel
theorem dL_law_601 : decode cL_law 601 = .ok (.i2l, 1) := by decide +kernel
theorem dL_law_602 : decode cL_law 602 = .ok (.ldc2_w 61, 3) := by decide +kernel
theorem dL_law_605 : decode cL_law 605 = .ok (.land, 1) := by decide +kernel
theorem dL_law_606 : decode cL_law 606 = .ok (.lor, 1) := by decide +kernel
theorem dL_law_607 : decode cL_law 607 = .ok (.invokevirtual 63, 3) := by decide +kernel
theorem dL_law_610 : decode cL_law 610 = .ok (.aload_n 2, 1) := by decide +kernel
theorem dL_law_611 : decode cL_law 611 = .ok (.aload_n 0, 1) := by decide +kernel
theorem dL_law_612 : decode cL_law 612 = .ok (.iload_n 3, 1) := by decide +kernel
theorem dL_law_613 : decode cL_law 613 = .ok (.iconst 1, 1) := by decide +kernel
theorem dL_law_614 : decode cL_law 614 = .ok (.iadd, 1) := by decide +kernel
theorem dL_law_615 : decode cL_law 615 = .ok (.iaload, 1) := by decide +kernel
theorem dL_law_616 : decode cL_law 616 = .ok (.aload_n 0, 1) := by decide +kernel
theorem dL_law_617 : decode cL_law 617 = .ok (.iload_n 3, 1) := by decide +kernel
theorem dL_law_618 : decode cL_law 618 = .ok (.iconst 2, 1) := by decide +kernel
theorem dL_law_619 : decode cL_law 619 = .ok (.iadd, 1) := by decide +kernel
theorem dL_law_620 : decode cL_law 620 = .ok (.iaload, 1) := by decide +kernel
theorem dL_law_621 : decode cL_law 621 = .ok (.i2l, 1) := by decide +kernel
theorem dL_law_622 : decode cL_law 622 = .ok (.bipush 32, 2) := by decide +kernel
theorem dL_law_624 : decode cL_law 624 = .ok (.lshl, 1) := by decide +kernel
theorem dL_law_625 : decode cL_law 625 = .ok (.aload_n 0, 1) := by decide +kernel
theorem dL_law_626 : decode cL_law 626 = .ok (.iload_n 3, 1) := by decide +kernel
theorem dL_law_627 : decode cL_law 627 = .ok (.iconst 3, 1) := by decide +kernel
theorem dL_law_628 : decode cL_law 628 = .ok (.iadd, 1) := by decide +kernel
theorem dL_law_629 : decode cL_law 629 = .ok (.iaload, 1) := by decide +kernel
theorem dL_law_630 : decode cL_law 630 = .ok (.i2l, 1) := by decide +kernel
theorem dL_law_631 : decode cL_law 631 = .ok (.ldc2_w 61, 3) := by decide +kernel
theorem dL_law_634 : decode cL_law 634 = .ok (.land, 1) := by decide +kernel
theorem dL_law_635 : decode cL_law 635 = .ok (.lor, 1) := by decide +kernel
theorem dL_law_636 : decode cL_law 636 = .ok (.invokevirtual 67, 3) := by decide +kernel
theorem dL_law_639 : decode cL_law 639 = .ok (.if_icmp .eq 860, 3) := by decide +kernel
theorem dL_law_1499 : decode cL_law 1499 = .ok (.iinc 3 6, 3) := by decide +kernel
theorem dL_law_1502 : decode cL_law 1502 = .ok (.goto (-1484), 3) := by decide +kernel
theorem dL_law_1505 : decode cL_law 1505 = .ok (.iconst 1, 1) := by decide +kernel
theorem dL_law_1506 : decode cL_law 1506 = .ok (.ireturn, 1) := by decide +kernel

/-! THE CLAIM OUT OF ONE WALK OF THE LAW'S BODY. Your part is whole_start (and what it stands on); all else here is the same for every law, but numbers. -/
def R_law : String := "ShipOfficeLaw"
def lw_P (b : Addr) (xs : List Int32) (args : Array Value) (s : State) : Prop := args = #[.ref b] ∧ s.IntsAt b xs ∧ xs.length ≤ 6 ∧ (Jvm.Cond.and given_1 narrow_1).before args s = true
def lw_Q (_ : Array Value) (s : State) (o : Outcome) (t : State) : Prop := o = .returned (some (.int 1)) ∧ Framed s o t [] 600000 7302250
def lw_Z (below : List Frame) (a : Array Value) (s : State) : State → Prop := fun t => ∃ o, t.status = .running ∧ Ended t below o ∧ lw_Q a s o t
/-- the law's own end, with 1 on the stack, nothing written that was there before, its room as the claim has it -/
theorem lw_ret {p : Program} {l : Launch} {e : Env} {s : State} {m : MethodId} {below : List Frame} {meth : Method} {c : Code} {b : Nat} (hx : p.tables.exec = Jvm.exec) (hb : c.code = code) (hr : meth.sig.returnType = ret) (hlocks : meth.locks = false) {pc : Nat} {H : Heap} {ls : Array Slot} (hdg : decode code pc = .ok (.ireturn, 1)) : W p l e room_1 s m #[Value.ref b] below meth c H [] 600000 7302250 (lw_Z below #[Value.ref b] s) (F0 m pc ls [.int 1]) := by
  intro T hT X
  obtain ⟨fs, hret, hrun, hended, hW, hframe⟩ := X.leave (v := some (.int 1)) (hlocks := hlocks) (fun h => by rw [hr] at h; cases h)
  have hmeth' : T.vm.method? m = some meth := X.method'
  refine ⟨T.setFrames fs, ?_, .returned (some (.int 1)), hrun, hended, rfl, ⟨_, rfl⟩, hW, hframe⟩
  jvm_step X.here [X.here.top, hx, hb, hdg, hmeth', hr, ret, narrow_b1]
  (try refine ⟨rfl, ?_⟩); (try refine ⟨rfl, ?_⟩)
  first | (intro acts; rw [hret _ acts rfl rfl rfl]) | rw [hret _ _ rfl rfl rfl]
  exact Steps.refl _
/-- what holds at the law's entry: the machine, the code, the tables' words (any of lw_tbl by 'hts w (by decide +kernel)'), the script of L ints xs at the cell b, what the Statement gives of the start (any of its parts by flat_of_before) -/
def lw_At (p : Program) (s : State) (m : MethodId) (meth : Method) (c : Code) (b L : Nat) (xs : Nat → Int32) : Prop :=
  p.tables.exec = Jvm.exec ∧ c.code = code ∧ meth.sig.returnType = ret ∧ c.maxLocals = 4 ∧ s.vm.findClass R_law = some m.cls ∧ (∀ w ∈ lw_tbl, w.before #[Value.ref b] s = true) ∧ va_X b L xs s s.heap ∧ b < s.heap.size ∧ meth.locks = false ∧ (Jvm.Cond.and given_1 narrow_1).before #[Value.ref b] s = true

theorem lc_out {p : Program} {l : Launch} {e : Env} {s : State} {m : MethodId} {below : List Frame} {meth : Method} {c : Code} {b : Nat} {xs : Nat → Int32} {A : Nat → Prop} {cells slots : Nat} (hc : cells ≤ 600000) (hs : slots ≤ 7302250) {L : Nat} (C0 : lw_At p s m meth c b L xs) (hAq : ∀ q, A q → s.heap.size ≤ q) {H : Heap} {locs : List Loc} (hS : va_S A s.heap H locs) {ls : Array Slot} : W p l e room_1 s m #[Value.ref b] below meth c H locs cells slots (lw_Z below #[Value.ref b] s) (F0 m 1505 ls []) := by
  obtain ⟨hx, hb, hr, hml, hown, hts, hX, hbl, hlocks, hgv⟩ := id C0
  refine lv_iconst (v := 1) hx hb dL_law_1505 (by decide) ?_
  refine va_forget (fun q hq => hAq _ (hS.2.2 q hq)) ?_
  refine W.widen (k := 600000) (n := 7302250) hc hs ?_
  exact lw_ret hx hb hr hlocks dL_law_1506
theorem lc_end {p : Program} {l : Launch} {e : Env} {s : State} {m : MethodId} {below : List Frame} {meth : Method} {c : Code} {b : Nat} {xs : Nat → Int32} {A : Nat → Prop} {cells slots : Nat} {g0 h0 : Nat} (hc : cells ≤ 600000) (hs : slots ≤ 7302250) (C0 : lw_At p s m meth c b 6 xs) (hAq : ∀ q, A q → s.heap.size ≤ q) {H : Heap} {locs : List Loc} (hS : va_S A s.heap H locs) {ls : Array Slot} (hl : lv_has ls 4 [(3, .int 0), (2, .ref g0), (1, .ref h0), (0, .ref b)]) : W p l e room_1 s m #[Value.ref b] below meth c H locs cells slots (lw_Z below #[Value.ref b] s) (F0 m 1499 ls []) := by
  obtain ⟨hx, hb, hr, hml, hown, hts, hX, hbl, hlocks, hgv⟩ := id C0
  have hts := fun w h => hts w (wsL_law_in w h)
  have hown : s.vm.findClass RL = some m.cls := hown
  have hbA : ¬ A b := fun h => Nat.not_le.mpr hbl (hAq b h)
  refine lv_iinc (v := 6) (lv' := [(3, .int 6), (2, .ref g0), (1, .ref h0), (0, .ref b)]) hx hb dL_law_1499 hl (k := 0) rfl (by decide) (by decide) rfl (fun ls hl => ?_)
  refine lv_goto (tgt := 18) hx hb dL_law_1502 (by decide) ?_
  refine lv_iload_n hx hb dL_law_18 rfl (lv_at hl 0 rfl) ?_
  refine lv_aload_n hx hb dL_law_19 rfl (lv_at hl 3 rfl) ?_
  refine va_slen hx hb hX hbl hbA hS dL_law_20 ?_
  refine lv_bipush (v := 6) hx hb dL_law_21 (by decide) ?_
  refine lv_isub hx hb dL_law_23 ?_
  refine lv_topi (fun y ey => ?_)
  obtain rfl : y = 0 := ey.trans (by decide)
  refine lv_icmp_gt (tgt := 1505) hx hb dL_law_24 (by decide) (fun _ => ?_) (fun c_1 => absurd c_1 (by decide))
  exact lc_out hc hs C0 hAq hS
theorem vP0 {D : va_G} {H : Heap} : va_P D vwCl [] H := fun k q h => by simp at h
theorem vD0 {A : Nat → Prop} : va_D A [] := ⟨fun i j p q h => by simp at h, fun k q h => by simp at h⟩
set_option maxHeartbeats 4000000 in
set_option maxRecDepth 100000 in
theorem lc_0 {p : Program} {l : Launch} {e : Env} {s : State} {m : MethodId} {below : List Frame} {meth : Method} {c : Code} {b : Nat} {xs : Nat → Int32} {A : Nat → Prop} {dC : Nat → ClassId} {dI : Nat → Nat → Nat} {tL tS h0 g0 : Nat} {q pq : Nat → Nat} {cq cp : Nat → ClassId} (C0 : lw_At p s m meth c b 6 xs) (hA : ∀ q : Nat, s.heap.size ≤ q → A q) (hAq : ∀ q, A q → s.heap.size ≤ q) (hZ : stZ A tL tS s s.heap) {H : Heap} {locs : List Loc} (hK : va_K (dC, dI) vwCl [((cq 15), .int), ((cq 1), .object RX6), ((cq 3), .object RX9), ((cq 90), .int), ((cq 100), .int), ((cq 110), .long), ((cq 112), .int), ((cq 13), .int), ((cp 0), .int), ((cp 1), .int), ((cp 2), .int), ((cp 3), .int), ((cp 4), .int), ((cp 6), .int), ((cp 7), .int), ((cp 8), .int), ((cp 9), .int), ((cp 44), .int), ((cp 55), .int), ((cp 61), .int)] s) (hP : va_P (dC, dI) vwCl [(h0, .inr (10, oF q)), ((q 15), .inl ((cq 15), 7, .inl (fun _ => 0))), ((q 1), .inl ((cq 1), 40, .inr (.inr (.inr (.inr (fun _ => none)))))), ((q 3), .inl ((cq 3), 20, .inr (.inr (.inr (.inr (fun _ => none)))))), ((q 8), .inr (5, [.ref (q 80), .ref (q 81), .int 0])), ((q 9), .inr (8, [.ref (q 90), .int 0, .ref (q 91), .int 0, .int 0, .int 0])), ((q 90), .inl ((cq 90), 60, .inl (fun _ => 0))), ((q 10), .inr (7, [.ref (q 100), .ref (q 101)])), ((q 100), .inl ((cq 100), 100, .inl (fun _ => 0))), ((q 11), .inr (4, [.ref (q 110), .ref (q 111), .int 0, .ref (q 112), .int 0, .int 0])), ((q 110), .inl ((cq 110), 81, .inr (.inl (fun _ => 0)))), ((q 112), .inl ((cq 112), 4, .inl (fun _ => 0))), ((q 13), .inl ((cq 13), 12, .inl (fun _ => 0))), (g0, .inr (11, mF pq)), ((pq 0), .inl ((cp 0), 7, .inl (fun _ => 0))), ((pq 1), .inl ((cp 1), 100, .inl (fun _ => 0))), ((pq 2), .inl ((cp 2), 40, .inl (fun _ => 0))), ((pq 3), .inl ((cp 3), 40, .inl (fun _ => 0))), ((pq 4), .inl ((cp 4), 40, .inl (fun _ => 0))), ((pq 6), .inl ((cp 6), 20, .inl (fun _ => 0))), ((pq 7), .inl ((cp 7), 20, .inl (fun _ => 0))), ((pq 8), .inl ((cp 8), 20, .inl (fun _ => 0))), ((pq 9), .inl ((cp 9), 20, .inl (fun _ => 0))), ((pq 44), .inl ((cp 44), 60, .inl (fun _ => 0))), ((pq 55), .inl ((cp 55), 8, .inl (fun _ => 0))), ((pq 61), .inl ((cp 61), 12, .inl (fun _ => 0)))] H) (hD : va_D A [(h0, .inr (10, oF q)), ((q 15), .inl ((cq 15), 7, .inl (fun _ => 0))), ((q 1), .inl ((cq 1), 40, .inr (.inr (.inr (.inr (fun _ => none)))))), ((q 3), .inl ((cq 3), 20, .inr (.inr (.inr (.inr (fun _ => none)))))), ((q 8), .inr (5, [.ref (q 80), .ref (q 81), .int 0])), ((q 9), .inr (8, [.ref (q 90), .int 0, .ref (q 91), .int 0, .int 0, .int 0])), ((q 90), .inl ((cq 90), 60, .inl (fun _ => 0))), ((q 10), .inr (7, [.ref (q 100), .ref (q 101)])), ((q 100), .inl ((cq 100), 100, .inl (fun _ => 0))), ((q 11), .inr (4, [.ref (q 110), .ref (q 111), .int 0, .ref (q 112), .int 0, .int 0])), ((q 110), .inl ((cq 110), 81, .inr (.inl (fun _ => 0)))), ((q 112), .inl ((cq 112), 4, .inl (fun _ => 0))), ((q 13), .inl ((cq 13), 12, .inl (fun _ => 0))), (g0, .inr (11, mF pq)), ((pq 0), .inl ((cp 0), 7, .inl (fun _ => 0))), ((pq 1), .inl ((cp 1), 100, .inl (fun _ => 0))), ((pq 2), .inl ((cp 2), 40, .inl (fun _ => 0))), ((pq 3), .inl ((cp 3), 40, .inl (fun _ => 0))), ((pq 4), .inl ((cp 4), 40, .inl (fun _ => 0))), ((pq 6), .inl ((cp 6), 20, .inl (fun _ => 0))), ((pq 7), .inl ((cp 7), 20, .inl (fun _ => 0))), ((pq 8), .inl ((cp 8), 20, .inl (fun _ => 0))), ((pq 9), .inl ((cp 9), 20, .inl (fun _ => 0))), ((pq 44), .inl ((cp 44), 60, .inl (fun _ => 0))), ((pq 55), .inl ((cp 55), 8, .inl (fun _ => 0))), ((pq 61), .inl ((cp 61), 12, .inl (fun _ => 0)))]) (hS : va_S A s.heap H locs) {ls : Array Slot} (hl : lv_has ls 4 [(3, .int 0), (2, .ref g0), (1, .ref h0), (0, .ref b)]) : W p l e room_1 s m #[Value.ref b] below meth c H locs 141 20685 (lw_Z below #[Value.ref b] s) (F0 m 188 ls []) := by
  obtain ⟨hx, hb, hr, hml, hown, hts, hX, hbl, hlocks, hgv⟩ := id C0
  have hts := fun w h => hts w (wsL_law_in w h)
  have hown : s.vm.findClass RL = some m.cls := hown
  have hbA : ¬ A b := fun h => Nat.not_le.mpr hbl (hAq b h)
  refine lv_aload_n hx hb dL_law_188 rfl (lv_at hl 2 rfl) ?_
  refine lv_aload_n hx hb dL_law_189 rfl (lv_at hl 3 rfl) ?_
  refine lv_iload_n hx hb dL_law_190 rfl (lv_at hl 0 rfl) ?_
  refine lv_iconst (v := 1) hx hb dL_law_191 (by decide) ?_
  refine lv_iadd hx hb dL_law_192 ?_
  refine lv_topi (fun y ey => ?_)
  obtain rfl : y = 1 := ey.trans (by decide)
  refine va_sld hx hb hX hbl hbA hS (by unfold vp_in; decide) dL_law_193 ?_
  have hPc := hP.sub (ws' := [(h0, .inr (10, oF q)), ((q 15), .inl ((cq 15), 7, .inl (fun _ => 0)))]) [0, 1] rfl
  have hDc := hD.sub (ws' := [(h0, .inr (10, oF q)), ((q 15), .inl ((cq 15), 7, .inl (fun _ => 0)))]) [0, 1] (by decide) rfl
  have hKc := hK.sub (tys' := [((cq 15), .int)]) [0] rfl
  have hFc := va_free (wc := [(h0, .inr (10, oF q)), ((q 15), .inl ((cq 15), 7, .inl (fun _ => 0)))]) hD hS hA [0, 1] rfl
  refine va_calli (va_runV (As := [.int (xs (1 : Int32).toNatClampNeg)]) (rest := []) ⟨hx, hb, hml, hown, hts⟩ (c_X10_days l dC dI H.size h0 q cq (xs (1 : Int32).toNatClampNeg)) (cwV 1 hts gL_law_X10_days rfl rfl rfl (by decide +kernel) ⟨(Nat.le_of_ble_eq_true rfl), (Nat.le_of_ble_eq_true rfl)⟩) (pr_V (r := (RX10, TX10, 16)) hPc hKc hDc 0 10 rfl rfl) rfl rfl hl.1 rfl (lv_room (Nat.le_of_ble_eq_true rfl)) dL_law_194 ⟨(Nat.le_of_ble_eq_true rfl), (Nat.le_of_ble_eq_true rfl)⟩) hS (fun q _ h => hFc q h) hFc (fun r_2 u t H locs ht hvm w_1 hB hz1 hk1 hS => ?_)
  obtain ⟨hP, hD⟩ := va_join (wr := [(g0, .inr (11, mF pq)), ((pq 0), .inl ((cp 0), 7, .inl (fun _ => 0))), ((pq 1), .inl ((cp 1), 100, .inl (fun _ => 0))), ((pq 2), .inl ((cp 2), 40, .inl (fun _ => 0))), ((pq 3), .inl ((cp 3), 40, .inl (fun _ => 0))), ((pq 4), .inl ((cp 4), 40, .inl (fun _ => 0))), ((pq 6), .inl ((cp 6), 20, .inl (fun _ => 0))), ((pq 7), .inl ((cp 7), 20, .inl (fun _ => 0))), ((pq 8), .inl ((cp 8), 20, .inl (fun _ => 0))), ((pq 9), .inl ((cp 9), 20, .inl (fun _ => 0))), ((pq 44), .inl ((cp 44), 60, .inl (fun _ => 0))), ((pq 55), .inl ((cp 55), 8, .inl (fun _ => 0))), ((pq 61), .inl ((cp 61), 12, .inl (fun _ => 0)))]) (w1 := []) hP hD [0, 1] [13, 14, 15, 16, 17, 18, 19, 20, 21, 22, 23, 24, 25] rfl rfl (by decide) (by decide) hk1 hFc vP0 vD0
  have hP : va_P (dC, dI) vwCl [(g0, .inr (11, mF pq)), ((pq 0), .inl ((cp 0), 7, .inl (fun _ => 0))), ((pq 1), .inl ((cp 1), 100, .inl (fun _ => 0))), ((pq 2), .inl ((cp 2), 40, .inl (fun _ => 0))), ((pq 3), .inl ((cp 3), 40, .inl (fun _ => 0))), ((pq 4), .inl ((cp 4), 40, .inl (fun _ => 0))), ((pq 6), .inl ((cp 6), 20, .inl (fun _ => 0))), ((pq 7), .inl ((cp 7), 20, .inl (fun _ => 0))), ((pq 8), .inl ((cp 8), 20, .inl (fun _ => 0))), ((pq 9), .inl ((cp 9), 20, .inl (fun _ => 0))), ((pq 44), .inl ((cp 44), 60, .inl (fun _ => 0))), ((pq 55), .inl ((cp 55), 8, .inl (fun _ => 0))), ((pq 61), .inl ((cp 61), 12, .inl (fun _ => 0)))] H := hP
  have hD : va_D A [(g0, .inr (11, mF pq)), ((pq 0), .inl ((cp 0), 7, .inl (fun _ => 0))), ((pq 1), .inl ((cp 1), 100, .inl (fun _ => 0))), ((pq 2), .inl ((cp 2), 40, .inl (fun _ => 0))), ((pq 3), .inl ((cp 3), 40, .inl (fun _ => 0))), ((pq 4), .inl ((cp 4), 40, .inl (fun _ => 0))), ((pq 6), .inl ((cp 6), 20, .inl (fun _ => 0))), ((pq 7), .inl ((cp 7), 20, .inl (fun _ => 0))), ((pq 8), .inl ((cp 8), 20, .inl (fun _ => 0))), ((pq 9), .inl ((cp 9), 20, .inl (fun _ => 0))), ((pq 44), .inl ((cp 44), 60, .inl (fun _ => 0))), ((pq 55), .inl ((cp 55), 8, .inl (fun _ => 0))), ((pq 61), .inl ((cp 61), 12, .inl (fun _ => 0)))] := hD
  clear hk1 hz1 hvm hB ht hPc hDc hKc hFc
  refine lv_aload_n hx hb dL_law_197 rfl (lv_at hl 1 rfl) ?_
  refine lv_aload_n hx hb dL_law_198 rfl (lv_at hl 3 rfl) ?_
  refine lv_iload_n hx hb dL_law_199 rfl (lv_at hl 0 rfl) ?_
  refine lv_iconst (v := 1) hx hb dL_law_200 (by decide) ?_
  refine lv_iadd hx hb dL_law_201 ?_
  refine lv_topi (fun y ey => ?_)
  obtain rfl : y = 1 := ey.trans (by decide)
  refine va_sld hx hb hX hbl hbA hS (by unfold vp_in; decide) dL_law_202 ?_
  have hPc := hP.sub (ws' := [(g0, .inr (11, mF pq)), ((pq 0), .inl ((cp 0), 7, .inl (fun _ => 0)))]) [0, 1] rfl
  have hDc := hD.sub (ws' := [(g0, .inr (11, mF pq)), ((pq 0), .inl ((cp 0), 7, .inl (fun _ => 0)))]) [0, 1] (by decide) rfl
  have hKc := hK.sub (tys' := [((cp 0), .int)]) [8] rfl
  have hFc := va_free (wc := [(g0, .inr (11, mF pq)), ((pq 0), .inl ((cp 0), 7, .inl (fun _ => 0)))]) hD hS hA [0, 1] rfl
  refine va_calli (va_runV (As := [.int (xs (1 : Int32).toNatClampNeg)]) (rest := [.int r_2]) ⟨hx, hb, hml, hown, hts⟩ (c_X11_days l dC dI H.size g0 pq cp (xs (1 : Int32).toNatClampNeg)) (cwV 1 hts gL_law_X11_days rfl rfl rfl (by decide +kernel) ⟨(Nat.le_of_ble_eq_true rfl), (Nat.le_of_ble_eq_true rfl)⟩) (pr_V (r := (RX11, TX11, 63)) hPc hKc hDc 0 11 rfl rfl) rfl rfl hl.1 rfl (lv_room (Nat.le_of_ble_eq_true rfl)) dL_law_203 ⟨(Nat.le_of_ble_eq_true rfl), (Nat.le_of_ble_eq_true rfl)⟩) hS (fun q _ h => hFc q h) hFc (fun r_4 u t H locs ht hvm w_3 hB hz1 hk1 hS => ?_)
  clear hk1 hz1 hvm hB ht hPc hDc hKc hFc
  refine lv_icmp_eq (tgt := 1499) hx hb dL_law_206 (by decide) (fun c_5 => ?_) (fun c_5 => absurd c_5 (fun h => h (w_1.trans w_3.symm)))
  exact lc_end (Nat.le_of_ble_eq_true rfl) (Nat.le_of_ble_eq_true rfl) C0 hAq hS hl
set_option maxHeartbeats 4000000 in
set_option maxRecDepth 100000 in
theorem lc_1 {p : Program} {l : Launch} {e : Env} {s : State} {m : MethodId} {below : List Frame} {meth : Method} {c : Code} {b : Nat} {xs : Nat → Int32} {A : Nat → Prop} {dC : Nat → ClassId} {dI : Nat → Nat → Nat} {tL tS h0 g0 : Nat} {q pq : Nat → Nat} {cq cp : Nat → ClassId} (C0 : lw_At p s m meth c b 6 xs) (hA : ∀ q : Nat, s.heap.size ≤ q → A q) (hAq : ∀ q, A q → s.heap.size ≤ q) (hZ : stZ A tL tS s s.heap) {H : Heap} {locs : List Loc} (hK : va_K (dC, dI) vwCl [((cq 15), .int), ((cq 1), .object RX6), ((cq 3), .object RX9), ((cq 90), .int), ((cq 100), .int), ((cq 110), .long), ((cq 112), .int), ((cq 13), .int), ((cp 0), .int), ((cp 1), .int), ((cp 2), .int), ((cp 3), .int), ((cp 4), .int), ((cp 6), .int), ((cp 7), .int), ((cp 8), .int), ((cp 9), .int), ((cp 44), .int), ((cp 55), .int), ((cp 61), .int)] s) (hP : va_P (dC, dI) vwCl [(h0, .inr (10, oF q)), ((q 15), .inl ((cq 15), 7, .inl (fun _ => 0))), ((q 1), .inl ((cq 1), 40, .inr (.inr (.inr (.inr (fun _ => none)))))), ((q 3), .inl ((cq 3), 20, .inr (.inr (.inr (.inr (fun _ => none)))))), ((q 8), .inr (5, [.ref (q 80), .ref (q 81), .int 0])), ((q 9), .inr (8, [.ref (q 90), .int 0, .ref (q 91), .int 0, .int 0, .int 0])), ((q 90), .inl ((cq 90), 60, .inl (fun _ => 0))), ((q 10), .inr (7, [.ref (q 100), .ref (q 101)])), ((q 100), .inl ((cq 100), 100, .inl (fun _ => 0))), ((q 11), .inr (4, [.ref (q 110), .ref (q 111), .int 0, .ref (q 112), .int 0, .int 0])), ((q 110), .inl ((cq 110), 81, .inr (.inl (fun _ => 0)))), ((q 112), .inl ((cq 112), 4, .inl (fun _ => 0))), ((q 13), .inl ((cq 13), 12, .inl (fun _ => 0))), (g0, .inr (11, mF pq)), ((pq 0), .inl ((cp 0), 7, .inl (fun _ => 0))), ((pq 1), .inl ((cp 1), 100, .inl (fun _ => 0))), ((pq 2), .inl ((cp 2), 40, .inl (fun _ => 0))), ((pq 3), .inl ((cp 3), 40, .inl (fun _ => 0))), ((pq 4), .inl ((cp 4), 40, .inl (fun _ => 0))), ((pq 6), .inl ((cp 6), 20, .inl (fun _ => 0))), ((pq 7), .inl ((cp 7), 20, .inl (fun _ => 0))), ((pq 8), .inl ((cp 8), 20, .inl (fun _ => 0))), ((pq 9), .inl ((cp 9), 20, .inl (fun _ => 0))), ((pq 44), .inl ((cp 44), 60, .inl (fun _ => 0))), ((pq 55), .inl ((cp 55), 8, .inl (fun _ => 0))), ((pq 61), .inl ((cp 61), 12, .inl (fun _ => 0)))] H) (hD : va_D A [(h0, .inr (10, oF q)), ((q 15), .inl ((cq 15), 7, .inl (fun _ => 0))), ((q 1), .inl ((cq 1), 40, .inr (.inr (.inr (.inr (fun _ => none)))))), ((q 3), .inl ((cq 3), 20, .inr (.inr (.inr (.inr (fun _ => none)))))), ((q 8), .inr (5, [.ref (q 80), .ref (q 81), .int 0])), ((q 9), .inr (8, [.ref (q 90), .int 0, .ref (q 91), .int 0, .int 0, .int 0])), ((q 90), .inl ((cq 90), 60, .inl (fun _ => 0))), ((q 10), .inr (7, [.ref (q 100), .ref (q 101)])), ((q 100), .inl ((cq 100), 100, .inl (fun _ => 0))), ((q 11), .inr (4, [.ref (q 110), .ref (q 111), .int 0, .ref (q 112), .int 0, .int 0])), ((q 110), .inl ((cq 110), 81, .inr (.inl (fun _ => 0)))), ((q 112), .inl ((cq 112), 4, .inl (fun _ => 0))), ((q 13), .inl ((cq 13), 12, .inl (fun _ => 0))), (g0, .inr (11, mF pq)), ((pq 0), .inl ((cp 0), 7, .inl (fun _ => 0))), ((pq 1), .inl ((cp 1), 100, .inl (fun _ => 0))), ((pq 2), .inl ((cp 2), 40, .inl (fun _ => 0))), ((pq 3), .inl ((cp 3), 40, .inl (fun _ => 0))), ((pq 4), .inl ((cp 4), 40, .inl (fun _ => 0))), ((pq 6), .inl ((cp 6), 20, .inl (fun _ => 0))), ((pq 7), .inl ((cp 7), 20, .inl (fun _ => 0))), ((pq 8), .inl ((cp 8), 20, .inl (fun _ => 0))), ((pq 9), .inl ((cp 9), 20, .inl (fun _ => 0))), ((pq 44), .inl ((cp 44), 60, .inl (fun _ => 0))), ((pq 55), .inl ((cp 55), 8, .inl (fun _ => 0))), ((pq 61), .inl ((cp 61), 12, .inl (fun _ => 0)))]) (hS : va_S A s.heap H locs) {ls : Array Slot} (hl : lv_has ls 4 [(3, .int 0), (2, .ref g0), (1, .ref h0), (0, .ref b)]) : W p l e room_1 s m #[Value.ref b] below meth c H locs 141 20685 (lw_Z below #[Value.ref b] s) (F0 m 211 ls []) := by
  obtain ⟨hx, hb, hr, hml, hown, hts, hX, hbl, hlocks, hgv⟩ := id C0
  have hts := fun w h => hts w (wsL_law_in w h)
  have hown : s.vm.findClass RL = some m.cls := hown
  have hbA : ¬ A b := fun h => Nat.not_le.mpr hbl (hAq b h)
  refine lv_aload_n hx hb dL_law_211 rfl (lv_at hl 2 rfl) ?_
  refine lv_aload_n hx hb dL_law_212 rfl (lv_at hl 3 rfl) ?_
  refine lv_iload_n hx hb dL_law_213 rfl (lv_at hl 0 rfl) ?_
  refine lv_iconst (v := 1) hx hb dL_law_214 (by decide) ?_
  refine lv_iadd hx hb dL_law_215 ?_
  refine lv_topi (fun y ey => ?_)
  obtain rfl : y = 1 := ey.trans (by decide)
  refine va_sld hx hb hX hbl hbA hS (by unfold vp_in; decide) dL_law_216 ?_
  refine lv_aload_n hx hb dL_law_217 rfl (lv_at hl 3 rfl) ?_
  refine lv_iload_n hx hb dL_law_218 rfl (lv_at hl 0 rfl) ?_
  refine lv_iconst (v := 2) hx hb dL_law_219 (by decide) ?_
  refine lv_iadd hx hb dL_law_220 ?_
  refine lv_topi (fun y ey => ?_)
  obtain rfl : y = 2 := ey.trans (by decide)
  refine va_sld hx hb hX hbl hbA hS (by unfold vp_in; decide) dL_law_221 ?_
  refine lv_aload_n hx hb dL_law_222 rfl (lv_at hl 3 rfl) ?_
  refine lv_iload_n hx hb dL_law_223 rfl (lv_at hl 0 rfl) ?_
  refine lv_iconst (v := 3) hx hb dL_law_224 (by decide) ?_
  refine lv_iadd hx hb dL_law_225 ?_
  refine lv_topi (fun y ey => ?_)
  obtain rfl : y = 3 := ey.trans (by decide)
  refine va_sld hx hb hX hbl hbA hS (by unfold vp_in; decide) dL_law_226 ?_
  have hPc := hP.sub (ws' := [(h0, .inr (10, oF q)), ((q 15), .inl ((cq 15), 7, .inl (fun _ => 0))), ((q 10), .inr (7, [.ref (q 100), .ref (q 101)])), ((q 100), .inl ((cq 100), 100, .inl (fun _ => 0)))]) [0, 1, 7, 8] rfl
  have hDc := hD.sub (ws' := [(h0, .inr (10, oF q)), ((q 15), .inl ((cq 15), 7, .inl (fun _ => 0))), ((q 10), .inr (7, [.ref (q 100), .ref (q 101)])), ((q 100), .inl ((cq 100), 100, .inl (fun _ => 0)))]) [0, 1, 7, 8] (by decide) rfl
  have hKc := hK.sub (tys' := [((cq 15), .int), ((cq 100), .int)]) [0, 4] rfl
  have hFc := va_free (wc := [(h0, .inr (10, oF q)), ((q 15), .inl ((cq 15), 7, .inl (fun _ => 0))), ((q 10), .inr (7, [.ref (q 100), .ref (q 101)])), ((q 100), .inl ((cq 100), 100, .inl (fun _ => 0)))]) hD hS hA [0, 1, 7, 8] rfl
  refine va_calli (va_runV (As := [.int (xs (1 : Int32).toNatClampNeg), .int (xs (2 : Int32).toNatClampNeg), .int (xs (3 : Int32).toNatClampNeg)]) (rest := []) ⟨hx, hb, hml, hown, hts⟩ (c_X10_miles l dC dI H.size h0 q cq (xs (1 : Int32).toNatClampNeg) (xs (2 : Int32).toNatClampNeg) (xs (3 : Int32).toNatClampNeg)) (cwV 3 hts gL_law_X10_miles rfl rfl rfl (by decide +kernel) ⟨(Nat.le_of_ble_eq_true rfl), (Nat.le_of_ble_eq_true rfl)⟩) (pr_V (r := (RX10, TX10, 16)) hPc hKc hDc 0 10 rfl rfl) rfl rfl hl.1 rfl (lv_room (Nat.le_of_ble_eq_true rfl)) dL_law_227 ⟨(Nat.le_of_ble_eq_true rfl), (Nat.le_of_ble_eq_true rfl)⟩) hS (fun q _ h => hFc q h) hFc (fun r_2 u t H locs ht hvm w_1 hB hz1 hk1 hS => ?_)
  obtain ⟨hP, hD⟩ := va_join (wr := [(g0, .inr (11, mF pq)), ((pq 0), .inl ((cp 0), 7, .inl (fun _ => 0))), ((pq 1), .inl ((cp 1), 100, .inl (fun _ => 0))), ((pq 2), .inl ((cp 2), 40, .inl (fun _ => 0))), ((pq 3), .inl ((cp 3), 40, .inl (fun _ => 0))), ((pq 4), .inl ((cp 4), 40, .inl (fun _ => 0))), ((pq 6), .inl ((cp 6), 20, .inl (fun _ => 0))), ((pq 7), .inl ((cp 7), 20, .inl (fun _ => 0))), ((pq 8), .inl ((cp 8), 20, .inl (fun _ => 0))), ((pq 9), .inl ((cp 9), 20, .inl (fun _ => 0))), ((pq 44), .inl ((cp 44), 60, .inl (fun _ => 0))), ((pq 55), .inl ((cp 55), 8, .inl (fun _ => 0))), ((pq 61), .inl ((cp 61), 12, .inl (fun _ => 0)))]) (w1 := []) hP hD [0, 1, 7, 8] [13, 14, 15, 16, 17, 18, 19, 20, 21, 22, 23, 24, 25] rfl rfl (by decide) (by decide) hk1 hFc vP0 vD0
  have hP : va_P (dC, dI) vwCl [(g0, .inr (11, mF pq)), ((pq 0), .inl ((cp 0), 7, .inl (fun _ => 0))), ((pq 1), .inl ((cp 1), 100, .inl (fun _ => 0))), ((pq 2), .inl ((cp 2), 40, .inl (fun _ => 0))), ((pq 3), .inl ((cp 3), 40, .inl (fun _ => 0))), ((pq 4), .inl ((cp 4), 40, .inl (fun _ => 0))), ((pq 6), .inl ((cp 6), 20, .inl (fun _ => 0))), ((pq 7), .inl ((cp 7), 20, .inl (fun _ => 0))), ((pq 8), .inl ((cp 8), 20, .inl (fun _ => 0))), ((pq 9), .inl ((cp 9), 20, .inl (fun _ => 0))), ((pq 44), .inl ((cp 44), 60, .inl (fun _ => 0))), ((pq 55), .inl ((cp 55), 8, .inl (fun _ => 0))), ((pq 61), .inl ((cp 61), 12, .inl (fun _ => 0)))] H := hP
  have hD : va_D A [(g0, .inr (11, mF pq)), ((pq 0), .inl ((cp 0), 7, .inl (fun _ => 0))), ((pq 1), .inl ((cp 1), 100, .inl (fun _ => 0))), ((pq 2), .inl ((cp 2), 40, .inl (fun _ => 0))), ((pq 3), .inl ((cp 3), 40, .inl (fun _ => 0))), ((pq 4), .inl ((cp 4), 40, .inl (fun _ => 0))), ((pq 6), .inl ((cp 6), 20, .inl (fun _ => 0))), ((pq 7), .inl ((cp 7), 20, .inl (fun _ => 0))), ((pq 8), .inl ((cp 8), 20, .inl (fun _ => 0))), ((pq 9), .inl ((cp 9), 20, .inl (fun _ => 0))), ((pq 44), .inl ((cp 44), 60, .inl (fun _ => 0))), ((pq 55), .inl ((cp 55), 8, .inl (fun _ => 0))), ((pq 61), .inl ((cp 61), 12, .inl (fun _ => 0)))] := hD
  clear hk1 hz1 hvm hB ht hPc hDc hKc hFc
  refine lv_aload_n hx hb dL_law_230 rfl (lv_at hl 1 rfl) ?_
  refine lv_aload_n hx hb dL_law_231 rfl (lv_at hl 3 rfl) ?_
  refine lv_iload_n hx hb dL_law_232 rfl (lv_at hl 0 rfl) ?_
  refine lv_iconst (v := 1) hx hb dL_law_233 (by decide) ?_
  refine lv_iadd hx hb dL_law_234 ?_
  refine lv_topi (fun y ey => ?_)
  obtain rfl : y = 1 := ey.trans (by decide)
  refine va_sld hx hb hX hbl hbA hS (by unfold vp_in; decide) dL_law_235 ?_
  refine lv_aload_n hx hb dL_law_236 rfl (lv_at hl 3 rfl) ?_
  refine lv_iload_n hx hb dL_law_237 rfl (lv_at hl 0 rfl) ?_
  refine lv_iconst (v := 2) hx hb dL_law_238 (by decide) ?_
  refine lv_iadd hx hb dL_law_239 ?_
  refine lv_topi (fun y ey => ?_)
  obtain rfl : y = 2 := ey.trans (by decide)
  refine va_sld hx hb hX hbl hbA hS (by unfold vp_in; decide) dL_law_240 ?_
  refine lv_aload_n hx hb dL_law_241 rfl (lv_at hl 3 rfl) ?_
  refine lv_iload_n hx hb dL_law_242 rfl (lv_at hl 0 rfl) ?_
  refine lv_iconst (v := 3) hx hb dL_law_243 (by decide) ?_
  refine lv_iadd hx hb dL_law_244 ?_
  refine lv_topi (fun y ey => ?_)
  obtain rfl : y = 3 := ey.trans (by decide)
  refine va_sld hx hb hX hbl hbA hS (by unfold vp_in; decide) dL_law_245 ?_
  have hPc := hP.sub (ws' := [(g0, .inr (11, mF pq)), ((pq 0), .inl ((cp 0), 7, .inl (fun _ => 0))), ((pq 1), .inl ((cp 1), 100, .inl (fun _ => 0)))]) [0, 1, 2] rfl
  have hDc := hD.sub (ws' := [(g0, .inr (11, mF pq)), ((pq 0), .inl ((cp 0), 7, .inl (fun _ => 0))), ((pq 1), .inl ((cp 1), 100, .inl (fun _ => 0)))]) [0, 1, 2] (by decide) rfl
  have hKc := hK.sub (tys' := [((cp 0), .int), ((cp 1), .int)]) [8, 9] rfl
  have hFc := va_free (wc := [(g0, .inr (11, mF pq)), ((pq 0), .inl ((cp 0), 7, .inl (fun _ => 0))), ((pq 1), .inl ((cp 1), 100, .inl (fun _ => 0)))]) hD hS hA [0, 1, 2] rfl
  refine va_calli (va_runV (As := [.int (xs (1 : Int32).toNatClampNeg), .int (xs (2 : Int32).toNatClampNeg), .int (xs (3 : Int32).toNatClampNeg)]) (rest := [.int r_2]) ⟨hx, hb, hml, hown, hts⟩ (c_X11_miles l dC dI H.size g0 pq cp (xs (1 : Int32).toNatClampNeg) (xs (2 : Int32).toNatClampNeg) (xs (3 : Int32).toNatClampNeg)) (cwV 3 hts gL_law_X11_miles rfl rfl rfl (by decide +kernel) ⟨(Nat.le_of_ble_eq_true rfl), (Nat.le_of_ble_eq_true rfl)⟩) (pr_V (r := (RX11, TX11, 63)) hPc hKc hDc 0 11 rfl rfl) rfl rfl hl.1 rfl (lv_room (Nat.le_of_ble_eq_true rfl)) dL_law_246 ⟨(Nat.le_of_ble_eq_true rfl), (Nat.le_of_ble_eq_true rfl)⟩) hS (fun q _ h => hFc q h) hFc (fun r_4 u t H locs ht hvm w_3 hB hz1 hk1 hS => ?_)
  clear hk1 hz1 hvm hB ht hPc hDc hKc hFc
  refine lv_icmp_eq (tgt := 1499) hx hb dL_law_249 (by decide) (fun c_5 => ?_) (fun c_5 => absurd c_5 (fun h => h (w_1.trans w_3.symm)))
  exact lc_end (Nat.le_of_ble_eq_true rfl) (Nat.le_of_ble_eq_true rfl) C0 hAq hS hl
set_option maxHeartbeats 4000000 in
set_option maxRecDepth 100000 in
theorem lc_2 {p : Program} {l : Launch} {e : Env} {s : State} {m : MethodId} {below : List Frame} {meth : Method} {c : Code} {b : Nat} {xs : Nat → Int32} {A : Nat → Prop} {dC : Nat → ClassId} {dI : Nat → Nat → Nat} {tL tS h0 g0 : Nat} {q pq : Nat → Nat} {cq cp : Nat → ClassId} (C0 : lw_At p s m meth c b 6 xs) (hA : ∀ q : Nat, s.heap.size ≤ q → A q) (hAq : ∀ q, A q → s.heap.size ≤ q) (hZ : stZ A tL tS s s.heap) {H : Heap} {locs : List Loc} (hK : va_K (dC, dI) vwCl [((cq 15), .int), ((cq 1), .object RX6), ((cq 3), .object RX9), ((cq 90), .int), ((cq 100), .int), ((cq 110), .long), ((cq 112), .int), ((cq 13), .int), ((cp 0), .int), ((cp 1), .int), ((cp 2), .int), ((cp 3), .int), ((cp 4), .int), ((cp 6), .int), ((cp 7), .int), ((cp 8), .int), ((cp 9), .int), ((cp 44), .int), ((cp 55), .int), ((cp 61), .int)] s) (hP : va_P (dC, dI) vwCl [(h0, .inr (10, oF q)), ((q 15), .inl ((cq 15), 7, .inl (fun _ => 0))), ((q 1), .inl ((cq 1), 40, .inr (.inr (.inr (.inr (fun _ => none)))))), ((q 3), .inl ((cq 3), 20, .inr (.inr (.inr (.inr (fun _ => none)))))), ((q 8), .inr (5, [.ref (q 80), .ref (q 81), .int 0])), ((q 9), .inr (8, [.ref (q 90), .int 0, .ref (q 91), .int 0, .int 0, .int 0])), ((q 90), .inl ((cq 90), 60, .inl (fun _ => 0))), ((q 10), .inr (7, [.ref (q 100), .ref (q 101)])), ((q 100), .inl ((cq 100), 100, .inl (fun _ => 0))), ((q 11), .inr (4, [.ref (q 110), .ref (q 111), .int 0, .ref (q 112), .int 0, .int 0])), ((q 110), .inl ((cq 110), 81, .inr (.inl (fun _ => 0)))), ((q 112), .inl ((cq 112), 4, .inl (fun _ => 0))), ((q 13), .inl ((cq 13), 12, .inl (fun _ => 0))), (g0, .inr (11, mF pq)), ((pq 0), .inl ((cp 0), 7, .inl (fun _ => 0))), ((pq 1), .inl ((cp 1), 100, .inl (fun _ => 0))), ((pq 2), .inl ((cp 2), 40, .inl (fun _ => 0))), ((pq 3), .inl ((cp 3), 40, .inl (fun _ => 0))), ((pq 4), .inl ((cp 4), 40, .inl (fun _ => 0))), ((pq 6), .inl ((cp 6), 20, .inl (fun _ => 0))), ((pq 7), .inl ((cp 7), 20, .inl (fun _ => 0))), ((pq 8), .inl ((cp 8), 20, .inl (fun _ => 0))), ((pq 9), .inl ((cp 9), 20, .inl (fun _ => 0))), ((pq 44), .inl ((cp 44), 60, .inl (fun _ => 0))), ((pq 55), .inl ((cp 55), 8, .inl (fun _ => 0))), ((pq 61), .inl ((cp 61), 12, .inl (fun _ => 0)))] H) (hD : va_D A [(h0, .inr (10, oF q)), ((q 15), .inl ((cq 15), 7, .inl (fun _ => 0))), ((q 1), .inl ((cq 1), 40, .inr (.inr (.inr (.inr (fun _ => none)))))), ((q 3), .inl ((cq 3), 20, .inr (.inr (.inr (.inr (fun _ => none)))))), ((q 8), .inr (5, [.ref (q 80), .ref (q 81), .int 0])), ((q 9), .inr (8, [.ref (q 90), .int 0, .ref (q 91), .int 0, .int 0, .int 0])), ((q 90), .inl ((cq 90), 60, .inl (fun _ => 0))), ((q 10), .inr (7, [.ref (q 100), .ref (q 101)])), ((q 100), .inl ((cq 100), 100, .inl (fun _ => 0))), ((q 11), .inr (4, [.ref (q 110), .ref (q 111), .int 0, .ref (q 112), .int 0, .int 0])), ((q 110), .inl ((cq 110), 81, .inr (.inl (fun _ => 0)))), ((q 112), .inl ((cq 112), 4, .inl (fun _ => 0))), ((q 13), .inl ((cq 13), 12, .inl (fun _ => 0))), (g0, .inr (11, mF pq)), ((pq 0), .inl ((cp 0), 7, .inl (fun _ => 0))), ((pq 1), .inl ((cp 1), 100, .inl (fun _ => 0))), ((pq 2), .inl ((cp 2), 40, .inl (fun _ => 0))), ((pq 3), .inl ((cp 3), 40, .inl (fun _ => 0))), ((pq 4), .inl ((cp 4), 40, .inl (fun _ => 0))), ((pq 6), .inl ((cp 6), 20, .inl (fun _ => 0))), ((pq 7), .inl ((cp 7), 20, .inl (fun _ => 0))), ((pq 8), .inl ((cp 8), 20, .inl (fun _ => 0))), ((pq 9), .inl ((cp 9), 20, .inl (fun _ => 0))), ((pq 44), .inl ((cp 44), 60, .inl (fun _ => 0))), ((pq 55), .inl ((cp 55), 8, .inl (fun _ => 0))), ((pq 61), .inl ((cp 61), 12, .inl (fun _ => 0)))]) (hS : va_S A s.heap H locs) {ls : Array Slot} (hl : lv_has ls 4 [(3, .int 0), (2, .ref g0), (1, .ref h0), (0, .ref b)]) : W p l e room_1 s m #[Value.ref b] below meth c H locs 141 20685 (lw_Z below #[Value.ref b] s) (F0 m 254 ls []) := by
  obtain ⟨hx, hb, hr, hml, hown, hts, hX, hbl, hlocks, hgv⟩ := id C0
  have hts := fun w h => hts w (wsL_law_in w h)
  have hown : s.vm.findClass RL = some m.cls := hown
  have hbA : ¬ A b := fun h => Nat.not_le.mpr hbl (hAq b h)
  refine lv_aload_n hx hb dL_law_254 rfl (lv_at hl 2 rfl) ?_
  refine lv_aload_n hx hb dL_law_255 rfl (lv_at hl 3 rfl) ?_
  refine lv_iload_n hx hb dL_law_256 rfl (lv_at hl 0 rfl) ?_
  refine lv_iconst (v := 1) hx hb dL_law_257 (by decide) ?_
  refine lv_iadd hx hb dL_law_258 ?_
  refine lv_topi (fun y ey => ?_)
  obtain rfl : y = 1 := ey.trans (by decide)
  refine va_sld hx hb hX hbl hbA hS (by unfold vp_in; decide) dL_law_259 ?_
  refine lv_aload_n hx hb dL_law_260 rfl (lv_at hl 3 rfl) ?_
  refine lv_iload_n hx hb dL_law_261 rfl (lv_at hl 0 rfl) ?_
  refine lv_iconst (v := 2) hx hb dL_law_262 (by decide) ?_
  refine lv_iadd hx hb dL_law_263 ?_
  refine lv_topi (fun y ey => ?_)
  obtain rfl : y = 2 := ey.trans (by decide)
  refine va_sld hx hb hX hbl hbA hS (by unfold vp_in; decide) dL_law_264 ?_
  refine lv_aload_n hx hb dL_law_265 rfl (lv_at hl 3 rfl) ?_
  refine lv_iload_n hx hb dL_law_266 rfl (lv_at hl 0 rfl) ?_
  refine lv_iconst (v := 3) hx hb dL_law_267 (by decide) ?_
  refine lv_iadd hx hb dL_law_268 ?_
  refine lv_topi (fun y ey => ?_)
  obtain rfl : y = 3 := ey.trans (by decide)
  refine va_sld hx hb hX hbl hbA hS (by unfold vp_in; decide) dL_law_269 ?_
  have hPc := hP.sub (ws' := [(h0, .inr (10, oF q)), ((q 15), .inl ((cq 15), 7, .inl (fun _ => 0))), ((q 1), .inl ((cq 1), 40, .inr (.inr (.inr (.inr (fun _ => none))))))]) [0, 1, 2] rfl
  have hDc := hD.sub (ws' := [(h0, .inr (10, oF q)), ((q 15), .inl ((cq 15), 7, .inl (fun _ => 0))), ((q 1), .inl ((cq 1), 40, .inr (.inr (.inr (.inr (fun _ => none))))))]) [0, 1, 2] (by decide) rfl
  have hKc := hK.sub (tys' := [((cq 15), .int), ((cq 1), .object RX6)]) [0, 1] rfl
  have hFc := va_free (wc := [(h0, .inr (10, oF q)), ((q 15), .inl ((cq 15), 7, .inl (fun _ => 0))), ((q 1), .inl ((cq 1), 40, .inr (.inr (.inr (.inr (fun _ => none))))))]) hD hS hA [0, 1, 2] rfl
  refine va_calli (va_runV (As := [.int (xs (1 : Int32).toNatClampNeg), .int (xs (2 : Int32).toNatClampNeg), .int (xs (3 : Int32).toNatClampNeg)]) (rest := []) ⟨hx, hb, hml, hown, hts⟩ (c_X10_man l dC dI H.size h0 q cq (xs (1 : Int32).toNatClampNeg) (xs (2 : Int32).toNatClampNeg) (xs (3 : Int32).toNatClampNeg)) (cwV 3 hts gL_law_X10_man rfl rfl rfl (by decide +kernel) ⟨(Nat.le_of_ble_eq_true rfl), (Nat.le_of_ble_eq_true rfl)⟩) (pr_V (r := (RX10, TX10, 16)) hPc hKc hDc 0 10 rfl rfl) rfl rfl hl.1 rfl (lv_room (Nat.le_of_ble_eq_true rfl)) dL_law_270 ⟨(Nat.le_of_ble_eq_true rfl), (Nat.le_of_ble_eq_true rfl)⟩) hS (fun q _ h => hFc q h) hFc (fun r_2 u t H locs ht hvm w_1 hB hz1 hk1 hS => ?_)
  obtain ⟨hP, hD⟩ := va_join (wr := [(g0, .inr (11, mF pq)), ((pq 0), .inl ((cp 0), 7, .inl (fun _ => 0))), ((pq 1), .inl ((cp 1), 100, .inl (fun _ => 0))), ((pq 2), .inl ((cp 2), 40, .inl (fun _ => 0))), ((pq 3), .inl ((cp 3), 40, .inl (fun _ => 0))), ((pq 4), .inl ((cp 4), 40, .inl (fun _ => 0))), ((pq 6), .inl ((cp 6), 20, .inl (fun _ => 0))), ((pq 7), .inl ((cp 7), 20, .inl (fun _ => 0))), ((pq 8), .inl ((cp 8), 20, .inl (fun _ => 0))), ((pq 9), .inl ((cp 9), 20, .inl (fun _ => 0))), ((pq 44), .inl ((cp 44), 60, .inl (fun _ => 0))), ((pq 55), .inl ((cp 55), 8, .inl (fun _ => 0))), ((pq 61), .inl ((cp 61), 12, .inl (fun _ => 0)))]) (w1 := []) hP hD [0, 1, 2] [13, 14, 15, 16, 17, 18, 19, 20, 21, 22, 23, 24, 25] rfl rfl (by decide) (by decide) hk1 hFc vP0 vD0
  have hP : va_P (dC, dI) vwCl [(g0, .inr (11, mF pq)), ((pq 0), .inl ((cp 0), 7, .inl (fun _ => 0))), ((pq 1), .inl ((cp 1), 100, .inl (fun _ => 0))), ((pq 2), .inl ((cp 2), 40, .inl (fun _ => 0))), ((pq 3), .inl ((cp 3), 40, .inl (fun _ => 0))), ((pq 4), .inl ((cp 4), 40, .inl (fun _ => 0))), ((pq 6), .inl ((cp 6), 20, .inl (fun _ => 0))), ((pq 7), .inl ((cp 7), 20, .inl (fun _ => 0))), ((pq 8), .inl ((cp 8), 20, .inl (fun _ => 0))), ((pq 9), .inl ((cp 9), 20, .inl (fun _ => 0))), ((pq 44), .inl ((cp 44), 60, .inl (fun _ => 0))), ((pq 55), .inl ((cp 55), 8, .inl (fun _ => 0))), ((pq 61), .inl ((cp 61), 12, .inl (fun _ => 0)))] H := hP
  have hD : va_D A [(g0, .inr (11, mF pq)), ((pq 0), .inl ((cp 0), 7, .inl (fun _ => 0))), ((pq 1), .inl ((cp 1), 100, .inl (fun _ => 0))), ((pq 2), .inl ((cp 2), 40, .inl (fun _ => 0))), ((pq 3), .inl ((cp 3), 40, .inl (fun _ => 0))), ((pq 4), .inl ((cp 4), 40, .inl (fun _ => 0))), ((pq 6), .inl ((cp 6), 20, .inl (fun _ => 0))), ((pq 7), .inl ((cp 7), 20, .inl (fun _ => 0))), ((pq 8), .inl ((cp 8), 20, .inl (fun _ => 0))), ((pq 9), .inl ((cp 9), 20, .inl (fun _ => 0))), ((pq 44), .inl ((cp 44), 60, .inl (fun _ => 0))), ((pq 55), .inl ((cp 55), 8, .inl (fun _ => 0))), ((pq 61), .inl ((cp 61), 12, .inl (fun _ => 0)))] := hD
  clear hk1 hz1 hvm hB ht hPc hDc hKc hFc
  refine lv_aload_n hx hb dL_law_273 rfl (lv_at hl 1 rfl) ?_
  refine lv_aload_n hx hb dL_law_274 rfl (lv_at hl 3 rfl) ?_
  refine lv_iload_n hx hb dL_law_275 rfl (lv_at hl 0 rfl) ?_
  refine lv_iconst (v := 1) hx hb dL_law_276 (by decide) ?_
  refine lv_iadd hx hb dL_law_277 ?_
  refine lv_topi (fun y ey => ?_)
  obtain rfl : y = 1 := ey.trans (by decide)
  refine va_sld hx hb hX hbl hbA hS (by unfold vp_in; decide) dL_law_278 ?_
  refine lv_aload_n hx hb dL_law_279 rfl (lv_at hl 3 rfl) ?_
  refine lv_iload_n hx hb dL_law_280 rfl (lv_at hl 0 rfl) ?_
  refine lv_iconst (v := 2) hx hb dL_law_281 (by decide) ?_
  refine lv_iadd hx hb dL_law_282 ?_
  refine lv_topi (fun y ey => ?_)
  obtain rfl : y = 2 := ey.trans (by decide)
  refine va_sld hx hb hX hbl hbA hS (by unfold vp_in; decide) dL_law_283 ?_
  refine lv_aload_n hx hb dL_law_284 rfl (lv_at hl 3 rfl) ?_
  refine lv_iload_n hx hb dL_law_285 rfl (lv_at hl 0 rfl) ?_
  refine lv_iconst (v := 3) hx hb dL_law_286 (by decide) ?_
  refine lv_iadd hx hb dL_law_287 ?_
  refine lv_topi (fun y ey => ?_)
  obtain rfl : y = 3 := ey.trans (by decide)
  refine va_sld hx hb hX hbl hbA hS (by unfold vp_in; decide) dL_law_288 ?_
  have hPc := hP.sub (ws' := [(g0, .inr (11, mF pq)), ((pq 0), .inl ((cp 0), 7, .inl (fun _ => 0))), ((pq 2), .inl ((cp 2), 40, .inl (fun _ => 0))), ((pq 3), .inl ((cp 3), 40, .inl (fun _ => 0))), ((pq 4), .inl ((cp 4), 40, .inl (fun _ => 0)))]) [0, 1, 3, 4, 5] rfl
  have hDc := hD.sub (ws' := [(g0, .inr (11, mF pq)), ((pq 0), .inl ((cp 0), 7, .inl (fun _ => 0))), ((pq 2), .inl ((cp 2), 40, .inl (fun _ => 0))), ((pq 3), .inl ((cp 3), 40, .inl (fun _ => 0))), ((pq 4), .inl ((cp 4), 40, .inl (fun _ => 0)))]) [0, 1, 3, 4, 5] (by decide) rfl
  have hKc := hK.sub (tys' := [((cp 0), .int), ((cp 2), .int), ((cp 3), .int), ((cp 4), .int)]) [8, 10, 11, 12] rfl
  have hFc := va_free (wc := [(g0, .inr (11, mF pq)), ((pq 0), .inl ((cp 0), 7, .inl (fun _ => 0))), ((pq 2), .inl ((cp 2), 40, .inl (fun _ => 0))), ((pq 3), .inl ((cp 3), 40, .inl (fun _ => 0))), ((pq 4), .inl ((cp 4), 40, .inl (fun _ => 0)))]) hD hS hA [0, 1, 3, 4, 5] rfl
  refine va_calli (va_runV (As := [.int (xs (1 : Int32).toNatClampNeg), .int (xs (2 : Int32).toNatClampNeg), .int (xs (3 : Int32).toNatClampNeg)]) (rest := [.int r_2]) ⟨hx, hb, hml, hown, hts⟩ (c_X11_man l dC dI H.size g0 pq cp (xs (1 : Int32).toNatClampNeg) (xs (2 : Int32).toNatClampNeg) (xs (3 : Int32).toNatClampNeg)) (cwV 3 hts gL_law_X11_man rfl rfl rfl (by decide +kernel) ⟨(Nat.le_of_ble_eq_true rfl), (Nat.le_of_ble_eq_true rfl)⟩) (pr_V (r := (RX11, TX11, 63)) hPc hKc hDc 0 11 rfl rfl) rfl rfl hl.1 rfl (lv_room (Nat.le_of_ble_eq_true rfl)) dL_law_289 ⟨(Nat.le_of_ble_eq_true rfl), (Nat.le_of_ble_eq_true rfl)⟩) hS (fun q _ h => hFc q h) hFc (fun r_4 u t H locs ht hvm w_3 hB hz1 hk1 hS => ?_)
  clear hk1 hz1 hvm hB ht hPc hDc hKc hFc
  refine lv_icmp_eq (tgt := 1499) hx hb dL_law_292 (by decide) (fun c_5 => ?_) (fun c_5 => absurd c_5 (fun h => h (w_1.trans w_3.symm)))
  exact lc_end (Nat.le_of_ble_eq_true rfl) (Nat.le_of_ble_eq_true rfl) C0 hAq hS hl
set_option maxHeartbeats 4000000 in
set_option maxRecDepth 100000 in
theorem lc_3 {p : Program} {l : Launch} {e : Env} {s : State} {m : MethodId} {below : List Frame} {meth : Method} {c : Code} {b : Nat} {xs : Nat → Int32} {A : Nat → Prop} {dC : Nat → ClassId} {dI : Nat → Nat → Nat} {tL tS h0 g0 : Nat} {q pq : Nat → Nat} {cq cp : Nat → ClassId} (C0 : lw_At p s m meth c b 6 xs) (hA : ∀ q : Nat, s.heap.size ≤ q → A q) (hAq : ∀ q, A q → s.heap.size ≤ q) (hZ : stZ A tL tS s s.heap) {H : Heap} {locs : List Loc} (hK : va_K (dC, dI) vwCl [((cq 15), .int), ((cq 1), .object RX6), ((cq 3), .object RX9), ((cq 90), .int), ((cq 100), .int), ((cq 110), .long), ((cq 112), .int), ((cq 13), .int), ((cp 0), .int), ((cp 1), .int), ((cp 2), .int), ((cp 3), .int), ((cp 4), .int), ((cp 6), .int), ((cp 7), .int), ((cp 8), .int), ((cp 9), .int), ((cp 44), .int), ((cp 55), .int), ((cp 61), .int)] s) (hP : va_P (dC, dI) vwCl [(h0, .inr (10, oF q)), ((q 15), .inl ((cq 15), 7, .inl (fun _ => 0))), ((q 1), .inl ((cq 1), 40, .inr (.inr (.inr (.inr (fun _ => none)))))), ((q 3), .inl ((cq 3), 20, .inr (.inr (.inr (.inr (fun _ => none)))))), ((q 8), .inr (5, [.ref (q 80), .ref (q 81), .int 0])), ((q 9), .inr (8, [.ref (q 90), .int 0, .ref (q 91), .int 0, .int 0, .int 0])), ((q 90), .inl ((cq 90), 60, .inl (fun _ => 0))), ((q 10), .inr (7, [.ref (q 100), .ref (q 101)])), ((q 100), .inl ((cq 100), 100, .inl (fun _ => 0))), ((q 11), .inr (4, [.ref (q 110), .ref (q 111), .int 0, .ref (q 112), .int 0, .int 0])), ((q 110), .inl ((cq 110), 81, .inr (.inl (fun _ => 0)))), ((q 112), .inl ((cq 112), 4, .inl (fun _ => 0))), ((q 13), .inl ((cq 13), 12, .inl (fun _ => 0))), (g0, .inr (11, mF pq)), ((pq 0), .inl ((cp 0), 7, .inl (fun _ => 0))), ((pq 1), .inl ((cp 1), 100, .inl (fun _ => 0))), ((pq 2), .inl ((cp 2), 40, .inl (fun _ => 0))), ((pq 3), .inl ((cp 3), 40, .inl (fun _ => 0))), ((pq 4), .inl ((cp 4), 40, .inl (fun _ => 0))), ((pq 6), .inl ((cp 6), 20, .inl (fun _ => 0))), ((pq 7), .inl ((cp 7), 20, .inl (fun _ => 0))), ((pq 8), .inl ((cp 8), 20, .inl (fun _ => 0))), ((pq 9), .inl ((cp 9), 20, .inl (fun _ => 0))), ((pq 44), .inl ((cp 44), 60, .inl (fun _ => 0))), ((pq 55), .inl ((cp 55), 8, .inl (fun _ => 0))), ((pq 61), .inl ((cp 61), 12, .inl (fun _ => 0)))] H) (hD : va_D A [(h0, .inr (10, oF q)), ((q 15), .inl ((cq 15), 7, .inl (fun _ => 0))), ((q 1), .inl ((cq 1), 40, .inr (.inr (.inr (.inr (fun _ => none)))))), ((q 3), .inl ((cq 3), 20, .inr (.inr (.inr (.inr (fun _ => none)))))), ((q 8), .inr (5, [.ref (q 80), .ref (q 81), .int 0])), ((q 9), .inr (8, [.ref (q 90), .int 0, .ref (q 91), .int 0, .int 0, .int 0])), ((q 90), .inl ((cq 90), 60, .inl (fun _ => 0))), ((q 10), .inr (7, [.ref (q 100), .ref (q 101)])), ((q 100), .inl ((cq 100), 100, .inl (fun _ => 0))), ((q 11), .inr (4, [.ref (q 110), .ref (q 111), .int 0, .ref (q 112), .int 0, .int 0])), ((q 110), .inl ((cq 110), 81, .inr (.inl (fun _ => 0)))), ((q 112), .inl ((cq 112), 4, .inl (fun _ => 0))), ((q 13), .inl ((cq 13), 12, .inl (fun _ => 0))), (g0, .inr (11, mF pq)), ((pq 0), .inl ((cp 0), 7, .inl (fun _ => 0))), ((pq 1), .inl ((cp 1), 100, .inl (fun _ => 0))), ((pq 2), .inl ((cp 2), 40, .inl (fun _ => 0))), ((pq 3), .inl ((cp 3), 40, .inl (fun _ => 0))), ((pq 4), .inl ((cp 4), 40, .inl (fun _ => 0))), ((pq 6), .inl ((cp 6), 20, .inl (fun _ => 0))), ((pq 7), .inl ((cp 7), 20, .inl (fun _ => 0))), ((pq 8), .inl ((cp 8), 20, .inl (fun _ => 0))), ((pq 9), .inl ((cp 9), 20, .inl (fun _ => 0))), ((pq 44), .inl ((cp 44), 60, .inl (fun _ => 0))), ((pq 55), .inl ((cp 55), 8, .inl (fun _ => 0))), ((pq 61), .inl ((cp 61), 12, .inl (fun _ => 0)))]) (hS : va_S A s.heap H locs) {ls : Array Slot} (hl : lv_has ls 4 [(3, .int 0), (2, .ref g0), (1, .ref h0), (0, .ref b)]) : W p l e room_1 s m #[Value.ref b] below meth c H locs 141 20685 (lw_Z below #[Value.ref b] s) (F0 m 297 ls []) := by
  obtain ⟨hx, hb, hr, hml, hown, hts, hX, hbl, hlocks, hgv⟩ := id C0
  have hts := fun w h => hts w (wsL_law_in w h)
  have hown : s.vm.findClass RL = some m.cls := hown
  have hbA : ¬ A b := fun h => Nat.not_le.mpr hbl (hAq b h)
  refine lv_aload_n hx hb dL_law_297 rfl (lv_at hl 2 rfl) ?_
  refine lv_aload_n hx hb dL_law_298 rfl (lv_at hl 3 rfl) ?_
  refine lv_iload_n hx hb dL_law_299 rfl (lv_at hl 0 rfl) ?_
  refine lv_iconst (v := 1) hx hb dL_law_300 (by decide) ?_
  refine lv_iadd hx hb dL_law_301 ?_
  refine lv_topi (fun y ey => ?_)
  obtain rfl : y = 1 := ey.trans (by decide)
  refine va_sld hx hb hX hbl hbA hS (by unfold vp_in; decide) dL_law_302 ?_
  refine lv_aload_n hx hb dL_law_303 rfl (lv_at hl 3 rfl) ?_
  refine lv_iload_n hx hb dL_law_304 rfl (lv_at hl 0 rfl) ?_
  refine lv_iconst (v := 2) hx hb dL_law_305 (by decide) ?_
  refine lv_iadd hx hb dL_law_306 ?_
  refine lv_topi (fun y ey => ?_)
  obtain rfl : y = 2 := ey.trans (by decide)
  refine va_sld hx hb hX hbl hbA hS (by unfold vp_in; decide) dL_law_307 ?_
  have hPc := hP.sub (ws' := [(h0, .inr (10, oF q)), ((q 15), .inl ((cq 15), 7, .inl (fun _ => 0))), ((q 3), .inl ((cq 3), 20, .inr (.inr (.inr (.inr (fun _ => none))))))]) [0, 1, 3] rfl
  have hDc := hD.sub (ws' := [(h0, .inr (10, oF q)), ((q 15), .inl ((cq 15), 7, .inl (fun _ => 0))), ((q 3), .inl ((cq 3), 20, .inr (.inr (.inr (.inr (fun _ => none))))))]) [0, 1, 3] (by decide) rfl
  have hKc := hK.sub (tys' := [((cq 15), .int), ((cq 3), .object RX9)]) [0, 2] rfl
  have hFc := va_free (wc := [(h0, .inr (10, oF q)), ((q 15), .inl ((cq 15), 7, .inl (fun _ => 0))), ((q 3), .inl ((cq 3), 20, .inr (.inr (.inr (.inr (fun _ => none))))))]) hD hS hA [0, 1, 3] rfl
  refine va_calli (va_runV (As := [.int (xs (1 : Int32).toNatClampNeg), .int (xs (2 : Int32).toNatClampNeg)]) (rest := []) ⟨hx, hb, hml, hown, hts⟩ (c_X10_voyage l dC dI H.size h0 q cq (xs (1 : Int32).toNatClampNeg) (xs (2 : Int32).toNatClampNeg)) (cwV 2 hts gL_law_X10_voyage rfl rfl rfl (by decide +kernel) ⟨(Nat.le_of_ble_eq_true rfl), (Nat.le_of_ble_eq_true rfl)⟩) (pr_V (r := (RX10, TX10, 16)) hPc hKc hDc 0 10 rfl rfl) rfl rfl hl.1 rfl (lv_room (Nat.le_of_ble_eq_true rfl)) dL_law_308 ⟨(Nat.le_of_ble_eq_true rfl), (Nat.le_of_ble_eq_true rfl)⟩) hS (fun q _ h => hFc q h) hFc (fun r_2 u t H locs ht hvm w_1 hB hz1 hk1 hS => ?_)
  obtain ⟨hP, hD⟩ := va_join (wr := [(g0, .inr (11, mF pq)), ((pq 0), .inl ((cp 0), 7, .inl (fun _ => 0))), ((pq 1), .inl ((cp 1), 100, .inl (fun _ => 0))), ((pq 2), .inl ((cp 2), 40, .inl (fun _ => 0))), ((pq 3), .inl ((cp 3), 40, .inl (fun _ => 0))), ((pq 4), .inl ((cp 4), 40, .inl (fun _ => 0))), ((pq 6), .inl ((cp 6), 20, .inl (fun _ => 0))), ((pq 7), .inl ((cp 7), 20, .inl (fun _ => 0))), ((pq 8), .inl ((cp 8), 20, .inl (fun _ => 0))), ((pq 9), .inl ((cp 9), 20, .inl (fun _ => 0))), ((pq 44), .inl ((cp 44), 60, .inl (fun _ => 0))), ((pq 55), .inl ((cp 55), 8, .inl (fun _ => 0))), ((pq 61), .inl ((cp 61), 12, .inl (fun _ => 0)))]) (w1 := []) hP hD [0, 1, 3] [13, 14, 15, 16, 17, 18, 19, 20, 21, 22, 23, 24, 25] rfl rfl (by decide) (by decide) hk1 hFc vP0 vD0
  have hP : va_P (dC, dI) vwCl [(g0, .inr (11, mF pq)), ((pq 0), .inl ((cp 0), 7, .inl (fun _ => 0))), ((pq 1), .inl ((cp 1), 100, .inl (fun _ => 0))), ((pq 2), .inl ((cp 2), 40, .inl (fun _ => 0))), ((pq 3), .inl ((cp 3), 40, .inl (fun _ => 0))), ((pq 4), .inl ((cp 4), 40, .inl (fun _ => 0))), ((pq 6), .inl ((cp 6), 20, .inl (fun _ => 0))), ((pq 7), .inl ((cp 7), 20, .inl (fun _ => 0))), ((pq 8), .inl ((cp 8), 20, .inl (fun _ => 0))), ((pq 9), .inl ((cp 9), 20, .inl (fun _ => 0))), ((pq 44), .inl ((cp 44), 60, .inl (fun _ => 0))), ((pq 55), .inl ((cp 55), 8, .inl (fun _ => 0))), ((pq 61), .inl ((cp 61), 12, .inl (fun _ => 0)))] H := hP
  have hD : va_D A [(g0, .inr (11, mF pq)), ((pq 0), .inl ((cp 0), 7, .inl (fun _ => 0))), ((pq 1), .inl ((cp 1), 100, .inl (fun _ => 0))), ((pq 2), .inl ((cp 2), 40, .inl (fun _ => 0))), ((pq 3), .inl ((cp 3), 40, .inl (fun _ => 0))), ((pq 4), .inl ((cp 4), 40, .inl (fun _ => 0))), ((pq 6), .inl ((cp 6), 20, .inl (fun _ => 0))), ((pq 7), .inl ((cp 7), 20, .inl (fun _ => 0))), ((pq 8), .inl ((cp 8), 20, .inl (fun _ => 0))), ((pq 9), .inl ((cp 9), 20, .inl (fun _ => 0))), ((pq 44), .inl ((cp 44), 60, .inl (fun _ => 0))), ((pq 55), .inl ((cp 55), 8, .inl (fun _ => 0))), ((pq 61), .inl ((cp 61), 12, .inl (fun _ => 0)))] := hD
  clear hk1 hz1 hvm hB ht hPc hDc hKc hFc
  refine lv_aload_n hx hb dL_law_311 rfl (lv_at hl 1 rfl) ?_
  refine lv_aload_n hx hb dL_law_312 rfl (lv_at hl 3 rfl) ?_
  refine lv_iload_n hx hb dL_law_313 rfl (lv_at hl 0 rfl) ?_
  refine lv_iconst (v := 1) hx hb dL_law_314 (by decide) ?_
  refine lv_iadd hx hb dL_law_315 ?_
  refine lv_topi (fun y ey => ?_)
  obtain rfl : y = 1 := ey.trans (by decide)
  refine va_sld hx hb hX hbl hbA hS (by unfold vp_in; decide) dL_law_316 ?_
  refine lv_aload_n hx hb dL_law_317 rfl (lv_at hl 3 rfl) ?_
  refine lv_iload_n hx hb dL_law_318 rfl (lv_at hl 0 rfl) ?_
  refine lv_iconst (v := 2) hx hb dL_law_319 (by decide) ?_
  refine lv_iadd hx hb dL_law_320 ?_
  refine lv_topi (fun y ey => ?_)
  obtain rfl : y = 2 := ey.trans (by decide)
  refine va_sld hx hb hX hbl hbA hS (by unfold vp_in; decide) dL_law_321 ?_
  have hPc := hP.sub (ws' := [(g0, .inr (11, mF pq)), ((pq 0), .inl ((cp 0), 7, .inl (fun _ => 0))), ((pq 6), .inl ((cp 6), 20, .inl (fun _ => 0))), ((pq 7), .inl ((cp 7), 20, .inl (fun _ => 0))), ((pq 8), .inl ((cp 8), 20, .inl (fun _ => 0))), ((pq 9), .inl ((cp 9), 20, .inl (fun _ => 0)))]) [0, 1, 6, 7, 8, 9] rfl
  have hDc := hD.sub (ws' := [(g0, .inr (11, mF pq)), ((pq 0), .inl ((cp 0), 7, .inl (fun _ => 0))), ((pq 6), .inl ((cp 6), 20, .inl (fun _ => 0))), ((pq 7), .inl ((cp 7), 20, .inl (fun _ => 0))), ((pq 8), .inl ((cp 8), 20, .inl (fun _ => 0))), ((pq 9), .inl ((cp 9), 20, .inl (fun _ => 0)))]) [0, 1, 6, 7, 8, 9] (by decide) rfl
  have hKc := hK.sub (tys' := [((cp 0), .int), ((cp 6), .int), ((cp 7), .int), ((cp 8), .int), ((cp 9), .int)]) [8, 13, 14, 15, 16] rfl
  have hFc := va_free (wc := [(g0, .inr (11, mF pq)), ((pq 0), .inl ((cp 0), 7, .inl (fun _ => 0))), ((pq 6), .inl ((cp 6), 20, .inl (fun _ => 0))), ((pq 7), .inl ((cp 7), 20, .inl (fun _ => 0))), ((pq 8), .inl ((cp 8), 20, .inl (fun _ => 0))), ((pq 9), .inl ((cp 9), 20, .inl (fun _ => 0)))]) hD hS hA [0, 1, 6, 7, 8, 9] rfl
  refine va_calli (va_runV (As := [.int (xs (1 : Int32).toNatClampNeg), .int (xs (2 : Int32).toNatClampNeg)]) (rest := [.int r_2]) ⟨hx, hb, hml, hown, hts⟩ (c_X11_voyage l dC dI H.size g0 pq cp (xs (1 : Int32).toNatClampNeg) (xs (2 : Int32).toNatClampNeg)) (cwV 2 hts gL_law_X11_voyage rfl rfl rfl (by decide +kernel) ⟨(Nat.le_of_ble_eq_true rfl), (Nat.le_of_ble_eq_true rfl)⟩) (pr_V (r := (RX11, TX11, 63)) hPc hKc hDc 0 11 rfl rfl) rfl rfl hl.1 rfl (lv_room (Nat.le_of_ble_eq_true rfl)) dL_law_322 ⟨(Nat.le_of_ble_eq_true rfl), (Nat.le_of_ble_eq_true rfl)⟩) hS (fun q _ h => hFc q h) hFc (fun r_4 u t H locs ht hvm w_3 hB hz1 hk1 hS => ?_)
  clear hk1 hz1 hvm hB ht hPc hDc hKc hFc
  refine lv_icmp_eq (tgt := 1499) hx hb dL_law_325 (by decide) (fun c_5 => ?_) (fun c_5 => absurd c_5 (fun h => h (w_1.trans w_3.symm)))
  exact lc_end (Nat.le_of_ble_eq_true rfl) (Nat.le_of_ble_eq_true rfl) C0 hAq hS hl
set_option maxHeartbeats 4000000 in
set_option maxRecDepth 100000 in
theorem lc_4 {p : Program} {l : Launch} {e : Env} {s : State} {m : MethodId} {below : List Frame} {meth : Method} {c : Code} {b : Nat} {xs : Nat → Int32} {A : Nat → Prop} {dC : Nat → ClassId} {dI : Nat → Nat → Nat} {tL tS h0 g0 : Nat} {q pq : Nat → Nat} {cq cp : Nat → ClassId} (C0 : lw_At p s m meth c b 6 xs) (hA : ∀ q : Nat, s.heap.size ≤ q → A q) (hAq : ∀ q, A q → s.heap.size ≤ q) (hZ : stZ A tL tS s s.heap) {H : Heap} {locs : List Loc} (hK : va_K (dC, dI) vwCl [((cq 15), .int), ((cq 1), .object RX6), ((cq 3), .object RX9), ((cq 90), .int), ((cq 100), .int), ((cq 110), .long), ((cq 112), .int), ((cq 13), .int), ((cp 0), .int), ((cp 1), .int), ((cp 2), .int), ((cp 3), .int), ((cp 4), .int), ((cp 6), .int), ((cp 7), .int), ((cp 8), .int), ((cp 9), .int), ((cp 44), .int), ((cp 55), .int), ((cp 61), .int)] s) (hP : va_P (dC, dI) vwCl [(h0, .inr (10, oF q)), ((q 15), .inl ((cq 15), 7, .inl (fun _ => 0))), ((q 1), .inl ((cq 1), 40, .inr (.inr (.inr (.inr (fun _ => none)))))), ((q 3), .inl ((cq 3), 20, .inr (.inr (.inr (.inr (fun _ => none)))))), ((q 8), .inr (5, [.ref (q 80), .ref (q 81), .int 0])), ((q 9), .inr (8, [.ref (q 90), .int 0, .ref (q 91), .int 0, .int 0, .int 0])), ((q 90), .inl ((cq 90), 60, .inl (fun _ => 0))), ((q 10), .inr (7, [.ref (q 100), .ref (q 101)])), ((q 100), .inl ((cq 100), 100, .inl (fun _ => 0))), ((q 11), .inr (4, [.ref (q 110), .ref (q 111), .int 0, .ref (q 112), .int 0, .int 0])), ((q 110), .inl ((cq 110), 81, .inr (.inl (fun _ => 0)))), ((q 112), .inl ((cq 112), 4, .inl (fun _ => 0))), ((q 13), .inl ((cq 13), 12, .inl (fun _ => 0))), (g0, .inr (11, mF pq)), ((pq 0), .inl ((cp 0), 7, .inl (fun _ => 0))), ((pq 1), .inl ((cp 1), 100, .inl (fun _ => 0))), ((pq 2), .inl ((cp 2), 40, .inl (fun _ => 0))), ((pq 3), .inl ((cp 3), 40, .inl (fun _ => 0))), ((pq 4), .inl ((cp 4), 40, .inl (fun _ => 0))), ((pq 6), .inl ((cp 6), 20, .inl (fun _ => 0))), ((pq 7), .inl ((cp 7), 20, .inl (fun _ => 0))), ((pq 8), .inl ((cp 8), 20, .inl (fun _ => 0))), ((pq 9), .inl ((cp 9), 20, .inl (fun _ => 0))), ((pq 44), .inl ((cp 44), 60, .inl (fun _ => 0))), ((pq 55), .inl ((cp 55), 8, .inl (fun _ => 0))), ((pq 61), .inl ((cp 61), 12, .inl (fun _ => 0)))] H) (hD : va_D A [(h0, .inr (10, oF q)), ((q 15), .inl ((cq 15), 7, .inl (fun _ => 0))), ((q 1), .inl ((cq 1), 40, .inr (.inr (.inr (.inr (fun _ => none)))))), ((q 3), .inl ((cq 3), 20, .inr (.inr (.inr (.inr (fun _ => none)))))), ((q 8), .inr (5, [.ref (q 80), .ref (q 81), .int 0])), ((q 9), .inr (8, [.ref (q 90), .int 0, .ref (q 91), .int 0, .int 0, .int 0])), ((q 90), .inl ((cq 90), 60, .inl (fun _ => 0))), ((q 10), .inr (7, [.ref (q 100), .ref (q 101)])), ((q 100), .inl ((cq 100), 100, .inl (fun _ => 0))), ((q 11), .inr (4, [.ref (q 110), .ref (q 111), .int 0, .ref (q 112), .int 0, .int 0])), ((q 110), .inl ((cq 110), 81, .inr (.inl (fun _ => 0)))), ((q 112), .inl ((cq 112), 4, .inl (fun _ => 0))), ((q 13), .inl ((cq 13), 12, .inl (fun _ => 0))), (g0, .inr (11, mF pq)), ((pq 0), .inl ((cp 0), 7, .inl (fun _ => 0))), ((pq 1), .inl ((cp 1), 100, .inl (fun _ => 0))), ((pq 2), .inl ((cp 2), 40, .inl (fun _ => 0))), ((pq 3), .inl ((cp 3), 40, .inl (fun _ => 0))), ((pq 4), .inl ((cp 4), 40, .inl (fun _ => 0))), ((pq 6), .inl ((cp 6), 20, .inl (fun _ => 0))), ((pq 7), .inl ((cp 7), 20, .inl (fun _ => 0))), ((pq 8), .inl ((cp 8), 20, .inl (fun _ => 0))), ((pq 9), .inl ((cp 9), 20, .inl (fun _ => 0))), ((pq 44), .inl ((cp 44), 60, .inl (fun _ => 0))), ((pq 55), .inl ((cp 55), 8, .inl (fun _ => 0))), ((pq 61), .inl ((cp 61), 12, .inl (fun _ => 0)))]) (hS : va_S A s.heap H locs) {ls : Array Slot} (hl : lv_has ls 4 [(3, .int 0), (2, .ref g0), (1, .ref h0), (0, .ref b)]) : W p l e room_1 s m #[Value.ref b] below meth c H locs 141 20685 (lw_Z below #[Value.ref b] s) (F0 m 330 ls []) := by
  obtain ⟨hx, hb, hr, hml, hown, hts, hX, hbl, hlocks, hgv⟩ := id C0
  have hts := fun w h => hts w (wsL_law_in w h)
  have hown : s.vm.findClass RL = some m.cls := hown
  have hbA : ¬ A b := fun h => Nat.not_le.mpr hbl (hAq b h)
  refine lv_aload_n hx hb dL_law_330 rfl (lv_at hl 2 rfl) ?_
  refine lv_aload_n hx hb dL_law_331 rfl (lv_at hl 3 rfl) ?_
  refine lv_iload_n hx hb dL_law_332 rfl (lv_at hl 0 rfl) ?_
  refine lv_iconst (v := 1) hx hb dL_law_333 (by decide) ?_
  refine lv_iadd hx hb dL_law_334 ?_
  refine lv_topi (fun y ey => ?_)
  obtain rfl : y = 1 := ey.trans (by decide)
  refine va_sld hx hb hX hbl hbA hS (by unfold vp_in; decide) dL_law_335 ?_
  refine lv_aload_n hx hb dL_law_336 rfl (lv_at hl 3 rfl) ?_
  refine lv_iload_n hx hb dL_law_337 rfl (lv_at hl 0 rfl) ?_
  refine lv_iconst (v := 2) hx hb dL_law_338 (by decide) ?_
  refine lv_iadd hx hb dL_law_339 ?_
  refine lv_topi (fun y ey => ?_)
  obtain rfl : y = 2 := ey.trans (by decide)
  refine va_sld hx hb hX hbl hbA hS (by unfold vp_in; decide) dL_law_340 ?_
  have hPc := hP.sub (ws' := [(h0, .inr (10, oF q)), ((q 15), .inl ((cq 15), 7, .inl (fun _ => 0)))]) [0, 1] rfl
  have hDc := hD.sub (ws' := [(h0, .inr (10, oF q)), ((q 15), .inl ((cq 15), 7, .inl (fun _ => 0)))]) [0, 1] (by decide) rfl
  have hKc := hK.sub (tys' := [((cq 15), .int)]) [0] rfl
  have hFc := va_free (wc := [(h0, .inr (10, oF q)), ((q 15), .inl ((cq 15), 7, .inl (fun _ => 0)))]) hD hS hA [0, 1] rfl
  refine va_calli (va_runV (As := [.int (xs (1 : Int32).toNatClampNeg), .int (xs (2 : Int32).toNatClampNeg)]) (rest := []) ⟨hx, hb, hml, hown, hts⟩ (c_X10_ended l dC dI H.size h0 q cq (xs (1 : Int32).toNatClampNeg) (xs (2 : Int32).toNatClampNeg)) (cwV 2 hts gL_law_X10_ended rfl rfl rfl (by decide +kernel) ⟨(Nat.le_of_ble_eq_true rfl), (Nat.le_of_ble_eq_true rfl)⟩) (pr_V (r := (RX10, TX10, 16)) hPc hKc hDc 0 10 rfl rfl) rfl rfl hl.1 rfl (lv_room (Nat.le_of_ble_eq_true rfl)) dL_law_341 ⟨(Nat.le_of_ble_eq_true rfl), (Nat.le_of_ble_eq_true rfl)⟩) hS (fun q _ h => hFc q h) hFc (fun r_2 u t H locs ht hvm w_1 hB hz1 hk1 hS => ?_)
  obtain ⟨hP, hD⟩ := va_join (wr := [(g0, .inr (11, mF pq)), ((pq 0), .inl ((cp 0), 7, .inl (fun _ => 0))), ((pq 1), .inl ((cp 1), 100, .inl (fun _ => 0))), ((pq 2), .inl ((cp 2), 40, .inl (fun _ => 0))), ((pq 3), .inl ((cp 3), 40, .inl (fun _ => 0))), ((pq 4), .inl ((cp 4), 40, .inl (fun _ => 0))), ((pq 6), .inl ((cp 6), 20, .inl (fun _ => 0))), ((pq 7), .inl ((cp 7), 20, .inl (fun _ => 0))), ((pq 8), .inl ((cp 8), 20, .inl (fun _ => 0))), ((pq 9), .inl ((cp 9), 20, .inl (fun _ => 0))), ((pq 44), .inl ((cp 44), 60, .inl (fun _ => 0))), ((pq 55), .inl ((cp 55), 8, .inl (fun _ => 0))), ((pq 61), .inl ((cp 61), 12, .inl (fun _ => 0)))]) (w1 := []) hP hD [0, 1] [13, 14, 15, 16, 17, 18, 19, 20, 21, 22, 23, 24, 25] rfl rfl (by decide) (by decide) hk1 hFc vP0 vD0
  have hP : va_P (dC, dI) vwCl [(g0, .inr (11, mF pq)), ((pq 0), .inl ((cp 0), 7, .inl (fun _ => 0))), ((pq 1), .inl ((cp 1), 100, .inl (fun _ => 0))), ((pq 2), .inl ((cp 2), 40, .inl (fun _ => 0))), ((pq 3), .inl ((cp 3), 40, .inl (fun _ => 0))), ((pq 4), .inl ((cp 4), 40, .inl (fun _ => 0))), ((pq 6), .inl ((cp 6), 20, .inl (fun _ => 0))), ((pq 7), .inl ((cp 7), 20, .inl (fun _ => 0))), ((pq 8), .inl ((cp 8), 20, .inl (fun _ => 0))), ((pq 9), .inl ((cp 9), 20, .inl (fun _ => 0))), ((pq 44), .inl ((cp 44), 60, .inl (fun _ => 0))), ((pq 55), .inl ((cp 55), 8, .inl (fun _ => 0))), ((pq 61), .inl ((cp 61), 12, .inl (fun _ => 0)))] H := hP
  have hD : va_D A [(g0, .inr (11, mF pq)), ((pq 0), .inl ((cp 0), 7, .inl (fun _ => 0))), ((pq 1), .inl ((cp 1), 100, .inl (fun _ => 0))), ((pq 2), .inl ((cp 2), 40, .inl (fun _ => 0))), ((pq 3), .inl ((cp 3), 40, .inl (fun _ => 0))), ((pq 4), .inl ((cp 4), 40, .inl (fun _ => 0))), ((pq 6), .inl ((cp 6), 20, .inl (fun _ => 0))), ((pq 7), .inl ((cp 7), 20, .inl (fun _ => 0))), ((pq 8), .inl ((cp 8), 20, .inl (fun _ => 0))), ((pq 9), .inl ((cp 9), 20, .inl (fun _ => 0))), ((pq 44), .inl ((cp 44), 60, .inl (fun _ => 0))), ((pq 55), .inl ((cp 55), 8, .inl (fun _ => 0))), ((pq 61), .inl ((cp 61), 12, .inl (fun _ => 0)))] := hD
  clear hk1 hz1 hvm hB ht hPc hDc hKc hFc
  refine lv_aload_n hx hb dL_law_344 rfl (lv_at hl 1 rfl) ?_
  refine lv_aload_n hx hb dL_law_345 rfl (lv_at hl 3 rfl) ?_
  refine lv_iload_n hx hb dL_law_346 rfl (lv_at hl 0 rfl) ?_
  refine lv_iconst (v := 1) hx hb dL_law_347 (by decide) ?_
  refine lv_iadd hx hb dL_law_348 ?_
  refine lv_topi (fun y ey => ?_)
  obtain rfl : y = 1 := ey.trans (by decide)
  refine va_sld hx hb hX hbl hbA hS (by unfold vp_in; decide) dL_law_349 ?_
  refine lv_aload_n hx hb dL_law_350 rfl (lv_at hl 3 rfl) ?_
  refine lv_iload_n hx hb dL_law_351 rfl (lv_at hl 0 rfl) ?_
  refine lv_iconst (v := 2) hx hb dL_law_352 (by decide) ?_
  refine lv_iadd hx hb dL_law_353 ?_
  refine lv_topi (fun y ey => ?_)
  obtain rfl : y = 2 := ey.trans (by decide)
  refine va_sld hx hb hX hbl hbA hS (by unfold vp_in; decide) dL_law_354 ?_
  have hPc := hP.sub (ws' := [(g0, .inr (11, mF pq)), ((pq 0), .inl ((cp 0), 7, .inl (fun _ => 0)))]) [0, 1] rfl
  have hDc := hD.sub (ws' := [(g0, .inr (11, mF pq)), ((pq 0), .inl ((cp 0), 7, .inl (fun _ => 0)))]) [0, 1] (by decide) rfl
  have hKc := hK.sub (tys' := [((cp 0), .int)]) [8] rfl
  have hFc := va_free (wc := [(g0, .inr (11, mF pq)), ((pq 0), .inl ((cp 0), 7, .inl (fun _ => 0)))]) hD hS hA [0, 1] rfl
  refine va_calli (va_runV (As := [.int (xs (1 : Int32).toNatClampNeg), .int (xs (2 : Int32).toNatClampNeg)]) (rest := [.int r_2]) ⟨hx, hb, hml, hown, hts⟩ (c_X11_ended l dC dI H.size g0 pq cp (xs (1 : Int32).toNatClampNeg) (xs (2 : Int32).toNatClampNeg)) (cwV 2 hts gL_law_X11_ended rfl rfl rfl (by decide +kernel) ⟨(Nat.le_of_ble_eq_true rfl), (Nat.le_of_ble_eq_true rfl)⟩) (pr_V (r := (RX11, TX11, 63)) hPc hKc hDc 0 11 rfl rfl) rfl rfl hl.1 rfl (lv_room (Nat.le_of_ble_eq_true rfl)) dL_law_355 ⟨(Nat.le_of_ble_eq_true rfl), (Nat.le_of_ble_eq_true rfl)⟩) hS (fun q _ h => hFc q h) hFc (fun r_4 u t H locs ht hvm w_3 hB hz1 hk1 hS => ?_)
  clear hk1 hz1 hvm hB ht hPc hDc hKc hFc
  refine lv_icmp_eq (tgt := 1499) hx hb dL_law_358 (by decide) (fun c_5 => ?_) (fun c_5 => absurd c_5 (fun h => h (w_1.trans w_3.symm)))
  exact lc_end (Nat.le_of_ble_eq_true rfl) (Nat.le_of_ble_eq_true rfl) C0 hAq hS hl
set_option maxHeartbeats 4000000 in
set_option maxRecDepth 100000 in
theorem lc_5 {p : Program} {l : Launch} {e : Env} {s : State} {m : MethodId} {below : List Frame} {meth : Method} {c : Code} {b : Nat} {xs : Nat → Int32} {A : Nat → Prop} {dC : Nat → ClassId} {dI : Nat → Nat → Nat} {tL tS h0 g0 : Nat} {q pq : Nat → Nat} {cq cp : Nat → ClassId} (C0 : lw_At p s m meth c b 6 xs) (hA : ∀ q : Nat, s.heap.size ≤ q → A q) (hAq : ∀ q, A q → s.heap.size ≤ q) (hZ : stZ A tL tS s s.heap) {H : Heap} {locs : List Loc} (hK : va_K (dC, dI) vwCl [((cq 15), .int), ((cq 1), .object RX6), ((cq 3), .object RX9), ((cq 90), .int), ((cq 100), .int), ((cq 110), .long), ((cq 112), .int), ((cq 13), .int), ((cp 0), .int), ((cp 1), .int), ((cp 2), .int), ((cp 3), .int), ((cp 4), .int), ((cp 6), .int), ((cp 7), .int), ((cp 8), .int), ((cp 9), .int), ((cp 44), .int), ((cp 55), .int), ((cp 61), .int)] s) (hP : va_P (dC, dI) vwCl [(h0, .inr (10, oF q)), ((q 15), .inl ((cq 15), 7, .inl (fun _ => 0))), ((q 1), .inl ((cq 1), 40, .inr (.inr (.inr (.inr (fun _ => none)))))), ((q 3), .inl ((cq 3), 20, .inr (.inr (.inr (.inr (fun _ => none)))))), ((q 8), .inr (5, [.ref (q 80), .ref (q 81), .int 0])), ((q 9), .inr (8, [.ref (q 90), .int 0, .ref (q 91), .int 0, .int 0, .int 0])), ((q 90), .inl ((cq 90), 60, .inl (fun _ => 0))), ((q 10), .inr (7, [.ref (q 100), .ref (q 101)])), ((q 100), .inl ((cq 100), 100, .inl (fun _ => 0))), ((q 11), .inr (4, [.ref (q 110), .ref (q 111), .int 0, .ref (q 112), .int 0, .int 0])), ((q 110), .inl ((cq 110), 81, .inr (.inl (fun _ => 0)))), ((q 112), .inl ((cq 112), 4, .inl (fun _ => 0))), ((q 13), .inl ((cq 13), 12, .inl (fun _ => 0))), (g0, .inr (11, mF pq)), ((pq 0), .inl ((cp 0), 7, .inl (fun _ => 0))), ((pq 1), .inl ((cp 1), 100, .inl (fun _ => 0))), ((pq 2), .inl ((cp 2), 40, .inl (fun _ => 0))), ((pq 3), .inl ((cp 3), 40, .inl (fun _ => 0))), ((pq 4), .inl ((cp 4), 40, .inl (fun _ => 0))), ((pq 6), .inl ((cp 6), 20, .inl (fun _ => 0))), ((pq 7), .inl ((cp 7), 20, .inl (fun _ => 0))), ((pq 8), .inl ((cp 8), 20, .inl (fun _ => 0))), ((pq 9), .inl ((cp 9), 20, .inl (fun _ => 0))), ((pq 44), .inl ((cp 44), 60, .inl (fun _ => 0))), ((pq 55), .inl ((cp 55), 8, .inl (fun _ => 0))), ((pq 61), .inl ((cp 61), 12, .inl (fun _ => 0)))] H) (hD : va_D A [(h0, .inr (10, oF q)), ((q 15), .inl ((cq 15), 7, .inl (fun _ => 0))), ((q 1), .inl ((cq 1), 40, .inr (.inr (.inr (.inr (fun _ => none)))))), ((q 3), .inl ((cq 3), 20, .inr (.inr (.inr (.inr (fun _ => none)))))), ((q 8), .inr (5, [.ref (q 80), .ref (q 81), .int 0])), ((q 9), .inr (8, [.ref (q 90), .int 0, .ref (q 91), .int 0, .int 0, .int 0])), ((q 90), .inl ((cq 90), 60, .inl (fun _ => 0))), ((q 10), .inr (7, [.ref (q 100), .ref (q 101)])), ((q 100), .inl ((cq 100), 100, .inl (fun _ => 0))), ((q 11), .inr (4, [.ref (q 110), .ref (q 111), .int 0, .ref (q 112), .int 0, .int 0])), ((q 110), .inl ((cq 110), 81, .inr (.inl (fun _ => 0)))), ((q 112), .inl ((cq 112), 4, .inl (fun _ => 0))), ((q 13), .inl ((cq 13), 12, .inl (fun _ => 0))), (g0, .inr (11, mF pq)), ((pq 0), .inl ((cp 0), 7, .inl (fun _ => 0))), ((pq 1), .inl ((cp 1), 100, .inl (fun _ => 0))), ((pq 2), .inl ((cp 2), 40, .inl (fun _ => 0))), ((pq 3), .inl ((cp 3), 40, .inl (fun _ => 0))), ((pq 4), .inl ((cp 4), 40, .inl (fun _ => 0))), ((pq 6), .inl ((cp 6), 20, .inl (fun _ => 0))), ((pq 7), .inl ((cp 7), 20, .inl (fun _ => 0))), ((pq 8), .inl ((cp 8), 20, .inl (fun _ => 0))), ((pq 9), .inl ((cp 9), 20, .inl (fun _ => 0))), ((pq 44), .inl ((cp 44), 60, .inl (fun _ => 0))), ((pq 55), .inl ((cp 55), 8, .inl (fun _ => 0))), ((pq 61), .inl ((cp 61), 12, .inl (fun _ => 0)))]) (hS : va_S A s.heap H locs) {ls : Array Slot} (hl : lv_has ls 4 [(3, .int 0), (2, .ref g0), (1, .ref h0), (0, .ref b)]) : W p l e room_1 s m #[Value.ref b] below meth c H locs 141 20685 (lw_Z below #[Value.ref b] s) (F0 m 363 ls []) := by
  obtain ⟨hx, hb, hr, hml, hown, hts, hX, hbl, hlocks, hgv⟩ := id C0
  have hts := fun w h => hts w (wsL_law_in w h)
  have hown : s.vm.findClass RL = some m.cls := hown
  have hbA : ¬ A b := fun h => Nat.not_le.mpr hbl (hAq b h)
  refine lv_aload_n hx hb dL_law_363 rfl (lv_at hl 2 rfl) ?_
  refine lv_aload_n hx hb dL_law_364 rfl (lv_at hl 3 rfl) ?_
  refine lv_iload_n hx hb dL_law_365 rfl (lv_at hl 0 rfl) ?_
  refine lv_iconst (v := 1) hx hb dL_law_366 (by decide) ?_
  refine lv_iadd hx hb dL_law_367 ?_
  refine lv_topi (fun y ey => ?_)
  obtain rfl : y = 1 := ey.trans (by decide)
  refine va_sld hx hb hX hbl hbA hS (by unfold vp_in; decide) dL_law_368 ?_
  refine lv_aload_n hx hb dL_law_369 rfl (lv_at hl 3 rfl) ?_
  refine lv_iload_n hx hb dL_law_370 rfl (lv_at hl 0 rfl) ?_
  refine lv_iconst (v := 2) hx hb dL_law_371 (by decide) ?_
  refine lv_iadd hx hb dL_law_372 ?_
  refine lv_topi (fun y ey => ?_)
  obtain rfl : y = 2 := ey.trans (by decide)
  refine va_sld hx hb hX hbl hbA hS (by unfold vp_in; decide) dL_law_373 ?_
  have hPc := hP.sub (ws' := [(h0, .inr (10, oF q)), ((q 15), .inl ((cq 15), 7, .inl (fun _ => 0)))]) [0, 1] rfl
  have hDc := hD.sub (ws' := [(h0, .inr (10, oF q)), ((q 15), .inl ((cq 15), 7, .inl (fun _ => 0)))]) [0, 1] (by decide) rfl
  have hKc := hK.sub (tys' := [((cq 15), .int)]) [0] rfl
  have hFc := va_free (wc := [(h0, .inr (10, oF q)), ((q 15), .inl ((cq 15), 7, .inl (fun _ => 0)))]) hD hS hA [0, 1] rfl
  refine va_calli (va_runV (As := [.int (xs (1 : Int32).toNatClampNeg), .int (xs (2 : Int32).toNatClampNeg)]) (rest := []) ⟨hx, hb, hml, hown, hts⟩ (c_X10_sailed l dC dI H.size h0 q cq (xs (1 : Int32).toNatClampNeg) (xs (2 : Int32).toNatClampNeg)) (cwV 2 hts gL_law_X10_sailed rfl rfl rfl (by decide +kernel) ⟨(Nat.le_of_ble_eq_true rfl), (Nat.le_of_ble_eq_true rfl)⟩) (pr_V (r := (RX10, TX10, 16)) hPc hKc hDc 0 10 rfl rfl) rfl rfl hl.1 rfl (lv_room (Nat.le_of_ble_eq_true rfl)) dL_law_374 ⟨(Nat.le_of_ble_eq_true rfl), (Nat.le_of_ble_eq_true rfl)⟩) hS (fun q _ h => hFc q h) hFc (fun r_2 u t H locs ht hvm w_1 hB hz1 hk1 hS => ?_)
  obtain ⟨hP, hD⟩ := va_join (wr := [(g0, .inr (11, mF pq)), ((pq 0), .inl ((cp 0), 7, .inl (fun _ => 0))), ((pq 1), .inl ((cp 1), 100, .inl (fun _ => 0))), ((pq 2), .inl ((cp 2), 40, .inl (fun _ => 0))), ((pq 3), .inl ((cp 3), 40, .inl (fun _ => 0))), ((pq 4), .inl ((cp 4), 40, .inl (fun _ => 0))), ((pq 6), .inl ((cp 6), 20, .inl (fun _ => 0))), ((pq 7), .inl ((cp 7), 20, .inl (fun _ => 0))), ((pq 8), .inl ((cp 8), 20, .inl (fun _ => 0))), ((pq 9), .inl ((cp 9), 20, .inl (fun _ => 0))), ((pq 44), .inl ((cp 44), 60, .inl (fun _ => 0))), ((pq 55), .inl ((cp 55), 8, .inl (fun _ => 0))), ((pq 61), .inl ((cp 61), 12, .inl (fun _ => 0)))]) (w1 := []) hP hD [0, 1] [13, 14, 15, 16, 17, 18, 19, 20, 21, 22, 23, 24, 25] rfl rfl (by decide) (by decide) hk1 hFc vP0 vD0
  have hP : va_P (dC, dI) vwCl [(g0, .inr (11, mF pq)), ((pq 0), .inl ((cp 0), 7, .inl (fun _ => 0))), ((pq 1), .inl ((cp 1), 100, .inl (fun _ => 0))), ((pq 2), .inl ((cp 2), 40, .inl (fun _ => 0))), ((pq 3), .inl ((cp 3), 40, .inl (fun _ => 0))), ((pq 4), .inl ((cp 4), 40, .inl (fun _ => 0))), ((pq 6), .inl ((cp 6), 20, .inl (fun _ => 0))), ((pq 7), .inl ((cp 7), 20, .inl (fun _ => 0))), ((pq 8), .inl ((cp 8), 20, .inl (fun _ => 0))), ((pq 9), .inl ((cp 9), 20, .inl (fun _ => 0))), ((pq 44), .inl ((cp 44), 60, .inl (fun _ => 0))), ((pq 55), .inl ((cp 55), 8, .inl (fun _ => 0))), ((pq 61), .inl ((cp 61), 12, .inl (fun _ => 0)))] H := hP
  have hD : va_D A [(g0, .inr (11, mF pq)), ((pq 0), .inl ((cp 0), 7, .inl (fun _ => 0))), ((pq 1), .inl ((cp 1), 100, .inl (fun _ => 0))), ((pq 2), .inl ((cp 2), 40, .inl (fun _ => 0))), ((pq 3), .inl ((cp 3), 40, .inl (fun _ => 0))), ((pq 4), .inl ((cp 4), 40, .inl (fun _ => 0))), ((pq 6), .inl ((cp 6), 20, .inl (fun _ => 0))), ((pq 7), .inl ((cp 7), 20, .inl (fun _ => 0))), ((pq 8), .inl ((cp 8), 20, .inl (fun _ => 0))), ((pq 9), .inl ((cp 9), 20, .inl (fun _ => 0))), ((pq 44), .inl ((cp 44), 60, .inl (fun _ => 0))), ((pq 55), .inl ((cp 55), 8, .inl (fun _ => 0))), ((pq 61), .inl ((cp 61), 12, .inl (fun _ => 0)))] := hD
  clear hk1 hz1 hvm hB ht hPc hDc hKc hFc
  refine lv_aload_n hx hb dL_law_377 rfl (lv_at hl 1 rfl) ?_
  refine lv_aload_n hx hb dL_law_378 rfl (lv_at hl 3 rfl) ?_
  refine lv_iload_n hx hb dL_law_379 rfl (lv_at hl 0 rfl) ?_
  refine lv_iconst (v := 1) hx hb dL_law_380 (by decide) ?_
  refine lv_iadd hx hb dL_law_381 ?_
  refine lv_topi (fun y ey => ?_)
  obtain rfl : y = 1 := ey.trans (by decide)
  refine va_sld hx hb hX hbl hbA hS (by unfold vp_in; decide) dL_law_382 ?_
  refine lv_aload_n hx hb dL_law_383 rfl (lv_at hl 3 rfl) ?_
  refine lv_iload_n hx hb dL_law_384 rfl (lv_at hl 0 rfl) ?_
  refine lv_iconst (v := 2) hx hb dL_law_385 (by decide) ?_
  refine lv_iadd hx hb dL_law_386 ?_
  refine lv_topi (fun y ey => ?_)
  obtain rfl : y = 2 := ey.trans (by decide)
  refine va_sld hx hb hX hbl hbA hS (by unfold vp_in; decide) dL_law_387 ?_
  have hPc := hP.sub (ws' := [(g0, .inr (11, mF pq)), ((pq 0), .inl ((cp 0), 7, .inl (fun _ => 0)))]) [0, 1] rfl
  have hDc := hD.sub (ws' := [(g0, .inr (11, mF pq)), ((pq 0), .inl ((cp 0), 7, .inl (fun _ => 0)))]) [0, 1] (by decide) rfl
  have hKc := hK.sub (tys' := [((cp 0), .int)]) [8] rfl
  have hFc := va_free (wc := [(g0, .inr (11, mF pq)), ((pq 0), .inl ((cp 0), 7, .inl (fun _ => 0)))]) hD hS hA [0, 1] rfl
  refine va_calli (va_runV (As := [.int (xs (1 : Int32).toNatClampNeg), .int (xs (2 : Int32).toNatClampNeg)]) (rest := [.int r_2]) ⟨hx, hb, hml, hown, hts⟩ (c_X11_sailed l dC dI H.size g0 pq cp (xs (1 : Int32).toNatClampNeg) (xs (2 : Int32).toNatClampNeg)) (cwV 2 hts gL_law_X11_sailed rfl rfl rfl (by decide +kernel) ⟨(Nat.le_of_ble_eq_true rfl), (Nat.le_of_ble_eq_true rfl)⟩) (pr_V (r := (RX11, TX11, 63)) hPc hKc hDc 0 11 rfl rfl) rfl rfl hl.1 rfl (lv_room (Nat.le_of_ble_eq_true rfl)) dL_law_388 ⟨(Nat.le_of_ble_eq_true rfl), (Nat.le_of_ble_eq_true rfl)⟩) hS (fun q _ h => hFc q h) hFc (fun r_4 u t H locs ht hvm w_3 hB hz1 hk1 hS => ?_)
  clear hk1 hz1 hvm hB ht hPc hDc hKc hFc
  refine lv_icmp_eq (tgt := 1499) hx hb dL_law_391 (by decide) (fun c_5 => ?_) (fun c_5 => absurd c_5 (fun h => h (w_1.trans w_3.symm)))
  exact lc_end (Nat.le_of_ble_eq_true rfl) (Nat.le_of_ble_eq_true rfl) C0 hAq hS hl
set_option maxHeartbeats 4000000 in
set_option maxRecDepth 100000 in
theorem lc_6 {p : Program} {l : Launch} {e : Env} {s : State} {m : MethodId} {below : List Frame} {meth : Method} {c : Code} {b : Nat} {xs : Nat → Int32} {A : Nat → Prop} {dC : Nat → ClassId} {dI : Nat → Nat → Nat} {tL tS h0 g0 : Nat} {q pq : Nat → Nat} {cq cp : Nat → ClassId} (C0 : lw_At p s m meth c b 6 xs) (hA : ∀ q : Nat, s.heap.size ≤ q → A q) (hAq : ∀ q, A q → s.heap.size ≤ q) (hZ : stZ A tL tS s s.heap) {H : Heap} {locs : List Loc} (hK : va_K (dC, dI) vwCl [((cq 15), .int), ((cq 1), .object RX6), ((cq 3), .object RX9), ((cq 90), .int), ((cq 100), .int), ((cq 110), .long), ((cq 112), .int), ((cq 13), .int), ((cp 0), .int), ((cp 1), .int), ((cp 2), .int), ((cp 3), .int), ((cp 4), .int), ((cp 6), .int), ((cp 7), .int), ((cp 8), .int), ((cp 9), .int), ((cp 44), .int), ((cp 55), .int), ((cp 61), .int)] s) (hP : va_P (dC, dI) vwCl [(h0, .inr (10, oF q)), ((q 15), .inl ((cq 15), 7, .inl (fun _ => 0))), ((q 1), .inl ((cq 1), 40, .inr (.inr (.inr (.inr (fun _ => none)))))), ((q 3), .inl ((cq 3), 20, .inr (.inr (.inr (.inr (fun _ => none)))))), ((q 8), .inr (5, [.ref (q 80), .ref (q 81), .int 0])), ((q 9), .inr (8, [.ref (q 90), .int 0, .ref (q 91), .int 0, .int 0, .int 0])), ((q 90), .inl ((cq 90), 60, .inl (fun _ => 0))), ((q 10), .inr (7, [.ref (q 100), .ref (q 101)])), ((q 100), .inl ((cq 100), 100, .inl (fun _ => 0))), ((q 11), .inr (4, [.ref (q 110), .ref (q 111), .int 0, .ref (q 112), .int 0, .int 0])), ((q 110), .inl ((cq 110), 81, .inr (.inl (fun _ => 0)))), ((q 112), .inl ((cq 112), 4, .inl (fun _ => 0))), ((q 13), .inl ((cq 13), 12, .inl (fun _ => 0))), (g0, .inr (11, mF pq)), ((pq 0), .inl ((cp 0), 7, .inl (fun _ => 0))), ((pq 1), .inl ((cp 1), 100, .inl (fun _ => 0))), ((pq 2), .inl ((cp 2), 40, .inl (fun _ => 0))), ((pq 3), .inl ((cp 3), 40, .inl (fun _ => 0))), ((pq 4), .inl ((cp 4), 40, .inl (fun _ => 0))), ((pq 6), .inl ((cp 6), 20, .inl (fun _ => 0))), ((pq 7), .inl ((cp 7), 20, .inl (fun _ => 0))), ((pq 8), .inl ((cp 8), 20, .inl (fun _ => 0))), ((pq 9), .inl ((cp 9), 20, .inl (fun _ => 0))), ((pq 44), .inl ((cp 44), 60, .inl (fun _ => 0))), ((pq 55), .inl ((cp 55), 8, .inl (fun _ => 0))), ((pq 61), .inl ((cp 61), 12, .inl (fun _ => 0)))] H) (hD : va_D A [(h0, .inr (10, oF q)), ((q 15), .inl ((cq 15), 7, .inl (fun _ => 0))), ((q 1), .inl ((cq 1), 40, .inr (.inr (.inr (.inr (fun _ => none)))))), ((q 3), .inl ((cq 3), 20, .inr (.inr (.inr (.inr (fun _ => none)))))), ((q 8), .inr (5, [.ref (q 80), .ref (q 81), .int 0])), ((q 9), .inr (8, [.ref (q 90), .int 0, .ref (q 91), .int 0, .int 0, .int 0])), ((q 90), .inl ((cq 90), 60, .inl (fun _ => 0))), ((q 10), .inr (7, [.ref (q 100), .ref (q 101)])), ((q 100), .inl ((cq 100), 100, .inl (fun _ => 0))), ((q 11), .inr (4, [.ref (q 110), .ref (q 111), .int 0, .ref (q 112), .int 0, .int 0])), ((q 110), .inl ((cq 110), 81, .inr (.inl (fun _ => 0)))), ((q 112), .inl ((cq 112), 4, .inl (fun _ => 0))), ((q 13), .inl ((cq 13), 12, .inl (fun _ => 0))), (g0, .inr (11, mF pq)), ((pq 0), .inl ((cp 0), 7, .inl (fun _ => 0))), ((pq 1), .inl ((cp 1), 100, .inl (fun _ => 0))), ((pq 2), .inl ((cp 2), 40, .inl (fun _ => 0))), ((pq 3), .inl ((cp 3), 40, .inl (fun _ => 0))), ((pq 4), .inl ((cp 4), 40, .inl (fun _ => 0))), ((pq 6), .inl ((cp 6), 20, .inl (fun _ => 0))), ((pq 7), .inl ((cp 7), 20, .inl (fun _ => 0))), ((pq 8), .inl ((cp 8), 20, .inl (fun _ => 0))), ((pq 9), .inl ((cp 9), 20, .inl (fun _ => 0))), ((pq 44), .inl ((cp 44), 60, .inl (fun _ => 0))), ((pq 55), .inl ((cp 55), 8, .inl (fun _ => 0))), ((pq 61), .inl ((cp 61), 12, .inl (fun _ => 0)))]) (hS : va_S A s.heap H locs) {ls : Array Slot} (hl : lv_has ls 4 [(3, .int 0), (2, .ref g0), (1, .ref h0), (0, .ref b)]) : W p l e room_1 s m #[Value.ref b] below meth c H locs 141 20685 (lw_Z below #[Value.ref b] s) (F0 m 396 ls []) := by
  obtain ⟨hx, hb, hr, hml, hown, hts, hX, hbl, hlocks, hgv⟩ := id C0
  have hts := fun w h => hts w (wsL_law_in w h)
  have hown : s.vm.findClass RL = some m.cls := hown
  have hbA : ¬ A b := fun h => Nat.not_le.mpr hbl (hAq b h)
  refine lv_aload_n hx hb dL_law_396 rfl (lv_at hl 2 rfl) ?_
  refine lv_aload_n hx hb dL_law_397 rfl (lv_at hl 3 rfl) ?_
  refine lv_iload_n hx hb dL_law_398 rfl (lv_at hl 0 rfl) ?_
  refine lv_iconst (v := 1) hx hb dL_law_399 (by decide) ?_
  refine lv_iadd hx hb dL_law_400 ?_
  refine lv_topi (fun y ey => ?_)
  obtain rfl : y = 1 := ey.trans (by decide)
  refine va_sld hx hb hX hbl hbA hS (by unfold vp_in; decide) dL_law_401 ?_
  refine lv_aload_n hx hb dL_law_402 rfl (lv_at hl 3 rfl) ?_
  refine lv_iload_n hx hb dL_law_403 rfl (lv_at hl 0 rfl) ?_
  refine lv_iconst (v := 2) hx hb dL_law_404 (by decide) ?_
  refine lv_iadd hx hb dL_law_405 ?_
  refine lv_topi (fun y ey => ?_)
  obtain rfl : y = 2 := ey.trans (by decide)
  refine va_sld hx hb hX hbl hbA hS (by unfold vp_in; decide) dL_law_406 ?_
  have hPc := hP.sub (ws' := [(h0, .inr (10, oF q)), ((q 15), .inl ((cq 15), 7, .inl (fun _ => 0)))]) [0, 1] rfl
  have hDc := hD.sub (ws' := [(h0, .inr (10, oF q)), ((q 15), .inl ((cq 15), 7, .inl (fun _ => 0)))]) [0, 1] (by decide) rfl
  have hKc := hK.sub (tys' := [((cq 15), .int)]) [0] rfl
  have hFc := va_free (wc := [(h0, .inr (10, oF q)), ((q 15), .inl ((cq 15), 7, .inl (fun _ => 0)))]) hD hS hA [0, 1] rfl
  refine va_calli (va_runV (As := [.int (xs (1 : Int32).toNatClampNeg), .int (xs (2 : Int32).toNatClampNeg)]) (rest := []) ⟨hx, hb, hml, hown, hts⟩ (c_X10_heard l dC dI H.size h0 q cq (xs (1 : Int32).toNatClampNeg) (xs (2 : Int32).toNatClampNeg)) (cwV 2 hts gL_law_X10_heard rfl rfl rfl (by decide +kernel) ⟨(Nat.le_of_ble_eq_true rfl), (Nat.le_of_ble_eq_true rfl)⟩) (pr_V (r := (RX10, TX10, 16)) hPc hKc hDc 0 10 rfl rfl) rfl rfl hl.1 rfl (lv_room (Nat.le_of_ble_eq_true rfl)) dL_law_407 ⟨(Nat.le_of_ble_eq_true rfl), (Nat.le_of_ble_eq_true rfl)⟩) hS (fun q _ h => hFc q h) hFc (fun r_2 u t H locs ht hvm w_1 hB hz1 hk1 hS => ?_)
  obtain ⟨hP, hD⟩ := va_join (wr := [(g0, .inr (11, mF pq)), ((pq 0), .inl ((cp 0), 7, .inl (fun _ => 0))), ((pq 1), .inl ((cp 1), 100, .inl (fun _ => 0))), ((pq 2), .inl ((cp 2), 40, .inl (fun _ => 0))), ((pq 3), .inl ((cp 3), 40, .inl (fun _ => 0))), ((pq 4), .inl ((cp 4), 40, .inl (fun _ => 0))), ((pq 6), .inl ((cp 6), 20, .inl (fun _ => 0))), ((pq 7), .inl ((cp 7), 20, .inl (fun _ => 0))), ((pq 8), .inl ((cp 8), 20, .inl (fun _ => 0))), ((pq 9), .inl ((cp 9), 20, .inl (fun _ => 0))), ((pq 44), .inl ((cp 44), 60, .inl (fun _ => 0))), ((pq 55), .inl ((cp 55), 8, .inl (fun _ => 0))), ((pq 61), .inl ((cp 61), 12, .inl (fun _ => 0)))]) (w1 := []) hP hD [0, 1] [13, 14, 15, 16, 17, 18, 19, 20, 21, 22, 23, 24, 25] rfl rfl (by decide) (by decide) hk1 hFc vP0 vD0
  have hP : va_P (dC, dI) vwCl [(g0, .inr (11, mF pq)), ((pq 0), .inl ((cp 0), 7, .inl (fun _ => 0))), ((pq 1), .inl ((cp 1), 100, .inl (fun _ => 0))), ((pq 2), .inl ((cp 2), 40, .inl (fun _ => 0))), ((pq 3), .inl ((cp 3), 40, .inl (fun _ => 0))), ((pq 4), .inl ((cp 4), 40, .inl (fun _ => 0))), ((pq 6), .inl ((cp 6), 20, .inl (fun _ => 0))), ((pq 7), .inl ((cp 7), 20, .inl (fun _ => 0))), ((pq 8), .inl ((cp 8), 20, .inl (fun _ => 0))), ((pq 9), .inl ((cp 9), 20, .inl (fun _ => 0))), ((pq 44), .inl ((cp 44), 60, .inl (fun _ => 0))), ((pq 55), .inl ((cp 55), 8, .inl (fun _ => 0))), ((pq 61), .inl ((cp 61), 12, .inl (fun _ => 0)))] H := hP
  have hD : va_D A [(g0, .inr (11, mF pq)), ((pq 0), .inl ((cp 0), 7, .inl (fun _ => 0))), ((pq 1), .inl ((cp 1), 100, .inl (fun _ => 0))), ((pq 2), .inl ((cp 2), 40, .inl (fun _ => 0))), ((pq 3), .inl ((cp 3), 40, .inl (fun _ => 0))), ((pq 4), .inl ((cp 4), 40, .inl (fun _ => 0))), ((pq 6), .inl ((cp 6), 20, .inl (fun _ => 0))), ((pq 7), .inl ((cp 7), 20, .inl (fun _ => 0))), ((pq 8), .inl ((cp 8), 20, .inl (fun _ => 0))), ((pq 9), .inl ((cp 9), 20, .inl (fun _ => 0))), ((pq 44), .inl ((cp 44), 60, .inl (fun _ => 0))), ((pq 55), .inl ((cp 55), 8, .inl (fun _ => 0))), ((pq 61), .inl ((cp 61), 12, .inl (fun _ => 0)))] := hD
  clear hk1 hz1 hvm hB ht hPc hDc hKc hFc
  refine lv_aload_n hx hb dL_law_410 rfl (lv_at hl 1 rfl) ?_
  refine lv_aload_n hx hb dL_law_411 rfl (lv_at hl 3 rfl) ?_
  refine lv_iload_n hx hb dL_law_412 rfl (lv_at hl 0 rfl) ?_
  refine lv_iconst (v := 1) hx hb dL_law_413 (by decide) ?_
  refine lv_iadd hx hb dL_law_414 ?_
  refine lv_topi (fun y ey => ?_)
  obtain rfl : y = 1 := ey.trans (by decide)
  refine va_sld hx hb hX hbl hbA hS (by unfold vp_in; decide) dL_law_415 ?_
  refine lv_aload_n hx hb dL_law_416 rfl (lv_at hl 3 rfl) ?_
  refine lv_iload_n hx hb dL_law_417 rfl (lv_at hl 0 rfl) ?_
  refine lv_iconst (v := 2) hx hb dL_law_418 (by decide) ?_
  refine lv_iadd hx hb dL_law_419 ?_
  refine lv_topi (fun y ey => ?_)
  obtain rfl : y = 2 := ey.trans (by decide)
  refine va_sld hx hb hX hbl hbA hS (by unfold vp_in; decide) dL_law_420 ?_
  have hPc := hP.sub (ws' := [(g0, .inr (11, mF pq)), ((pq 0), .inl ((cp 0), 7, .inl (fun _ => 0)))]) [0, 1] rfl
  have hDc := hD.sub (ws' := [(g0, .inr (11, mF pq)), ((pq 0), .inl ((cp 0), 7, .inl (fun _ => 0)))]) [0, 1] (by decide) rfl
  have hKc := hK.sub (tys' := [((cp 0), .int)]) [8] rfl
  have hFc := va_free (wc := [(g0, .inr (11, mF pq)), ((pq 0), .inl ((cp 0), 7, .inl (fun _ => 0)))]) hD hS hA [0, 1] rfl
  refine va_calli (va_runV (As := [.int (xs (1 : Int32).toNatClampNeg), .int (xs (2 : Int32).toNatClampNeg)]) (rest := [.int r_2]) ⟨hx, hb, hml, hown, hts⟩ (c_X11_heard l dC dI H.size g0 pq cp (xs (1 : Int32).toNatClampNeg) (xs (2 : Int32).toNatClampNeg)) (cwV 2 hts gL_law_X11_heard rfl rfl rfl (by decide +kernel) ⟨(Nat.le_of_ble_eq_true rfl), (Nat.le_of_ble_eq_true rfl)⟩) (pr_V (r := (RX11, TX11, 63)) hPc hKc hDc 0 11 rfl rfl) rfl rfl hl.1 rfl (lv_room (Nat.le_of_ble_eq_true rfl)) dL_law_421 ⟨(Nat.le_of_ble_eq_true rfl), (Nat.le_of_ble_eq_true rfl)⟩) hS (fun q _ h => hFc q h) hFc (fun r_4 u t H locs ht hvm w_3 hB hz1 hk1 hS => ?_)
  clear hk1 hz1 hvm hB ht hPc hDc hKc hFc
  refine lv_icmp_eq (tgt := 1499) hx hb dL_law_424 (by decide) (fun c_5 => ?_) (fun c_5 => absurd c_5 (fun h => h (w_1.trans w_3.symm)))
  exact lc_end (Nat.le_of_ble_eq_true rfl) (Nat.le_of_ble_eq_true rfl) C0 hAq hS hl
set_option maxHeartbeats 4000000 in
set_option maxRecDepth 100000 in
theorem lc_7 {p : Program} {l : Launch} {e : Env} {s : State} {m : MethodId} {below : List Frame} {meth : Method} {c : Code} {b : Nat} {xs : Nat → Int32} {A : Nat → Prop} {dC : Nat → ClassId} {dI : Nat → Nat → Nat} {tL tS h0 g0 : Nat} {q pq : Nat → Nat} {cq cp : Nat → ClassId} (C0 : lw_At p s m meth c b 6 xs) (hA : ∀ q : Nat, s.heap.size ≤ q → A q) (hAq : ∀ q, A q → s.heap.size ≤ q) (hZ : stZ A tL tS s s.heap) {H : Heap} {locs : List Loc} (hK : va_K (dC, dI) vwCl [((cq 15), .int), ((cq 1), .object RX6), ((cq 3), .object RX9), ((cq 90), .int), ((cq 100), .int), ((cq 110), .long), ((cq 112), .int), ((cq 13), .int), ((cp 0), .int), ((cp 1), .int), ((cp 2), .int), ((cp 3), .int), ((cp 4), .int), ((cp 6), .int), ((cp 7), .int), ((cp 8), .int), ((cp 9), .int), ((cp 44), .int), ((cp 55), .int), ((cp 61), .int)] s) (hP : va_P (dC, dI) vwCl [(h0, .inr (10, oF q)), ((q 15), .inl ((cq 15), 7, .inl (fun _ => 0))), ((q 1), .inl ((cq 1), 40, .inr (.inr (.inr (.inr (fun _ => none)))))), ((q 3), .inl ((cq 3), 20, .inr (.inr (.inr (.inr (fun _ => none)))))), ((q 8), .inr (5, [.ref (q 80), .ref (q 81), .int 0])), ((q 9), .inr (8, [.ref (q 90), .int 0, .ref (q 91), .int 0, .int 0, .int 0])), ((q 90), .inl ((cq 90), 60, .inl (fun _ => 0))), ((q 10), .inr (7, [.ref (q 100), .ref (q 101)])), ((q 100), .inl ((cq 100), 100, .inl (fun _ => 0))), ((q 11), .inr (4, [.ref (q 110), .ref (q 111), .int 0, .ref (q 112), .int 0, .int 0])), ((q 110), .inl ((cq 110), 81, .inr (.inl (fun _ => 0)))), ((q 112), .inl ((cq 112), 4, .inl (fun _ => 0))), ((q 13), .inl ((cq 13), 12, .inl (fun _ => 0))), (g0, .inr (11, mF pq)), ((pq 0), .inl ((cp 0), 7, .inl (fun _ => 0))), ((pq 1), .inl ((cp 1), 100, .inl (fun _ => 0))), ((pq 2), .inl ((cp 2), 40, .inl (fun _ => 0))), ((pq 3), .inl ((cp 3), 40, .inl (fun _ => 0))), ((pq 4), .inl ((cp 4), 40, .inl (fun _ => 0))), ((pq 6), .inl ((cp 6), 20, .inl (fun _ => 0))), ((pq 7), .inl ((cp 7), 20, .inl (fun _ => 0))), ((pq 8), .inl ((cp 8), 20, .inl (fun _ => 0))), ((pq 9), .inl ((cp 9), 20, .inl (fun _ => 0))), ((pq 44), .inl ((cp 44), 60, .inl (fun _ => 0))), ((pq 55), .inl ((cp 55), 8, .inl (fun _ => 0))), ((pq 61), .inl ((cp 61), 12, .inl (fun _ => 0)))] H) (hD : va_D A [(h0, .inr (10, oF q)), ((q 15), .inl ((cq 15), 7, .inl (fun _ => 0))), ((q 1), .inl ((cq 1), 40, .inr (.inr (.inr (.inr (fun _ => none)))))), ((q 3), .inl ((cq 3), 20, .inr (.inr (.inr (.inr (fun _ => none)))))), ((q 8), .inr (5, [.ref (q 80), .ref (q 81), .int 0])), ((q 9), .inr (8, [.ref (q 90), .int 0, .ref (q 91), .int 0, .int 0, .int 0])), ((q 90), .inl ((cq 90), 60, .inl (fun _ => 0))), ((q 10), .inr (7, [.ref (q 100), .ref (q 101)])), ((q 100), .inl ((cq 100), 100, .inl (fun _ => 0))), ((q 11), .inr (4, [.ref (q 110), .ref (q 111), .int 0, .ref (q 112), .int 0, .int 0])), ((q 110), .inl ((cq 110), 81, .inr (.inl (fun _ => 0)))), ((q 112), .inl ((cq 112), 4, .inl (fun _ => 0))), ((q 13), .inl ((cq 13), 12, .inl (fun _ => 0))), (g0, .inr (11, mF pq)), ((pq 0), .inl ((cp 0), 7, .inl (fun _ => 0))), ((pq 1), .inl ((cp 1), 100, .inl (fun _ => 0))), ((pq 2), .inl ((cp 2), 40, .inl (fun _ => 0))), ((pq 3), .inl ((cp 3), 40, .inl (fun _ => 0))), ((pq 4), .inl ((cp 4), 40, .inl (fun _ => 0))), ((pq 6), .inl ((cp 6), 20, .inl (fun _ => 0))), ((pq 7), .inl ((cp 7), 20, .inl (fun _ => 0))), ((pq 8), .inl ((cp 8), 20, .inl (fun _ => 0))), ((pq 9), .inl ((cp 9), 20, .inl (fun _ => 0))), ((pq 44), .inl ((cp 44), 60, .inl (fun _ => 0))), ((pq 55), .inl ((cp 55), 8, .inl (fun _ => 0))), ((pq 61), .inl ((cp 61), 12, .inl (fun _ => 0)))]) (hS : va_S A s.heap H locs) {ls : Array Slot} (hl : lv_has ls 4 [(3, .int 0), (2, .ref g0), (1, .ref h0), (0, .ref b)]) : W p l e room_1 s m #[Value.ref b] below meth c H locs 141 20685 (lw_Z below #[Value.ref b] s) (F0 m 429 ls []) := by
  obtain ⟨hx, hb, hr, hml, hown, hts, hX, hbl, hlocks, hgv⟩ := id C0
  have hts := fun w h => hts w (wsL_law_in w h)
  have hown : s.vm.findClass RL = some m.cls := hown
  have hbA : ¬ A b := fun h => Nat.not_le.mpr hbl (hAq b h)
  refine lv_aload_n hx hb dL_law_429 rfl (lv_at hl 2 rfl) ?_
  refine lv_aload_n hx hb dL_law_430 rfl (lv_at hl 3 rfl) ?_
  refine lv_iload_n hx hb dL_law_431 rfl (lv_at hl 0 rfl) ?_
  refine lv_iconst (v := 1) hx hb dL_law_432 (by decide) ?_
  refine lv_iadd hx hb dL_law_433 ?_
  refine lv_topi (fun y ey => ?_)
  obtain rfl : y = 1 := ey.trans (by decide)
  refine va_sld hx hb hX hbl hbA hS (by unfold vp_in; decide) dL_law_434 ?_
  refine lv_aload_n hx hb dL_law_435 rfl (lv_at hl 3 rfl) ?_
  refine lv_iload_n hx hb dL_law_436 rfl (lv_at hl 0 rfl) ?_
  refine lv_iconst (v := 2) hx hb dL_law_437 (by decide) ?_
  refine lv_iadd hx hb dL_law_438 ?_
  refine lv_topi (fun y ey => ?_)
  obtain rfl : y = 2 := ey.trans (by decide)
  refine va_sld hx hb hX hbl hbA hS (by unfold vp_in; decide) dL_law_439 ?_
  have hPc := hP.sub (ws' := [(h0, .inr (10, oF q)), ((q 15), .inl ((cq 15), 7, .inl (fun _ => 0)))]) [0, 1] rfl
  have hDc := hD.sub (ws' := [(h0, .inr (10, oF q)), ((q 15), .inl ((cq 15), 7, .inl (fun _ => 0)))]) [0, 1] (by decide) rfl
  have hKc := hK.sub (tys' := [((cq 15), .int)]) [0] rfl
  have hFc := va_free (wc := [(h0, .inr (10, oF q)), ((q 15), .inl ((cq 15), 7, .inl (fun _ => 0)))]) hD hS hA [0, 1] rfl
  refine va_calli (va_runV (As := [.int (xs (1 : Int32).toNatClampNeg), .int (xs (2 : Int32).toNatClampNeg)]) (rest := []) ⟨hx, hb, hml, hown, hts⟩ (c_X10_lost l dC dI H.size h0 q cq (xs (1 : Int32).toNatClampNeg) (xs (2 : Int32).toNatClampNeg)) (cwV 2 hts gL_law_X10_lost rfl rfl rfl (by decide +kernel) ⟨(Nat.le_of_ble_eq_true rfl), (Nat.le_of_ble_eq_true rfl)⟩) (pr_V (r := (RX10, TX10, 16)) hPc hKc hDc 0 10 rfl rfl) rfl rfl hl.1 rfl (lv_room (Nat.le_of_ble_eq_true rfl)) dL_law_440 ⟨(Nat.le_of_ble_eq_true rfl), (Nat.le_of_ble_eq_true rfl)⟩) hS (fun q _ h => hFc q h) hFc (fun r_2 u t H locs ht hvm w_1 hB hz1 hk1 hS => ?_)
  obtain ⟨hP, hD⟩ := va_join (wr := [(g0, .inr (11, mF pq)), ((pq 0), .inl ((cp 0), 7, .inl (fun _ => 0))), ((pq 1), .inl ((cp 1), 100, .inl (fun _ => 0))), ((pq 2), .inl ((cp 2), 40, .inl (fun _ => 0))), ((pq 3), .inl ((cp 3), 40, .inl (fun _ => 0))), ((pq 4), .inl ((cp 4), 40, .inl (fun _ => 0))), ((pq 6), .inl ((cp 6), 20, .inl (fun _ => 0))), ((pq 7), .inl ((cp 7), 20, .inl (fun _ => 0))), ((pq 8), .inl ((cp 8), 20, .inl (fun _ => 0))), ((pq 9), .inl ((cp 9), 20, .inl (fun _ => 0))), ((pq 44), .inl ((cp 44), 60, .inl (fun _ => 0))), ((pq 55), .inl ((cp 55), 8, .inl (fun _ => 0))), ((pq 61), .inl ((cp 61), 12, .inl (fun _ => 0)))]) (w1 := []) hP hD [0, 1] [13, 14, 15, 16, 17, 18, 19, 20, 21, 22, 23, 24, 25] rfl rfl (by decide) (by decide) hk1 hFc vP0 vD0
  have hP : va_P (dC, dI) vwCl [(g0, .inr (11, mF pq)), ((pq 0), .inl ((cp 0), 7, .inl (fun _ => 0))), ((pq 1), .inl ((cp 1), 100, .inl (fun _ => 0))), ((pq 2), .inl ((cp 2), 40, .inl (fun _ => 0))), ((pq 3), .inl ((cp 3), 40, .inl (fun _ => 0))), ((pq 4), .inl ((cp 4), 40, .inl (fun _ => 0))), ((pq 6), .inl ((cp 6), 20, .inl (fun _ => 0))), ((pq 7), .inl ((cp 7), 20, .inl (fun _ => 0))), ((pq 8), .inl ((cp 8), 20, .inl (fun _ => 0))), ((pq 9), .inl ((cp 9), 20, .inl (fun _ => 0))), ((pq 44), .inl ((cp 44), 60, .inl (fun _ => 0))), ((pq 55), .inl ((cp 55), 8, .inl (fun _ => 0))), ((pq 61), .inl ((cp 61), 12, .inl (fun _ => 0)))] H := hP
  have hD : va_D A [(g0, .inr (11, mF pq)), ((pq 0), .inl ((cp 0), 7, .inl (fun _ => 0))), ((pq 1), .inl ((cp 1), 100, .inl (fun _ => 0))), ((pq 2), .inl ((cp 2), 40, .inl (fun _ => 0))), ((pq 3), .inl ((cp 3), 40, .inl (fun _ => 0))), ((pq 4), .inl ((cp 4), 40, .inl (fun _ => 0))), ((pq 6), .inl ((cp 6), 20, .inl (fun _ => 0))), ((pq 7), .inl ((cp 7), 20, .inl (fun _ => 0))), ((pq 8), .inl ((cp 8), 20, .inl (fun _ => 0))), ((pq 9), .inl ((cp 9), 20, .inl (fun _ => 0))), ((pq 44), .inl ((cp 44), 60, .inl (fun _ => 0))), ((pq 55), .inl ((cp 55), 8, .inl (fun _ => 0))), ((pq 61), .inl ((cp 61), 12, .inl (fun _ => 0)))] := hD
  clear hk1 hz1 hvm hB ht hPc hDc hKc hFc
  refine lv_aload_n hx hb dL_law_443 rfl (lv_at hl 1 rfl) ?_
  refine lv_aload_n hx hb dL_law_444 rfl (lv_at hl 3 rfl) ?_
  refine lv_iload_n hx hb dL_law_445 rfl (lv_at hl 0 rfl) ?_
  refine lv_iconst (v := 1) hx hb dL_law_446 (by decide) ?_
  refine lv_iadd hx hb dL_law_447 ?_
  refine lv_topi (fun y ey => ?_)
  obtain rfl : y = 1 := ey.trans (by decide)
  refine va_sld hx hb hX hbl hbA hS (by unfold vp_in; decide) dL_law_448 ?_
  refine lv_aload_n hx hb dL_law_449 rfl (lv_at hl 3 rfl) ?_
  refine lv_iload_n hx hb dL_law_450 rfl (lv_at hl 0 rfl) ?_
  refine lv_iconst (v := 2) hx hb dL_law_451 (by decide) ?_
  refine lv_iadd hx hb dL_law_452 ?_
  refine lv_topi (fun y ey => ?_)
  obtain rfl : y = 2 := ey.trans (by decide)
  refine va_sld hx hb hX hbl hbA hS (by unfold vp_in; decide) dL_law_453 ?_
  have hPc := hP.sub (ws' := [(g0, .inr (11, mF pq)), ((pq 0), .inl ((cp 0), 7, .inl (fun _ => 0)))]) [0, 1] rfl
  have hDc := hD.sub (ws' := [(g0, .inr (11, mF pq)), ((pq 0), .inl ((cp 0), 7, .inl (fun _ => 0)))]) [0, 1] (by decide) rfl
  have hKc := hK.sub (tys' := [((cp 0), .int)]) [8] rfl
  have hFc := va_free (wc := [(g0, .inr (11, mF pq)), ((pq 0), .inl ((cp 0), 7, .inl (fun _ => 0)))]) hD hS hA [0, 1] rfl
  refine va_calli (va_runV (As := [.int (xs (1 : Int32).toNatClampNeg), .int (xs (2 : Int32).toNatClampNeg)]) (rest := [.int r_2]) ⟨hx, hb, hml, hown, hts⟩ (c_X11_lost l dC dI H.size g0 pq cp (xs (1 : Int32).toNatClampNeg) (xs (2 : Int32).toNatClampNeg)) (cwV 2 hts gL_law_X11_lost rfl rfl rfl (by decide +kernel) ⟨(Nat.le_of_ble_eq_true rfl), (Nat.le_of_ble_eq_true rfl)⟩) (pr_V (r := (RX11, TX11, 63)) hPc hKc hDc 0 11 rfl rfl) rfl rfl hl.1 rfl (lv_room (Nat.le_of_ble_eq_true rfl)) dL_law_454 ⟨(Nat.le_of_ble_eq_true rfl), (Nat.le_of_ble_eq_true rfl)⟩) hS (fun q _ h => hFc q h) hFc (fun r_4 u t H locs ht hvm w_3 hB hz1 hk1 hS => ?_)
  clear hk1 hz1 hvm hB ht hPc hDc hKc hFc
  refine lv_icmp_eq (tgt := 1499) hx hb dL_law_457 (by decide) (fun c_5 => ?_) (fun c_5 => absurd c_5 (fun h => h (w_1.trans w_3.symm)))
  exact lc_end (Nat.le_of_ble_eq_true rfl) (Nat.le_of_ble_eq_true rfl) C0 hAq hS hl
set_option maxHeartbeats 4000000 in
set_option maxRecDepth 100000 in
theorem lc_8 {p : Program} {l : Launch} {e : Env} {s : State} {m : MethodId} {below : List Frame} {meth : Method} {c : Code} {b : Nat} {xs : Nat → Int32} {A : Nat → Prop} {dC : Nat → ClassId} {dI : Nat → Nat → Nat} {tL tS h0 g0 : Nat} {q pq : Nat → Nat} {cq cp : Nat → ClassId} (C0 : lw_At p s m meth c b 6 xs) (hA : ∀ q : Nat, s.heap.size ≤ q → A q) (hAq : ∀ q, A q → s.heap.size ≤ q) (hZ : stZ A tL tS s s.heap) {H : Heap} {locs : List Loc} (hK : va_K (dC, dI) vwCl [((cq 15), .int), ((cq 1), .object RX6), ((cq 3), .object RX9), ((cq 90), .int), ((cq 100), .int), ((cq 110), .long), ((cq 112), .int), ((cq 13), .int), ((cp 0), .int), ((cp 1), .int), ((cp 2), .int), ((cp 3), .int), ((cp 4), .int), ((cp 6), .int), ((cp 7), .int), ((cp 8), .int), ((cp 9), .int), ((cp 44), .int), ((cp 55), .int), ((cp 61), .int)] s) (hP : va_P (dC, dI) vwCl [(h0, .inr (10, oF q)), ((q 15), .inl ((cq 15), 7, .inl (fun _ => 0))), ((q 1), .inl ((cq 1), 40, .inr (.inr (.inr (.inr (fun _ => none)))))), ((q 3), .inl ((cq 3), 20, .inr (.inr (.inr (.inr (fun _ => none)))))), ((q 8), .inr (5, [.ref (q 80), .ref (q 81), .int 0])), ((q 9), .inr (8, [.ref (q 90), .int 0, .ref (q 91), .int 0, .int 0, .int 0])), ((q 90), .inl ((cq 90), 60, .inl (fun _ => 0))), ((q 10), .inr (7, [.ref (q 100), .ref (q 101)])), ((q 100), .inl ((cq 100), 100, .inl (fun _ => 0))), ((q 11), .inr (4, [.ref (q 110), .ref (q 111), .int 0, .ref (q 112), .int 0, .int 0])), ((q 110), .inl ((cq 110), 81, .inr (.inl (fun _ => 0)))), ((q 112), .inl ((cq 112), 4, .inl (fun _ => 0))), ((q 13), .inl ((cq 13), 12, .inl (fun _ => 0))), (g0, .inr (11, mF pq)), ((pq 0), .inl ((cp 0), 7, .inl (fun _ => 0))), ((pq 1), .inl ((cp 1), 100, .inl (fun _ => 0))), ((pq 2), .inl ((cp 2), 40, .inl (fun _ => 0))), ((pq 3), .inl ((cp 3), 40, .inl (fun _ => 0))), ((pq 4), .inl ((cp 4), 40, .inl (fun _ => 0))), ((pq 6), .inl ((cp 6), 20, .inl (fun _ => 0))), ((pq 7), .inl ((cp 7), 20, .inl (fun _ => 0))), ((pq 8), .inl ((cp 8), 20, .inl (fun _ => 0))), ((pq 9), .inl ((cp 9), 20, .inl (fun _ => 0))), ((pq 44), .inl ((cp 44), 60, .inl (fun _ => 0))), ((pq 55), .inl ((cp 55), 8, .inl (fun _ => 0))), ((pq 61), .inl ((cp 61), 12, .inl (fun _ => 0)))] H) (hD : va_D A [(h0, .inr (10, oF q)), ((q 15), .inl ((cq 15), 7, .inl (fun _ => 0))), ((q 1), .inl ((cq 1), 40, .inr (.inr (.inr (.inr (fun _ => none)))))), ((q 3), .inl ((cq 3), 20, .inr (.inr (.inr (.inr (fun _ => none)))))), ((q 8), .inr (5, [.ref (q 80), .ref (q 81), .int 0])), ((q 9), .inr (8, [.ref (q 90), .int 0, .ref (q 91), .int 0, .int 0, .int 0])), ((q 90), .inl ((cq 90), 60, .inl (fun _ => 0))), ((q 10), .inr (7, [.ref (q 100), .ref (q 101)])), ((q 100), .inl ((cq 100), 100, .inl (fun _ => 0))), ((q 11), .inr (4, [.ref (q 110), .ref (q 111), .int 0, .ref (q 112), .int 0, .int 0])), ((q 110), .inl ((cq 110), 81, .inr (.inl (fun _ => 0)))), ((q 112), .inl ((cq 112), 4, .inl (fun _ => 0))), ((q 13), .inl ((cq 13), 12, .inl (fun _ => 0))), (g0, .inr (11, mF pq)), ((pq 0), .inl ((cp 0), 7, .inl (fun _ => 0))), ((pq 1), .inl ((cp 1), 100, .inl (fun _ => 0))), ((pq 2), .inl ((cp 2), 40, .inl (fun _ => 0))), ((pq 3), .inl ((cp 3), 40, .inl (fun _ => 0))), ((pq 4), .inl ((cp 4), 40, .inl (fun _ => 0))), ((pq 6), .inl ((cp 6), 20, .inl (fun _ => 0))), ((pq 7), .inl ((cp 7), 20, .inl (fun _ => 0))), ((pq 8), .inl ((cp 8), 20, .inl (fun _ => 0))), ((pq 9), .inl ((cp 9), 20, .inl (fun _ => 0))), ((pq 44), .inl ((cp 44), 60, .inl (fun _ => 0))), ((pq 55), .inl ((cp 55), 8, .inl (fun _ => 0))), ((pq 61), .inl ((cp 61), 12, .inl (fun _ => 0)))]) (hS : va_S A s.heap H locs) {ls : Array Slot} (hl : lv_has ls 4 [(3, .int 0), (2, .ref g0), (1, .ref h0), (0, .ref b)]) : W p l e room_1 s m #[Value.ref b] below meth c H locs 141 20685 (lw_Z below #[Value.ref b] s) (F0 m 462 ls []) := by
  obtain ⟨hx, hb, hr, hml, hown, hts, hX, hbl, hlocks, hgv⟩ := id C0
  have hts := fun w h => hts w (wsL_law_in w h)
  have hown : s.vm.findClass RL = some m.cls := hown
  have hbA : ¬ A b := fun h => Nat.not_le.mpr hbl (hAq b h)
  refine lv_aload_n hx hb dL_law_462 rfl (lv_at hl 2 rfl) ?_
  refine lv_aload_n hx hb dL_law_463 rfl (lv_at hl 3 rfl) ?_
  refine lv_iload_n hx hb dL_law_464 rfl (lv_at hl 0 rfl) ?_
  refine lv_iconst (v := 1) hx hb dL_law_465 (by decide) ?_
  refine lv_iadd hx hb dL_law_466 ?_
  refine lv_topi (fun y ey => ?_)
  obtain rfl : y = 1 := ey.trans (by decide)
  refine va_sld hx hb hX hbl hbA hS (by unfold vp_in; decide) dL_law_467 ?_
  refine lv_aload_n hx hb dL_law_468 rfl (lv_at hl 3 rfl) ?_
  refine lv_iload_n hx hb dL_law_469 rfl (lv_at hl 0 rfl) ?_
  refine lv_iconst (v := 2) hx hb dL_law_470 (by decide) ?_
  refine lv_iadd hx hb dL_law_471 ?_
  refine lv_topi (fun y ey => ?_)
  obtain rfl : y = 2 := ey.trans (by decide)
  refine va_sld hx hb hX hbl hbA hS (by unfold vp_in; decide) dL_law_472 ?_
  refine lv_aload_n hx hb dL_law_473 rfl (lv_at hl 3 rfl) ?_
  refine lv_iload_n hx hb dL_law_474 rfl (lv_at hl 0 rfl) ?_
  refine lv_iconst (v := 3) hx hb dL_law_475 (by decide) ?_
  refine lv_iadd hx hb dL_law_476 ?_
  refine lv_topi (fun y ey => ?_)
  obtain rfl : y = 3 := ey.trans (by decide)
  refine va_sld hx hb hX hbl hbA hS (by unfold vp_in; decide) dL_law_477 ?_
  refine lv_aload_n hx hb dL_law_478 rfl (lv_at hl 3 rfl) ?_
  refine lv_iload_n hx hb dL_law_479 rfl (lv_at hl 0 rfl) ?_
  refine lv_iconst (v := 4) hx hb dL_law_480 (by decide) ?_
  refine lv_iadd hx hb dL_law_481 ?_
  refine lv_topi (fun y ey => ?_)
  obtain rfl : y = 4 := ey.trans (by decide)
  refine va_sld hx hb hX hbl hbA hS (by unfold vp_in; decide) dL_law_482 ?_
  have hPc := hP.sub (ws' := [(h0, .inr (10, oF q)), ((q 15), .inl ((cq 15), 7, .inl (fun _ => 0)))]) [0, 1] rfl
  have hDc := hD.sub (ws' := [(h0, .inr (10, oF q)), ((q 15), .inl ((cq 15), 7, .inl (fun _ => 0)))]) [0, 1] (by decide) rfl
  have hKc := hK.sub (tys' := [((cq 15), .int)]) [0] rfl
  have hFc := va_free (wc := [(h0, .inr (10, oF q)), ((q 15), .inl ((cq 15), 7, .inl (fun _ => 0)))]) hD hS hA [0, 1] rfl
  refine va_calli (va_runV (As := [.int (xs (1 : Int32).toNatClampNeg), .int (xs (2 : Int32).toNatClampNeg), .int (xs (3 : Int32).toNatClampNeg), .int (xs (4 : Int32).toNatClampNeg)]) (rest := []) ⟨hx, hb, hml, hown, hts⟩ (c_X10_left l dC dI H.size h0 q cq (xs (1 : Int32).toNatClampNeg) (xs (2 : Int32).toNatClampNeg) (xs (3 : Int32).toNatClampNeg) (xs (4 : Int32).toNatClampNeg)) (cwV 4 hts gL_law_X10_left rfl rfl rfl (by decide +kernel) ⟨(Nat.le_of_ble_eq_true rfl), (Nat.le_of_ble_eq_true rfl)⟩) (pr_V (r := (RX10, TX10, 16)) hPc hKc hDc 0 10 rfl rfl) rfl rfl hl.1 rfl (lv_room (Nat.le_of_ble_eq_true rfl)) dL_law_483 ⟨(Nat.le_of_ble_eq_true rfl), (Nat.le_of_ble_eq_true rfl)⟩) hS (fun q _ h => hFc q h) hFc (fun r_2 u t H locs ht hvm w_1 hB hz1 hk1 hS => ?_)
  obtain ⟨hP, hD⟩ := va_join (wr := [(g0, .inr (11, mF pq)), ((pq 0), .inl ((cp 0), 7, .inl (fun _ => 0))), ((pq 1), .inl ((cp 1), 100, .inl (fun _ => 0))), ((pq 2), .inl ((cp 2), 40, .inl (fun _ => 0))), ((pq 3), .inl ((cp 3), 40, .inl (fun _ => 0))), ((pq 4), .inl ((cp 4), 40, .inl (fun _ => 0))), ((pq 6), .inl ((cp 6), 20, .inl (fun _ => 0))), ((pq 7), .inl ((cp 7), 20, .inl (fun _ => 0))), ((pq 8), .inl ((cp 8), 20, .inl (fun _ => 0))), ((pq 9), .inl ((cp 9), 20, .inl (fun _ => 0))), ((pq 44), .inl ((cp 44), 60, .inl (fun _ => 0))), ((pq 55), .inl ((cp 55), 8, .inl (fun _ => 0))), ((pq 61), .inl ((cp 61), 12, .inl (fun _ => 0)))]) (w1 := []) hP hD [0, 1] [13, 14, 15, 16, 17, 18, 19, 20, 21, 22, 23, 24, 25] rfl rfl (by decide) (by decide) hk1 hFc vP0 vD0
  have hP : va_P (dC, dI) vwCl [(g0, .inr (11, mF pq)), ((pq 0), .inl ((cp 0), 7, .inl (fun _ => 0))), ((pq 1), .inl ((cp 1), 100, .inl (fun _ => 0))), ((pq 2), .inl ((cp 2), 40, .inl (fun _ => 0))), ((pq 3), .inl ((cp 3), 40, .inl (fun _ => 0))), ((pq 4), .inl ((cp 4), 40, .inl (fun _ => 0))), ((pq 6), .inl ((cp 6), 20, .inl (fun _ => 0))), ((pq 7), .inl ((cp 7), 20, .inl (fun _ => 0))), ((pq 8), .inl ((cp 8), 20, .inl (fun _ => 0))), ((pq 9), .inl ((cp 9), 20, .inl (fun _ => 0))), ((pq 44), .inl ((cp 44), 60, .inl (fun _ => 0))), ((pq 55), .inl ((cp 55), 8, .inl (fun _ => 0))), ((pq 61), .inl ((cp 61), 12, .inl (fun _ => 0)))] H := hP
  have hD : va_D A [(g0, .inr (11, mF pq)), ((pq 0), .inl ((cp 0), 7, .inl (fun _ => 0))), ((pq 1), .inl ((cp 1), 100, .inl (fun _ => 0))), ((pq 2), .inl ((cp 2), 40, .inl (fun _ => 0))), ((pq 3), .inl ((cp 3), 40, .inl (fun _ => 0))), ((pq 4), .inl ((cp 4), 40, .inl (fun _ => 0))), ((pq 6), .inl ((cp 6), 20, .inl (fun _ => 0))), ((pq 7), .inl ((cp 7), 20, .inl (fun _ => 0))), ((pq 8), .inl ((cp 8), 20, .inl (fun _ => 0))), ((pq 9), .inl ((cp 9), 20, .inl (fun _ => 0))), ((pq 44), .inl ((cp 44), 60, .inl (fun _ => 0))), ((pq 55), .inl ((cp 55), 8, .inl (fun _ => 0))), ((pq 61), .inl ((cp 61), 12, .inl (fun _ => 0)))] := hD
  clear hk1 hz1 hvm hB ht hPc hDc hKc hFc
  refine lv_aload_n hx hb dL_law_486 rfl (lv_at hl 1 rfl) ?_
  refine lv_aload_n hx hb dL_law_487 rfl (lv_at hl 3 rfl) ?_
  refine lv_iload_n hx hb dL_law_488 rfl (lv_at hl 0 rfl) ?_
  refine lv_iconst (v := 1) hx hb dL_law_489 (by decide) ?_
  refine lv_iadd hx hb dL_law_490 ?_
  refine lv_topi (fun y ey => ?_)
  obtain rfl : y = 1 := ey.trans (by decide)
  refine va_sld hx hb hX hbl hbA hS (by unfold vp_in; decide) dL_law_491 ?_
  refine lv_aload_n hx hb dL_law_492 rfl (lv_at hl 3 rfl) ?_
  refine lv_iload_n hx hb dL_law_493 rfl (lv_at hl 0 rfl) ?_
  refine lv_iconst (v := 2) hx hb dL_law_494 (by decide) ?_
  refine lv_iadd hx hb dL_law_495 ?_
  refine lv_topi (fun y ey => ?_)
  obtain rfl : y = 2 := ey.trans (by decide)
  refine va_sld hx hb hX hbl hbA hS (by unfold vp_in; decide) dL_law_496 ?_
  refine lv_aload_n hx hb dL_law_497 rfl (lv_at hl 3 rfl) ?_
  refine lv_iload_n hx hb dL_law_498 rfl (lv_at hl 0 rfl) ?_
  refine lv_iconst (v := 3) hx hb dL_law_499 (by decide) ?_
  refine lv_iadd hx hb dL_law_500 ?_
  refine lv_topi (fun y ey => ?_)
  obtain rfl : y = 3 := ey.trans (by decide)
  refine va_sld hx hb hX hbl hbA hS (by unfold vp_in; decide) dL_law_501 ?_
  refine lv_aload_n hx hb dL_law_502 rfl (lv_at hl 3 rfl) ?_
  refine lv_iload_n hx hb dL_law_503 rfl (lv_at hl 0 rfl) ?_
  refine lv_iconst (v := 4) hx hb dL_law_504 (by decide) ?_
  refine lv_iadd hx hb dL_law_505 ?_
  refine lv_topi (fun y ey => ?_)
  obtain rfl : y = 4 := ey.trans (by decide)
  refine va_sld hx hb hX hbl hbA hS (by unfold vp_in; decide) dL_law_506 ?_
  have hPc := hP.sub (ws' := [(g0, .inr (11, mF pq)), ((pq 0), .inl ((cp 0), 7, .inl (fun _ => 0)))]) [0, 1] rfl
  have hDc := hD.sub (ws' := [(g0, .inr (11, mF pq)), ((pq 0), .inl ((cp 0), 7, .inl (fun _ => 0)))]) [0, 1] (by decide) rfl
  have hKc := hK.sub (tys' := [((cp 0), .int)]) [8] rfl
  have hFc := va_free (wc := [(g0, .inr (11, mF pq)), ((pq 0), .inl ((cp 0), 7, .inl (fun _ => 0)))]) hD hS hA [0, 1] rfl
  refine va_calli (va_runV (As := [.int (xs (1 : Int32).toNatClampNeg), .int (xs (2 : Int32).toNatClampNeg), .int (xs (3 : Int32).toNatClampNeg), .int (xs (4 : Int32).toNatClampNeg)]) (rest := [.int r_2]) ⟨hx, hb, hml, hown, hts⟩ (c_X11_left l dC dI H.size g0 pq cp (xs (1 : Int32).toNatClampNeg) (xs (2 : Int32).toNatClampNeg) (xs (3 : Int32).toNatClampNeg) (xs (4 : Int32).toNatClampNeg)) (cwV 4 hts gL_law_X11_left rfl rfl rfl (by decide +kernel) ⟨(Nat.le_of_ble_eq_true rfl), (Nat.le_of_ble_eq_true rfl)⟩) (pr_V (r := (RX11, TX11, 63)) hPc hKc hDc 0 11 rfl rfl) rfl rfl hl.1 rfl (lv_room (Nat.le_of_ble_eq_true rfl)) dL_law_507 ⟨(Nat.le_of_ble_eq_true rfl), (Nat.le_of_ble_eq_true rfl)⟩) hS (fun q _ h => hFc q h) hFc (fun r_4 u t H locs ht hvm w_3 hB hz1 hk1 hS => ?_)
  clear hk1 hz1 hvm hB ht hPc hDc hKc hFc
  refine lv_icmp_eq (tgt := 1499) hx hb dL_law_510 (by decide) (fun c_5 => ?_) (fun c_5 => absurd c_5 (fun h => h (w_1.trans w_3.symm)))
  exact lc_end (Nat.le_of_ble_eq_true rfl) (Nat.le_of_ble_eq_true rfl) C0 hAq hS hl
set_option maxHeartbeats 4000000 in
set_option maxRecDepth 100000 in
theorem lc_9 {p : Program} {l : Launch} {e : Env} {s : State} {m : MethodId} {below : List Frame} {meth : Method} {c : Code} {b : Nat} {xs : Nat → Int32} {A : Nat → Prop} {dC : Nat → ClassId} {dI : Nat → Nat → Nat} {tL tS h0 g0 : Nat} {q pq : Nat → Nat} {cq cp : Nat → ClassId} (C0 : lw_At p s m meth c b 6 xs) (hA : ∀ q : Nat, s.heap.size ≤ q → A q) (hAq : ∀ q, A q → s.heap.size ≤ q) (hZ : stZ A tL tS s s.heap) {H : Heap} {locs : List Loc} (hK : va_K (dC, dI) vwCl [((cq 15), .int), ((cq 1), .object RX6), ((cq 3), .object RX9), ((cq 90), .int), ((cq 100), .int), ((cq 110), .long), ((cq 112), .int), ((cq 13), .int), ((cp 0), .int), ((cp 1), .int), ((cp 2), .int), ((cp 3), .int), ((cp 4), .int), ((cp 6), .int), ((cp 7), .int), ((cp 8), .int), ((cp 9), .int), ((cp 44), .int), ((cp 55), .int), ((cp 61), .int)] s) (hP : va_P (dC, dI) vwCl [(h0, .inr (10, oF q)), ((q 15), .inl ((cq 15), 7, .inl (fun _ => 0))), ((q 1), .inl ((cq 1), 40, .inr (.inr (.inr (.inr (fun _ => none)))))), ((q 3), .inl ((cq 3), 20, .inr (.inr (.inr (.inr (fun _ => none)))))), ((q 8), .inr (5, [.ref (q 80), .ref (q 81), .int 0])), ((q 9), .inr (8, [.ref (q 90), .int 0, .ref (q 91), .int 0, .int 0, .int 0])), ((q 90), .inl ((cq 90), 60, .inl (fun _ => 0))), ((q 10), .inr (7, [.ref (q 100), .ref (q 101)])), ((q 100), .inl ((cq 100), 100, .inl (fun _ => 0))), ((q 11), .inr (4, [.ref (q 110), .ref (q 111), .int 0, .ref (q 112), .int 0, .int 0])), ((q 110), .inl ((cq 110), 81, .inr (.inl (fun _ => 0)))), ((q 112), .inl ((cq 112), 4, .inl (fun _ => 0))), ((q 13), .inl ((cq 13), 12, .inl (fun _ => 0))), (g0, .inr (11, mF pq)), ((pq 0), .inl ((cp 0), 7, .inl (fun _ => 0))), ((pq 1), .inl ((cp 1), 100, .inl (fun _ => 0))), ((pq 2), .inl ((cp 2), 40, .inl (fun _ => 0))), ((pq 3), .inl ((cp 3), 40, .inl (fun _ => 0))), ((pq 4), .inl ((cp 4), 40, .inl (fun _ => 0))), ((pq 6), .inl ((cp 6), 20, .inl (fun _ => 0))), ((pq 7), .inl ((cp 7), 20, .inl (fun _ => 0))), ((pq 8), .inl ((cp 8), 20, .inl (fun _ => 0))), ((pq 9), .inl ((cp 9), 20, .inl (fun _ => 0))), ((pq 44), .inl ((cp 44), 60, .inl (fun _ => 0))), ((pq 55), .inl ((cp 55), 8, .inl (fun _ => 0))), ((pq 61), .inl ((cp 61), 12, .inl (fun _ => 0)))] H) (hD : va_D A [(h0, .inr (10, oF q)), ((q 15), .inl ((cq 15), 7, .inl (fun _ => 0))), ((q 1), .inl ((cq 1), 40, .inr (.inr (.inr (.inr (fun _ => none)))))), ((q 3), .inl ((cq 3), 20, .inr (.inr (.inr (.inr (fun _ => none)))))), ((q 8), .inr (5, [.ref (q 80), .ref (q 81), .int 0])), ((q 9), .inr (8, [.ref (q 90), .int 0, .ref (q 91), .int 0, .int 0, .int 0])), ((q 90), .inl ((cq 90), 60, .inl (fun _ => 0))), ((q 10), .inr (7, [.ref (q 100), .ref (q 101)])), ((q 100), .inl ((cq 100), 100, .inl (fun _ => 0))), ((q 11), .inr (4, [.ref (q 110), .ref (q 111), .int 0, .ref (q 112), .int 0, .int 0])), ((q 110), .inl ((cq 110), 81, .inr (.inl (fun _ => 0)))), ((q 112), .inl ((cq 112), 4, .inl (fun _ => 0))), ((q 13), .inl ((cq 13), 12, .inl (fun _ => 0))), (g0, .inr (11, mF pq)), ((pq 0), .inl ((cp 0), 7, .inl (fun _ => 0))), ((pq 1), .inl ((cp 1), 100, .inl (fun _ => 0))), ((pq 2), .inl ((cp 2), 40, .inl (fun _ => 0))), ((pq 3), .inl ((cp 3), 40, .inl (fun _ => 0))), ((pq 4), .inl ((cp 4), 40, .inl (fun _ => 0))), ((pq 6), .inl ((cp 6), 20, .inl (fun _ => 0))), ((pq 7), .inl ((cp 7), 20, .inl (fun _ => 0))), ((pq 8), .inl ((cp 8), 20, .inl (fun _ => 0))), ((pq 9), .inl ((cp 9), 20, .inl (fun _ => 0))), ((pq 44), .inl ((cp 44), 60, .inl (fun _ => 0))), ((pq 55), .inl ((cp 55), 8, .inl (fun _ => 0))), ((pq 61), .inl ((cp 61), 12, .inl (fun _ => 0)))]) (hS : va_S A s.heap H locs) {ls : Array Slot} (hl : lv_has ls 4 [(3, .int 0), (2, .ref g0), (1, .ref h0), (0, .ref b)]) : W p l e room_1 s m #[Value.ref b] below meth c H locs 141 20685 (lw_Z below #[Value.ref b] s) (F0 m 515 ls []) := by
  obtain ⟨hx, hb, hr, hml, hown, hts, hX, hbl, hlocks, hgv⟩ := id C0
  have hts := fun w h => hts w (wsL_law_in w h)
  have hown : s.vm.findClass RL = some m.cls := hown
  have hbA : ¬ A b := fun h => Nat.not_le.mpr hbl (hAq b h)
  refine lv_aload_n hx hb dL_law_515 rfl (lv_at hl 2 rfl) ?_
  refine lv_aload_n hx hb dL_law_516 rfl (lv_at hl 3 rfl) ?_
  refine lv_iload_n hx hb dL_law_517 rfl (lv_at hl 0 rfl) ?_
  refine lv_iconst (v := 1) hx hb dL_law_518 (by decide) ?_
  refine lv_iadd hx hb dL_law_519 ?_
  refine lv_topi (fun y ey => ?_)
  obtain rfl : y = 1 := ey.trans (by decide)
  refine va_sld hx hb hX hbl hbA hS (by unfold vp_in; decide) dL_law_520 ?_
  refine lv_aload_n hx hb dL_law_521 rfl (lv_at hl 3 rfl) ?_
  refine lv_iload_n hx hb dL_law_522 rfl (lv_at hl 0 rfl) ?_
  refine lv_iconst (v := 2) hx hb dL_law_523 (by decide) ?_
  refine lv_iadd hx hb dL_law_524 ?_
  refine lv_topi (fun y ey => ?_)
  obtain rfl : y = 2 := ey.trans (by decide)
  refine va_sld hx hb hX hbl hbA hS (by unfold vp_in; decide) dL_law_525 ?_
  have hPc := hP.sub (ws' := [(h0, .inr (10, oF q)), ((q 15), .inl ((cq 15), 7, .inl (fun _ => 0)))]) [0, 1] rfl
  have hDc := hD.sub (ws' := [(h0, .inr (10, oF q)), ((q 15), .inl ((cq 15), 7, .inl (fun _ => 0)))]) [0, 1] (by decide) rfl
  have hKc := hK.sub (tys' := [((cq 15), .int)]) [0] rfl
  have hFc := va_free (wc := [(h0, .inr (10, oF q)), ((q 15), .inl ((cq 15), 7, .inl (fun _ => 0)))]) hD hS hA [0, 1] rfl
  refine va_calli (va_runV (As := [.int (xs (1 : Int32).toNatClampNeg), .int (xs (2 : Int32).toNatClampNeg)]) (rest := []) ⟨hx, hb, hml, hown, hts⟩ (c_X10_died l dC dI H.size h0 q cq (xs (1 : Int32).toNatClampNeg) (xs (2 : Int32).toNatClampNeg)) (cwV 2 hts gL_law_X10_died rfl rfl rfl (by decide +kernel) ⟨(Nat.le_of_ble_eq_true rfl), (Nat.le_of_ble_eq_true rfl)⟩) (pr_V (r := (RX10, TX10, 16)) hPc hKc hDc 0 10 rfl rfl) rfl rfl hl.1 rfl (lv_room (Nat.le_of_ble_eq_true rfl)) dL_law_526 ⟨(Nat.le_of_ble_eq_true rfl), (Nat.le_of_ble_eq_true rfl)⟩) hS (fun q _ h => hFc q h) hFc (fun r_2 u t H locs ht hvm w_1 hB hz1 hk1 hS => ?_)
  obtain ⟨hP, hD⟩ := va_join (wr := [(g0, .inr (11, mF pq)), ((pq 0), .inl ((cp 0), 7, .inl (fun _ => 0))), ((pq 1), .inl ((cp 1), 100, .inl (fun _ => 0))), ((pq 2), .inl ((cp 2), 40, .inl (fun _ => 0))), ((pq 3), .inl ((cp 3), 40, .inl (fun _ => 0))), ((pq 4), .inl ((cp 4), 40, .inl (fun _ => 0))), ((pq 6), .inl ((cp 6), 20, .inl (fun _ => 0))), ((pq 7), .inl ((cp 7), 20, .inl (fun _ => 0))), ((pq 8), .inl ((cp 8), 20, .inl (fun _ => 0))), ((pq 9), .inl ((cp 9), 20, .inl (fun _ => 0))), ((pq 44), .inl ((cp 44), 60, .inl (fun _ => 0))), ((pq 55), .inl ((cp 55), 8, .inl (fun _ => 0))), ((pq 61), .inl ((cp 61), 12, .inl (fun _ => 0)))]) (w1 := []) hP hD [0, 1] [13, 14, 15, 16, 17, 18, 19, 20, 21, 22, 23, 24, 25] rfl rfl (by decide) (by decide) hk1 hFc vP0 vD0
  have hP : va_P (dC, dI) vwCl [(g0, .inr (11, mF pq)), ((pq 0), .inl ((cp 0), 7, .inl (fun _ => 0))), ((pq 1), .inl ((cp 1), 100, .inl (fun _ => 0))), ((pq 2), .inl ((cp 2), 40, .inl (fun _ => 0))), ((pq 3), .inl ((cp 3), 40, .inl (fun _ => 0))), ((pq 4), .inl ((cp 4), 40, .inl (fun _ => 0))), ((pq 6), .inl ((cp 6), 20, .inl (fun _ => 0))), ((pq 7), .inl ((cp 7), 20, .inl (fun _ => 0))), ((pq 8), .inl ((cp 8), 20, .inl (fun _ => 0))), ((pq 9), .inl ((cp 9), 20, .inl (fun _ => 0))), ((pq 44), .inl ((cp 44), 60, .inl (fun _ => 0))), ((pq 55), .inl ((cp 55), 8, .inl (fun _ => 0))), ((pq 61), .inl ((cp 61), 12, .inl (fun _ => 0)))] H := hP
  have hD : va_D A [(g0, .inr (11, mF pq)), ((pq 0), .inl ((cp 0), 7, .inl (fun _ => 0))), ((pq 1), .inl ((cp 1), 100, .inl (fun _ => 0))), ((pq 2), .inl ((cp 2), 40, .inl (fun _ => 0))), ((pq 3), .inl ((cp 3), 40, .inl (fun _ => 0))), ((pq 4), .inl ((cp 4), 40, .inl (fun _ => 0))), ((pq 6), .inl ((cp 6), 20, .inl (fun _ => 0))), ((pq 7), .inl ((cp 7), 20, .inl (fun _ => 0))), ((pq 8), .inl ((cp 8), 20, .inl (fun _ => 0))), ((pq 9), .inl ((cp 9), 20, .inl (fun _ => 0))), ((pq 44), .inl ((cp 44), 60, .inl (fun _ => 0))), ((pq 55), .inl ((cp 55), 8, .inl (fun _ => 0))), ((pq 61), .inl ((cp 61), 12, .inl (fun _ => 0)))] := hD
  clear hk1 hz1 hvm hB ht hPc hDc hKc hFc
  refine lv_aload_n hx hb dL_law_529 rfl (lv_at hl 1 rfl) ?_
  refine lv_aload_n hx hb dL_law_530 rfl (lv_at hl 3 rfl) ?_
  refine lv_iload_n hx hb dL_law_531 rfl (lv_at hl 0 rfl) ?_
  refine lv_iconst (v := 1) hx hb dL_law_532 (by decide) ?_
  refine lv_iadd hx hb dL_law_533 ?_
  refine lv_topi (fun y ey => ?_)
  obtain rfl : y = 1 := ey.trans (by decide)
  refine va_sld hx hb hX hbl hbA hS (by unfold vp_in; decide) dL_law_534 ?_
  refine lv_aload_n hx hb dL_law_535 rfl (lv_at hl 3 rfl) ?_
  refine lv_iload_n hx hb dL_law_536 rfl (lv_at hl 0 rfl) ?_
  refine lv_iconst (v := 2) hx hb dL_law_537 (by decide) ?_
  refine lv_iadd hx hb dL_law_538 ?_
  refine lv_topi (fun y ey => ?_)
  obtain rfl : y = 2 := ey.trans (by decide)
  refine va_sld hx hb hX hbl hbA hS (by unfold vp_in; decide) dL_law_539 ?_
  have hPc := hP.sub (ws' := [(g0, .inr (11, mF pq)), ((pq 0), .inl ((cp 0), 7, .inl (fun _ => 0)))]) [0, 1] rfl
  have hDc := hD.sub (ws' := [(g0, .inr (11, mF pq)), ((pq 0), .inl ((cp 0), 7, .inl (fun _ => 0)))]) [0, 1] (by decide) rfl
  have hKc := hK.sub (tys' := [((cp 0), .int)]) [8] rfl
  have hFc := va_free (wc := [(g0, .inr (11, mF pq)), ((pq 0), .inl ((cp 0), 7, .inl (fun _ => 0)))]) hD hS hA [0, 1] rfl
  refine va_calli (va_runV (As := [.int (xs (1 : Int32).toNatClampNeg), .int (xs (2 : Int32).toNatClampNeg)]) (rest := [.int r_2]) ⟨hx, hb, hml, hown, hts⟩ (c_X11_died l dC dI H.size g0 pq cp (xs (1 : Int32).toNatClampNeg) (xs (2 : Int32).toNatClampNeg)) (cwV 2 hts gL_law_X11_died rfl rfl rfl (by decide +kernel) ⟨(Nat.le_of_ble_eq_true rfl), (Nat.le_of_ble_eq_true rfl)⟩) (pr_V (r := (RX11, TX11, 63)) hPc hKc hDc 0 11 rfl rfl) rfl rfl hl.1 rfl (lv_room (Nat.le_of_ble_eq_true rfl)) dL_law_540 ⟨(Nat.le_of_ble_eq_true rfl), (Nat.le_of_ble_eq_true rfl)⟩) hS (fun q _ h => hFc q h) hFc (fun r_4 u t H locs ht hvm w_3 hB hz1 hk1 hS => ?_)
  clear hk1 hz1 hvm hB ht hPc hDc hKc hFc
  refine lv_icmp_eq (tgt := 1499) hx hb dL_law_543 (by decide) (fun c_5 => ?_) (fun c_5 => absurd c_5 (fun h => h (w_1.trans w_3.symm)))
  exact lc_end (Nat.le_of_ble_eq_true rfl) (Nat.le_of_ble_eq_true rfl) C0 hAq hS hl
set_option maxHeartbeats 4000000 in
set_option maxRecDepth 100000 in
theorem lc_10 {p : Program} {l : Launch} {e : Env} {s : State} {m : MethodId} {below : List Frame} {meth : Method} {c : Code} {b : Nat} {xs : Nat → Int32} {A : Nat → Prop} {dC : Nat → ClassId} {dI : Nat → Nat → Nat} {tL tS h0 g0 : Nat} {q pq : Nat → Nat} {cq cp : Nat → ClassId} (C0 : lw_At p s m meth c b 6 xs) (hA : ∀ q : Nat, s.heap.size ≤ q → A q) (hAq : ∀ q, A q → s.heap.size ≤ q) (hZ : stZ A tL tS s s.heap) {H : Heap} {locs : List Loc} (hK : va_K (dC, dI) vwCl [((cq 15), .int), ((cq 1), .object RX6), ((cq 3), .object RX9), ((cq 90), .int), ((cq 100), .int), ((cq 110), .long), ((cq 112), .int), ((cq 13), .int), ((cp 0), .int), ((cp 1), .int), ((cp 2), .int), ((cp 3), .int), ((cp 4), .int), ((cp 6), .int), ((cp 7), .int), ((cp 8), .int), ((cp 9), .int), ((cp 44), .int), ((cp 55), .int), ((cp 61), .int)] s) (hP : va_P (dC, dI) vwCl [(h0, .inr (10, oF q)), ((q 15), .inl ((cq 15), 7, .inl (fun _ => 0))), ((q 1), .inl ((cq 1), 40, .inr (.inr (.inr (.inr (fun _ => none)))))), ((q 3), .inl ((cq 3), 20, .inr (.inr (.inr (.inr (fun _ => none)))))), ((q 8), .inr (5, [.ref (q 80), .ref (q 81), .int 0])), ((q 9), .inr (8, [.ref (q 90), .int 0, .ref (q 91), .int 0, .int 0, .int 0])), ((q 90), .inl ((cq 90), 60, .inl (fun _ => 0))), ((q 10), .inr (7, [.ref (q 100), .ref (q 101)])), ((q 100), .inl ((cq 100), 100, .inl (fun _ => 0))), ((q 11), .inr (4, [.ref (q 110), .ref (q 111), .int 0, .ref (q 112), .int 0, .int 0])), ((q 110), .inl ((cq 110), 81, .inr (.inl (fun _ => 0)))), ((q 112), .inl ((cq 112), 4, .inl (fun _ => 0))), ((q 13), .inl ((cq 13), 12, .inl (fun _ => 0))), (g0, .inr (11, mF pq)), ((pq 0), .inl ((cp 0), 7, .inl (fun _ => 0))), ((pq 1), .inl ((cp 1), 100, .inl (fun _ => 0))), ((pq 2), .inl ((cp 2), 40, .inl (fun _ => 0))), ((pq 3), .inl ((cp 3), 40, .inl (fun _ => 0))), ((pq 4), .inl ((cp 4), 40, .inl (fun _ => 0))), ((pq 6), .inl ((cp 6), 20, .inl (fun _ => 0))), ((pq 7), .inl ((cp 7), 20, .inl (fun _ => 0))), ((pq 8), .inl ((cp 8), 20, .inl (fun _ => 0))), ((pq 9), .inl ((cp 9), 20, .inl (fun _ => 0))), ((pq 44), .inl ((cp 44), 60, .inl (fun _ => 0))), ((pq 55), .inl ((cp 55), 8, .inl (fun _ => 0))), ((pq 61), .inl ((cp 61), 12, .inl (fun _ => 0)))] H) (hD : va_D A [(h0, .inr (10, oF q)), ((q 15), .inl ((cq 15), 7, .inl (fun _ => 0))), ((q 1), .inl ((cq 1), 40, .inr (.inr (.inr (.inr (fun _ => none)))))), ((q 3), .inl ((cq 3), 20, .inr (.inr (.inr (.inr (fun _ => none)))))), ((q 8), .inr (5, [.ref (q 80), .ref (q 81), .int 0])), ((q 9), .inr (8, [.ref (q 90), .int 0, .ref (q 91), .int 0, .int 0, .int 0])), ((q 90), .inl ((cq 90), 60, .inl (fun _ => 0))), ((q 10), .inr (7, [.ref (q 100), .ref (q 101)])), ((q 100), .inl ((cq 100), 100, .inl (fun _ => 0))), ((q 11), .inr (4, [.ref (q 110), .ref (q 111), .int 0, .ref (q 112), .int 0, .int 0])), ((q 110), .inl ((cq 110), 81, .inr (.inl (fun _ => 0)))), ((q 112), .inl ((cq 112), 4, .inl (fun _ => 0))), ((q 13), .inl ((cq 13), 12, .inl (fun _ => 0))), (g0, .inr (11, mF pq)), ((pq 0), .inl ((cp 0), 7, .inl (fun _ => 0))), ((pq 1), .inl ((cp 1), 100, .inl (fun _ => 0))), ((pq 2), .inl ((cp 2), 40, .inl (fun _ => 0))), ((pq 3), .inl ((cp 3), 40, .inl (fun _ => 0))), ((pq 4), .inl ((cp 4), 40, .inl (fun _ => 0))), ((pq 6), .inl ((cp 6), 20, .inl (fun _ => 0))), ((pq 7), .inl ((cp 7), 20, .inl (fun _ => 0))), ((pq 8), .inl ((cp 8), 20, .inl (fun _ => 0))), ((pq 9), .inl ((cp 9), 20, .inl (fun _ => 0))), ((pq 44), .inl ((cp 44), 60, .inl (fun _ => 0))), ((pq 55), .inl ((cp 55), 8, .inl (fun _ => 0))), ((pq 61), .inl ((cp 61), 12, .inl (fun _ => 0)))]) (hS : va_S A s.heap H locs) {ls : Array Slot} (hl : lv_has ls 4 [(3, .int 0), (2, .ref g0), (1, .ref h0), (0, .ref b)]) : W p l e room_1 s m #[Value.ref b] below meth c H locs 141 20685 (lw_Z below #[Value.ref b] s) (F0 m 548 ls []) := by
  obtain ⟨hx, hb, hr, hml, hown, hts, hX, hbl, hlocks, hgv⟩ := id C0
  have hts := fun w h => hts w (wsL_law_in w h)
  have hown : s.vm.findClass RL = some m.cls := hown
  have hbA : ¬ A b := fun h => Nat.not_le.mpr hbl (hAq b h)
  refine lv_aload_n hx hb dL_law_548 rfl (lv_at hl 2 rfl) ?_
  refine lv_aload_n hx hb dL_law_549 rfl (lv_at hl 3 rfl) ?_
  refine lv_iload_n hx hb dL_law_550 rfl (lv_at hl 0 rfl) ?_
  refine lv_iconst (v := 1) hx hb dL_law_551 (by decide) ?_
  refine lv_iadd hx hb dL_law_552 ?_
  refine lv_topi (fun y ey => ?_)
  obtain rfl : y = 1 := ey.trans (by decide)
  refine va_sld hx hb hX hbl hbA hS (by unfold vp_in; decide) dL_law_553 ?_
  refine lv_aload_n hx hb dL_law_554 rfl (lv_at hl 3 rfl) ?_
  refine lv_iload_n hx hb dL_law_555 rfl (lv_at hl 0 rfl) ?_
  refine lv_iconst (v := 2) hx hb dL_law_556 (by decide) ?_
  refine lv_iadd hx hb dL_law_557 ?_
  refine lv_topi (fun y ey => ?_)
  obtain rfl : y = 2 := ey.trans (by decide)
  refine va_sld hx hb hX hbl hbA hS (by unfold vp_in; decide) dL_law_558 ?_
  have hPc := hP.sub (ws' := [(h0, .inr (10, oF q)), ((q 15), .inl ((cq 15), 7, .inl (fun _ => 0)))]) [0, 1] rfl
  have hDc := hD.sub (ws' := [(h0, .inr (10, oF q)), ((q 15), .inl ((cq 15), 7, .inl (fun _ => 0)))]) [0, 1] (by decide) rfl
  have hKc := hK.sub (tys' := [((cq 15), .int)]) [0] rfl
  have hFc := va_free (wc := [(h0, .inr (10, oF q)), ((q 15), .inl ((cq 15), 7, .inl (fun _ => 0)))]) hD hS hA [0, 1] rfl
  refine va_calli (va_runV (As := [.int (xs (1 : Int32).toNatClampNeg), .int (xs (2 : Int32).toNatClampNeg)]) (rest := []) ⟨hx, hb, hml, hown, hts⟩ (c_X10_back l dC dI H.size h0 q cq (xs (1 : Int32).toNatClampNeg) (xs (2 : Int32).toNatClampNeg)) (cwV 2 hts gL_law_X10_back rfl rfl rfl (by decide +kernel) ⟨(Nat.le_of_ble_eq_true rfl), (Nat.le_of_ble_eq_true rfl)⟩) (pr_V (r := (RX10, TX10, 16)) hPc hKc hDc 0 10 rfl rfl) rfl rfl hl.1 rfl (lv_room (Nat.le_of_ble_eq_true rfl)) dL_law_559 ⟨(Nat.le_of_ble_eq_true rfl), (Nat.le_of_ble_eq_true rfl)⟩) hS (fun q _ h => hFc q h) hFc (fun r_2 u t H locs ht hvm w_1 hB hz1 hk1 hS => ?_)
  obtain ⟨hP, hD⟩ := va_join (wr := [(g0, .inr (11, mF pq)), ((pq 0), .inl ((cp 0), 7, .inl (fun _ => 0))), ((pq 1), .inl ((cp 1), 100, .inl (fun _ => 0))), ((pq 2), .inl ((cp 2), 40, .inl (fun _ => 0))), ((pq 3), .inl ((cp 3), 40, .inl (fun _ => 0))), ((pq 4), .inl ((cp 4), 40, .inl (fun _ => 0))), ((pq 6), .inl ((cp 6), 20, .inl (fun _ => 0))), ((pq 7), .inl ((cp 7), 20, .inl (fun _ => 0))), ((pq 8), .inl ((cp 8), 20, .inl (fun _ => 0))), ((pq 9), .inl ((cp 9), 20, .inl (fun _ => 0))), ((pq 44), .inl ((cp 44), 60, .inl (fun _ => 0))), ((pq 55), .inl ((cp 55), 8, .inl (fun _ => 0))), ((pq 61), .inl ((cp 61), 12, .inl (fun _ => 0)))]) (w1 := []) hP hD [0, 1] [13, 14, 15, 16, 17, 18, 19, 20, 21, 22, 23, 24, 25] rfl rfl (by decide) (by decide) hk1 hFc vP0 vD0
  have hP : va_P (dC, dI) vwCl [(g0, .inr (11, mF pq)), ((pq 0), .inl ((cp 0), 7, .inl (fun _ => 0))), ((pq 1), .inl ((cp 1), 100, .inl (fun _ => 0))), ((pq 2), .inl ((cp 2), 40, .inl (fun _ => 0))), ((pq 3), .inl ((cp 3), 40, .inl (fun _ => 0))), ((pq 4), .inl ((cp 4), 40, .inl (fun _ => 0))), ((pq 6), .inl ((cp 6), 20, .inl (fun _ => 0))), ((pq 7), .inl ((cp 7), 20, .inl (fun _ => 0))), ((pq 8), .inl ((cp 8), 20, .inl (fun _ => 0))), ((pq 9), .inl ((cp 9), 20, .inl (fun _ => 0))), ((pq 44), .inl ((cp 44), 60, .inl (fun _ => 0))), ((pq 55), .inl ((cp 55), 8, .inl (fun _ => 0))), ((pq 61), .inl ((cp 61), 12, .inl (fun _ => 0)))] H := hP
  have hD : va_D A [(g0, .inr (11, mF pq)), ((pq 0), .inl ((cp 0), 7, .inl (fun _ => 0))), ((pq 1), .inl ((cp 1), 100, .inl (fun _ => 0))), ((pq 2), .inl ((cp 2), 40, .inl (fun _ => 0))), ((pq 3), .inl ((cp 3), 40, .inl (fun _ => 0))), ((pq 4), .inl ((cp 4), 40, .inl (fun _ => 0))), ((pq 6), .inl ((cp 6), 20, .inl (fun _ => 0))), ((pq 7), .inl ((cp 7), 20, .inl (fun _ => 0))), ((pq 8), .inl ((cp 8), 20, .inl (fun _ => 0))), ((pq 9), .inl ((cp 9), 20, .inl (fun _ => 0))), ((pq 44), .inl ((cp 44), 60, .inl (fun _ => 0))), ((pq 55), .inl ((cp 55), 8, .inl (fun _ => 0))), ((pq 61), .inl ((cp 61), 12, .inl (fun _ => 0)))] := hD
  clear hk1 hz1 hvm hB ht hPc hDc hKc hFc
  refine lv_aload_n hx hb dL_law_562 rfl (lv_at hl 1 rfl) ?_
  refine lv_aload_n hx hb dL_law_563 rfl (lv_at hl 3 rfl) ?_
  refine lv_iload_n hx hb dL_law_564 rfl (lv_at hl 0 rfl) ?_
  refine lv_iconst (v := 1) hx hb dL_law_565 (by decide) ?_
  refine lv_iadd hx hb dL_law_566 ?_
  refine lv_topi (fun y ey => ?_)
  obtain rfl : y = 1 := ey.trans (by decide)
  refine va_sld hx hb hX hbl hbA hS (by unfold vp_in; decide) dL_law_567 ?_
  refine lv_aload_n hx hb dL_law_568 rfl (lv_at hl 3 rfl) ?_
  refine lv_iload_n hx hb dL_law_569 rfl (lv_at hl 0 rfl) ?_
  refine lv_iconst (v := 2) hx hb dL_law_570 (by decide) ?_
  refine lv_iadd hx hb dL_law_571 ?_
  refine lv_topi (fun y ey => ?_)
  obtain rfl : y = 2 := ey.trans (by decide)
  refine va_sld hx hb hX hbl hbA hS (by unfold vp_in; decide) dL_law_572 ?_
  have hPc := hP.sub (ws' := [(g0, .inr (11, mF pq)), ((pq 0), .inl ((cp 0), 7, .inl (fun _ => 0)))]) [0, 1] rfl
  have hDc := hD.sub (ws' := [(g0, .inr (11, mF pq)), ((pq 0), .inl ((cp 0), 7, .inl (fun _ => 0)))]) [0, 1] (by decide) rfl
  have hKc := hK.sub (tys' := [((cp 0), .int)]) [8] rfl
  have hFc := va_free (wc := [(g0, .inr (11, mF pq)), ((pq 0), .inl ((cp 0), 7, .inl (fun _ => 0)))]) hD hS hA [0, 1] rfl
  refine va_calli (va_runV (As := [.int (xs (1 : Int32).toNatClampNeg), .int (xs (2 : Int32).toNatClampNeg)]) (rest := [.int r_2]) ⟨hx, hb, hml, hown, hts⟩ (c_X11_back l dC dI H.size g0 pq cp (xs (1 : Int32).toNatClampNeg) (xs (2 : Int32).toNatClampNeg)) (cwV 2 hts gL_law_X11_back rfl rfl rfl (by decide +kernel) ⟨(Nat.le_of_ble_eq_true rfl), (Nat.le_of_ble_eq_true rfl)⟩) (pr_V (r := (RX11, TX11, 63)) hPc hKc hDc 0 11 rfl rfl) rfl rfl hl.1 rfl (lv_room (Nat.le_of_ble_eq_true rfl)) dL_law_573 ⟨(Nat.le_of_ble_eq_true rfl), (Nat.le_of_ble_eq_true rfl)⟩) hS (fun q _ h => hFc q h) hFc (fun r_4 u t H locs ht hvm w_3 hB hz1 hk1 hS => ?_)
  clear hk1 hz1 hvm hB ht hPc hDc hKc hFc
  refine lv_icmp_eq (tgt := 1499) hx hb dL_law_576 (by decide) (fun c_5 => ?_) (fun c_5 => absurd c_5 (fun h => h (w_1.trans w_3.symm)))
  exact lc_end (Nat.le_of_ble_eq_true rfl) (Nat.le_of_ble_eq_true rfl) C0 hAq hS hl
set_option maxHeartbeats 4000000 in
set_option maxRecDepth 100000 in
theorem lc_11 {p : Program} {l : Launch} {e : Env} {s : State} {m : MethodId} {below : List Frame} {meth : Method} {c : Code} {b : Nat} {xs : Nat → Int32} {A : Nat → Prop} {dC : Nat → ClassId} {dI : Nat → Nat → Nat} {tL tS h0 g0 : Nat} {q pq : Nat → Nat} {cq cp : Nat → ClassId} (C0 : lw_At p s m meth c b 6 xs) (hA : ∀ q : Nat, s.heap.size ≤ q → A q) (hAq : ∀ q, A q → s.heap.size ≤ q) (hZ : stZ A tL tS s s.heap) {H : Heap} {locs : List Loc} (hK : va_K (dC, dI) vwCl [((cq 15), .int), ((cq 1), .object RX6), ((cq 3), .object RX9), ((cq 90), .int), ((cq 100), .int), ((cq 110), .long), ((cq 112), .int), ((cq 13), .int), ((cp 0), .int), ((cp 1), .int), ((cp 2), .int), ((cp 3), .int), ((cp 4), .int), ((cp 6), .int), ((cp 7), .int), ((cp 8), .int), ((cp 9), .int), ((cp 44), .int), ((cp 55), .int), ((cp 61), .int)] s) (hP : va_P (dC, dI) vwCl [(h0, .inr (10, oF q)), ((q 15), .inl ((cq 15), 7, .inl (fun _ => 0))), ((q 1), .inl ((cq 1), 40, .inr (.inr (.inr (.inr (fun _ => none)))))), ((q 3), .inl ((cq 3), 20, .inr (.inr (.inr (.inr (fun _ => none)))))), ((q 8), .inr (5, [.ref (q 80), .ref (q 81), .int 0])), ((q 9), .inr (8, [.ref (q 90), .int 0, .ref (q 91), .int 0, .int 0, .int 0])), ((q 90), .inl ((cq 90), 60, .inl (fun _ => 0))), ((q 10), .inr (7, [.ref (q 100), .ref (q 101)])), ((q 100), .inl ((cq 100), 100, .inl (fun _ => 0))), ((q 11), .inr (4, [.ref (q 110), .ref (q 111), .int 0, .ref (q 112), .int 0, .int 0])), ((q 110), .inl ((cq 110), 81, .inr (.inl (fun _ => 0)))), ((q 112), .inl ((cq 112), 4, .inl (fun _ => 0))), ((q 13), .inl ((cq 13), 12, .inl (fun _ => 0))), (g0, .inr (11, mF pq)), ((pq 0), .inl ((cp 0), 7, .inl (fun _ => 0))), ((pq 1), .inl ((cp 1), 100, .inl (fun _ => 0))), ((pq 2), .inl ((cp 2), 40, .inl (fun _ => 0))), ((pq 3), .inl ((cp 3), 40, .inl (fun _ => 0))), ((pq 4), .inl ((cp 4), 40, .inl (fun _ => 0))), ((pq 6), .inl ((cp 6), 20, .inl (fun _ => 0))), ((pq 7), .inl ((cp 7), 20, .inl (fun _ => 0))), ((pq 8), .inl ((cp 8), 20, .inl (fun _ => 0))), ((pq 9), .inl ((cp 9), 20, .inl (fun _ => 0))), ((pq 44), .inl ((cp 44), 60, .inl (fun _ => 0))), ((pq 55), .inl ((cp 55), 8, .inl (fun _ => 0))), ((pq 61), .inl ((cp 61), 12, .inl (fun _ => 0)))] H) (hD : va_D A [(h0, .inr (10, oF q)), ((q 15), .inl ((cq 15), 7, .inl (fun _ => 0))), ((q 1), .inl ((cq 1), 40, .inr (.inr (.inr (.inr (fun _ => none)))))), ((q 3), .inl ((cq 3), 20, .inr (.inr (.inr (.inr (fun _ => none)))))), ((q 8), .inr (5, [.ref (q 80), .ref (q 81), .int 0])), ((q 9), .inr (8, [.ref (q 90), .int 0, .ref (q 91), .int 0, .int 0, .int 0])), ((q 90), .inl ((cq 90), 60, .inl (fun _ => 0))), ((q 10), .inr (7, [.ref (q 100), .ref (q 101)])), ((q 100), .inl ((cq 100), 100, .inl (fun _ => 0))), ((q 11), .inr (4, [.ref (q 110), .ref (q 111), .int 0, .ref (q 112), .int 0, .int 0])), ((q 110), .inl ((cq 110), 81, .inr (.inl (fun _ => 0)))), ((q 112), .inl ((cq 112), 4, .inl (fun _ => 0))), ((q 13), .inl ((cq 13), 12, .inl (fun _ => 0))), (g0, .inr (11, mF pq)), ((pq 0), .inl ((cp 0), 7, .inl (fun _ => 0))), ((pq 1), .inl ((cp 1), 100, .inl (fun _ => 0))), ((pq 2), .inl ((cp 2), 40, .inl (fun _ => 0))), ((pq 3), .inl ((cp 3), 40, .inl (fun _ => 0))), ((pq 4), .inl ((cp 4), 40, .inl (fun _ => 0))), ((pq 6), .inl ((cp 6), 20, .inl (fun _ => 0))), ((pq 7), .inl ((cp 7), 20, .inl (fun _ => 0))), ((pq 8), .inl ((cp 8), 20, .inl (fun _ => 0))), ((pq 9), .inl ((cp 9), 20, .inl (fun _ => 0))), ((pq 44), .inl ((cp 44), 60, .inl (fun _ => 0))), ((pq 55), .inl ((cp 55), 8, .inl (fun _ => 0))), ((pq 61), .inl ((cp 61), 12, .inl (fun _ => 0)))]) (hS : va_S A s.heap H locs) {ls : Array Slot} (hl : lv_has ls 4 [(3, .int 0), (2, .ref g0), (1, .ref h0), (0, .ref b)]) : W p l e room_1 s m #[Value.ref b] below meth c H locs 141 20685 (lw_Z below #[Value.ref b] s) (F0 m 581 ls []) := by
  obtain ⟨hx, hb, hr, hml, hown, hts, hX, hbl, hlocks, hgv⟩ := id C0
  have hts := fun w h => hts w (wsL_law_in w h)
  have hown : s.vm.findClass RL = some m.cls := hown
  have hbA : ¬ A b := fun h => Nat.not_le.mpr hbl (hAq b h)
  refine lv_aload_n hx hb dL_law_581 rfl (lv_at hl 2 rfl) ?_
  refine lv_aload_n hx hb dL_law_582 rfl (lv_at hl 3 rfl) ?_
  refine lv_iload_n hx hb dL_law_583 rfl (lv_at hl 0 rfl) ?_
  refine lv_iconst (v := 1) hx hb dL_law_584 (by decide) ?_
  refine lv_iadd hx hb dL_law_585 ?_
  refine lv_topi (fun y ey => ?_)
  obtain rfl : y = 1 := ey.trans (by decide)
  refine va_sld hx hb hX hbl hbA hS (by unfold vp_in; decide) dL_law_586 ?_
  refine lv_aload_n hx hb dL_law_587 rfl (lv_at hl 3 rfl) ?_
  refine lv_iload_n hx hb dL_law_588 rfl (lv_at hl 0 rfl) ?_
  refine lv_iconst (v := 2) hx hb dL_law_589 (by decide) ?_
  refine lv_iadd hx hb dL_law_590 ?_
  refine lv_topi (fun y ey => ?_)
  obtain rfl : y = 2 := ey.trans (by decide)
  refine va_sld hx hb hX hbl hbA hS (by unfold vp_in; decide) dL_law_591 ?_
  refine lv_i2l (v := (xs (2 : Int32).toNatClampNeg : Int32).toInt64) hx hb dL_law_592 rfl ?_
  refine lv_bipush (v := 32) hx hb dL_law_593 (by decide) ?_
  refine lv_lshl (v := ((xs (2 : Int32).toNatClampNeg : Int32).toInt64) <<< ((32 : Int32).toInt64 &&& 63)) hx hb dL_law_595 rfl ?_
  refine lv_aload_n hx hb dL_law_596 rfl (lv_at hl 3 rfl) ?_
  refine lv_iload_n hx hb dL_law_597 rfl (lv_at hl 0 rfl) ?_
  refine lv_iconst (v := 3) hx hb dL_law_598 (by decide) ?_
  refine lv_iadd hx hb dL_law_599 ?_
  refine lv_topi (fun y ey => ?_)
  obtain rfl : y = 3 := ey.trans (by decide)
  refine va_sld hx hb hX hbl hbA hS (by unfold vp_in; decide) dL_law_600 ?_
  refine lv_i2l (v := (xs (3 : Int32).toNatClampNeg : Int32).toInt64) hx hb dL_law_601 rfl ?_
  refine lv_ldc2 (v := 4294967295) hx hb hown (hts (.constantLong RL 61 (4294967295)) (by decide +kernel)) dL_law_602 ?_
  refine lv_land hx hb dL_law_605 ?_
  refine lv_lor hx hb dL_law_606 ?_
  have hPc := hP.sub (ws' := [(h0, .inr (10, oF q)), ((q 15), .inl ((cq 15), 7, .inl (fun _ => 0))), ((q 9), .inr (8, [.ref (q 90), .int 0, .ref (q 91), .int 0, .int 0, .int 0])), ((q 90), .inl ((cq 90), 60, .inl (fun _ => 0)))]) [0, 1, 5, 6] rfl
  have hDc := hD.sub (ws' := [(h0, .inr (10, oF q)), ((q 15), .inl ((cq 15), 7, .inl (fun _ => 0))), ((q 9), .inr (8, [.ref (q 90), .int 0, .ref (q 91), .int 0, .int 0, .int 0])), ((q 90), .inl ((cq 90), 60, .inl (fun _ => 0)))]) [0, 1, 5, 6] (by decide) rfl
  have hKc := hK.sub (tys' := [((cq 15), .int), ((cq 90), .int)]) [0, 3] rfl
  have hFc := va_free (wc := [(h0, .inr (10, oF q)), ((q 15), .inl ((cq 15), 7, .inl (fun _ => 0))), ((q 9), .inr (8, [.ref (q 90), .int 0, .ref (q 91), .int 0, .int 0, .int 0])), ((q 90), .inl ((cq 90), 60, .inl (fun _ => 0)))]) hD hS hA [0, 1, 5, 6] rfl
  refine va_calli (va_runV (As := [.int (xs (1 : Int32).toNatClampNeg), .long ((((xs (2 : Int32).toNatClampNeg : Int32).toInt64) <<< ((32 : Int32).toInt64 &&& 63)) ||| (((xs (3 : Int32).toNatClampNeg : Int32).toInt64) &&& 4294967295))]) (rest := []) ⟨hx, hb, hml, hown, hts⟩ (c_X10_feed l dC dI H.size h0 q cq (xs (1 : Int32).toNatClampNeg) ((((xs (2 : Int32).toNatClampNeg : Int32).toInt64) <<< ((32 : Int32).toInt64 &&& 63)) ||| (((xs (3 : Int32).toNatClampNeg : Int32).toInt64) &&& 4294967295))) (cwV 2 hts gL_law_X10_feed rfl rfl rfl (by decide +kernel) ⟨(Nat.le_of_ble_eq_true rfl), (Nat.le_of_ble_eq_true rfl)⟩) (pr_V (r := (RX10, TX10, 16)) hPc hKc hDc 0 10 rfl rfl) rfl rfl hl.1 rfl (lv_room (Nat.le_of_ble_eq_true rfl)) dL_law_607 ⟨(Nat.le_of_ble_eq_true rfl), (Nat.le_of_ble_eq_true rfl)⟩) hS (fun q _ h => hFc q h) hFc (fun r_2 u t H locs ht hvm w_1 hB hz1 hk1 hS => ?_)
  obtain ⟨hP, hD⟩ := va_join (wr := [(g0, .inr (11, mF pq)), ((pq 0), .inl ((cp 0), 7, .inl (fun _ => 0))), ((pq 1), .inl ((cp 1), 100, .inl (fun _ => 0))), ((pq 2), .inl ((cp 2), 40, .inl (fun _ => 0))), ((pq 3), .inl ((cp 3), 40, .inl (fun _ => 0))), ((pq 4), .inl ((cp 4), 40, .inl (fun _ => 0))), ((pq 6), .inl ((cp 6), 20, .inl (fun _ => 0))), ((pq 7), .inl ((cp 7), 20, .inl (fun _ => 0))), ((pq 8), .inl ((cp 8), 20, .inl (fun _ => 0))), ((pq 9), .inl ((cp 9), 20, .inl (fun _ => 0))), ((pq 44), .inl ((cp 44), 60, .inl (fun _ => 0))), ((pq 55), .inl ((cp 55), 8, .inl (fun _ => 0))), ((pq 61), .inl ((cp 61), 12, .inl (fun _ => 0)))]) (w1 := []) hP hD [0, 1, 5, 6] [13, 14, 15, 16, 17, 18, 19, 20, 21, 22, 23, 24, 25] rfl rfl (by decide) (by decide) hk1 hFc vP0 vD0
  have hP : va_P (dC, dI) vwCl [(g0, .inr (11, mF pq)), ((pq 0), .inl ((cp 0), 7, .inl (fun _ => 0))), ((pq 1), .inl ((cp 1), 100, .inl (fun _ => 0))), ((pq 2), .inl ((cp 2), 40, .inl (fun _ => 0))), ((pq 3), .inl ((cp 3), 40, .inl (fun _ => 0))), ((pq 4), .inl ((cp 4), 40, .inl (fun _ => 0))), ((pq 6), .inl ((cp 6), 20, .inl (fun _ => 0))), ((pq 7), .inl ((cp 7), 20, .inl (fun _ => 0))), ((pq 8), .inl ((cp 8), 20, .inl (fun _ => 0))), ((pq 9), .inl ((cp 9), 20, .inl (fun _ => 0))), ((pq 44), .inl ((cp 44), 60, .inl (fun _ => 0))), ((pq 55), .inl ((cp 55), 8, .inl (fun _ => 0))), ((pq 61), .inl ((cp 61), 12, .inl (fun _ => 0)))] H := hP
  have hD : va_D A [(g0, .inr (11, mF pq)), ((pq 0), .inl ((cp 0), 7, .inl (fun _ => 0))), ((pq 1), .inl ((cp 1), 100, .inl (fun _ => 0))), ((pq 2), .inl ((cp 2), 40, .inl (fun _ => 0))), ((pq 3), .inl ((cp 3), 40, .inl (fun _ => 0))), ((pq 4), .inl ((cp 4), 40, .inl (fun _ => 0))), ((pq 6), .inl ((cp 6), 20, .inl (fun _ => 0))), ((pq 7), .inl ((cp 7), 20, .inl (fun _ => 0))), ((pq 8), .inl ((cp 8), 20, .inl (fun _ => 0))), ((pq 9), .inl ((cp 9), 20, .inl (fun _ => 0))), ((pq 44), .inl ((cp 44), 60, .inl (fun _ => 0))), ((pq 55), .inl ((cp 55), 8, .inl (fun _ => 0))), ((pq 61), .inl ((cp 61), 12, .inl (fun _ => 0)))] := hD
  clear hk1 hz1 hvm hB ht hPc hDc hKc hFc
  refine lv_aload_n hx hb dL_law_610 rfl (lv_at hl 1 rfl) ?_
  refine lv_aload_n hx hb dL_law_611 rfl (lv_at hl 3 rfl) ?_
  refine lv_iload_n hx hb dL_law_612 rfl (lv_at hl 0 rfl) ?_
  refine lv_iconst (v := 1) hx hb dL_law_613 (by decide) ?_
  refine lv_iadd hx hb dL_law_614 ?_
  refine lv_topi (fun y ey => ?_)
  obtain rfl : y = 1 := ey.trans (by decide)
  refine va_sld hx hb hX hbl hbA hS (by unfold vp_in; decide) dL_law_615 ?_
  refine lv_aload_n hx hb dL_law_616 rfl (lv_at hl 3 rfl) ?_
  refine lv_iload_n hx hb dL_law_617 rfl (lv_at hl 0 rfl) ?_
  refine lv_iconst (v := 2) hx hb dL_law_618 (by decide) ?_
  refine lv_iadd hx hb dL_law_619 ?_
  refine lv_topi (fun y ey => ?_)
  obtain rfl : y = 2 := ey.trans (by decide)
  refine va_sld hx hb hX hbl hbA hS (by unfold vp_in; decide) dL_law_620 ?_
  refine lv_i2l (v := (xs (2 : Int32).toNatClampNeg : Int32).toInt64) hx hb dL_law_621 rfl ?_
  refine lv_bipush (v := 32) hx hb dL_law_622 (by decide) ?_
  refine lv_lshl (v := ((xs (2 : Int32).toNatClampNeg : Int32).toInt64) <<< ((32 : Int32).toInt64 &&& 63)) hx hb dL_law_624 rfl ?_
  refine lv_aload_n hx hb dL_law_625 rfl (lv_at hl 3 rfl) ?_
  refine lv_iload_n hx hb dL_law_626 rfl (lv_at hl 0 rfl) ?_
  refine lv_iconst (v := 3) hx hb dL_law_627 (by decide) ?_
  refine lv_iadd hx hb dL_law_628 ?_
  refine lv_topi (fun y ey => ?_)
  obtain rfl : y = 3 := ey.trans (by decide)
  refine va_sld hx hb hX hbl hbA hS (by unfold vp_in; decide) dL_law_629 ?_
  refine lv_i2l (v := (xs (3 : Int32).toNatClampNeg : Int32).toInt64) hx hb dL_law_630 rfl ?_
  refine lv_ldc2 (v := 4294967295) hx hb hown (hts (.constantLong RL 61 (4294967295)) (by decide +kernel)) dL_law_631 ?_
  refine lv_land hx hb dL_law_634 ?_
  refine lv_lor hx hb dL_law_635 ?_
  have hPc := hP.sub (ws' := [(g0, .inr (11, mF pq)), ((pq 0), .inl ((cp 0), 7, .inl (fun _ => 0))), ((pq 44), .inl ((cp 44), 60, .inl (fun _ => 0)))]) [0, 1, 10] rfl
  have hDc := hD.sub (ws' := [(g0, .inr (11, mF pq)), ((pq 0), .inl ((cp 0), 7, .inl (fun _ => 0))), ((pq 44), .inl ((cp 44), 60, .inl (fun _ => 0)))]) [0, 1, 10] (by decide) rfl
  have hKc := hK.sub (tys' := [((cp 0), .int), ((cp 44), .int)]) [8, 17] rfl
  have hFc := va_free (wc := [(g0, .inr (11, mF pq)), ((pq 0), .inl ((cp 0), 7, .inl (fun _ => 0))), ((pq 44), .inl ((cp 44), 60, .inl (fun _ => 0)))]) hD hS hA [0, 1, 10] rfl
  refine va_calli (va_runV (As := [.int (xs (1 : Int32).toNatClampNeg), .long ((((xs (2 : Int32).toNatClampNeg : Int32).toInt64) <<< ((32 : Int32).toInt64 &&& 63)) ||| (((xs (3 : Int32).toNatClampNeg : Int32).toInt64) &&& 4294967295))]) (rest := [.int r_2]) ⟨hx, hb, hml, hown, hts⟩ (c_X11_feed l dC dI H.size g0 pq cp (xs (1 : Int32).toNatClampNeg) ((((xs (2 : Int32).toNatClampNeg : Int32).toInt64) <<< ((32 : Int32).toInt64 &&& 63)) ||| (((xs (3 : Int32).toNatClampNeg : Int32).toInt64) &&& 4294967295))) (cwV 2 hts gL_law_X11_feed rfl rfl rfl (by decide +kernel) ⟨(Nat.le_of_ble_eq_true rfl), (Nat.le_of_ble_eq_true rfl)⟩) (pr_V (r := (RX11, TX11, 63)) hPc hKc hDc 0 11 rfl rfl) rfl rfl hl.1 rfl (lv_room (Nat.le_of_ble_eq_true rfl)) dL_law_636 ⟨(Nat.le_of_ble_eq_true rfl), (Nat.le_of_ble_eq_true rfl)⟩) hS (fun q _ h => hFc q h) hFc (fun r_4 u t H locs ht hvm w_3 hB hz1 hk1 hS => ?_)
  clear hk1 hz1 hvm hB ht hPc hDc hKc hFc
  refine lv_icmp_eq (tgt := 1499) hx hb dL_law_639 (by decide) (fun c_5 => ?_) (fun c_5 => absurd c_5 (fun h => h (w_1.trans w_3.symm)))
  exact lc_end (Nat.le_of_ble_eq_true rfl) (Nat.le_of_ble_eq_true rfl) C0 hAq hS hl
