theorem gw_X10_aboard : wsX10_aboard.all goodWord = true := by decide +kernel
theorem gw_X10_group : wsX10_group.all goodWord = true := by decide +kernel
theorem gw_X11_aboard : wsX11_aboard.all goodWord = true := by decide +kernel
theorem gw_X11_group : wsX11_group.all goodWord = true := by decide +kernel
theorem il_L_law_40 : ∀ w ∈ wsL_law_r40, w ∈ wsL_law := fun w h => (List.mem_append_left _ (List.mem_append_left _ (List.mem_append_left _ (List.mem_append_left _ (List.mem_append_left _ (List.mem_append_left _ (List.mem_append_left _ (List.mem_append_left _ (List.mem_append_left _ (List.mem_append_left _ (List.mem_append_left _ (List.mem_append_left _ (List.mem_append_left _ (List.mem_append_right _ (List.mem_append_right _ (List.mem_append_right _ (List.mem_append_right _ (List.mem_append_right _ (List.mem_append_right _ (List.mem_append_right _ (List.mem_append_right _ (List.mem_append_right _ (List.mem_append_right _ (List.mem_append_right _ (List.mem_append_right _ (List.mem_append_right _ (List.mem_append_right _ (List.mem_append_right _ (List.mem_append_right _ (List.mem_append_right _ (List.mem_append_right _ (List.mem_append_right _ (List.mem_append_right _ (List.mem_append_right _ (List.mem_append_right _ (List.mem_append_right _ (List.mem_append_right _ (List.mem_append_right _ (List.mem_append_right _ (List.mem_append_right _ (List.mem_append_right _ (List.mem_append_right _ (List.mem_append_right _ (List.mem_append_right _ (List.mem_append_right _ (List.mem_append_right _ (List.mem_append_right _ (List.mem_append_right _ (List.mem_append_right _ (List.mem_append_right _ (List.mem_append_right _ (List.mem_append_right _ (List.mem_append_left _ h)))))))))))))))))))))))))))))))))))))))))))))))))))))
set_option maxRecDepth 100000 in
theorem ggL_law_X10_aboard : GoodIn wsL_law wsX10_aboard := goodIn_sub (mmC (mmI il_L_law_39 8 rfl) (mmA (mmA (mmA (mmA (mmA (mmA (mmA (mmC (mmI il_L_law_12 6 rfl) (mmC (mmI il_L_law_12 7 rfl) (mmC (mmI il_L_law_12 8 rfl) (mmC (mmI il_L_law_1 2 rfl) (mmC (mmI il_L_law_12 9 rfl) (mmC (mmI il_L_law_10 18 rfl) (mmC (mmI il_L_law_1 16 rfl) (mmC (mmI il_L_law_7 5 rfl) (mmC (mmI il_L_law_7 6 rfl) (mmC (mmI il_L_law_7 7 rfl) (mmC (mmI il_L_law_7 8 rfl) (mmC (mmI il_L_law_2 15 rfl) (mmC (mmI il_L_law_27 2 rfl) (mmC (mmI il_L_law_27 3 rfl) (mmC (mmI il_L_law_27 4 rfl) (mmC (mmI il_L_law_27 5 rfl) (mmC (mmI il_L_law_7 4 rfl) (mmC (mmI il_L_law_33 4 rfl) (mmC (mmI il_L_law_33 5 rfl) (mmC (mmI il_L_law_33 6 rfl) (mmC (mmI il_L_law_33 7 rfl) (mmC (mmI il_L_law_12 3 rfl) (mmC (mmI il_L_law_1 18 rfl) (mmC (mmI il_L_law_12 4 rfl) mmN)))))))))))))))))))))))) (mmA (mmC (mmI il_L_law_1 22 rfl) (mmC (mmI il_L_law_27 6 rfl) (mmC (mmI il_L_law_27 7 rfl) (mmC (mmI il_L_law_27 8 rfl) (mmC (mmI il_L_law_12 13 rfl) (mmC (mmI il_L_law_27 9 rfl) (mmC (mmI il_L_law_25 16 rfl) (mmC (mmI il_L_law_12 18 rfl) (mmC (mmI il_L_law_12 17 rfl) (mmC (mmI il_L_law_12 15 rfl) (mmC (mmI il_L_law_27 10 rfl) (mmC (mmI il_L_law_27 11 rfl) (mmC (mmI il_L_law_27 12 rfl) (mmC (mmI il_L_law_27 13 rfl) (mmC (mmI il_L_law_27 14 rfl) (mmC (mmI il_L_law_10 20 rfl) (mmC (mmI il_L_law_27 15 rfl) (mmC (mmI il_L_law_11 11 rfl) (mmC (mmI il_L_law_11 10 rfl) (mmC (mmI il_L_law_27 16 rfl) (mmC (mmI il_L_law_27 17 rfl) (mmC (mmI il_L_law_27 18 rfl) (mmC (mmI il_L_law_27 19 rfl) (mmC (mmI il_L_law_27 20 rfl) mmN)))))))))))))))))))))))) (mmA (mmC (mmI il_L_law_27 21 rfl) (mmC (mmI il_L_law_27 22 rfl) (mmC (mmI il_L_law_27 23 rfl) (mmC (mmI il_L_law_28 0 rfl) (mmC (mmI il_L_law_28 1 rfl) (mmC (mmI il_L_law_28 2 rfl) (mmC (mmI il_L_law_28 3 rfl) (mmC (mmI il_L_law_28 4 rfl) (mmC (mmI il_L_law_28 5 rfl) (mmC (mmI il_L_law_28 6 rfl) (mmC (mmI il_L_law_28 7 rfl) (mmC (mmI il_L_law_11 9 rfl) (mmC (mmI il_L_law_11 8 rfl) (mmC (mmI il_L_law_28 8 rfl) (mmC (mmI il_L_law_28 9 rfl) (mmC (mmI il_L_law_28 10 rfl) (mmC (mmI il_L_law_28 11 rfl) (mmC (mmI il_L_law_28 12 rfl) (mmC (mmI il_L_law_28 13 rfl) (mmC (mmI il_L_law_28 14 rfl) (mmC (mmI il_L_law_28 15 rfl) (mmC (mmI il_L_law_28 16 rfl) (mmC (mmI il_L_law_25 1 rfl) (mmC (mmI il_L_law_25 2 rfl) mmN)))))))))))))))))))))))) (mmC (mmI il_L_law_1 21 rfl) (mmC (mmI il_L_law_25 3 rfl) (mmC (mmI il_L_law_2 22 rfl) (mmC (mmI il_L_law_21 17 rfl) (mmC (mmI il_L_law_2 21 rfl) (mmC (mmI il_L_law_25 4 rfl) (mmC (mmI il_L_law_25 5 rfl) mmN)))))))))) il_L_law_47) il_L_law_56) il_L_law_57) il_L_law_53) il_L_law_55) il_L_law_49)) gw_X10_aboard
theorem gL_law_X10_aboard : GoodIn wsL_law (wsV RL 126 RX10 yX10_aboard wsX10_aboard) := goodIn_app (goodIn_sub (mmC (mmI il_L_law_39 5 rfl) (mmC (mmI il_L_law_39 6 rfl) (mmC (mmI il_L_law_39 7 rfl) (mmC (mmI il_L_law_1 2 rfl) mmN)))) (by decide +kernel)) ggL_law_X10_aboard
set_option maxRecDepth 100000 in
theorem ggL_law_X11_aboard : GoodIn wsL_law wsX11_aboard := goodIn_sub (mmC (mmI il_L_law_39 12 rfl) (mmA (mmA (mmC (mmI il_L_law_13 1 rfl) (mmC (mmI il_L_law_13 2 rfl) (mmC (mmI il_L_law_13 3 rfl) (mmC (mmI il_L_law_1 5 rfl) (mmC (mmI il_L_law_13 4 rfl) (mmC (mmI il_L_law_11 20 rfl) (mmC (mmI il_L_law_8 12 rfl) (mmC (mmI il_L_law_8 13 rfl) (mmC (mmI il_L_law_8 14 rfl) (mmC (mmI il_L_law_28 21 rfl) (mmC (mmI il_L_law_28 22 rfl) (mmC (mmI il_L_law_28 23 rfl) (mmC (mmI il_L_law_29 0 rfl) (mmC (mmI il_L_law_7 13 rfl) (mmC (mmI il_L_law_7 14 rfl) (mmC (mmI il_L_law_7 15 rfl) (mmC (mmI il_L_law_7 16 rfl) (mmC (mmI il_L_law_7 17 rfl) (mmC (mmI il_L_law_5 0 rfl) (mmC (mmI il_L_law_33 22 rfl) (mmC (mmI il_L_law_33 23 rfl) (mmC (mmI il_L_law_34 0 rfl) (mmC (mmI il_L_law_34 1 rfl) (mmC (mmI il_L_law_13 0 rfl) mmN)))))))))))))))))))))))) (mmA (mmC (mmI il_L_law_5 21 rfl) (mmC (mmI il_L_law_29 1 rfl) (mmC (mmI il_L_law_29 2 rfl) (mmC (mmI il_L_law_29 3 rfl) (mmC (mmI il_L_law_29 4 rfl) (mmC (mmI il_L_law_6 1 rfl) (mmC (mmI il_L_law_6 2 rfl) (mmC (mmI il_L_law_5 10 rfl) (mmC (mmI il_L_law_29 5 rfl) (mmC (mmI il_L_law_29 6 rfl) (mmC (mmI il_L_law_29 7 rfl) (mmC (mmI il_L_law_29 8 rfl) (mmC (mmI il_L_law_13 9 rfl) (mmC (mmI il_L_law_5 11 rfl) (mmC (mmI il_L_law_5 13 rfl) (mmC (mmI il_L_law_5 12 rfl) (mmC (mmI il_L_law_29 9 rfl) (mmC (mmI il_L_law_29 10 rfl) (mmC (mmI il_L_law_29 11 rfl) (mmC (mmI il_L_law_29 12 rfl) (mmC (mmI il_L_law_29 13 rfl) (mmC (mmI il_L_law_29 14 rfl) (mmC (mmI il_L_law_29 15 rfl) (mmC (mmI il_L_law_29 16 rfl) mmN)))))))))))))))))))))))) (mmA (mmC (mmI il_L_law_29 17 rfl) (mmC (mmI il_L_law_29 18 rfl) (mmC (mmI il_L_law_29 19 rfl) (mmC (mmI il_L_law_29 20 rfl) (mmC (mmI il_L_law_29 21 rfl) (mmC (mmI il_L_law_29 22 rfl) (mmC (mmI il_L_law_29 23 rfl) (mmC (mmI il_L_law_30 0 rfl) (mmC (mmI il_L_law_26 2 rfl) (mmC (mmI il_L_law_26 3 rfl) (mmC (mmI il_L_law_26 4 rfl) (mmC (mmI il_L_law_26 5 rfl) (mmC (mmI il_L_law_6 16 rfl) (mmC (mmI il_L_law_30 1 rfl) (mmC (mmI il_L_law_30 2 rfl) (mmC (mmI il_L_law_30 3 rfl) (mmC (mmI il_L_law_30 4 rfl) (mmC (mmI il_L_law_26 6 rfl) (mmC (mmI il_L_law_26 7 rfl) (mmC (mmI il_L_law_26 8 rfl) (mmC (mmI il_L_law_26 9 rfl) (mmC (mmI il_L_law_5 16 rfl) (mmC (mmI il_L_law_26 10 rfl) (mmC (mmI il_L_law_26 11 rfl) mmN)))))))))))))))))))))))) (mmA (mmC (mmI il_L_law_26 12 rfl) (mmC (mmI il_L_law_26 13 rfl) (mmC (mmI il_L_law_21 22 rfl) (mmC (mmI il_L_law_5 17 rfl) (mmC (mmI il_L_law_5 18 rfl) (mmC (mmI il_L_law_22 1 rfl) (mmC (mmI il_L_law_22 2 rfl) (mmC (mmI il_L_law_22 3 rfl) (mmC (mmI il_L_law_22 4 rfl) (mmC (mmI il_L_law_22 5 rfl) (mmC (mmI il_L_law_22 6 rfl) (mmC (mmI il_L_law_22 0 rfl) (mmC (mmI il_L_law_22 7 rfl) (mmC (mmI il_L_law_21 23 rfl) (mmC (mmI il_L_law_22 8 rfl) (mmC (mmI il_L_law_22 9 rfl) (mmC (mmI il_L_law_22 10 rfl) (mmC (mmI il_L_law_22 11 rfl) (mmC (mmI il_L_law_22 12 rfl) (mmC (mmI il_L_law_22 13 rfl) (mmC (mmI il_L_law_22 14 rfl) (mmC (mmI il_L_law_22 15 rfl) (mmC (mmI il_L_law_22 16 rfl) (mmC (mmI il_L_law_22 17 rfl) mmN)))))))))))))))))))))))) (mmC (mmI il_L_law_22 18 rfl) (mmC (mmI il_L_law_6 15 rfl) (mmC (mmI il_L_law_5 19 rfl) (mmC (mmI il_L_law_22 19 rfl) (mmC (mmI il_L_law_22 20 rfl) (mmC (mmI il_L_law_22 21 rfl) (mmC (mmI il_L_law_22 22 rfl) (mmC (mmI il_L_law_22 23 rfl) (mmC (mmI il_L_law_23 0 rfl) (mmC (mmI il_L_law_23 1 rfl) (mmC (mmI il_L_law_23 2 rfl) (mmC (mmI il_L_law_23 3 rfl) (mmC (mmI il_L_law_23 4 rfl) (mmC (mmI il_L_law_23 5 rfl) (mmC (mmI il_L_law_23 6 rfl) (mmC (mmI il_L_law_23 7 rfl) (mmC (mmI il_L_law_23 8 rfl) (mmC (mmI il_L_law_23 9 rfl) (mmC (mmI il_L_law_23 10 rfl) (mmC (mmI il_L_law_23 11 rfl) (mmC (mmI il_L_law_23 12 rfl) (mmC (mmI il_L_law_23 13 rfl) (mmC (mmI il_L_law_23 14 rfl) (mmC (mmI il_L_law_23 15 rfl) mmN)))))))))))))))))))))))))))) il_L_law_48)) gw_X11_aboard
theorem gL_law_X11_aboard : GoodIn wsL_law (wsV RL 129 RX11 yX11_aboard wsX11_aboard) := goodIn_app (goodIn_sub (mmC (mmI il_L_law_39 9 rfl) (mmC (mmI il_L_law_39 10 rfl) (mmC (mmI il_L_law_39 11 rfl) (mmC (mmI il_L_law_1 5 rfl) mmN)))) (by decide +kernel)) ggL_law_X11_aboard
set_option maxRecDepth 100000 in
theorem ggL_law_X10_group : GoodIn wsL_law wsX10_group := goodIn_sub (mmC (mmI il_L_law_39 16 rfl) (mmA (mmA (mmC (mmI il_L_law_9 13 rfl) (mmC (mmI il_L_law_23 23 rfl) (mmC (mmI il_L_law_24 0 rfl) (mmC (mmI il_L_law_24 1 rfl) (mmC (mmI il_L_law_1 2 rfl) (mmC (mmI il_L_law_24 2 rfl) (mmC (mmI il_L_law_8 20 rfl) (mmC (mmI il_L_law_1 14 rfl) (mmC (mmI il_L_law_7 5 rfl) (mmC (mmI il_L_law_7 6 rfl) (mmC (mmI il_L_law_7 7 rfl) (mmC (mmI il_L_law_7 8 rfl) (mmC (mmI il_L_law_2 15 rfl) mmN))))))))))))) il_L_law_54) il_L_law_47)) gw_X10_group
theorem gL_law_X10_group : GoodIn wsL_law (wsV RL 130 RX10 yX10_group wsX10_group) := goodIn_app (goodIn_sub (mmC (mmI il_L_law_39 13 rfl) (mmC (mmI il_L_law_39 14 rfl) (mmC (mmI il_L_law_39 15 rfl) (mmC (mmI il_L_law_1 2 rfl) mmN)))) (by decide +kernel)) ggL_law_X10_group
set_option maxRecDepth 100000 in
theorem ggL_law_X11_group : GoodIn wsL_law wsX11_group := goodIn_sub (mmC (mmI il_L_law_39 20 rfl) (mmA (mmA (mmC (mmI il_L_law_6 17 rfl) (mmC (mmI il_L_law_25 22 rfl) (mmC (mmI il_L_law_25 23 rfl) (mmC (mmI il_L_law_26 0 rfl) (mmC (mmI il_L_law_1 5 rfl) (mmC (mmI il_L_law_26 1 rfl) (mmC (mmI il_L_law_10 13 rfl) (mmC (mmI il_L_law_8 12 rfl) (mmC (mmI il_L_law_8 13 rfl) (mmC (mmI il_L_law_8 14 rfl) (mmC (mmI il_L_law_7 14 rfl) (mmC (mmI il_L_law_7 15 rfl) (mmC (mmI il_L_law_7 16 rfl) (mmC (mmI il_L_law_7 17 rfl) (mmC (mmI il_L_law_5 0 rfl) (mmC (mmI il_L_law_39 21 rfl) (mmC (mmI il_L_law_39 22 rfl) (mmC (mmI il_L_law_39 23 rfl) (mmC (mmI il_L_law_40 0 rfl) (mmC (mmI il_L_law_40 1 rfl) (mmC (mmI il_L_law_40 2 rfl) (mmC (mmI il_L_law_40 3 rfl) (mmC (mmI il_L_law_40 4 rfl) (mmC (mmI il_L_law_5 3 rfl) mmN)))))))))))))))))))))))) (mmC (mmI il_L_law_5 2 rfl) mmN)) il_L_law_48)) gw_X11_group
theorem gL_law_X11_group : GoodIn wsL_law (wsV RL 133 RX11 yX11_group wsX11_group) := goodIn_app (goodIn_sub (mmC (mmI il_L_law_39 17 rfl) (mmC (mmI il_L_law_39 18 rfl) (mmC (mmI il_L_law_39 19 rfl) (mmC (mmI il_L_law_1 5 rfl) mmN)))) (by decide +kernel)) ggL_law_X11_group
theorem dL_law_1222 : decode cL_law 1222 = .ok (.aload_n 1, 1) := by decide +kernel
theorem dL_law_1223 : decode cL_law 1223 = .ok (.aload_n 0, 1) := by decide +kernel
theorem dL_law_1224 : decode cL_law 1224 = .ok (.iload_n 3, 1) := by decide +kernel
theorem dL_law_1225 : decode cL_law 1225 = .ok (.iconst 1, 1) := by decide +kernel
theorem dL_law_1226 : decode cL_law 1226 = .ok (.iadd, 1) := by decide +kernel
theorem dL_law_1227 : decode cL_law 1227 = .ok (.iaload, 1) := by decide +kernel
theorem dL_law_1228 : decode cL_law 1228 = .ok (.aload_n 0, 1) := by decide +kernel
theorem dL_law_1229 : decode cL_law 1229 = .ok (.iload_n 3, 1) := by decide +kernel
theorem dL_law_1230 : decode cL_law 1230 = .ok (.iconst 2, 1) := by decide +kernel
theorem dL_law_1231 : decode cL_law 1231 = .ok (.iadd, 1) := by decide +kernel
theorem dL_law_1232 : decode cL_law 1232 = .ok (.iaload, 1) := by decide +kernel
theorem dL_law_1233 : decode cL_law 1233 = .ok (.aload_n 0, 1) := by decide +kernel
theorem dL_law_1234 : decode cL_law 1234 = .ok (.iload_n 3, 1) := by decide +kernel
theorem dL_law_1235 : decode cL_law 1235 = .ok (.iconst 3, 1) := by decide +kernel
theorem dL_law_1236 : decode cL_law 1236 = .ok (.iadd, 1) := by decide +kernel
theorem dL_law_1237 : decode cL_law 1237 = .ok (.iaload, 1) := by decide +kernel
theorem dL_law_1238 : decode cL_law 1238 = .ok (.invokevirtual 126, 3) := by decide +kernel
theorem dL_law_1241 : decode cL_law 1241 = .ok (.pop, 1) := by decide +kernel
theorem dL_law_1242 : decode cL_law 1242 = .ok (.aload_n 2, 1) := by decide +kernel
theorem dL_law_1243 : decode cL_law 1243 = .ok (.aload_n 0, 1) := by decide +kernel
theorem dL_law_1244 : decode cL_law 1244 = .ok (.iload_n 3, 1) := by decide +kernel
theorem dL_law_1245 : decode cL_law 1245 = .ok (.iconst 1, 1) := by decide +kernel
theorem dL_law_1246 : decode cL_law 1246 = .ok (.iadd, 1) := by decide +kernel
theorem dL_law_1247 : decode cL_law 1247 = .ok (.iaload, 1) := by decide +kernel
theorem dL_law_1248 : decode cL_law 1248 = .ok (.aload_n 0, 1) := by decide +kernel
theorem dL_law_1249 : decode cL_law 1249 = .ok (.iload_n 3, 1) := by decide +kernel
theorem dL_law_1250 : decode cL_law 1250 = .ok (.iconst 2, 1) := by decide +kernel
theorem dL_law_1251 : decode cL_law 1251 = .ok (.iadd, 1) := by decide +kernel
theorem dL_law_1252 : decode cL_law 1252 = .ok (.iaload, 1) := by decide +kernel
theorem dL_law_1253 : decode cL_law 1253 = .ok (.aload_n 0, 1) := by decide +kernel
theorem dL_law_1254 : decode cL_law 1254 = .ok (.iload_n 3, 1) := by decide +kernel
theorem dL_law_1255 : decode cL_law 1255 = .ok (.iconst 3, 1) := by decide +kernel
theorem dL_law_1256 : decode cL_law 1256 = .ok (.iadd, 1) := by decide +kernel
theorem dL_law_1257 : decode cL_law 1257 = .ok (.iaload, 1) := by decide +kernel
theorem dL_law_1258 : decode cL_law 1258 = .ok (.invokevirtual 129, 3) := by decide +kernel
theorem dL_law_1261 : decode cL_law 1261 = .ok (.pop, 1) := by decide +kernel
theorem dL_law_1262 : decode cL_law 1262 = .ok (.goto 237, 3) := by decide +kernel
theorem dL_law_1265 : decode cL_law 1265 = .ok (.aload_n 1, 1) := by decide +kernel
theorem dL_law_1266 : decode cL_law 1266 = .ok (.aload_n 0, 1) := by decide +kernel
theorem dL_law_1267 : decode cL_law 1267 = .ok (.iload_n 3, 1) := by decide +kernel
theorem dL_law_1268 : decode cL_law 1268 = .ok (.iconst 1, 1) := by decide +kernel
theorem dL_law_1269 : decode cL_law 1269 = .ok (.iadd, 1) := by decide +kernel
theorem dL_law_1270 : decode cL_law 1270 = .ok (.iaload, 1) := by decide +kernel
theorem dL_law_1271 : decode cL_law 1271 = .ok (.invokevirtual 130, 3) := by decide +kernel
theorem dL_law_1274 : decode cL_law 1274 = .ok (.pop, 1) := by decide +kernel
theorem dL_law_1275 : decode cL_law 1275 = .ok (.aload_n 2, 1) := by decide +kernel
theorem dL_law_1276 : decode cL_law 1276 = .ok (.aload_n 0, 1) := by decide +kernel
theorem dL_law_1277 : decode cL_law 1277 = .ok (.iload_n 3, 1) := by decide +kernel
theorem dL_law_1278 : decode cL_law 1278 = .ok (.iconst 1, 1) := by decide +kernel
theorem dL_law_1279 : decode cL_law 1279 = .ok (.iadd, 1) := by decide +kernel
theorem dL_law_1280 : decode cL_law 1280 = .ok (.iaload, 1) := by decide +kernel
theorem dL_law_1281 : decode cL_law 1281 = .ok (.invokevirtual 133, 3) := by decide +kernel
theorem dL_law_1284 : decode cL_law 1284 = .ok (.pop, 1) := by decide +kernel
theorem dL_law_1285 : decode cL_law 1285 = .ok (.goto 214, 3) := by decide +kernel


set_option maxHeartbeats 4000000 in
set_option maxRecDepth 100000 in
theorem lc_26 {p : Program} {l : Launch} {e : Env} {s : State} {m : MethodId} {below : List Frame} {meth : Method} {c : Code} {b L : Nat} {xs : Nat → Int32} {A : Nat → Prop} {dC : Nat → ClassId} {dI : Nat → Nat → Nat} {tL tS tG h0 g0 : Nat} {pq : Nat → Nat} {cq cp : Nat → ClassId} (C0 : lw_At p s m meth c b L xs) (hL : L ≤ 3072) (hA : ∀ q : Nat, s.heap.size ≤ q → A q) (hAq : ∀ q, A q → s.heap.size ≤ q) (hZ : stO A tL tS tG s s.heap) (hKo : va_K (dC, dI) vwCl (oT cq) s) (hKm : va_K (dC, dI) vwCl (mT cp) s) {S : oS} {v : Nat → Int32} {fa : Nat → Nat → Int32} {H : Heap} {locs : List Loc} {i cells slots : Nat} (hi : i + 6 ≤ L) (hcl : cells ≤ 500000) (hsl : slots ≤ 7000000) (hJ : lwI S h0 v fa) (hH : lwH (dC, dI) A cq cp g0 pq S v fa H) (hS : va_S A s.heap H locs) {ls : Array Slot} (hl : lv_has ls 4 [(3, .int (nI i)), (2, .ref g0), (1, .ref h0), (0, .ref b)]) (K : (∀ (S1 : oS) (v1 : Nat → Int32) (fa1 : Nat → Nat → Int32) (H1 : Heap) (locs1 : List Loc) (ls1 : Array Slot), lwI S1 h0 v1 fa1 → lwH (dC, dI) A cq cp g0 pq S1 v1 fa1 H1 → va_S A s.heap H1 locs1 → lv_has ls1 4 [(3, .int (nI i)), (2, .ref g0), (1, .ref h0), (0, .ref b)] → W p l e room_1 s m #[Value.ref b] below meth c H1 locs1 (cells + 4) (slots + 134) (lw_Z below #[Value.ref b] s) (F0 m 1499 ls1 []))) : W p l e room_1 s m #[Value.ref b] below meth c H locs cells slots (lw_Z below #[Value.ref b] s) (F0 m 1222 ls []) := by
  obtain ⟨hx, hb, hr, hml, hown, hts, hX, hbl, hlocks, hgv⟩ := id C0
  have hts := fun w h => hts w (wsL_law_in w h)
  have hown : s.vm.findClass RL = some m.cls := hown
  have hbA : ¬ A b := fun h => Nat.not_le.mpr hbl (hAq b h)
  refine lv_aload_n hx hb dL_law_1222 rfl (lv_at hl 2 rfl) ?_
  refine lv_aload_n hx hb dL_law_1223 rfl (lv_at hl 3 rfl) ?_
  refine lv_iload_n hx hb dL_law_1224 rfl (lv_at hl 0 rfl) ?_
  refine lv_iconst (v := 1) hx hb dL_law_1225 (by decide +kernel) ?_
  refine lv_iadd hx hb dL_law_1226 ?_
  refine lv_topi (fun y_1 ey_1 => ?_)
  have hy_1 : y_1.toInt = (i : Int) + 1 := by rw [ey_1]; exact ad_i (nI_toInt (by omega)) (by decide +kernel) (by omega) (by omega)
  have ny_1 : y_1.toNatClampNeg = i + 1 := (show y_1.toInt.toNat = _ by omega)
  clear ey_1
  refine va_sld hx hb hX hbl hbA hS (vp_in_iff.mpr (by omega)) dL_law_1227 ?_
  refine lv_topi (fun z_2 ez_2 => ?_)
  obtain rfl : z_2 = xs (i + 1) := ez_2.trans (by rw [ny_1])
  clear ny_1 hy_1
  refine lv_aload_n hx hb dL_law_1228 rfl (lv_at hl 3 rfl) ?_
  refine lv_iload_n hx hb dL_law_1229 rfl (lv_at hl 0 rfl) ?_
  refine lv_iconst (v := 2) hx hb dL_law_1230 (by decide +kernel) ?_
  refine lv_iadd hx hb dL_law_1231 ?_
  refine lv_topi (fun y_3 ey_3 => ?_)
  have hy_3 : y_3.toInt = (i : Int) + 2 := by rw [ey_3]; exact ad_i (nI_toInt (by omega)) (by decide +kernel) (by omega) (by omega)
  have ny_3 : y_3.toNatClampNeg = i + 2 := (show y_3.toInt.toNat = _ by omega)
  clear ey_3
  refine va_sld hx hb hX hbl hbA hS (vp_in_iff.mpr (by omega)) dL_law_1232 ?_
  refine lv_topi (fun z_4 ez_4 => ?_)
  obtain rfl : z_4 = xs (i + 2) := ez_4.trans (by rw [ny_3])
  clear ny_3 hy_3
  refine lv_aload_n hx hb dL_law_1233 rfl (lv_at hl 3 rfl) ?_
  refine lv_iload_n hx hb dL_law_1234 rfl (lv_at hl 0 rfl) ?_
  refine lv_iconst (v := 3) hx hb dL_law_1235 (by decide +kernel) ?_
  refine lv_iadd hx hb dL_law_1236 ?_
  refine lv_topi (fun y_5 ey_5 => ?_)
  have hy_5 : y_5.toInt = (i : Int) + 3 := by rw [ey_5]; exact ad_i (nI_toInt (by omega)) (by decide +kernel) (by omega) (by omega)
  have ny_5 : y_5.toNatClampNeg = i + 3 := (show y_5.toInt.toNat = _ by omega)
  clear ey_5
  refine va_sld hx hb hX hbl hbA hS (vp_in_iff.mpr (by omega)) dL_law_1237 ?_
  refine lv_topi (fun z_6 ez_6 => ?_)
  obtain rfl : z_6 = xs (i + 3) := ez_6.trans (by rw [ny_5])
  clear ny_5 hy_5
  obtain ⟨hI_o, to, gV, gA, hlw⟩ := id hJ
  obtain ⟨hPo, hDo, hPm, hDm, hdis⟩ := id hH
  have hFc := o_free hDo hS hA
  obtain ⟨q0, hq0⟩ := og (cq := cq) to.1 (oE_10 to.2)
  refine va_calli (va_runV (As := [.int (xs (i + 1)), .int (xs (i + 2)), .int (xs (i + 3))]) (rest := []) ⟨hx, hb, hml, hown, hts⟩ (c_X10_aboard l dC dI H.size cq S hI_o h0 to (xs (i + 1)) (xs (i + 2)) (xs (i + 3))) (cwV 3 hts gL_law_X10_aboard rfl rfl rfl (by decide +kernel) ⟨(Nat.le_of_ble_eq_true rfl), (Nat.le_of_ble_eq_true rfl)⟩) (pr_V (r := (RX10, TX10, 16)) hPo hKo hDo q0 10 rfl hq0) rfl rfl hl.1 rfl (lv_room (Nat.le_of_ble_eq_true rfl)) dL_law_1238 ⟨(show cells + 0 ≤ 600000 by omega), (show slots + 0 ≤ 7302250 by omega)⟩) hS (fun q _ h => hFc q h) hFc (fun r_8 u t H locs ht hvm w_7 hB hz1 hk1 hS => ?_)
  obtain ⟨S9, rfl⟩ : ∃ z, z = u := ⟨_, rfl⟩
  obtain ⟨hP1, hK1, hD1⟩ := hB
  rw [ht] at hP1
  have hH := lwH_o hH hFc hk1 hP1 hD1
  clear hP1 hK1 hD1
  have hJ := lwI_o hJ w_7.1 w_7.2 (by decide +kernel)
  clear hk1 hz1 hvm ht hFc
  refine lv_pop hx hb dL_law_1241 rfl ?_
  refine lv_aload_n hx hb dL_law_1242 rfl (lv_at hl 1 rfl) ?_
  refine lv_aload_n hx hb dL_law_1243 rfl (lv_at hl 3 rfl) ?_
  refine lv_iload_n hx hb dL_law_1244 rfl (lv_at hl 0 rfl) ?_
  refine lv_iconst (v := 1) hx hb dL_law_1245 (by decide +kernel) ?_
  refine lv_iadd hx hb dL_law_1246 ?_
  refine lv_topi (fun y_9 ey_9 => ?_)
  have hy_9 : y_9.toInt = (i : Int) + 1 := by rw [ey_9]; exact ad_i (nI_toInt (by omega)) (by decide +kernel) (by omega) (by omega)
  have ny_9 : y_9.toNatClampNeg = i + 1 := (show y_9.toInt.toNat = _ by omega)
  clear ey_9
  refine va_sld hx hb hX hbl hbA hS (vp_in_iff.mpr (by omega)) dL_law_1247 ?_
  refine lv_topi (fun z_10 ez_10 => ?_)
  obtain rfl : z_10 = xs (i + 1) := ez_10.trans (by rw [ny_9])
  clear ny_9 hy_9
  refine lv_aload_n hx hb dL_law_1248 rfl (lv_at hl 3 rfl) ?_
  refine lv_iload_n hx hb dL_law_1249 rfl (lv_at hl 0 rfl) ?_
  refine lv_iconst (v := 2) hx hb dL_law_1250 (by decide +kernel) ?_
  refine lv_iadd hx hb dL_law_1251 ?_
  refine lv_topi (fun y_11 ey_11 => ?_)
  have hy_11 : y_11.toInt = (i : Int) + 2 := by rw [ey_11]; exact ad_i (nI_toInt (by omega)) (by decide +kernel) (by omega) (by omega)
  have ny_11 : y_11.toNatClampNeg = i + 2 := (show y_11.toInt.toNat = _ by omega)
  clear ey_11
  refine va_sld hx hb hX hbl hbA hS (vp_in_iff.mpr (by omega)) dL_law_1252 ?_
  refine lv_topi (fun z_12 ez_12 => ?_)
  obtain rfl : z_12 = xs (i + 2) := ez_12.trans (by rw [ny_11])
  clear ny_11 hy_11
  refine lv_aload_n hx hb dL_law_1253 rfl (lv_at hl 3 rfl) ?_
  refine lv_iload_n hx hb dL_law_1254 rfl (lv_at hl 0 rfl) ?_
  refine lv_iconst (v := 3) hx hb dL_law_1255 (by decide +kernel) ?_
  refine lv_iadd hx hb dL_law_1256 ?_
  refine lv_topi (fun y_13 ey_13 => ?_)
  have hy_13 : y_13.toInt = (i : Int) + 3 := by rw [ey_13]; exact ad_i (nI_toInt (by omega)) (by decide +kernel) (by omega) (by omega)
  have ny_13 : y_13.toNatClampNeg = i + 3 := (show y_13.toInt.toNat = _ by omega)
  clear ey_13
  refine va_sld hx hb hX hbl hbA hS (vp_in_iff.mpr (by omega)) dL_law_1257 ?_
  refine lv_topi (fun z_14 ez_14 => ?_)
  obtain rfl : z_14 = xs (i + 3) := ez_14.trans (by rw [ny_13])
  clear ny_13 hy_13
  obtain ⟨hI_o, to, gV, gA, hlw⟩ := id hJ
  obtain ⟨hPo, hDo, hPm, hDm, hdis⟩ := id hH
  have hFc := o_free hDm hS hA
  refine va_calli (va_runV (As := [.int (xs (i + 1)), .int (xs (i + 2)), .int (xs (i + 3))]) (rest := []) ⟨hx, hb, hml, hown, hts⟩ (c_X11_aboard l dC dI H.size g0 pq cp v fa gV gA (xs (i + 1)) (xs (i + 2)) (xs (i + 3))) (cwV 3 hts gL_law_X11_aboard rfl rfl rfl (by decide +kernel) ⟨(Nat.le_of_ble_eq_true rfl), (Nat.le_of_ble_eq_true rfl)⟩) (pr_V (r := (RX11, TX11, 63)) hPm hKm hDm 0 11 rfl rfl) rfl rfl hl.1 rfl (lv_room (Nat.le_of_ble_eq_true rfl)) dL_law_1258 ⟨(show cells + 0 ≤ 600000 by omega), (show slots + 0 ≤ 7302250 by omega)⟩) hS (fun q _ h => hFc q h) hFc (fun r_16 u t H locs ht hvm w_15 hB hz1 hk1 hS => ?_)
  obtain ⟨v1, fa1⟩ := u
  obtain ⟨hP1, hK1, hD1⟩ := hB
  rw [ht] at hP1
  dsimp only at hP1 hD1
  have hH := lwH_m hH hFc hk1 hP1 hD1
  clear hP1 hK1 hD1
  obtain ⟨hV1, hA1, hn1⟩ := w_15
  dsimp only at hV1 hA1 hn1
  have hJ := lwI_m hJ hV1 hA1 hn1 (by decide +kernel)
  clear hk1 hz1 hvm ht hFc
  refine lv_pop hx hb dL_law_1261 rfl ?_
  refine lv_goto (tgt := 1499) hx hb dL_law_1262 (by decide +kernel) ?_
  refine W.widen (k := cells + 4) (n := slots + 134) (by omega) (by omega) ?_
  exact K _ _ _ _ _ _ hJ hH hS hl
set_option maxHeartbeats 4000000 in
set_option maxRecDepth 100000 in
theorem lc_27 {p : Program} {l : Launch} {e : Env} {s : State} {m : MethodId} {below : List Frame} {meth : Method} {c : Code} {b L : Nat} {xs : Nat → Int32} {A : Nat → Prop} {dC : Nat → ClassId} {dI : Nat → Nat → Nat} {tL tS tG h0 g0 : Nat} {pq : Nat → Nat} {cq cp : Nat → ClassId} (C0 : lw_At p s m meth c b L xs) (hL : L ≤ 3072) (hA : ∀ q : Nat, s.heap.size ≤ q → A q) (hAq : ∀ q, A q → s.heap.size ≤ q) (hZ : stO A tL tS tG s s.heap) (hKo : va_K (dC, dI) vwCl (oT cq) s) (hKm : va_K (dC, dI) vwCl (mT cp) s) {S : oS} {v : Nat → Int32} {fa : Nat → Nat → Int32} {H : Heap} {locs : List Loc} {i cells slots : Nat} (hi : i + 6 ≤ L) (hcl : cells ≤ 500000) (hsl : slots ≤ 7000000) (hJ : lwI S h0 v fa) (hH : lwH (dC, dI) A cq cp g0 pq S v fa H) (hS : va_S A s.heap H locs) {ls : Array Slot} (hl : lv_has ls 4 [(3, .int (nI i)), (2, .ref g0), (1, .ref h0), (0, .ref b)]) (K : (∀ (S1 : oS) (v1 : Nat → Int32) (fa1 : Nat → Nat → Int32) (H1 : Heap) (locs1 : List Loc) (ls1 : Array Slot), lwI S1 h0 v1 fa1 → lwH (dC, dI) A cq cp g0 pq S1 v1 fa1 H1 → va_S A s.heap H1 locs1 → lv_has ls1 4 [(3, .int (nI i)), (2, .ref g0), (1, .ref h0), (0, .ref b)] → W p l e room_1 s m #[Value.ref b] below meth c H1 locs1 (cells + 4) (slots + 134) (lw_Z below #[Value.ref b] s) (F0 m 1499 ls1 []))) : W p l e room_1 s m #[Value.ref b] below meth c H locs cells slots (lw_Z below #[Value.ref b] s) (F0 m 1265 ls []) := by
  obtain ⟨hx, hb, hr, hml, hown, hts, hX, hbl, hlocks, hgv⟩ := id C0
  have hts := fun w h => hts w (wsL_law_in w h)
  have hown : s.vm.findClass RL = some m.cls := hown
  have hbA : ¬ A b := fun h => Nat.not_le.mpr hbl (hAq b h)
  refine lv_aload_n hx hb dL_law_1265 rfl (lv_at hl 2 rfl) ?_
  refine lv_aload_n hx hb dL_law_1266 rfl (lv_at hl 3 rfl) ?_
  refine lv_iload_n hx hb dL_law_1267 rfl (lv_at hl 0 rfl) ?_
  refine lv_iconst (v := 1) hx hb dL_law_1268 (by decide +kernel) ?_
  refine lv_iadd hx hb dL_law_1269 ?_
  refine lv_topi (fun y_1 ey_1 => ?_)
  have hy_1 : y_1.toInt = (i : Int) + 1 := by rw [ey_1]; exact ad_i (nI_toInt (by omega)) (by decide +kernel) (by omega) (by omega)
  have ny_1 : y_1.toNatClampNeg = i + 1 := (show y_1.toInt.toNat = _ by omega)
  clear ey_1
  refine va_sld hx hb hX hbl hbA hS (vp_in_iff.mpr (by omega)) dL_law_1270 ?_
  refine lv_topi (fun z_2 ez_2 => ?_)
  obtain rfl : z_2 = xs (i + 1) := ez_2.trans (by rw [ny_1])
  clear ny_1 hy_1
  obtain ⟨hI_o, to, gV, gA, hlw⟩ := id hJ
  obtain ⟨hPo, hDo, hPm, hDm, hdis⟩ := id hH
  have hFc := o_free hDo hS hA
  obtain ⟨q0, hq0⟩ := og (cq := cq) to.1 (oE_10 to.2)
  refine va_calli (va_runV (As := [.int (xs (i + 1))]) (rest := []) ⟨hx, hb, hml, hown, hts⟩ (c_X10_group l dC dI H.size cq S hI_o h0 to (xs (i + 1))) (cwV 1 hts gL_law_X10_group rfl rfl rfl (by decide +kernel) ⟨(Nat.le_of_ble_eq_true rfl), (Nat.le_of_ble_eq_true rfl)⟩) (pr_V (r := (RX10, TX10, 16)) hPo hKo hDo q0 10 rfl hq0) rfl rfl hl.1 rfl (lv_room (Nat.le_of_ble_eq_true rfl)) dL_law_1271 ⟨(show cells + 0 ≤ 600000 by omega), (show slots + 0 ≤ 7302250 by omega)⟩) hS (fun q _ h => hFc q h) hFc (fun r_4 u t H locs ht hvm w_3 hB hz1 hk1 hS => ?_)
  obtain ⟨S9, rfl⟩ : ∃ z, z = u := ⟨_, rfl⟩
  obtain ⟨hP1, hK1, hD1⟩ := hB
  rw [ht] at hP1
  have hH := lwH_o hH hFc hk1 hP1 hD1
  clear hP1 hK1 hD1
  have hJ := lwI_o hJ w_3.1 w_3.2 (by decide +kernel)
  clear hk1 hz1 hvm ht hFc
  refine lv_pop hx hb dL_law_1274 rfl ?_
  refine lv_aload_n hx hb dL_law_1275 rfl (lv_at hl 1 rfl) ?_
  refine lv_aload_n hx hb dL_law_1276 rfl (lv_at hl 3 rfl) ?_
  refine lv_iload_n hx hb dL_law_1277 rfl (lv_at hl 0 rfl) ?_
  refine lv_iconst (v := 1) hx hb dL_law_1278 (by decide +kernel) ?_
  refine lv_iadd hx hb dL_law_1279 ?_
  refine lv_topi (fun y_5 ey_5 => ?_)
  have hy_5 : y_5.toInt = (i : Int) + 1 := by rw [ey_5]; exact ad_i (nI_toInt (by omega)) (by decide +kernel) (by omega) (by omega)
  have ny_5 : y_5.toNatClampNeg = i + 1 := (show y_5.toInt.toNat = _ by omega)
  clear ey_5
  refine va_sld hx hb hX hbl hbA hS (vp_in_iff.mpr (by omega)) dL_law_1280 ?_
  refine lv_topi (fun z_6 ez_6 => ?_)
  obtain rfl : z_6 = xs (i + 1) := ez_6.trans (by rw [ny_5])
  clear ny_5 hy_5
  obtain ⟨hI_o, to, gV, gA, hlw⟩ := id hJ
  obtain ⟨hPo, hDo, hPm, hDm, hdis⟩ := id hH
  have hFc := o_free hDm hS hA
  refine va_calli (va_runV (As := [.int (xs (i + 1))]) (rest := []) ⟨hx, hb, hml, hown, hts⟩ (c_X11_group l dC dI H.size g0 pq cp v fa gV gA (xs (i + 1))) (cwV 1 hts gL_law_X11_group rfl rfl rfl (by decide +kernel) ⟨(Nat.le_of_ble_eq_true rfl), (Nat.le_of_ble_eq_true rfl)⟩) (pr_V (r := (RX11, TX11, 63)) hPm hKm hDm 0 11 rfl rfl) rfl rfl hl.1 rfl (lv_room (Nat.le_of_ble_eq_true rfl)) dL_law_1281 ⟨(show cells + 0 ≤ 600000 by omega), (show slots + 0 ≤ 7302250 by omega)⟩) hS (fun q _ h => hFc q h) hFc (fun r_8 u t H locs ht hvm w_7 hB hz1 hk1 hS => ?_)
  obtain ⟨v1, fa1⟩ := u
  obtain ⟨hP1, hK1, hD1⟩ := hB
  rw [ht] at hP1
  dsimp only at hP1 hD1
  have hH := lwH_m hH hFc hk1 hP1 hD1
  clear hP1 hK1 hD1
  obtain ⟨hV1, hA1, hn1⟩ := w_7
  dsimp only at hV1 hA1 hn1
  have hJ := lwI_m hJ hV1 hA1 hn1 (by decide +kernel)
  clear hk1 hz1 hvm ht hFc
  refine lv_pop hx hb dL_law_1284 rfl ?_
  refine lv_goto (tgt := 1499) hx hb dL_law_1285 (by decide +kernel) ?_
  refine W.widen (k := cells + 4) (n := slots + 134) (by omega) (by omega) ?_
  exact K _ _ _ _ _ _ hJ hH hS hl
