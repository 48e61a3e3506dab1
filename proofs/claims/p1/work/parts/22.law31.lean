set_option maxRecDepth 20000 in
theorem ggL_law_X10_borrowed : GoodIn wsL_law wsX10_borrowed := gp_c (goodIn_r _ [944] (by decide +kernel) (by decide +kernel)) (goodIn_app (goodIn_app (goodIn_app (goodIn_app (goodIn_r wsX10_borrowed_r1 [945, 564, 205, 361, 362, 363, 2, 364, 267, 18, 149, 150, 151, 152, 39, 946, 947, 948, 949, 369, 950, 951, 952, 953] (by decide +kernel) (by decide +kernel)) (goodIn_r wsX10_borrowed_r2 [269, 266, 148] (by decide +kernel) (by decide +kernel))) gpX1) gpX6) gpX10)
set_option maxRecDepth 20000 in
theorem gL_law_X10_borrowed : GoodIn wsL_law (wsV RL 134 RX10 yX10_borrowed wsX10_borrowed) := goodIn_app (goodIn_of _ (by decide +kernel)) ggL_law_X10_borrowed
set_option maxRecDepth 20000 in
theorem ggL_law_X11_borrowed : GoodIn wsL_law wsX11_borrowed := gp_c (goodIn_r _ [957] (by decide +kernel) (by decide +kernel)) (goodIn_app (goodIn_app (goodIn_r wsX11_borrowed_r1 [120, 137, 116, 288, 121, 379, 380, 381, 5, 382, 180, 181, 182, 158, 159, 160, 161, 96, 933, 934, 935, 936, 229, 937] (by decide +kernel) (by decide +kernel)) (goodIn_r wsX11_borrowed_r2 [938, 939, 940, 99, 98, 958, 959, 960, 961, 122, 157] (by decide +kernel) (by decide +kernel))) gpX11)
set_option maxRecDepth 20000 in
theorem gL_law_X11_borrowed : GoodIn wsL_law (wsV RL 137 RX11 yX11_borrowed wsX11_borrowed) := goodIn_app (goodIn_of _ (by decide +kernel)) ggL_law_X11_borrowed
set_option maxRecDepth 20000 in
theorem ggL_law_X10_home : GoodIn wsL_law wsX10_home := gp_c (goodIn_r _ [965] (by decide +kernel) (by decide +kernel)) (goodIn_app (goodIn_app (goodIn_app (goodIn_app (goodIn_app (goodIn_app (goodIn_app (goodIn_app (goodIn_r wsX10_home_r1 [267, 18, 564, 148, 22, 873, 30, 966, 268, 967, 551, 552, 553, 2, 554, 188, 14, 149, 150, 151, 152, 39, 889, 890] (by decide +kernel) (by decide +kernel)) (goodIn_app (goodIn_r wsX10_home_r2 [891, 277, 892, 709, 631, 632, 633, 592, 282, 281, 279, 634, 635, 636, 637, 638, 236, 639, 251, 250, 640, 641, 642, 643] (by decide +kernel) (by decide +kernel)) (goodIn_app (goodIn_r wsX10_home_r3 [644, 645, 646, 647, 648, 649, 650, 651, 652, 653, 654, 655, 249, 248, 656, 657, 658, 659, 660, 661, 662, 663, 664, 577] (by decide +kernel) (by decide +kernel)) (goodIn_r wsX10_home_r4 [578, 21, 579, 46, 497, 45, 580, 581, 968, 969, 970, 29, 971, 83, 972, 973, 570, 479, 571, 974, 975, 976, 977, 82] (by decide +kernel) (by decide +kernel))))) gpX10) gpX1) gpX3) gpX9) gpX0) gpX5) gpX7)
set_option maxRecDepth 20000 in
theorem gL_law_X10_home : GoodIn wsL_law (wsV RL 138 RX10 yX10_home wsX10_home) := goodIn_app (goodIn_of _ (by decide +kernel)) ggL_law_X10_home
set_option maxRecDepth 20000 in
theorem ggL_law_X11_home : GoodIn wsL_law wsX11_home := gp_c (goodIn_r _ [981] (by decide +kernel) (by decide +kernel)) (goodIn_app (goodIn_app (goodIn_r wsX11_home_r1 [288, 116, 157, 110, 111, 104, 117, 598, 599, 600, 5, 601, 229, 180, 181, 182, 158, 159, 160, 161, 96, 673, 674, 675] (by decide +kernel) (by decide +kernel)) (goodIn_app (goodIn_r wsX11_home_r2 [676, 121, 122, 106, 677, 678, 679, 680, 297, 107, 109, 108, 681, 682, 683, 684, 685, 686, 687, 688, 689, 690, 691, 692] (by decide +kernel) (by decide +kernel)) (goodIn_app (goodIn_r wsX11_home_r3 [693, 694, 695, 696, 602, 603, 604, 605, 136, 697, 698, 699, 700, 606, 607, 608, 609, 112, 610, 611, 612, 613, 502, 113] (by decide +kernel) (by decide +kernel)) (goodIn_app (goodIn_r wsX11_home_r4 [114, 505, 506, 507, 508, 509, 510, 504, 511, 503, 512, 513, 514, 515, 516, 517, 518, 519, 520, 521, 522, 135, 115, 523] (by decide +kernel) (by decide +kernel)) (goodIn_app (goodIn_r wsX11_home_r5 [524, 525, 526, 527, 528, 529, 530, 531, 532, 533, 534, 535, 536, 537, 538, 539, 540, 541, 542, 543, 982, 983, 984, 985] (by decide +kernel) (by decide +kernel)) (goodIn_r wsX11_home_r6 [138, 901, 97] (by decide +kernel) (by decide +kernel))))))) gpX11)
set_option maxRecDepth 20000 in
theorem gL_law_X11_home : GoodIn wsL_law (wsV RL 141 RX11 yX11_home wsX11_home) := goodIn_app (goodIn_of _ (by decide +kernel)) ggL_law_X11_home
set_option maxRecDepth 20000 in
theorem ggL_law_X10_ask : GoodIn wsL_law wsX10_ask := gp_c (goodIn_r _ [989] (by decide +kernel) (by decide +kernel)) (goodIn_app (goodIn_app (goodIn_r _ [990, 551, 552, 553, 2, 554, 188, 14, 149, 150, 151, 152, 39] (by decide +kernel) (by decide +kernel)) gpX6) gpX10)
set_option maxRecDepth 20000 in
theorem gL_law_X10_ask : GoodIn wsL_law (wsV RL 142 RX10 yX10_ask wsX10_ask) := goodIn_app (goodIn_of _ (by decide +kernel)) ggL_law_X10_ask
set_option maxRecDepth 20000 in
theorem ggL_law_X11_ask : GoodIn wsL_law wsX11_ask := gp_c (goodIn_r _ [994] (by decide +kernel) (by decide +kernel)) (goodIn_app (goodIn_r _ [101, 598, 599, 600, 5, 601, 229, 180, 181, 182, 158, 159, 160, 161, 96] (by decide +kernel) (by decide +kernel)) gpX11)
set_option maxRecDepth 20000 in
theorem gL_law_X11_ask : GoodIn wsL_law (wsV RL 145 RX11 yX11_ask wsX11_ask) := goodIn_app (goodIn_of _ (by decide +kernel)) ggL_law_X11_ask
set_option maxRecDepth 20000 in
theorem ggL_law_X10_crew : GoodIn wsL_law wsX10_crew := gp_c (goodIn_r _ [998] (by decide +kernel) (by decide +kernel)) (goodIn_app (goodIn_app (goodIn_app (goodIn_app (goodIn_app (goodIn_app (goodIn_r wsX10_crew_r1 [34, 188, 14, 149, 150, 151, 2, 152, 39, 999, 1000, 1001, 33, 1002, 89, 1003, 1004, 1005, 1006, 91, 1007, 1008, 479, 1009] (by decide +kernel) (by decide +kernel)) (goodIn_app (goodIn_r wsX10_crew_r2 [1010, 1011, 1012, 1013, 1014, 1015, 1016, 190, 1017, 195, 560, 561, 562, 563, 267, 18, 564, 274, 275, 276, 277, 278, 279, 280] (by decide +kernel) (by decide +kernel)) (goodIn_app (goodIn_r wsX10_crew_r3 [281, 282, 283, 1018, 1019, 1020, 1021, 90, 1022, 1023, 1024, 1025, 1026, 1027, 1028, 1029, 219, 1030, 1031, 1032, 1033, 1034, 1035, 1036] (by decide +kernel) (by decide +kernel)) (goodIn_r wsX10_crew_r4 [1037, 1038, 1039, 1040, 1041, 1042] (by decide +kernel) (by decide +kernel))))) gpX10) gpX4) gpX6) gpX1) gpX9)
set_option maxRecDepth 20000 in
theorem gL_law_X10_crew : GoodIn wsL_law (wsV RL 146 RX10 yX10_crew wsX10_crew) := goodIn_app (goodIn_of _ (by decide +kernel)) ggL_law_X10_crew
set_option maxRecDepth 20000 in
theorem ggL_law_X11_crew : GoodIn wsL_law wsX11_crew := gp_c (goodIn_r _ [1046] (by decide +kernel) (by decide +kernel)) (goodIn_app (goodIn_app (goodIn_r wsX11_crew_r1 [1047, 229, 139, 1048, 140, 1049, 142, 158, 159, 160, 5, 161, 96, 180, 181, 182, 1050, 1051, 1052, 1053, 101, 1054, 1055, 1056] (by decide +kernel) (by decide +kernel)) (goodIn_r wsX11_crew_r2 [1057, 288, 116, 298, 299, 300, 301, 122, 117, 293, 294, 295, 296, 297, 106, 107, 1058, 1059, 1060, 1061, 141] (by decide +kernel) (by decide +kernel))) gpX11)
set_option maxRecDepth 20000 in
theorem gL_law_X11_crew : GoodIn wsL_law (wsV RL 149 RX11 yX11_crew wsX11_crew) := goodIn_app (goodIn_of _ (by decide +kernel)) ggL_law_X11_crew
theorem dL_law_1288 : decode cL_law 1288 = .ok (.aload_n 1, 1) := by decide +kernel
theorem dL_law_1289 : decode cL_law 1289 = .ok (.aload_n 0, 1) := by decide +kernel
theorem dL_law_1290 : decode cL_law 1290 = .ok (.iload_n 3, 1) := by decide +kernel
theorem dL_law_1291 : decode cL_law 1291 = .ok (.iconst 1, 1) := by decide +kernel
theorem dL_law_1292 : decode cL_law 1292 = .ok (.iadd, 1) := by decide +kernel
theorem dL_law_1293 : decode cL_law 1293 = .ok (.iaload, 1) := by decide +kernel
theorem dL_law_1294 : decode cL_law 1294 = .ok (.invokevirtual 134, 3) := by decide +kernel
theorem dL_law_1297 : decode cL_law 1297 = .ok (.aload_n 2, 1) := by decide +kernel
theorem dL_law_1298 : decode cL_law 1298 = .ok (.aload_n 0, 1) := by decide +kernel
theorem dL_law_1299 : decode cL_law 1299 = .ok (.iload_n 3, 1) := by decide +kernel
theorem dL_law_1300 : decode cL_law 1300 = .ok (.iconst 1, 1) := by decide +kernel
theorem dL_law_1301 : decode cL_law 1301 = .ok (.iadd, 1) := by decide +kernel
theorem dL_law_1302 : decode cL_law 1302 = .ok (.iaload, 1) := by decide +kernel
theorem dL_law_1303 : decode cL_law 1303 = .ok (.invokevirtual 137, 3) := by decide +kernel
theorem dL_law_1306 : decode cL_law 1306 = .ok (.if_icmp .eq 193, 3) := by decide +kernel
theorem dL_law_1311 : decode cL_law 1311 = .ok (.aload_n 1, 1) := by decide +kernel
theorem dL_law_1312 : decode cL_law 1312 = .ok (.aload_n 0, 1) := by decide +kernel
theorem dL_law_1313 : decode cL_law 1313 = .ok (.iload_n 3, 1) := by decide +kernel
theorem dL_law_1314 : decode cL_law 1314 = .ok (.iconst 1, 1) := by decide +kernel
theorem dL_law_1315 : decode cL_law 1315 = .ok (.iadd, 1) := by decide +kernel
theorem dL_law_1316 : decode cL_law 1316 = .ok (.iaload, 1) := by decide +kernel
theorem dL_law_1317 : decode cL_law 1317 = .ok (.invokevirtual 138, 3) := by decide +kernel
theorem dL_law_1320 : decode cL_law 1320 = .ok (.aload_n 2, 1) := by decide +kernel
theorem dL_law_1321 : decode cL_law 1321 = .ok (.aload_n 0, 1) := by decide +kernel
theorem dL_law_1322 : decode cL_law 1322 = .ok (.iload_n 3, 1) := by decide +kernel
theorem dL_law_1323 : decode cL_law 1323 = .ok (.iconst 1, 1) := by decide +kernel
theorem dL_law_1324 : decode cL_law 1324 = .ok (.iadd, 1) := by decide +kernel
theorem dL_law_1325 : decode cL_law 1325 = .ok (.iaload, 1) := by decide +kernel
theorem dL_law_1326 : decode cL_law 1326 = .ok (.invokevirtual 141, 3) := by decide +kernel
theorem dL_law_1329 : decode cL_law 1329 = .ok (.if_icmp .eq 170, 3) := by decide +kernel
theorem dL_law_1334 : decode cL_law 1334 = .ok (.aload_n 1, 1) := by decide +kernel
theorem dL_law_1335 : decode cL_law 1335 = .ok (.aload_n 0, 1) := by decide +kernel
theorem dL_law_1336 : decode cL_law 1336 = .ok (.iload_n 3, 1) := by decide +kernel
theorem dL_law_1337 : decode cL_law 1337 = .ok (.iconst 1, 1) := by decide +kernel
theorem dL_law_1338 : decode cL_law 1338 = .ok (.iadd, 1) := by decide +kernel
theorem dL_law_1339 : decode cL_law 1339 = .ok (.iaload, 1) := by decide +kernel
theorem dL_law_1340 : decode cL_law 1340 = .ok (.aload_n 0, 1) := by decide +kernel
theorem dL_law_1341 : decode cL_law 1341 = .ok (.iload_n 3, 1) := by decide +kernel
theorem dL_law_1342 : decode cL_law 1342 = .ok (.iconst 2, 1) := by decide +kernel
theorem dL_law_1343 : decode cL_law 1343 = .ok (.iadd, 1) := by decide +kernel
theorem dL_law_1344 : decode cL_law 1344 = .ok (.iaload, 1) := by decide +kernel
theorem dL_law_1345 : decode cL_law 1345 = .ok (.aload_n 0, 1) := by decide +kernel
theorem dL_law_1346 : decode cL_law 1346 = .ok (.iload_n 3, 1) := by decide +kernel
theorem dL_law_1347 : decode cL_law 1347 = .ok (.iconst 3, 1) := by decide +kernel
theorem dL_law_1348 : decode cL_law 1348 = .ok (.iadd, 1) := by decide +kernel
theorem dL_law_1349 : decode cL_law 1349 = .ok (.iaload, 1) := by decide +kernel
theorem dL_law_1350 : decode cL_law 1350 = .ok (.invokevirtual 142, 3) := by decide +kernel
theorem dL_law_1353 : decode cL_law 1353 = .ok (.aload_n 2, 1) := by decide +kernel
theorem dL_law_1354 : decode cL_law 1354 = .ok (.aload_n 0, 1) := by decide +kernel
theorem dL_law_1355 : decode cL_law 1355 = .ok (.iload_n 3, 1) := by decide +kernel
theorem dL_law_1356 : decode cL_law 1356 = .ok (.iconst 1, 1) := by decide +kernel
theorem dL_law_1357 : decode cL_law 1357 = .ok (.iadd, 1) := by decide +kernel
theorem dL_law_1358 : decode cL_law 1358 = .ok (.iaload, 1) := by decide +kernel
theorem dL_law_1359 : decode cL_law 1359 = .ok (.aload_n 0, 1) := by decide +kernel
theorem dL_law_1360 : decode cL_law 1360 = .ok (.iload_n 3, 1) := by decide +kernel
theorem dL_law_1361 : decode cL_law 1361 = .ok (.iconst 2, 1) := by decide +kernel
theorem dL_law_1362 : decode cL_law 1362 = .ok (.iadd, 1) := by decide +kernel
theorem dL_law_1363 : decode cL_law 1363 = .ok (.iaload, 1) := by decide +kernel
theorem dL_law_1364 : decode cL_law 1364 = .ok (.aload_n 0, 1) := by decide +kernel
theorem dL_law_1365 : decode cL_law 1365 = .ok (.iload_n 3, 1) := by decide +kernel
theorem dL_law_1366 : decode cL_law 1366 = .ok (.iconst 3, 1) := by decide +kernel
theorem dL_law_1367 : decode cL_law 1367 = .ok (.iadd, 1) := by decide +kernel
theorem dL_law_1368 : decode cL_law 1368 = .ok (.iaload, 1) := by decide +kernel
theorem dL_law_1369 : decode cL_law 1369 = .ok (.invokevirtual 145, 3) := by decide +kernel
theorem dL_law_1372 : decode cL_law 1372 = .ok (.if_icmp .eq 127, 3) := by decide +kernel
theorem dL_law_1377 : decode cL_law 1377 = .ok (.aload_n 1, 1) := by decide +kernel
theorem dL_law_1378 : decode cL_law 1378 = .ok (.aload_n 0, 1) := by decide +kernel
theorem dL_law_1379 : decode cL_law 1379 = .ok (.iload_n 3, 1) := by decide +kernel
theorem dL_law_1380 : decode cL_law 1380 = .ok (.iconst 1, 1) := by decide +kernel
theorem dL_law_1381 : decode cL_law 1381 = .ok (.iadd, 1) := by decide +kernel
theorem dL_law_1382 : decode cL_law 1382 = .ok (.iaload, 1) := by decide +kernel
theorem dL_law_1383 : decode cL_law 1383 = .ok (.aload_n 0, 1) := by decide +kernel
theorem dL_law_1384 : decode cL_law 1384 = .ok (.iload_n 3, 1) := by decide +kernel
theorem dL_law_1385 : decode cL_law 1385 = .ok (.iconst 2, 1) := by decide +kernel
theorem dL_law_1386 : decode cL_law 1386 = .ok (.iadd, 1) := by decide +kernel
theorem dL_law_1387 : decode cL_law 1387 = .ok (.iaload, 1) := by decide +kernel
theorem dL_law_1388 : decode cL_law 1388 = .ok (.invokevirtual 146, 3) := by decide +kernel
theorem dL_law_1391 : decode cL_law 1391 = .ok (.aload_n 2, 1) := by decide +kernel
theorem dL_law_1392 : decode cL_law 1392 = .ok (.aload_n 0, 1) := by decide +kernel
theorem dL_law_1393 : decode cL_law 1393 = .ok (.iload_n 3, 1) := by decide +kernel
theorem dL_law_1394 : decode cL_law 1394 = .ok (.iconst 1, 1) := by decide +kernel
theorem dL_law_1395 : decode cL_law 1395 = .ok (.iadd, 1) := by decide +kernel
theorem dL_law_1396 : decode cL_law 1396 = .ok (.iaload, 1) := by decide +kernel
theorem dL_law_1397 : decode cL_law 1397 = .ok (.aload_n 0, 1) := by decide +kernel
theorem dL_law_1398 : decode cL_law 1398 = .ok (.iload_n 3, 1) := by decide +kernel
theorem dL_law_1399 : decode cL_law 1399 = .ok (.iconst 2, 1) := by decide +kernel
theorem dL_law_1400 : decode cL_law 1400 = .ok (.iadd, 1) := by decide +kernel
theorem dL_law_1401 : decode cL_law 1401 = .ok (.iaload, 1) := by decide +kernel
theorem dL_law_1402 : decode cL_law 1402 = .ok (.invokevirtual 149, 3) := by decide +kernel
theorem dL_law_1405 : decode cL_law 1405 = .ok (.if_icmp .eq 94, 3) := by decide +kernel

set_option maxHeartbeats 4000000 in
set_option maxRecDepth 100000 in
theorem lc_28 {p : Program} {l : Launch} {e : Env} {s : State} {m : MethodId} {below : List Frame} {meth : Method} {c : Code} {b : Nat} {xs : Nat → Int32} {A : Nat → Prop} {dC : Nat → ClassId} {dI : Nat → Nat → Nat} {tL tS h0 g0 : Nat} {q pq : Nat → Nat} {cq cp : Nat → ClassId} (C0 : lw_At p s m meth c b 6 xs) (hA : ∀ q : Nat, s.heap.size ≤ q → A q) (hAq : ∀ q, A q → s.heap.size ≤ q) (hZ : stZ A tL tS s s.heap) {H : Heap} {locs : List Loc} (hK : va_K (dC, dI) vwCl [((cq 15), .int), ((cq 1), .object RX6), ((cq 3), .object RX9), ((cq 90), .int), ((cq 100), .int), ((cq 110), .long), ((cq 112), .int), ((cq 13), .int), ((cp 0), .int), ((cp 1), .int), ((cp 2), .int), ((cp 3), .int), ((cp 4), .int), ((cp 6), .int), ((cp 7), .int), ((cp 8), .int), ((cp 9), .int), ((cp 44), .int), ((cp 55), .int), ((cp 61), .int)] s) (hP : va_P (dC, dI) vwCl [(h0, .inr (10, oF q)), ((q 15), .inl ((cq 15), 7, .inl (fun _ => 0))), ((q 1), .inl ((cq 1), 40, .inr (.inr (.inr (.inr (fun _ => none)))))), ((q 3), .inl ((cq 3), 20, .inr (.inr (.inr (.inr (fun _ => none)))))), ((q 8), .inr (5, [.ref (q 80), .ref (q 81), .int 0])), ((q 9), .inr (8, [.ref (q 90), .int 0, .ref (q 91), .int 0, .int 0, .int 0])), ((q 90), .inl ((cq 90), 60, .inl (fun _ => 0))), ((q 10), .inr (7, [.ref (q 100), .ref (q 101)])), ((q 100), .inl ((cq 100), 100, .inl (fun _ => 0))), ((q 11), .inr (4, [.ref (q 110), .ref (q 111), .int 0, .ref (q 112), .int 0, .int 0])), ((q 110), .inl ((cq 110), 81, .inr (.inl (fun _ => 0)))), ((q 112), .inl ((cq 112), 4, .inl (fun _ => 0))), ((q 13), .inl ((cq 13), 12, .inl (fun _ => 0))), (g0, .inr (11, mF pq)), ((pq 0), .inl ((cp 0), 7, .inl (fun _ => 0))), ((pq 1), .inl ((cp 1), 100, .inl (fun _ => 0))), ((pq 2), .inl ((cp 2), 40, .inl (fun _ => 0))), ((pq 3), .inl ((cp 3), 40, .inl (fun _ => 0))), ((pq 4), .inl ((cp 4), 40, .inl (fun _ => 0))), ((pq 6), .inl ((cp 6), 20, .inl (fun _ => 0))), ((pq 7), .inl ((cp 7), 20, .inl (fun _ => 0))), ((pq 8), .inl ((cp 8), 20, .inl (fun _ => 0))), ((pq 9), .inl ((cp 9), 20, .inl (fun _ => 0))), ((pq 44), .inl ((cp 44), 60, .inl (fun _ => 0))), ((pq 55), .inl ((cp 55), 8, .inl (fun _ => 0))), ((pq 61), .inl ((cp 61), 12, .inl (fun _ => 0)))] H) (hD : va_D A [(h0, .inr (10, oF q)), ((q 15), .inl ((cq 15), 7, .inl (fun _ => 0))), ((q 1), .inl ((cq 1), 40, .inr (.inr (.inr (.inr (fun _ => none)))))), ((q 3), .inl ((cq 3), 20, .inr (.inr (.inr (.inr (fun _ => none)))))), ((q 8), .inr (5, [.ref (q 80), .ref (q 81), .int 0])), ((q 9), .inr (8, [.ref (q 90), .int 0, .ref (q 91), .int 0, .int 0, .int 0])), ((q 90), .inl ((cq 90), 60, .inl (fun _ => 0))), ((q 10), .inr (7, [.ref (q 100), .ref (q 101)])), ((q 100), .inl ((cq 100), 100, .inl (fun _ => 0))), ((q 11), .inr (4, [.ref (q 110), .ref (q 111), .int 0, .ref (q 112), .int 0, .int 0])), ((q 110), .inl ((cq 110), 81, .inr (.inl (fun _ => 0)))), ((q 112), .inl ((cq 112), 4, .inl (fun _ => 0))), ((q 13), .inl ((cq 13), 12, .inl (fun _ => 0))), (g0, .inr (11, mF pq)), ((pq 0), .inl ((cp 0), 7, .inl (fun _ => 0))), ((pq 1), .inl ((cp 1), 100, .inl (fun _ => 0))), ((pq 2), .inl ((cp 2), 40, .inl (fun _ => 0))), ((pq 3), .inl ((cp 3), 40, .inl (fun _ => 0))), ((pq 4), .inl ((cp 4), 40, .inl (fun _ => 0))), ((pq 6), .inl ((cp 6), 20, .inl (fun _ => 0))), ((pq 7), .inl ((cp 7), 20, .inl (fun _ => 0))), ((pq 8), .inl ((cp 8), 20, .inl (fun _ => 0))), ((pq 9), .inl ((cp 9), 20, .inl (fun _ => 0))), ((pq 44), .inl ((cp 44), 60, .inl (fun _ => 0))), ((pq 55), .inl ((cp 55), 8, .inl (fun _ => 0))), ((pq 61), .inl ((cp 61), 12, .inl (fun _ => 0)))]) (hS : va_S A s.heap H locs) {ls : Array Slot} (hl : lv_has ls 4 [(3, .int 0), (2, .ref g0), (1, .ref h0), (0, .ref b)]) : W p l e room_1 s m #[Value.ref b] below meth c H locs 141 20685 (lw_Z below #[Value.ref b] s) (F0 m 1288 ls []) := by
  obtain ⟨hx, hb, hr, hml, hown, hts, hX, hbl, hlocks, hgv⟩ := id C0
  have hts := fun w h => hts w (wsL_law_in w h)
  have hown : s.vm.findClass RL = some m.cls := hown
  have hbA : ¬ A b := fun h => Nat.not_le.mpr hbl (hAq b h)
  refine lv_aload_n hx hb dL_law_1288 rfl (lv_at hl 2 rfl) ?_
  refine lv_aload_n hx hb dL_law_1289 rfl (lv_at hl 3 rfl) ?_
  refine lv_iload_n hx hb dL_law_1290 rfl (lv_at hl 0 rfl) ?_
  refine lv_iconst (v := 1) hx hb dL_law_1291 (by decide) ?_
  refine lv_iadd hx hb dL_law_1292 ?_
  refine lv_topi (fun y ey => ?_)
  obtain rfl : y = 1 := ey.trans (by decide)
  refine va_sld hx hb hX hbl hbA hS (by unfold vp_in; decide) dL_law_1293 ?_
  have hPc := hP.sub (ws' := [(h0, .inr (10, oF q)), ((q 15), .inl ((cq 15), 7, .inl (fun _ => 0)))]) [0, 1] rfl
  have hDc := hD.sub (ws' := [(h0, .inr (10, oF q)), ((q 15), .inl ((cq 15), 7, .inl (fun _ => 0)))]) [0, 1] (by decide) rfl
  have hKc := hK.sub (tys' := [((cq 15), .int)]) [0] rfl
  have hFc := va_free (wc := [(h0, .inr (10, oF q)), ((q 15), .inl ((cq 15), 7, .inl (fun _ => 0)))]) hD hS hA [0, 1] rfl
  refine va_calli (va_runV (As := [.int (xs (1 : Int32).toNatClampNeg)]) (rest := []) ⟨hx, hb, hml, hown, hts⟩ (c_X10_borrowed l dC dI H.size h0 q cq (xs (1 : Int32).toNatClampNeg)) (cwV 1 hts gL_law_X10_borrowed rfl rfl rfl (by decide +kernel) ⟨(Nat.le_of_ble_eq_true rfl), (Nat.le_of_ble_eq_true rfl)⟩) (pr_V (r := (RX10, TX10, 16)) hPc hKc hDc 0 10 rfl rfl) rfl rfl hl.1 rfl (lv_room (Nat.le_of_ble_eq_true rfl)) dL_law_1294 ⟨(Nat.le_of_ble_eq_true rfl), (Nat.le_of_ble_eq_true rfl)⟩) hS (fun q _ h => hFc q h) hFc (fun r_2 u t H locs ht hvm w_1 hB hz1 hk1 hS => ?_)
  obtain ⟨hP, hD⟩ := va_join (wr := [(g0, .inr (11, mF pq)), ((pq 0), .inl ((cp 0), 7, .inl (fun _ => 0))), ((pq 1), .inl ((cp 1), 100, .inl (fun _ => 0))), ((pq 2), .inl ((cp 2), 40, .inl (fun _ => 0))), ((pq 3), .inl ((cp 3), 40, .inl (fun _ => 0))), ((pq 4), .inl ((cp 4), 40, .inl (fun _ => 0))), ((pq 6), .inl ((cp 6), 20, .inl (fun _ => 0))), ((pq 7), .inl ((cp 7), 20, .inl (fun _ => 0))), ((pq 8), .inl ((cp 8), 20, .inl (fun _ => 0))), ((pq 9), .inl ((cp 9), 20, .inl (fun _ => 0))), ((pq 44), .inl ((cp 44), 60, .inl (fun _ => 0))), ((pq 55), .inl ((cp 55), 8, .inl (fun _ => 0))), ((pq 61), .inl ((cp 61), 12, .inl (fun _ => 0)))]) (w1 := []) hP hD [0, 1] [13, 14, 15, 16, 17, 18, 19, 20, 21, 22, 23, 24, 25] rfl rfl (by decide) (by decide) hk1 hFc vP0 vD0
  have hP : va_P (dC, dI) vwCl [(g0, .inr (11, mF pq)), ((pq 0), .inl ((cp 0), 7, .inl (fun _ => 0))), ((pq 1), .inl ((cp 1), 100, .inl (fun _ => 0))), ((pq 2), .inl ((cp 2), 40, .inl (fun _ => 0))), ((pq 3), .inl ((cp 3), 40, .inl (fun _ => 0))), ((pq 4), .inl ((cp 4), 40, .inl (fun _ => 0))), ((pq 6), .inl ((cp 6), 20, .inl (fun _ => 0))), ((pq 7), .inl ((cp 7), 20, .inl (fun _ => 0))), ((pq 8), .inl ((cp 8), 20, .inl (fun _ => 0))), ((pq 9), .inl ((cp 9), 20, .inl (fun _ => 0))), ((pq 44), .inl ((cp 44), 60, .inl (fun _ => 0))), ((pq 55), .inl ((cp 55), 8, .inl (fun _ => 0))), ((pq 61), .inl ((cp 61), 12, .inl (fun _ => 0)))] H := hP
  have hD : va_D A [(g0, .inr (11, mF pq)), ((pq 0), .inl ((cp 0), 7, .inl (fun _ => 0))), ((pq 1), .inl ((cp 1), 100, .inl (fun _ => 0))), ((pq 2), .inl ((cp 2), 40, .inl (fun _ => 0))), ((pq 3), .inl ((cp 3), 40, .inl (fun _ => 0))), ((pq 4), .inl ((cp 4), 40, .inl (fun _ => 0))), ((pq 6), .inl ((cp 6), 20, .inl (fun _ => 0))), ((pq 7), .inl ((cp 7), 20, .inl (fun _ => 0))), ((pq 8), .inl ((cp 8), 20, .inl (fun _ => 0))), ((pq 9), .inl ((cp 9), 20, .inl (fun _ => 0))), ((pq 44), .inl ((cp 44), 60, .inl (fun _ => 0))), ((pq 55), .inl ((cp 55), 8, .inl (fun _ => 0))), ((pq 61), .inl ((cp 61), 12, .inl (fun _ => 0)))] := hD
  clear hk1 hz1 hvm hB ht hPc hDc hKc hFc
  refine lv_aload_n hx hb dL_law_1297 rfl (lv_at hl 1 rfl) ?_
  refine lv_aload_n hx hb dL_law_1298 rfl (lv_at hl 3 rfl) ?_
  refine lv_iload_n hx hb dL_law_1299 rfl (lv_at hl 0 rfl) ?_
  refine lv_iconst (v := 1) hx hb dL_law_1300 (by decide) ?_
  refine lv_iadd hx hb dL_law_1301 ?_
  refine lv_topi (fun y ey => ?_)
  obtain rfl : y = 1 := ey.trans (by decide)
  refine va_sld hx hb hX hbl hbA hS (by unfold vp_in; decide) dL_law_1302 ?_
  have hPc := hP.sub (ws' := [(g0, .inr (11, mF pq)), ((pq 0), .inl ((cp 0), 7, .inl (fun _ => 0)))]) [0, 1] rfl
  have hDc := hD.sub (ws' := [(g0, .inr (11, mF pq)), ((pq 0), .inl ((cp 0), 7, .inl (fun _ => 0)))]) [0, 1] (by decide) rfl
  have hKc := hK.sub (tys' := [((cp 0), .int)]) [8] rfl
  have hFc := va_free (wc := [(g0, .inr (11, mF pq)), ((pq 0), .inl ((cp 0), 7, .inl (fun _ => 0)))]) hD hS hA [0, 1] rfl
  refine va_calli (va_runV (As := [.int (xs (1 : Int32).toNatClampNeg)]) (rest := [.int r_2]) ⟨hx, hb, hml, hown, hts⟩ (c_X11_borrowed l dC dI H.size g0 pq cp (xs (1 : Int32).toNatClampNeg)) (cwV 1 hts gL_law_X11_borrowed rfl rfl rfl (by decide +kernel) ⟨(Nat.le_of_ble_eq_true rfl), (Nat.le_of_ble_eq_true rfl)⟩) (pr_V (r := (RX11, TX11, 63)) hPc hKc hDc 0 11 rfl rfl) rfl rfl hl.1 rfl (lv_room (Nat.le_of_ble_eq_true rfl)) dL_law_1303 ⟨(Nat.le_of_ble_eq_true rfl), (Nat.le_of_ble_eq_true rfl)⟩) hS (fun q _ h => hFc q h) hFc (fun r_4 u t H locs ht hvm w_3 hB hz1 hk1 hS => ?_)
  clear hk1 hz1 hvm hB ht hPc hDc hKc hFc
  refine lv_icmp_eq (tgt := 1499) hx hb dL_law_1306 (by decide) (fun c_5 => ?_) (fun c_5 => absurd c_5 (fun h => h (w_1.trans w_3.symm)))
  exact lc_end (Nat.le_of_ble_eq_true rfl) (Nat.le_of_ble_eq_true rfl) C0 hAq hS hl
set_option maxHeartbeats 4000000 in
set_option maxRecDepth 100000 in
theorem lc_29 {p : Program} {l : Launch} {e : Env} {s : State} {m : MethodId} {below : List Frame} {meth : Method} {c : Code} {b : Nat} {xs : Nat → Int32} {A : Nat → Prop} {dC : Nat → ClassId} {dI : Nat → Nat → Nat} {tL tS h0 g0 : Nat} {q pq : Nat → Nat} {cq cp : Nat → ClassId} (C0 : lw_At p s m meth c b 6 xs) (hA : ∀ q : Nat, s.heap.size ≤ q → A q) (hAq : ∀ q, A q → s.heap.size ≤ q) (hZ : stZ A tL tS s s.heap) {H : Heap} {locs : List Loc} (hK : va_K (dC, dI) vwCl [((cq 15), .int), ((cq 1), .object RX6), ((cq 3), .object RX9), ((cq 90), .int), ((cq 100), .int), ((cq 110), .long), ((cq 112), .int), ((cq 13), .int), ((cp 0), .int), ((cp 1), .int), ((cp 2), .int), ((cp 3), .int), ((cp 4), .int), ((cp 6), .int), ((cp 7), .int), ((cp 8), .int), ((cp 9), .int), ((cp 44), .int), ((cp 55), .int), ((cp 61), .int)] s) (hP : va_P (dC, dI) vwCl [(h0, .inr (10, oF q)), ((q 15), .inl ((cq 15), 7, .inl (fun _ => 0))), ((q 1), .inl ((cq 1), 40, .inr (.inr (.inr (.inr (fun _ => none)))))), ((q 3), .inl ((cq 3), 20, .inr (.inr (.inr (.inr (fun _ => none)))))), ((q 8), .inr (5, [.ref (q 80), .ref (q 81), .int 0])), ((q 9), .inr (8, [.ref (q 90), .int 0, .ref (q 91), .int 0, .int 0, .int 0])), ((q 90), .inl ((cq 90), 60, .inl (fun _ => 0))), ((q 10), .inr (7, [.ref (q 100), .ref (q 101)])), ((q 100), .inl ((cq 100), 100, .inl (fun _ => 0))), ((q 11), .inr (4, [.ref (q 110), .ref (q 111), .int 0, .ref (q 112), .int 0, .int 0])), ((q 110), .inl ((cq 110), 81, .inr (.inl (fun _ => 0)))), ((q 112), .inl ((cq 112), 4, .inl (fun _ => 0))), ((q 13), .inl ((cq 13), 12, .inl (fun _ => 0))), (g0, .inr (11, mF pq)), ((pq 0), .inl ((cp 0), 7, .inl (fun _ => 0))), ((pq 1), .inl ((cp 1), 100, .inl (fun _ => 0))), ((pq 2), .inl ((cp 2), 40, .inl (fun _ => 0))), ((pq 3), .inl ((cp 3), 40, .inl (fun _ => 0))), ((pq 4), .inl ((cp 4), 40, .inl (fun _ => 0))), ((pq 6), .inl ((cp 6), 20, .inl (fun _ => 0))), ((pq 7), .inl ((cp 7), 20, .inl (fun _ => 0))), ((pq 8), .inl ((cp 8), 20, .inl (fun _ => 0))), ((pq 9), .inl ((cp 9), 20, .inl (fun _ => 0))), ((pq 44), .inl ((cp 44), 60, .inl (fun _ => 0))), ((pq 55), .inl ((cp 55), 8, .inl (fun _ => 0))), ((pq 61), .inl ((cp 61), 12, .inl (fun _ => 0)))] H) (hD : va_D A [(h0, .inr (10, oF q)), ((q 15), .inl ((cq 15), 7, .inl (fun _ => 0))), ((q 1), .inl ((cq 1), 40, .inr (.inr (.inr (.inr (fun _ => none)))))), ((q 3), .inl ((cq 3), 20, .inr (.inr (.inr (.inr (fun _ => none)))))), ((q 8), .inr (5, [.ref (q 80), .ref (q 81), .int 0])), ((q 9), .inr (8, [.ref (q 90), .int 0, .ref (q 91), .int 0, .int 0, .int 0])), ((q 90), .inl ((cq 90), 60, .inl (fun _ => 0))), ((q 10), .inr (7, [.ref (q 100), .ref (q 101)])), ((q 100), .inl ((cq 100), 100, .inl (fun _ => 0))), ((q 11), .inr (4, [.ref (q 110), .ref (q 111), .int 0, .ref (q 112), .int 0, .int 0])), ((q 110), .inl ((cq 110), 81, .inr (.inl (fun _ => 0)))), ((q 112), .inl ((cq 112), 4, .inl (fun _ => 0))), ((q 13), .inl ((cq 13), 12, .inl (fun _ => 0))), (g0, .inr (11, mF pq)), ((pq 0), .inl ((cp 0), 7, .inl (fun _ => 0))), ((pq 1), .inl ((cp 1), 100, .inl (fun _ => 0))), ((pq 2), .inl ((cp 2), 40, .inl (fun _ => 0))), ((pq 3), .inl ((cp 3), 40, .inl (fun _ => 0))), ((pq 4), .inl ((cp 4), 40, .inl (fun _ => 0))), ((pq 6), .inl ((cp 6), 20, .inl (fun _ => 0))), ((pq 7), .inl ((cp 7), 20, .inl (fun _ => 0))), ((pq 8), .inl ((cp 8), 20, .inl (fun _ => 0))), ((pq 9), .inl ((cp 9), 20, .inl (fun _ => 0))), ((pq 44), .inl ((cp 44), 60, .inl (fun _ => 0))), ((pq 55), .inl ((cp 55), 8, .inl (fun _ => 0))), ((pq 61), .inl ((cp 61), 12, .inl (fun _ => 0)))]) (hS : va_S A s.heap H locs) {ls : Array Slot} (hl : lv_has ls 4 [(3, .int 0), (2, .ref g0), (1, .ref h0), (0, .ref b)]) : W p l e room_1 s m #[Value.ref b] below meth c H locs 141 20685 (lw_Z below #[Value.ref b] s) (F0 m 1311 ls []) := by
  obtain ⟨hx, hb, hr, hml, hown, hts, hX, hbl, hlocks, hgv⟩ := id C0
  have hts := fun w h => hts w (wsL_law_in w h)
  have hown : s.vm.findClass RL = some m.cls := hown
  have hbA : ¬ A b := fun h => Nat.not_le.mpr hbl (hAq b h)
  refine lv_aload_n hx hb dL_law_1311 rfl (lv_at hl 2 rfl) ?_
  refine lv_aload_n hx hb dL_law_1312 rfl (lv_at hl 3 rfl) ?_
  refine lv_iload_n hx hb dL_law_1313 rfl (lv_at hl 0 rfl) ?_
  refine lv_iconst (v := 1) hx hb dL_law_1314 (by decide) ?_
  refine lv_iadd hx hb dL_law_1315 ?_
  refine lv_topi (fun y ey => ?_)
  obtain rfl : y = 1 := ey.trans (by decide)
  refine va_sld hx hb hX hbl hbA hS (by unfold vp_in; decide) dL_law_1316 ?_
  have hPc := hP.sub (ws' := [(h0, .inr (10, oF q)), ((q 15), .inl ((cq 15), 7, .inl (fun _ => 0)))]) [0, 1] rfl
  have hDc := hD.sub (ws' := [(h0, .inr (10, oF q)), ((q 15), .inl ((cq 15), 7, .inl (fun _ => 0)))]) [0, 1] (by decide) rfl
  have hKc := hK.sub (tys' := [((cq 15), .int)]) [0] rfl
  have hFc := va_free (wc := [(h0, .inr (10, oF q)), ((q 15), .inl ((cq 15), 7, .inl (fun _ => 0)))]) hD hS hA [0, 1] rfl
  refine va_calli (va_runV (As := [.int (xs (1 : Int32).toNatClampNeg)]) (rest := []) ⟨hx, hb, hml, hown, hts⟩ (c_X10_home l dC dI H.size h0 q cq (xs (1 : Int32).toNatClampNeg)) (cwV 1 hts gL_law_X10_home rfl rfl rfl (by decide +kernel) ⟨(Nat.le_of_ble_eq_true rfl), (Nat.le_of_ble_eq_true rfl)⟩) (pr_V (r := (RX10, TX10, 16)) hPc hKc hDc 0 10 rfl rfl) rfl rfl hl.1 rfl (lv_room (Nat.le_of_ble_eq_true rfl)) dL_law_1317 ⟨(Nat.le_of_ble_eq_true rfl), (Nat.le_of_ble_eq_true rfl)⟩) hS (fun q _ h => hFc q h) hFc (fun r_2 u t H locs ht hvm w_1 hB hz1 hk1 hS => ?_)
  obtain ⟨hP, hD⟩ := va_join (wr := [(g0, .inr (11, mF pq)), ((pq 0), .inl ((cp 0), 7, .inl (fun _ => 0))), ((pq 1), .inl ((cp 1), 100, .inl (fun _ => 0))), ((pq 2), .inl ((cp 2), 40, .inl (fun _ => 0))), ((pq 3), .inl ((cp 3), 40, .inl (fun _ => 0))), ((pq 4), .inl ((cp 4), 40, .inl (fun _ => 0))), ((pq 6), .inl ((cp 6), 20, .inl (fun _ => 0))), ((pq 7), .inl ((cp 7), 20, .inl (fun _ => 0))), ((pq 8), .inl ((cp 8), 20, .inl (fun _ => 0))), ((pq 9), .inl ((cp 9), 20, .inl (fun _ => 0))), ((pq 44), .inl ((cp 44), 60, .inl (fun _ => 0))), ((pq 55), .inl ((cp 55), 8, .inl (fun _ => 0))), ((pq 61), .inl ((cp 61), 12, .inl (fun _ => 0)))]) (w1 := []) hP hD [0, 1] [13, 14, 15, 16, 17, 18, 19, 20, 21, 22, 23, 24, 25] rfl rfl (by decide) (by decide) hk1 hFc vP0 vD0
  have hP : va_P (dC, dI) vwCl [(g0, .inr (11, mF pq)), ((pq 0), .inl ((cp 0), 7, .inl (fun _ => 0))), ((pq 1), .inl ((cp 1), 100, .inl (fun _ => 0))), ((pq 2), .inl ((cp 2), 40, .inl (fun _ => 0))), ((pq 3), .inl ((cp 3), 40, .inl (fun _ => 0))), ((pq 4), .inl ((cp 4), 40, .inl (fun _ => 0))), ((pq 6), .inl ((cp 6), 20, .inl (fun _ => 0))), ((pq 7), .inl ((cp 7), 20, .inl (fun _ => 0))), ((pq 8), .inl ((cp 8), 20, .inl (fun _ => 0))), ((pq 9), .inl ((cp 9), 20, .inl (fun _ => 0))), ((pq 44), .inl ((cp 44), 60, .inl (fun _ => 0))), ((pq 55), .inl ((cp 55), 8, .inl (fun _ => 0))), ((pq 61), .inl ((cp 61), 12, .inl (fun _ => 0)))] H := hP
  have hD : va_D A [(g0, .inr (11, mF pq)), ((pq 0), .inl ((cp 0), 7, .inl (fun _ => 0))), ((pq 1), .inl ((cp 1), 100, .inl (fun _ => 0))), ((pq 2), .inl ((cp 2), 40, .inl (fun _ => 0))), ((pq 3), .inl ((cp 3), 40, .inl (fun _ => 0))), ((pq 4), .inl ((cp 4), 40, .inl (fun _ => 0))), ((pq 6), .inl ((cp 6), 20, .inl (fun _ => 0))), ((pq 7), .inl ((cp 7), 20, .inl (fun _ => 0))), ((pq 8), .inl ((cp 8), 20, .inl (fun _ => 0))), ((pq 9), .inl ((cp 9), 20, .inl (fun _ => 0))), ((pq 44), .inl ((cp 44), 60, .inl (fun _ => 0))), ((pq 55), .inl ((cp 55), 8, .inl (fun _ => 0))), ((pq 61), .inl ((cp 61), 12, .inl (fun _ => 0)))] := hD
  clear hk1 hz1 hvm hB ht hPc hDc hKc hFc
  refine lv_aload_n hx hb dL_law_1320 rfl (lv_at hl 1 rfl) ?_
  refine lv_aload_n hx hb dL_law_1321 rfl (lv_at hl 3 rfl) ?_
  refine lv_iload_n hx hb dL_law_1322 rfl (lv_at hl 0 rfl) ?_
  refine lv_iconst (v := 1) hx hb dL_law_1323 (by decide) ?_
  refine lv_iadd hx hb dL_law_1324 ?_
  refine lv_topi (fun y ey => ?_)
  obtain rfl : y = 1 := ey.trans (by decide)
  refine va_sld hx hb hX hbl hbA hS (by unfold vp_in; decide) dL_law_1325 ?_
  have hPc := hP.sub (ws' := [(g0, .inr (11, mF pq)), ((pq 0), .inl ((cp 0), 7, .inl (fun _ => 0)))]) [0, 1] rfl
  have hDc := hD.sub (ws' := [(g0, .inr (11, mF pq)), ((pq 0), .inl ((cp 0), 7, .inl (fun _ => 0)))]) [0, 1] (by decide) rfl
  have hKc := hK.sub (tys' := [((cp 0), .int)]) [8] rfl
  have hFc := va_free (wc := [(g0, .inr (11, mF pq)), ((pq 0), .inl ((cp 0), 7, .inl (fun _ => 0)))]) hD hS hA [0, 1] rfl
  refine va_calli (va_runV (As := [.int (xs (1 : Int32).toNatClampNeg)]) (rest := [.int r_2]) ⟨hx, hb, hml, hown, hts⟩ (c_X11_home l dC dI H.size g0 pq cp (xs (1 : Int32).toNatClampNeg)) (cwV 1 hts gL_law_X11_home rfl rfl rfl (by decide +kernel) ⟨(Nat.le_of_ble_eq_true rfl), (Nat.le_of_ble_eq_true rfl)⟩) (pr_V (r := (RX11, TX11, 63)) hPc hKc hDc 0 11 rfl rfl) rfl rfl hl.1 rfl (lv_room (Nat.le_of_ble_eq_true rfl)) dL_law_1326 ⟨(Nat.le_of_ble_eq_true rfl), (Nat.le_of_ble_eq_true rfl)⟩) hS (fun q _ h => hFc q h) hFc (fun r_4 u t H locs ht hvm w_3 hB hz1 hk1 hS => ?_)
  clear hk1 hz1 hvm hB ht hPc hDc hKc hFc
  refine lv_icmp_eq (tgt := 1499) hx hb dL_law_1329 (by decide) (fun c_5 => ?_) (fun c_5 => absurd c_5 (fun h => h (w_1.trans w_3.symm)))
  exact lc_end (Nat.le_of_ble_eq_true rfl) (Nat.le_of_ble_eq_true rfl) C0 hAq hS hl
set_option maxHeartbeats 4000000 in
set_option maxRecDepth 100000 in
theorem lc_30 {p : Program} {l : Launch} {e : Env} {s : State} {m : MethodId} {below : List Frame} {meth : Method} {c : Code} {b : Nat} {xs : Nat → Int32} {A : Nat → Prop} {dC : Nat → ClassId} {dI : Nat → Nat → Nat} {tL tS h0 g0 : Nat} {q pq : Nat → Nat} {cq cp : Nat → ClassId} (C0 : lw_At p s m meth c b 6 xs) (hA : ∀ q : Nat, s.heap.size ≤ q → A q) (hAq : ∀ q, A q → s.heap.size ≤ q) (hZ : stZ A tL tS s s.heap) {H : Heap} {locs : List Loc} (hK : va_K (dC, dI) vwCl [((cq 15), .int), ((cq 1), .object RX6), ((cq 3), .object RX9), ((cq 90), .int), ((cq 100), .int), ((cq 110), .long), ((cq 112), .int), ((cq 13), .int), ((cp 0), .int), ((cp 1), .int), ((cp 2), .int), ((cp 3), .int), ((cp 4), .int), ((cp 6), .int), ((cp 7), .int), ((cp 8), .int), ((cp 9), .int), ((cp 44), .int), ((cp 55), .int), ((cp 61), .int)] s) (hP : va_P (dC, dI) vwCl [(h0, .inr (10, oF q)), ((q 15), .inl ((cq 15), 7, .inl (fun _ => 0))), ((q 1), .inl ((cq 1), 40, .inr (.inr (.inr (.inr (fun _ => none)))))), ((q 3), .inl ((cq 3), 20, .inr (.inr (.inr (.inr (fun _ => none)))))), ((q 8), .inr (5, [.ref (q 80), .ref (q 81), .int 0])), ((q 9), .inr (8, [.ref (q 90), .int 0, .ref (q 91), .int 0, .int 0, .int 0])), ((q 90), .inl ((cq 90), 60, .inl (fun _ => 0))), ((q 10), .inr (7, [.ref (q 100), .ref (q 101)])), ((q 100), .inl ((cq 100), 100, .inl (fun _ => 0))), ((q 11), .inr (4, [.ref (q 110), .ref (q 111), .int 0, .ref (q 112), .int 0, .int 0])), ((q 110), .inl ((cq 110), 81, .inr (.inl (fun _ => 0)))), ((q 112), .inl ((cq 112), 4, .inl (fun _ => 0))), ((q 13), .inl ((cq 13), 12, .inl (fun _ => 0))), (g0, .inr (11, mF pq)), ((pq 0), .inl ((cp 0), 7, .inl (fun _ => 0))), ((pq 1), .inl ((cp 1), 100, .inl (fun _ => 0))), ((pq 2), .inl ((cp 2), 40, .inl (fun _ => 0))), ((pq 3), .inl ((cp 3), 40, .inl (fun _ => 0))), ((pq 4), .inl ((cp 4), 40, .inl (fun _ => 0))), ((pq 6), .inl ((cp 6), 20, .inl (fun _ => 0))), ((pq 7), .inl ((cp 7), 20, .inl (fun _ => 0))), ((pq 8), .inl ((cp 8), 20, .inl (fun _ => 0))), ((pq 9), .inl ((cp 9), 20, .inl (fun _ => 0))), ((pq 44), .inl ((cp 44), 60, .inl (fun _ => 0))), ((pq 55), .inl ((cp 55), 8, .inl (fun _ => 0))), ((pq 61), .inl ((cp 61), 12, .inl (fun _ => 0)))] H) (hD : va_D A [(h0, .inr (10, oF q)), ((q 15), .inl ((cq 15), 7, .inl (fun _ => 0))), ((q 1), .inl ((cq 1), 40, .inr (.inr (.inr (.inr (fun _ => none)))))), ((q 3), .inl ((cq 3), 20, .inr (.inr (.inr (.inr (fun _ => none)))))), ((q 8), .inr (5, [.ref (q 80), .ref (q 81), .int 0])), ((q 9), .inr (8, [.ref (q 90), .int 0, .ref (q 91), .int 0, .int 0, .int 0])), ((q 90), .inl ((cq 90), 60, .inl (fun _ => 0))), ((q 10), .inr (7, [.ref (q 100), .ref (q 101)])), ((q 100), .inl ((cq 100), 100, .inl (fun _ => 0))), ((q 11), .inr (4, [.ref (q 110), .ref (q 111), .int 0, .ref (q 112), .int 0, .int 0])), ((q 110), .inl ((cq 110), 81, .inr (.inl (fun _ => 0)))), ((q 112), .inl ((cq 112), 4, .inl (fun _ => 0))), ((q 13), .inl ((cq 13), 12, .inl (fun _ => 0))), (g0, .inr (11, mF pq)), ((pq 0), .inl ((cp 0), 7, .inl (fun _ => 0))), ((pq 1), .inl ((cp 1), 100, .inl (fun _ => 0))), ((pq 2), .inl ((cp 2), 40, .inl (fun _ => 0))), ((pq 3), .inl ((cp 3), 40, .inl (fun _ => 0))), ((pq 4), .inl ((cp 4), 40, .inl (fun _ => 0))), ((pq 6), .inl ((cp 6), 20, .inl (fun _ => 0))), ((pq 7), .inl ((cp 7), 20, .inl (fun _ => 0))), ((pq 8), .inl ((cp 8), 20, .inl (fun _ => 0))), ((pq 9), .inl ((cp 9), 20, .inl (fun _ => 0))), ((pq 44), .inl ((cp 44), 60, .inl (fun _ => 0))), ((pq 55), .inl ((cp 55), 8, .inl (fun _ => 0))), ((pq 61), .inl ((cp 61), 12, .inl (fun _ => 0)))]) (hS : va_S A s.heap H locs) {ls : Array Slot} (hl : lv_has ls 4 [(3, .int 0), (2, .ref g0), (1, .ref h0), (0, .ref b)]) : W p l e room_1 s m #[Value.ref b] below meth c H locs 141 20685 (lw_Z below #[Value.ref b] s) (F0 m 1334 ls []) := by
  obtain ⟨hx, hb, hr, hml, hown, hts, hX, hbl, hlocks, hgv⟩ := id C0
  have hts := fun w h => hts w (wsL_law_in w h)
  have hown : s.vm.findClass RL = some m.cls := hown
  have hbA : ¬ A b := fun h => Nat.not_le.mpr hbl (hAq b h)
  refine lv_aload_n hx hb dL_law_1334 rfl (lv_at hl 2 rfl) ?_
  refine lv_aload_n hx hb dL_law_1335 rfl (lv_at hl 3 rfl) ?_
  refine lv_iload_n hx hb dL_law_1336 rfl (lv_at hl 0 rfl) ?_
  refine lv_iconst (v := 1) hx hb dL_law_1337 (by decide) ?_
  refine lv_iadd hx hb dL_law_1338 ?_
  refine lv_topi (fun y ey => ?_)
  obtain rfl : y = 1 := ey.trans (by decide)
  refine va_sld hx hb hX hbl hbA hS (by unfold vp_in; decide) dL_law_1339 ?_
  refine lv_aload_n hx hb dL_law_1340 rfl (lv_at hl 3 rfl) ?_
  refine lv_iload_n hx hb dL_law_1341 rfl (lv_at hl 0 rfl) ?_
  refine lv_iconst (v := 2) hx hb dL_law_1342 (by decide) ?_
  refine lv_iadd hx hb dL_law_1343 ?_
  refine lv_topi (fun y ey => ?_)
  obtain rfl : y = 2 := ey.trans (by decide)
  refine va_sld hx hb hX hbl hbA hS (by unfold vp_in; decide) dL_law_1344 ?_
  refine lv_aload_n hx hb dL_law_1345 rfl (lv_at hl 3 rfl) ?_
  refine lv_iload_n hx hb dL_law_1346 rfl (lv_at hl 0 rfl) ?_
  refine lv_iconst (v := 3) hx hb dL_law_1347 (by decide) ?_
  refine lv_iadd hx hb dL_law_1348 ?_
  refine lv_topi (fun y ey => ?_)
  obtain rfl : y = 3 := ey.trans (by decide)
  refine va_sld hx hb hX hbl hbA hS (by unfold vp_in; decide) dL_law_1349 ?_
  have hPc := hP.sub (ws' := [(h0, .inr (10, oF q)), ((q 15), .inl ((cq 15), 7, .inl (fun _ => 0)))]) [0, 1] rfl
  have hDc := hD.sub (ws' := [(h0, .inr (10, oF q)), ((q 15), .inl ((cq 15), 7, .inl (fun _ => 0)))]) [0, 1] (by decide) rfl
  have hKc := hK.sub (tys' := [((cq 15), .int)]) [0] rfl
  have hFc := va_free (wc := [(h0, .inr (10, oF q)), ((q 15), .inl ((cq 15), 7, .inl (fun _ => 0)))]) hD hS hA [0, 1] rfl
  refine va_calli (va_runV (As := [.int (xs (1 : Int32).toNatClampNeg), .int (xs (2 : Int32).toNatClampNeg), .int (xs (3 : Int32).toNatClampNeg)]) (rest := []) ⟨hx, hb, hml, hown, hts⟩ (c_X10_ask l dC dI H.size h0 q cq (xs (1 : Int32).toNatClampNeg) (xs (2 : Int32).toNatClampNeg) (xs (3 : Int32).toNatClampNeg)) (cwV 3 hts gL_law_X10_ask rfl rfl rfl (by decide +kernel) ⟨(Nat.le_of_ble_eq_true rfl), (Nat.le_of_ble_eq_true rfl)⟩) (pr_V (r := (RX10, TX10, 16)) hPc hKc hDc 0 10 rfl rfl) rfl rfl hl.1 rfl (lv_room (Nat.le_of_ble_eq_true rfl)) dL_law_1350 ⟨(Nat.le_of_ble_eq_true rfl), (Nat.le_of_ble_eq_true rfl)⟩) hS (fun q _ h => hFc q h) hFc (fun r_2 u t H locs ht hvm w_1 hB hz1 hk1 hS => ?_)
  obtain ⟨hP, hD⟩ := va_join (wr := [(g0, .inr (11, mF pq)), ((pq 0), .inl ((cp 0), 7, .inl (fun _ => 0))), ((pq 1), .inl ((cp 1), 100, .inl (fun _ => 0))), ((pq 2), .inl ((cp 2), 40, .inl (fun _ => 0))), ((pq 3), .inl ((cp 3), 40, .inl (fun _ => 0))), ((pq 4), .inl ((cp 4), 40, .inl (fun _ => 0))), ((pq 6), .inl ((cp 6), 20, .inl (fun _ => 0))), ((pq 7), .inl ((cp 7), 20, .inl (fun _ => 0))), ((pq 8), .inl ((cp 8), 20, .inl (fun _ => 0))), ((pq 9), .inl ((cp 9), 20, .inl (fun _ => 0))), ((pq 44), .inl ((cp 44), 60, .inl (fun _ => 0))), ((pq 55), .inl ((cp 55), 8, .inl (fun _ => 0))), ((pq 61), .inl ((cp 61), 12, .inl (fun _ => 0)))]) (w1 := []) hP hD [0, 1] [13, 14, 15, 16, 17, 18, 19, 20, 21, 22, 23, 24, 25] rfl rfl (by decide) (by decide) hk1 hFc vP0 vD0
  have hP : va_P (dC, dI) vwCl [(g0, .inr (11, mF pq)), ((pq 0), .inl ((cp 0), 7, .inl (fun _ => 0))), ((pq 1), .inl ((cp 1), 100, .inl (fun _ => 0))), ((pq 2), .inl ((cp 2), 40, .inl (fun _ => 0))), ((pq 3), .inl ((cp 3), 40, .inl (fun _ => 0))), ((pq 4), .inl ((cp 4), 40, .inl (fun _ => 0))), ((pq 6), .inl ((cp 6), 20, .inl (fun _ => 0))), ((pq 7), .inl ((cp 7), 20, .inl (fun _ => 0))), ((pq 8), .inl ((cp 8), 20, .inl (fun _ => 0))), ((pq 9), .inl ((cp 9), 20, .inl (fun _ => 0))), ((pq 44), .inl ((cp 44), 60, .inl (fun _ => 0))), ((pq 55), .inl ((cp 55), 8, .inl (fun _ => 0))), ((pq 61), .inl ((cp 61), 12, .inl (fun _ => 0)))] H := hP
  have hD : va_D A [(g0, .inr (11, mF pq)), ((pq 0), .inl ((cp 0), 7, .inl (fun _ => 0))), ((pq 1), .inl ((cp 1), 100, .inl (fun _ => 0))), ((pq 2), .inl ((cp 2), 40, .inl (fun _ => 0))), ((pq 3), .inl ((cp 3), 40, .inl (fun _ => 0))), ((pq 4), .inl ((cp 4), 40, .inl (fun _ => 0))), ((pq 6), .inl ((cp 6), 20, .inl (fun _ => 0))), ((pq 7), .inl ((cp 7), 20, .inl (fun _ => 0))), ((pq 8), .inl ((cp 8), 20, .inl (fun _ => 0))), ((pq 9), .inl ((cp 9), 20, .inl (fun _ => 0))), ((pq 44), .inl ((cp 44), 60, .inl (fun _ => 0))), ((pq 55), .inl ((cp 55), 8, .inl (fun _ => 0))), ((pq 61), .inl ((cp 61), 12, .inl (fun _ => 0)))] := hD
  clear hk1 hz1 hvm hB ht hPc hDc hKc hFc
  refine lv_aload_n hx hb dL_law_1353 rfl (lv_at hl 1 rfl) ?_
  refine lv_aload_n hx hb dL_law_1354 rfl (lv_at hl 3 rfl) ?_
  refine lv_iload_n hx hb dL_law_1355 rfl (lv_at hl 0 rfl) ?_
  refine lv_iconst (v := 1) hx hb dL_law_1356 (by decide) ?_
  refine lv_iadd hx hb dL_law_1357 ?_
  refine lv_topi (fun y ey => ?_)
  obtain rfl : y = 1 := ey.trans (by decide)
  refine va_sld hx hb hX hbl hbA hS (by unfold vp_in; decide) dL_law_1358 ?_
  refine lv_aload_n hx hb dL_law_1359 rfl (lv_at hl 3 rfl) ?_
  refine lv_iload_n hx hb dL_law_1360 rfl (lv_at hl 0 rfl) ?_
  refine lv_iconst (v := 2) hx hb dL_law_1361 (by decide) ?_
  refine lv_iadd hx hb dL_law_1362 ?_
  refine lv_topi (fun y ey => ?_)
  obtain rfl : y = 2 := ey.trans (by decide)
  refine va_sld hx hb hX hbl hbA hS (by unfold vp_in; decide) dL_law_1363 ?_
  refine lv_aload_n hx hb dL_law_1364 rfl (lv_at hl 3 rfl) ?_
  refine lv_iload_n hx hb dL_law_1365 rfl (lv_at hl 0 rfl) ?_
  refine lv_iconst (v := 3) hx hb dL_law_1366 (by decide) ?_
  refine lv_iadd hx hb dL_law_1367 ?_
  refine lv_topi (fun y ey => ?_)
  obtain rfl : y = 3 := ey.trans (by decide)
  refine va_sld hx hb hX hbl hbA hS (by unfold vp_in; decide) dL_law_1368 ?_
  have hPc := hP.sub (ws' := [(g0, .inr (11, mF pq)), ((pq 0), .inl ((cp 0), 7, .inl (fun _ => 0)))]) [0, 1] rfl
  have hDc := hD.sub (ws' := [(g0, .inr (11, mF pq)), ((pq 0), .inl ((cp 0), 7, .inl (fun _ => 0)))]) [0, 1] (by decide) rfl
  have hKc := hK.sub (tys' := [((cp 0), .int)]) [8] rfl
  have hFc := va_free (wc := [(g0, .inr (11, mF pq)), ((pq 0), .inl ((cp 0), 7, .inl (fun _ => 0)))]) hD hS hA [0, 1] rfl
  refine va_calli (va_runV (As := [.int (xs (1 : Int32).toNatClampNeg), .int (xs (2 : Int32).toNatClampNeg), .int (xs (3 : Int32).toNatClampNeg)]) (rest := [.int r_2]) ⟨hx, hb, hml, hown, hts⟩ (c_X11_ask l dC dI H.size g0 pq cp (xs (1 : Int32).toNatClampNeg) (xs (2 : Int32).toNatClampNeg) (xs (3 : Int32).toNatClampNeg)) (cwV 3 hts gL_law_X11_ask rfl rfl rfl (by decide +kernel) ⟨(Nat.le_of_ble_eq_true rfl), (Nat.le_of_ble_eq_true rfl)⟩) (pr_V (r := (RX11, TX11, 63)) hPc hKc hDc 0 11 rfl rfl) rfl rfl hl.1 rfl (lv_room (Nat.le_of_ble_eq_true rfl)) dL_law_1369 ⟨(Nat.le_of_ble_eq_true rfl), (Nat.le_of_ble_eq_true rfl)⟩) hS (fun q _ h => hFc q h) hFc (fun r_4 u t H locs ht hvm w_3 hB hz1 hk1 hS => ?_)
  clear hk1 hz1 hvm hB ht hPc hDc hKc hFc
  refine lv_icmp_eq (tgt := 1499) hx hb dL_law_1372 (by decide) (fun c_5 => ?_) (fun c_5 => absurd c_5 (fun h => h (w_1.trans w_3.symm)))
  exact lc_end (Nat.le_of_ble_eq_true rfl) (Nat.le_of_ble_eq_true rfl) C0 hAq hS hl
set_option maxHeartbeats 4000000 in
set_option maxRecDepth 100000 in
theorem lc_31 {p : Program} {l : Launch} {e : Env} {s : State} {m : MethodId} {below : List Frame} {meth : Method} {c : Code} {b : Nat} {xs : Nat → Int32} {A : Nat → Prop} {dC : Nat → ClassId} {dI : Nat → Nat → Nat} {tL tS h0 g0 : Nat} {q pq : Nat → Nat} {cq cp : Nat → ClassId} (C0 : lw_At p s m meth c b 6 xs) (hA : ∀ q : Nat, s.heap.size ≤ q → A q) (hAq : ∀ q, A q → s.heap.size ≤ q) (hZ : stZ A tL tS s s.heap) {H : Heap} {locs : List Loc} (hK : va_K (dC, dI) vwCl [((cq 15), .int), ((cq 1), .object RX6), ((cq 3), .object RX9), ((cq 90), .int), ((cq 100), .int), ((cq 110), .long), ((cq 112), .int), ((cq 13), .int), ((cp 0), .int), ((cp 1), .int), ((cp 2), .int), ((cp 3), .int), ((cp 4), .int), ((cp 6), .int), ((cp 7), .int), ((cp 8), .int), ((cp 9), .int), ((cp 44), .int), ((cp 55), .int), ((cp 61), .int)] s) (hP : va_P (dC, dI) vwCl [(h0, .inr (10, oF q)), ((q 15), .inl ((cq 15), 7, .inl (fun _ => 0))), ((q 1), .inl ((cq 1), 40, .inr (.inr (.inr (.inr (fun _ => none)))))), ((q 3), .inl ((cq 3), 20, .inr (.inr (.inr (.inr (fun _ => none)))))), ((q 8), .inr (5, [.ref (q 80), .ref (q 81), .int 0])), ((q 9), .inr (8, [.ref (q 90), .int 0, .ref (q 91), .int 0, .int 0, .int 0])), ((q 90), .inl ((cq 90), 60, .inl (fun _ => 0))), ((q 10), .inr (7, [.ref (q 100), .ref (q 101)])), ((q 100), .inl ((cq 100), 100, .inl (fun _ => 0))), ((q 11), .inr (4, [.ref (q 110), .ref (q 111), .int 0, .ref (q 112), .int 0, .int 0])), ((q 110), .inl ((cq 110), 81, .inr (.inl (fun _ => 0)))), ((q 112), .inl ((cq 112), 4, .inl (fun _ => 0))), ((q 13), .inl ((cq 13), 12, .inl (fun _ => 0))), (g0, .inr (11, mF pq)), ((pq 0), .inl ((cp 0), 7, .inl (fun _ => 0))), ((pq 1), .inl ((cp 1), 100, .inl (fun _ => 0))), ((pq 2), .inl ((cp 2), 40, .inl (fun _ => 0))), ((pq 3), .inl ((cp 3), 40, .inl (fun _ => 0))), ((pq 4), .inl ((cp 4), 40, .inl (fun _ => 0))), ((pq 6), .inl ((cp 6), 20, .inl (fun _ => 0))), ((pq 7), .inl ((cp 7), 20, .inl (fun _ => 0))), ((pq 8), .inl ((cp 8), 20, .inl (fun _ => 0))), ((pq 9), .inl ((cp 9), 20, .inl (fun _ => 0))), ((pq 44), .inl ((cp 44), 60, .inl (fun _ => 0))), ((pq 55), .inl ((cp 55), 8, .inl (fun _ => 0))), ((pq 61), .inl ((cp 61), 12, .inl (fun _ => 0)))] H) (hD : va_D A [(h0, .inr (10, oF q)), ((q 15), .inl ((cq 15), 7, .inl (fun _ => 0))), ((q 1), .inl ((cq 1), 40, .inr (.inr (.inr (.inr (fun _ => none)))))), ((q 3), .inl ((cq 3), 20, .inr (.inr (.inr (.inr (fun _ => none)))))), ((q 8), .inr (5, [.ref (q 80), .ref (q 81), .int 0])), ((q 9), .inr (8, [.ref (q 90), .int 0, .ref (q 91), .int 0, .int 0, .int 0])), ((q 90), .inl ((cq 90), 60, .inl (fun _ => 0))), ((q 10), .inr (7, [.ref (q 100), .ref (q 101)])), ((q 100), .inl ((cq 100), 100, .inl (fun _ => 0))), ((q 11), .inr (4, [.ref (q 110), .ref (q 111), .int 0, .ref (q 112), .int 0, .int 0])), ((q 110), .inl ((cq 110), 81, .inr (.inl (fun _ => 0)))), ((q 112), .inl ((cq 112), 4, .inl (fun _ => 0))), ((q 13), .inl ((cq 13), 12, .inl (fun _ => 0))), (g0, .inr (11, mF pq)), ((pq 0), .inl ((cp 0), 7, .inl (fun _ => 0))), ((pq 1), .inl ((cp 1), 100, .inl (fun _ => 0))), ((pq 2), .inl ((cp 2), 40, .inl (fun _ => 0))), ((pq 3), .inl ((cp 3), 40, .inl (fun _ => 0))), ((pq 4), .inl ((cp 4), 40, .inl (fun _ => 0))), ((pq 6), .inl ((cp 6), 20, .inl (fun _ => 0))), ((pq 7), .inl ((cp 7), 20, .inl (fun _ => 0))), ((pq 8), .inl ((cp 8), 20, .inl (fun _ => 0))), ((pq 9), .inl ((cp 9), 20, .inl (fun _ => 0))), ((pq 44), .inl ((cp 44), 60, .inl (fun _ => 0))), ((pq 55), .inl ((cp 55), 8, .inl (fun _ => 0))), ((pq 61), .inl ((cp 61), 12, .inl (fun _ => 0)))]) (hS : va_S A s.heap H locs) {ls : Array Slot} (hl : lv_has ls 4 [(3, .int 0), (2, .ref g0), (1, .ref h0), (0, .ref b)]) : W p l e room_1 s m #[Value.ref b] below meth c H locs 141 20685 (lw_Z below #[Value.ref b] s) (F0 m 1377 ls []) := by
  obtain ⟨hx, hb, hr, hml, hown, hts, hX, hbl, hlocks, hgv⟩ := id C0
  have hts := fun w h => hts w (wsL_law_in w h)
  have hown : s.vm.findClass RL = some m.cls := hown
  have hbA : ¬ A b := fun h => Nat.not_le.mpr hbl (hAq b h)
  refine lv_aload_n hx hb dL_law_1377 rfl (lv_at hl 2 rfl) ?_
  refine lv_aload_n hx hb dL_law_1378 rfl (lv_at hl 3 rfl) ?_
  refine lv_iload_n hx hb dL_law_1379 rfl (lv_at hl 0 rfl) ?_
  refine lv_iconst (v := 1) hx hb dL_law_1380 (by decide) ?_
  refine lv_iadd hx hb dL_law_1381 ?_
  refine lv_topi (fun y ey => ?_)
  obtain rfl : y = 1 := ey.trans (by decide)
  refine va_sld hx hb hX hbl hbA hS (by unfold vp_in; decide) dL_law_1382 ?_
  refine lv_aload_n hx hb dL_law_1383 rfl (lv_at hl 3 rfl) ?_
  refine lv_iload_n hx hb dL_law_1384 rfl (lv_at hl 0 rfl) ?_
  refine lv_iconst (v := 2) hx hb dL_law_1385 (by decide) ?_
  refine lv_iadd hx hb dL_law_1386 ?_
  refine lv_topi (fun y ey => ?_)
  obtain rfl : y = 2 := ey.trans (by decide)
  refine va_sld hx hb hX hbl hbA hS (by unfold vp_in; decide) dL_law_1387 ?_
  have hPc := hP.sub (ws' := [(h0, .inr (10, oF q)), ((q 15), .inl ((cq 15), 7, .inl (fun _ => 0))), ((q 11), .inr (4, [.ref (q 110), .ref (q 111), .int 0, .ref (q 112), .int 0, .int 0])), ((q 110), .inl ((cq 110), 81, .inr (.inl (fun _ => 0)))), ((q 112), .inl ((cq 112), 4, .inl (fun _ => 0)))]) [0, 1, 9, 10, 11] rfl
  have hDc := hD.sub (ws' := [(h0, .inr (10, oF q)), ((q 15), .inl ((cq 15), 7, .inl (fun _ => 0))), ((q 11), .inr (4, [.ref (q 110), .ref (q 111), .int 0, .ref (q 112), .int 0, .int 0])), ((q 110), .inl ((cq 110), 81, .inr (.inl (fun _ => 0)))), ((q 112), .inl ((cq 112), 4, .inl (fun _ => 0)))]) [0, 1, 9, 10, 11] (by decide) rfl
  have hKc := hK.sub (tys' := [((cq 15), .int), ((cq 110), .long), ((cq 112), .int)]) [0, 5, 6] rfl
  have hFc := va_free (wc := [(h0, .inr (10, oF q)), ((q 15), .inl ((cq 15), 7, .inl (fun _ => 0))), ((q 11), .inr (4, [.ref (q 110), .ref (q 111), .int 0, .ref (q 112), .int 0, .int 0])), ((q 110), .inl ((cq 110), 81, .inr (.inl (fun _ => 0)))), ((q 112), .inl ((cq 112), 4, .inl (fun _ => 0)))]) hD hS hA [0, 1, 9, 10, 11] rfl
  refine va_calli (va_runV (As := [.int (xs (1 : Int32).toNatClampNeg), .int (xs (2 : Int32).toNatClampNeg)]) (rest := []) ⟨hx, hb, hml, hown, hts⟩ (c_X10_crew l dC dI H.size tL tS h0 q cq (xs (1 : Int32).toNatClampNeg) (xs (2 : Int32).toNatClampNeg)) (cwV 2 hts gL_law_X10_crew rfl rfl rfl (by decide +kernel) ⟨(Nat.le_of_ble_eq_true rfl), (Nat.le_of_ble_eq_true rfl)⟩) (pr_VS (r := (RX10, TX10, 16)) hPc hKc hDc 0 10 rfl rfl (hZ.go hS hFc)) rfl rfl hl.1 rfl (lv_room (Nat.le_of_ble_eq_true rfl)) dL_law_1388 ⟨(Nat.le_of_ble_eq_true rfl), (Nat.le_of_ble_eq_true rfl)⟩) hS (fun q _ h => hFc q h) hFc (fun r_2 u t H locs ht hvm w_1 hB hz1 hk1 hS => ?_)
  obtain ⟨hP, hD⟩ := va_join (wr := [(g0, .inr (11, mF pq)), ((pq 0), .inl ((cp 0), 7, .inl (fun _ => 0))), ((pq 1), .inl ((cp 1), 100, .inl (fun _ => 0))), ((pq 2), .inl ((cp 2), 40, .inl (fun _ => 0))), ((pq 3), .inl ((cp 3), 40, .inl (fun _ => 0))), ((pq 4), .inl ((cp 4), 40, .inl (fun _ => 0))), ((pq 6), .inl ((cp 6), 20, .inl (fun _ => 0))), ((pq 7), .inl ((cp 7), 20, .inl (fun _ => 0))), ((pq 8), .inl ((cp 8), 20, .inl (fun _ => 0))), ((pq 9), .inl ((cp 9), 20, .inl (fun _ => 0))), ((pq 44), .inl ((cp 44), 60, .inl (fun _ => 0))), ((pq 55), .inl ((cp 55), 8, .inl (fun _ => 0))), ((pq 61), .inl ((cp 61), 12, .inl (fun _ => 0)))]) (w1 := []) hP hD [0, 1, 9, 10, 11] [13, 14, 15, 16, 17, 18, 19, 20, 21, 22, 23, 24, 25] rfl rfl (by decide) (by decide) hk1 hFc vP0 vD0
  have hP : va_P (dC, dI) vwCl [(g0, .inr (11, mF pq)), ((pq 0), .inl ((cp 0), 7, .inl (fun _ => 0))), ((pq 1), .inl ((cp 1), 100, .inl (fun _ => 0))), ((pq 2), .inl ((cp 2), 40, .inl (fun _ => 0))), ((pq 3), .inl ((cp 3), 40, .inl (fun _ => 0))), ((pq 4), .inl ((cp 4), 40, .inl (fun _ => 0))), ((pq 6), .inl ((cp 6), 20, .inl (fun _ => 0))), ((pq 7), .inl ((cp 7), 20, .inl (fun _ => 0))), ((pq 8), .inl ((cp 8), 20, .inl (fun _ => 0))), ((pq 9), .inl ((cp 9), 20, .inl (fun _ => 0))), ((pq 44), .inl ((cp 44), 60, .inl (fun _ => 0))), ((pq 55), .inl ((cp 55), 8, .inl (fun _ => 0))), ((pq 61), .inl ((cp 61), 12, .inl (fun _ => 0)))] H := hP
  have hD : va_D A [(g0, .inr (11, mF pq)), ((pq 0), .inl ((cp 0), 7, .inl (fun _ => 0))), ((pq 1), .inl ((cp 1), 100, .inl (fun _ => 0))), ((pq 2), .inl ((cp 2), 40, .inl (fun _ => 0))), ((pq 3), .inl ((cp 3), 40, .inl (fun _ => 0))), ((pq 4), .inl ((cp 4), 40, .inl (fun _ => 0))), ((pq 6), .inl ((cp 6), 20, .inl (fun _ => 0))), ((pq 7), .inl ((cp 7), 20, .inl (fun _ => 0))), ((pq 8), .inl ((cp 8), 20, .inl (fun _ => 0))), ((pq 9), .inl ((cp 9), 20, .inl (fun _ => 0))), ((pq 44), .inl ((cp 44), 60, .inl (fun _ => 0))), ((pq 55), .inl ((cp 55), 8, .inl (fun _ => 0))), ((pq 61), .inl ((cp 61), 12, .inl (fun _ => 0)))] := hD
  clear hk1 hz1 hvm hB ht hPc hDc hKc hFc
  refine lv_aload_n hx hb dL_law_1391 rfl (lv_at hl 1 rfl) ?_
  refine lv_aload_n hx hb dL_law_1392 rfl (lv_at hl 3 rfl) ?_
  refine lv_iload_n hx hb dL_law_1393 rfl (lv_at hl 0 rfl) ?_
  refine lv_iconst (v := 1) hx hb dL_law_1394 (by decide) ?_
  refine lv_iadd hx hb dL_law_1395 ?_
  refine lv_topi (fun y ey => ?_)
  obtain rfl : y = 1 := ey.trans (by decide)
  refine va_sld hx hb hX hbl hbA hS (by unfold vp_in; decide) dL_law_1396 ?_
  refine lv_aload_n hx hb dL_law_1397 rfl (lv_at hl 3 rfl) ?_
  refine lv_iload_n hx hb dL_law_1398 rfl (lv_at hl 0 rfl) ?_
  refine lv_iconst (v := 2) hx hb dL_law_1399 (by decide) ?_
  refine lv_iadd hx hb dL_law_1400 ?_
  refine lv_topi (fun y ey => ?_)
  obtain rfl : y = 2 := ey.trans (by decide)
  refine va_sld hx hb hX hbl hbA hS (by unfold vp_in; decide) dL_law_1401 ?_
  have hPc := hP.sub (ws' := [(g0, .inr (11, mF pq)), ((pq 0), .inl ((cp 0), 7, .inl (fun _ => 0))), ((pq 55), .inl ((cp 55), 8, .inl (fun _ => 0)))]) [0, 1, 11] rfl
  have hDc := hD.sub (ws' := [(g0, .inr (11, mF pq)), ((pq 0), .inl ((cp 0), 7, .inl (fun _ => 0))), ((pq 55), .inl ((cp 55), 8, .inl (fun _ => 0)))]) [0, 1, 11] (by decide) rfl
  have hKc := hK.sub (tys' := [((cp 0), .int), ((cp 55), .int)]) [8, 18] rfl
  have hFc := va_free (wc := [(g0, .inr (11, mF pq)), ((pq 0), .inl ((cp 0), 7, .inl (fun _ => 0))), ((pq 55), .inl ((cp 55), 8, .inl (fun _ => 0)))]) hD hS hA [0, 1, 11] rfl
  refine va_calli (va_runV (As := [.int (xs (1 : Int32).toNatClampNeg), .int (xs (2 : Int32).toNatClampNeg)]) (rest := [.int r_2]) ⟨hx, hb, hml, hown, hts⟩ (c_X11_crew l dC dI H.size g0 pq cp (xs (1 : Int32).toNatClampNeg) (xs (2 : Int32).toNatClampNeg)) (cwV 2 hts gL_law_X11_crew rfl rfl rfl (by decide +kernel) ⟨(Nat.le_of_ble_eq_true rfl), (Nat.le_of_ble_eq_true rfl)⟩) (pr_V (r := (RX11, TX11, 63)) hPc hKc hDc 0 11 rfl rfl) rfl rfl hl.1 rfl (lv_room (Nat.le_of_ble_eq_true rfl)) dL_law_1402 ⟨(Nat.le_of_ble_eq_true rfl), (Nat.le_of_ble_eq_true rfl)⟩) hS (fun q _ h => hFc q h) hFc (fun r_4 u t H locs ht hvm w_3 hB hz1 hk1 hS => ?_)
  clear hk1 hz1 hvm hB ht hPc hDc hKc hFc
  refine lv_icmp_eq (tgt := 1499) hx hb dL_law_1405 (by decide) (fun c_5 => ?_) (fun c_5 => absurd c_5 (fun h => h (w_1.trans w_3.symm)))
  exact lc_end (Nat.le_of_ble_eq_true rfl) (Nat.le_of_ble_eq_true rfl) C0 hAq hS hl
