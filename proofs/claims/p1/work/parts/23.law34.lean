set_option maxRecDepth 20000 in
theorem ggL_law_X10_put : GoodIn wsL_law wsX10_put := gp_c (goodIn_r _ [1065] (by decide +kernel) (by decide +kernel)) (goodIn_app (goodIn_r _ [1066, 38, 149, 150, 151, 2, 152, 39] (by decide +kernel) (by decide +kernel)) gpX10)
set_option maxRecDepth 20000 in
theorem gL_law_X10_put : GoodIn wsL_law (wsV RL 150 RX10 yX10_put wsX10_put) := goodIn_app (goodIn_of _ (by decide +kernel)) ggL_law_X10_put
set_option maxRecDepth 20000 in
theorem ggL_law_X11_put : GoodIn wsL_law wsX11_put := gp_c (goodIn_r _ [1070] (by decide +kernel) (by decide +kernel)) (goodIn_app (goodIn_r _ [1071, 143, 158, 159, 160, 5, 161, 96] (by decide +kernel) (by decide +kernel)) gpX11)
set_option maxRecDepth 20000 in
theorem gL_law_X11_put : GoodIn wsL_law (wsV RL 153 RX11 yX11_put wsX11_put) := goodIn_app (goodIn_of _ (by decide +kernel)) ggL_law_X11_put
set_option maxRecDepth 20000 in
theorem ggL_law_X10_check : GoodIn wsL_law wsX10_check := gp_c (goodIn_r _ [1075] (by decide +kernel) (by decide +kernel)) (goodIn_app (goodIn_app (goodIn_app (goodIn_app (goodIn_app (goodIn_app (goodIn_app (goodIn_app (goodIn_app (goodIn_r wsX10_check_r1 [1066, 267, 18, 268, 38, 270, 271, 272, 2, 273, 234, 16, 149, 150, 151, 152, 39, 626, 627, 628, 629, 148, 869, 870] (by decide +kernel) (by decide +kernel)) (goodIn_app (goodIn_r wsX10_check_r2 [871, 872, 369, 549, 22, 798, 799, 819, 873, 217, 218, 219, 220, 221, 222, 223, 762, 705, 706, 707, 277, 708, 282, 709] (by decide +kernel) (by decide +kernel)) (goodIn_app (goodIn_r wsX10_check_r3 [631, 632, 633, 592, 281, 279, 634, 635, 636, 637, 638, 236, 639, 251, 250, 640, 641, 642, 643, 644, 645, 646, 647, 648] (by decide +kernel) (by decide +kernel)) (goodIn_app (goodIn_r wsX10_check_r4 [649, 650, 651, 652, 653, 654, 655, 249, 248, 656, 657, 658, 659, 660, 661, 662, 663, 664, 577, 578, 21, 579, 46, 497] (by decide +kernel) (by decide +kernel)) (goodIn_app (goodIn_r wsX10_check_r5 [45, 580, 581, 710, 711, 712, 713, 714, 715, 716, 717, 718, 280, 719, 720, 721, 722, 723, 724, 725, 247, 726, 727, 728] (by decide +kernel) (by decide +kernel)) (goodIn_app (goodIn_r wsX10_check_r6 [729, 730, 874, 875, 876, 877, 878, 879, 880, 881, 882, 883, 884, 835, 836, 837, 838, 839, 818, 763, 764, 765, 766, 37] (by decide +kernel) (by decide +kernel)) (goodIn_app (goodIn_r wsX10_check_r7 [550, 564, 576, 572, 573, 574, 190, 575, 199, 767, 768, 769, 48, 770, 55, 771, 772, 773, 774, 775, 630, 776, 777, 778] (by decide +kernel) (by decide +kernel)) (goodIn_app (goodIn_r wsX10_check_r8 [779, 780, 582, 59, 60, 61, 56, 62, 63, 64, 65, 66, 67, 68, 69, 70, 71, 885, 886, 887, 888, 858, 589, 590] (by decide +kernel) (by decide +kernel)) (goodIn_r wsX10_check_r9 [889, 890, 891, 892] (by decide +kernel) (by decide +kernel)))))))))) gpX10) gpX1) gpX2) gpX3) gpX0) gpX9) gpX5) gpX6)
set_option maxRecDepth 20000 in
theorem gL_law_X10_check : GoodIn wsL_law (wsV RL 154 RX10 yX10_check wsX10_check) := goodIn_app (goodIn_of _ (by decide +kernel)) ggL_law_X10_check
set_option maxRecDepth 20000 in
theorem ggL_law_X11_check : GoodIn wsL_law wsX11_check := gp_c (goodIn_r _ [1079] (by decide +kernel) (by decide +kernel)) (goodIn_app (goodIn_app (goodIn_r wsX11_check_r1 [1071, 288, 117, 143, 289, 290, 291, 5, 292, 260, 180, 181, 182, 669, 670, 671, 672, 157, 158, 159, 160, 161, 96, 902] (by decide +kernel) (by decide +kernel)) (goodIn_app (goodIn_r wsX11_check_r2 [903, 904, 905, 121, 118, 906, 123, 125, 126, 129, 127, 131, 132, 110, 785, 735, 736, 737, 738, 673, 674, 675, 676, 122] (by decide +kernel) (by decide +kernel)) (goodIn_app (goodIn_r wsX11_check_r3 [106, 677, 678, 679, 680, 297, 107, 109, 108, 681, 682, 683, 684, 685, 686, 687, 688, 689, 690, 691, 692, 693, 694, 695] (by decide +kernel) (by decide +kernel)) (goodIn_app (goodIn_r wsX11_check_r4 [696, 602, 603, 604, 605, 136, 697, 698, 699, 700, 606, 607, 608, 609, 112, 610, 611, 612, 613, 502, 113, 114, 505, 506] (by decide +kernel) (by decide +kernel)) (goodIn_app (goodIn_r wsX11_check_r5 [507, 508, 509, 510, 504, 511, 503, 512, 513, 514, 515, 516, 517, 518, 519, 520, 521, 522, 135, 115, 523, 524, 525, 526] (by decide +kernel) (by decide +kernel)) (goodIn_app (goodIn_r wsX11_check_r6 [527, 528, 529, 530, 531, 532, 533, 534, 535, 536, 537, 538, 539, 540, 541, 542, 543, 844, 845, 846, 847, 130, 134, 786] (by decide +kernel) (by decide +kernel)) (goodIn_r wsX11_check_r7 [787, 788, 789, 119, 100, 116, 790, 791, 792, 793] (by decide +kernel) (by decide +kernel)))))))) gpX11)
set_option maxRecDepth 20000 in
theorem gL_law_X11_check : GoodIn wsL_law (wsV RL 157 RX11 yX11_check wsX11_check) := goodIn_app (goodIn_of _ (by decide +kernel)) ggL_law_X11_check
set_option maxRecDepth 20000 in
theorem ggL_law_X10_count : GoodIn wsL_law wsX10_count := gp_c (goodIn_r _ [1083] (by decide +kernel) (by decide +kernel)) (goodIn_app (goodIn_app (goodIn_app (goodIn_app (goodIn_app (goodIn_app (goodIn_app (goodIn_r wsX10_count_r1 [148, 188, 234, 267, 308, 22, 425, 26, 408, 1066, 39, 1084, 1085, 1086, 2, 1087, 16, 242, 1088, 1089, 1090, 1091, 18, 274] (by decide +kernel) (by decide +kernel)) (goodIn_r wsX10_count_r2 [275, 276, 277, 278, 279, 280, 281, 282, 283, 1092, 1093, 1094, 1095, 14, 1014, 1015, 1016, 190, 1017, 195] (by decide +kernel) (by decide +kernel))) gpX10) gpX5) gpX8) gpX9) gpX1) gpX6)
set_option maxRecDepth 20000 in
theorem gL_law_X10_count : GoodIn wsL_law (wsV RL 158 RX10 yX10_count wsX10_count) := goodIn_app (goodIn_of _ (by decide +kernel)) ggL_law_X10_count
set_option maxRecDepth 20000 in
theorem ggL_law_X11_count : GoodIn wsL_law wsX11_count := gp_c (goodIn_r _ [1099] (by decide +kernel) (by decide +kernel)) (goodIn_app (goodIn_app (goodIn_r wsX11_count_r1 [96, 157, 229, 260, 105, 288, 297, 502, 419, 1071, 298, 299, 300, 5, 301, 122, 117, 293, 294, 295, 296, 106, 107, 1050] (by decide +kernel) (by decide +kernel)) (goodIn_r wsX11_count_r2 [1051, 1052, 1053, 101] (by decide +kernel) (by decide +kernel))) gpX11)
set_option maxRecDepth 20000 in
theorem gL_law_X11_count : GoodIn wsL_law (wsV RL 161 RX11 yX11_count wsX11_count) := goodIn_app (goodIn_of _ (by decide +kernel)) ggL_law_X11_count
theorem dL_law_1410 : decode cL_law 1410 = .ok (.aload_n 1, 1) := by decide +kernel
theorem dL_law_1411 : decode cL_law 1411 = .ok (.aload_n 0, 1) := by decide +kernel
theorem dL_law_1412 : decode cL_law 1412 = .ok (.iload_n 3, 1) := by decide +kernel
theorem dL_law_1413 : decode cL_law 1413 = .ok (.iconst 1, 1) := by decide +kernel
theorem dL_law_1414 : decode cL_law 1414 = .ok (.iadd, 1) := by decide +kernel
theorem dL_law_1415 : decode cL_law 1415 = .ok (.iaload, 1) := by decide +kernel
theorem dL_law_1416 : decode cL_law 1416 = .ok (.invokevirtual 150, 3) := by decide +kernel
theorem dL_law_1419 : decode cL_law 1419 = .ok (.aload_n 2, 1) := by decide +kernel
theorem dL_law_1420 : decode cL_law 1420 = .ok (.aload_n 0, 1) := by decide +kernel
theorem dL_law_1421 : decode cL_law 1421 = .ok (.iload_n 3, 1) := by decide +kernel
theorem dL_law_1422 : decode cL_law 1422 = .ok (.iconst 1, 1) := by decide +kernel
theorem dL_law_1423 : decode cL_law 1423 = .ok (.iadd, 1) := by decide +kernel
theorem dL_law_1424 : decode cL_law 1424 = .ok (.iaload, 1) := by decide +kernel
theorem dL_law_1425 : decode cL_law 1425 = .ok (.invokevirtual 153, 3) := by decide +kernel
theorem dL_law_1428 : decode cL_law 1428 = .ok (.if_icmp .eq 71, 3) := by decide +kernel
theorem dL_law_1433 : decode cL_law 1433 = .ok (.aload_n 1, 1) := by decide +kernel
theorem dL_law_1434 : decode cL_law 1434 = .ok (.aload_n 0, 1) := by decide +kernel
theorem dL_law_1435 : decode cL_law 1435 = .ok (.iload_n 3, 1) := by decide +kernel
theorem dL_law_1436 : decode cL_law 1436 = .ok (.iconst 1, 1) := by decide +kernel
theorem dL_law_1437 : decode cL_law 1437 = .ok (.iadd, 1) := by decide +kernel
theorem dL_law_1438 : decode cL_law 1438 = .ok (.iaload, 1) := by decide +kernel
theorem dL_law_1439 : decode cL_law 1439 = .ok (.aload_n 0, 1) := by decide +kernel
theorem dL_law_1440 : decode cL_law 1440 = .ok (.iload_n 3, 1) := by decide +kernel
theorem dL_law_1441 : decode cL_law 1441 = .ok (.iconst 2, 1) := by decide +kernel
theorem dL_law_1442 : decode cL_law 1442 = .ok (.iadd, 1) := by decide +kernel
theorem dL_law_1443 : decode cL_law 1443 = .ok (.iaload, 1) := by decide +kernel
theorem dL_law_1444 : decode cL_law 1444 = .ok (.aload_n 0, 1) := by decide +kernel
theorem dL_law_1445 : decode cL_law 1445 = .ok (.iload_n 3, 1) := by decide +kernel
theorem dL_law_1446 : decode cL_law 1446 = .ok (.iconst 3, 1) := by decide +kernel
theorem dL_law_1447 : decode cL_law 1447 = .ok (.iadd, 1) := by decide +kernel
theorem dL_law_1448 : decode cL_law 1448 = .ok (.iaload, 1) := by decide +kernel
theorem dL_law_1449 : decode cL_law 1449 = .ok (.invokevirtual 154, 3) := by decide +kernel
theorem dL_law_1452 : decode cL_law 1452 = .ok (.aload_n 2, 1) := by decide +kernel
theorem dL_law_1453 : decode cL_law 1453 = .ok (.aload_n 0, 1) := by decide +kernel
theorem dL_law_1454 : decode cL_law 1454 = .ok (.iload_n 3, 1) := by decide +kernel
theorem dL_law_1455 : decode cL_law 1455 = .ok (.iconst 1, 1) := by decide +kernel
theorem dL_law_1456 : decode cL_law 1456 = .ok (.iadd, 1) := by decide +kernel
theorem dL_law_1457 : decode cL_law 1457 = .ok (.iaload, 1) := by decide +kernel
theorem dL_law_1458 : decode cL_law 1458 = .ok (.aload_n 0, 1) := by decide +kernel
theorem dL_law_1459 : decode cL_law 1459 = .ok (.iload_n 3, 1) := by decide +kernel
theorem dL_law_1460 : decode cL_law 1460 = .ok (.iconst 2, 1) := by decide +kernel
theorem dL_law_1461 : decode cL_law 1461 = .ok (.iadd, 1) := by decide +kernel
theorem dL_law_1462 : decode cL_law 1462 = .ok (.iaload, 1) := by decide +kernel
theorem dL_law_1463 : decode cL_law 1463 = .ok (.aload_n 0, 1) := by decide +kernel
theorem dL_law_1464 : decode cL_law 1464 = .ok (.iload_n 3, 1) := by decide +kernel
theorem dL_law_1465 : decode cL_law 1465 = .ok (.iconst 3, 1) := by decide +kernel
theorem dL_law_1466 : decode cL_law 1466 = .ok (.iadd, 1) := by decide +kernel
theorem dL_law_1467 : decode cL_law 1467 = .ok (.iaload, 1) := by decide +kernel
theorem dL_law_1468 : decode cL_law 1468 = .ok (.invokevirtual 157, 3) := by decide +kernel
theorem dL_law_1471 : decode cL_law 1471 = .ok (.if_icmp .eq 28, 3) := by decide +kernel
theorem dL_law_1476 : decode cL_law 1476 = .ok (.aload_n 1, 1) := by decide +kernel
theorem dL_law_1477 : decode cL_law 1477 = .ok (.aload_n 0, 1) := by decide +kernel
theorem dL_law_1478 : decode cL_law 1478 = .ok (.iload_n 3, 1) := by decide +kernel
theorem dL_law_1479 : decode cL_law 1479 = .ok (.iconst 1, 1) := by decide +kernel
theorem dL_law_1480 : decode cL_law 1480 = .ok (.iadd, 1) := by decide +kernel
theorem dL_law_1481 : decode cL_law 1481 = .ok (.iaload, 1) := by decide +kernel
theorem dL_law_1482 : decode cL_law 1482 = .ok (.invokevirtual 158, 3) := by decide +kernel
theorem dL_law_1485 : decode cL_law 1485 = .ok (.aload_n 2, 1) := by decide +kernel
theorem dL_law_1486 : decode cL_law 1486 = .ok (.aload_n 0, 1) := by decide +kernel
theorem dL_law_1487 : decode cL_law 1487 = .ok (.iload_n 3, 1) := by decide +kernel
theorem dL_law_1488 : decode cL_law 1488 = .ok (.iconst 1, 1) := by decide +kernel
theorem dL_law_1489 : decode cL_law 1489 = .ok (.iadd, 1) := by decide +kernel
theorem dL_law_1490 : decode cL_law 1490 = .ok (.iaload, 1) := by decide +kernel
theorem dL_law_1491 : decode cL_law 1491 = .ok (.invokevirtual 161, 3) := by decide +kernel
theorem dL_law_1494 : decode cL_law 1494 = .ok (.if_icmp .eq 5, 3) := by decide +kernel

set_option maxHeartbeats 4000000 in
set_option maxRecDepth 100000 in
theorem lc_32 {p : Program} {l : Launch} {e : Env} {s : State} {m : MethodId} {below : List Frame} {meth : Method} {c : Code} {b : Nat} {xs : Nat → Int32} {A : Nat → Prop} {dC : Nat → ClassId} {dI : Nat → Nat → Nat} {tL tS h0 g0 : Nat} {q pq : Nat → Nat} {cq cp : Nat → ClassId} (C0 : lw_At p s m meth c b 6 xs) (hA : ∀ q : Nat, s.heap.size ≤ q → A q) (hAq : ∀ q, A q → s.heap.size ≤ q) (hZ : stZ A tL tS s s.heap) {H : Heap} {locs : List Loc} (hK : va_K (dC, dI) vwCl [((cq 15), .int), ((cq 1), .object RX6), ((cq 3), .object RX9), ((cq 90), .int), ((cq 100), .int), ((cq 110), .long), ((cq 112), .int), ((cq 13), .int), ((cp 0), .int), ((cp 1), .int), ((cp 2), .int), ((cp 3), .int), ((cp 4), .int), ((cp 6), .int), ((cp 7), .int), ((cp 8), .int), ((cp 9), .int), ((cp 44), .int), ((cp 55), .int), ((cp 61), .int)] s) (hP : va_P (dC, dI) vwCl [(h0, .inr (10, oF q)), ((q 15), .inl ((cq 15), 7, .inl (fun _ => 0))), ((q 1), .inl ((cq 1), 40, .inr (.inr (.inr (.inr (fun _ => none)))))), ((q 3), .inl ((cq 3), 20, .inr (.inr (.inr (.inr (fun _ => none)))))), ((q 8), .inr (5, [.ref (q 80), .ref (q 81), .int 0])), ((q 9), .inr (8, [.ref (q 90), .int 0, .ref (q 91), .int 0, .int 0, .int 0])), ((q 90), .inl ((cq 90), 60, .inl (fun _ => 0))), ((q 10), .inr (7, [.ref (q 100), .ref (q 101)])), ((q 100), .inl ((cq 100), 100, .inl (fun _ => 0))), ((q 11), .inr (4, [.ref (q 110), .ref (q 111), .int 0, .ref (q 112), .int 0, .int 0])), ((q 110), .inl ((cq 110), 81, .inr (.inl (fun _ => 0)))), ((q 112), .inl ((cq 112), 4, .inl (fun _ => 0))), ((q 13), .inl ((cq 13), 12, .inl (fun _ => 0))), (g0, .inr (11, mF pq)), ((pq 0), .inl ((cp 0), 7, .inl (fun _ => 0))), ((pq 1), .inl ((cp 1), 100, .inl (fun _ => 0))), ((pq 2), .inl ((cp 2), 40, .inl (fun _ => 0))), ((pq 3), .inl ((cp 3), 40, .inl (fun _ => 0))), ((pq 4), .inl ((cp 4), 40, .inl (fun _ => 0))), ((pq 6), .inl ((cp 6), 20, .inl (fun _ => 0))), ((pq 7), .inl ((cp 7), 20, .inl (fun _ => 0))), ((pq 8), .inl ((cp 8), 20, .inl (fun _ => 0))), ((pq 9), .inl ((cp 9), 20, .inl (fun _ => 0))), ((pq 44), .inl ((cp 44), 60, .inl (fun _ => 0))), ((pq 55), .inl ((cp 55), 8, .inl (fun _ => 0))), ((pq 61), .inl ((cp 61), 12, .inl (fun _ => 0)))] H) (hD : va_D A [(h0, .inr (10, oF q)), ((q 15), .inl ((cq 15), 7, .inl (fun _ => 0))), ((q 1), .inl ((cq 1), 40, .inr (.inr (.inr (.inr (fun _ => none)))))), ((q 3), .inl ((cq 3), 20, .inr (.inr (.inr (.inr (fun _ => none)))))), ((q 8), .inr (5, [.ref (q 80), .ref (q 81), .int 0])), ((q 9), .inr (8, [.ref (q 90), .int 0, .ref (q 91), .int 0, .int 0, .int 0])), ((q 90), .inl ((cq 90), 60, .inl (fun _ => 0))), ((q 10), .inr (7, [.ref (q 100), .ref (q 101)])), ((q 100), .inl ((cq 100), 100, .inl (fun _ => 0))), ((q 11), .inr (4, [.ref (q 110), .ref (q 111), .int 0, .ref (q 112), .int 0, .int 0])), ((q 110), .inl ((cq 110), 81, .inr (.inl (fun _ => 0)))), ((q 112), .inl ((cq 112), 4, .inl (fun _ => 0))), ((q 13), .inl ((cq 13), 12, .inl (fun _ => 0))), (g0, .inr (11, mF pq)), ((pq 0), .inl ((cp 0), 7, .inl (fun _ => 0))), ((pq 1), .inl ((cp 1), 100, .inl (fun _ => 0))), ((pq 2), .inl ((cp 2), 40, .inl (fun _ => 0))), ((pq 3), .inl ((cp 3), 40, .inl (fun _ => 0))), ((pq 4), .inl ((cp 4), 40, .inl (fun _ => 0))), ((pq 6), .inl ((cp 6), 20, .inl (fun _ => 0))), ((pq 7), .inl ((cp 7), 20, .inl (fun _ => 0))), ((pq 8), .inl ((cp 8), 20, .inl (fun _ => 0))), ((pq 9), .inl ((cp 9), 20, .inl (fun _ => 0))), ((pq 44), .inl ((cp 44), 60, .inl (fun _ => 0))), ((pq 55), .inl ((cp 55), 8, .inl (fun _ => 0))), ((pq 61), .inl ((cp 61), 12, .inl (fun _ => 0)))]) (hS : va_S A s.heap H locs) {ls : Array Slot} (hl : lv_has ls 4 [(3, .int 0), (2, .ref g0), (1, .ref h0), (0, .ref b)]) : W p l e room_1 s m #[Value.ref b] below meth c H locs 141 20685 (lw_Z below #[Value.ref b] s) (F0 m 1410 ls []) := by
  obtain ⟨hx, hb, hr, hml, hown, hts, hX, hbl, hlocks, hgv⟩ := id C0
  have hts := fun w h => hts w (wsL_law_in w h)
  have hown : s.vm.findClass RL = some m.cls := hown
  have hbA : ¬ A b := fun h => Nat.not_le.mpr hbl (hAq b h)
  refine lv_aload_n hx hb dL_law_1410 rfl (lv_at hl 2 rfl) ?_
  refine lv_aload_n hx hb dL_law_1411 rfl (lv_at hl 3 rfl) ?_
  refine lv_iload_n hx hb dL_law_1412 rfl (lv_at hl 0 rfl) ?_
  refine lv_iconst (v := 1) hx hb dL_law_1413 (by decide) ?_
  refine lv_iadd hx hb dL_law_1414 ?_
  refine lv_topi (fun y ey => ?_)
  obtain rfl : y = 1 := ey.trans (by decide)
  refine va_sld hx hb hX hbl hbA hS (by unfold vp_in; decide) dL_law_1415 ?_
  have hPc := hP.sub (ws' := [(h0, .inr (10, oF q)), ((q 13), .inl ((cq 13), 12, .inl (fun _ => 0)))]) [0, 12] rfl
  have hDc := hD.sub (ws' := [(h0, .inr (10, oF q)), ((q 13), .inl ((cq 13), 12, .inl (fun _ => 0)))]) [0, 12] (by decide) rfl
  have hKc := hK.sub (tys' := [((cq 13), .int)]) [7] rfl
  have hFc := va_free (wc := [(h0, .inr (10, oF q)), ((q 13), .inl ((cq 13), 12, .inl (fun _ => 0)))]) hD hS hA [0, 12] rfl
  refine va_calli (va_runV (As := [.int (xs (1 : Int32).toNatClampNeg)]) (rest := []) ⟨hx, hb, hml, hown, hts⟩ (c_X10_put l dC dI H.size h0 q cq (xs (1 : Int32).toNatClampNeg)) (cwV 1 hts gL_law_X10_put rfl rfl rfl (by decide +kernel) ⟨(Nat.le_of_ble_eq_true rfl), (Nat.le_of_ble_eq_true rfl)⟩) (pr_V (r := (RX10, TX10, 16)) hPc hKc hDc 0 10 rfl rfl) rfl rfl hl.1 rfl (lv_room (Nat.le_of_ble_eq_true rfl)) dL_law_1416 ⟨(Nat.le_of_ble_eq_true rfl), (Nat.le_of_ble_eq_true rfl)⟩) hS (fun q _ h => hFc q h) hFc (fun r_2 u t H locs ht hvm w_1 hB hz1 hk1 hS => ?_)
  obtain ⟨hP, hD⟩ := va_join (wr := [(g0, .inr (11, mF pq)), ((pq 0), .inl ((cp 0), 7, .inl (fun _ => 0))), ((pq 1), .inl ((cp 1), 100, .inl (fun _ => 0))), ((pq 2), .inl ((cp 2), 40, .inl (fun _ => 0))), ((pq 3), .inl ((cp 3), 40, .inl (fun _ => 0))), ((pq 4), .inl ((cp 4), 40, .inl (fun _ => 0))), ((pq 6), .inl ((cp 6), 20, .inl (fun _ => 0))), ((pq 7), .inl ((cp 7), 20, .inl (fun _ => 0))), ((pq 8), .inl ((cp 8), 20, .inl (fun _ => 0))), ((pq 9), .inl ((cp 9), 20, .inl (fun _ => 0))), ((pq 44), .inl ((cp 44), 60, .inl (fun _ => 0))), ((pq 55), .inl ((cp 55), 8, .inl (fun _ => 0))), ((pq 61), .inl ((cp 61), 12, .inl (fun _ => 0)))]) (w1 := []) hP hD [0, 12] [13, 14, 15, 16, 17, 18, 19, 20, 21, 22, 23, 24, 25] rfl rfl (by decide) (by decide) hk1 hFc vP0 vD0
  have hP : va_P (dC, dI) vwCl [(g0, .inr (11, mF pq)), ((pq 0), .inl ((cp 0), 7, .inl (fun _ => 0))), ((pq 1), .inl ((cp 1), 100, .inl (fun _ => 0))), ((pq 2), .inl ((cp 2), 40, .inl (fun _ => 0))), ((pq 3), .inl ((cp 3), 40, .inl (fun _ => 0))), ((pq 4), .inl ((cp 4), 40, .inl (fun _ => 0))), ((pq 6), .inl ((cp 6), 20, .inl (fun _ => 0))), ((pq 7), .inl ((cp 7), 20, .inl (fun _ => 0))), ((pq 8), .inl ((cp 8), 20, .inl (fun _ => 0))), ((pq 9), .inl ((cp 9), 20, .inl (fun _ => 0))), ((pq 44), .inl ((cp 44), 60, .inl (fun _ => 0))), ((pq 55), .inl ((cp 55), 8, .inl (fun _ => 0))), ((pq 61), .inl ((cp 61), 12, .inl (fun _ => 0)))] H := hP
  have hD : va_D A [(g0, .inr (11, mF pq)), ((pq 0), .inl ((cp 0), 7, .inl (fun _ => 0))), ((pq 1), .inl ((cp 1), 100, .inl (fun _ => 0))), ((pq 2), .inl ((cp 2), 40, .inl (fun _ => 0))), ((pq 3), .inl ((cp 3), 40, .inl (fun _ => 0))), ((pq 4), .inl ((cp 4), 40, .inl (fun _ => 0))), ((pq 6), .inl ((cp 6), 20, .inl (fun _ => 0))), ((pq 7), .inl ((cp 7), 20, .inl (fun _ => 0))), ((pq 8), .inl ((cp 8), 20, .inl (fun _ => 0))), ((pq 9), .inl ((cp 9), 20, .inl (fun _ => 0))), ((pq 44), .inl ((cp 44), 60, .inl (fun _ => 0))), ((pq 55), .inl ((cp 55), 8, .inl (fun _ => 0))), ((pq 61), .inl ((cp 61), 12, .inl (fun _ => 0)))] := hD
  clear hk1 hz1 hvm hB ht hPc hDc hKc hFc
  refine lv_aload_n hx hb dL_law_1419 rfl (lv_at hl 1 rfl) ?_
  refine lv_aload_n hx hb dL_law_1420 rfl (lv_at hl 3 rfl) ?_
  refine lv_iload_n hx hb dL_law_1421 rfl (lv_at hl 0 rfl) ?_
  refine lv_iconst (v := 1) hx hb dL_law_1422 (by decide) ?_
  refine lv_iadd hx hb dL_law_1423 ?_
  refine lv_topi (fun y ey => ?_)
  obtain rfl : y = 1 := ey.trans (by decide)
  refine va_sld hx hb hX hbl hbA hS (by unfold vp_in; decide) dL_law_1424 ?_
  have hPc := hP.sub (ws' := [(g0, .inr (11, mF pq)), ((pq 61), .inl ((cp 61), 12, .inl (fun _ => 0)))]) [0, 12] rfl
  have hDc := hD.sub (ws' := [(g0, .inr (11, mF pq)), ((pq 61), .inl ((cp 61), 12, .inl (fun _ => 0)))]) [0, 12] (by decide) rfl
  have hKc := hK.sub (tys' := [((cp 61), .int)]) [19] rfl
  have hFc := va_free (wc := [(g0, .inr (11, mF pq)), ((pq 61), .inl ((cp 61), 12, .inl (fun _ => 0)))]) hD hS hA [0, 12] rfl
  refine va_calli (va_runV (As := [.int (xs (1 : Int32).toNatClampNeg)]) (rest := [.int r_2]) ⟨hx, hb, hml, hown, hts⟩ (c_X11_put l dC dI H.size g0 pq cp (xs (1 : Int32).toNatClampNeg)) (cwV 1 hts gL_law_X11_put rfl rfl rfl (by decide +kernel) ⟨(Nat.le_of_ble_eq_true rfl), (Nat.le_of_ble_eq_true rfl)⟩) (pr_V (r := (RX11, TX11, 63)) hPc hKc hDc 0 11 rfl rfl) rfl rfl hl.1 rfl (lv_room (Nat.le_of_ble_eq_true rfl)) dL_law_1425 ⟨(Nat.le_of_ble_eq_true rfl), (Nat.le_of_ble_eq_true rfl)⟩) hS (fun q _ h => hFc q h) hFc (fun r_4 u t H locs ht hvm w_3 hB hz1 hk1 hS => ?_)
  clear hk1 hz1 hvm hB ht hPc hDc hKc hFc
  refine lv_icmp_eq (tgt := 1499) hx hb dL_law_1428 (by decide) (fun c_5 => ?_) (fun c_5 => absurd c_5 (fun h => h (w_1.trans w_3.symm)))
  exact lc_end (Nat.le_of_ble_eq_true rfl) (Nat.le_of_ble_eq_true rfl) C0 hAq hS hl
set_option maxHeartbeats 4000000 in
set_option maxRecDepth 100000 in
theorem lc_33 {p : Program} {l : Launch} {e : Env} {s : State} {m : MethodId} {below : List Frame} {meth : Method} {c : Code} {b : Nat} {xs : Nat → Int32} {A : Nat → Prop} {dC : Nat → ClassId} {dI : Nat → Nat → Nat} {tL tS h0 g0 : Nat} {q pq : Nat → Nat} {cq cp : Nat → ClassId} (C0 : lw_At p s m meth c b 6 xs) (hA : ∀ q : Nat, s.heap.size ≤ q → A q) (hAq : ∀ q, A q → s.heap.size ≤ q) (hZ : stZ A tL tS s s.heap) {H : Heap} {locs : List Loc} (hK : va_K (dC, dI) vwCl [((cq 15), .int), ((cq 1), .object RX6), ((cq 3), .object RX9), ((cq 90), .int), ((cq 100), .int), ((cq 110), .long), ((cq 112), .int), ((cq 13), .int), ((cp 0), .int), ((cp 1), .int), ((cp 2), .int), ((cp 3), .int), ((cp 4), .int), ((cp 6), .int), ((cp 7), .int), ((cp 8), .int), ((cp 9), .int), ((cp 44), .int), ((cp 55), .int), ((cp 61), .int)] s) (hP : va_P (dC, dI) vwCl [(h0, .inr (10, oF q)), ((q 15), .inl ((cq 15), 7, .inl (fun _ => 0))), ((q 1), .inl ((cq 1), 40, .inr (.inr (.inr (.inr (fun _ => none)))))), ((q 3), .inl ((cq 3), 20, .inr (.inr (.inr (.inr (fun _ => none)))))), ((q 8), .inr (5, [.ref (q 80), .ref (q 81), .int 0])), ((q 9), .inr (8, [.ref (q 90), .int 0, .ref (q 91), .int 0, .int 0, .int 0])), ((q 90), .inl ((cq 90), 60, .inl (fun _ => 0))), ((q 10), .inr (7, [.ref (q 100), .ref (q 101)])), ((q 100), .inl ((cq 100), 100, .inl (fun _ => 0))), ((q 11), .inr (4, [.ref (q 110), .ref (q 111), .int 0, .ref (q 112), .int 0, .int 0])), ((q 110), .inl ((cq 110), 81, .inr (.inl (fun _ => 0)))), ((q 112), .inl ((cq 112), 4, .inl (fun _ => 0))), ((q 13), .inl ((cq 13), 12, .inl (fun _ => 0))), (g0, .inr (11, mF pq)), ((pq 0), .inl ((cp 0), 7, .inl (fun _ => 0))), ((pq 1), .inl ((cp 1), 100, .inl (fun _ => 0))), ((pq 2), .inl ((cp 2), 40, .inl (fun _ => 0))), ((pq 3), .inl ((cp 3), 40, .inl (fun _ => 0))), ((pq 4), .inl ((cp 4), 40, .inl (fun _ => 0))), ((pq 6), .inl ((cp 6), 20, .inl (fun _ => 0))), ((pq 7), .inl ((cp 7), 20, .inl (fun _ => 0))), ((pq 8), .inl ((cp 8), 20, .inl (fun _ => 0))), ((pq 9), .inl ((cp 9), 20, .inl (fun _ => 0))), ((pq 44), .inl ((cp 44), 60, .inl (fun _ => 0))), ((pq 55), .inl ((cp 55), 8, .inl (fun _ => 0))), ((pq 61), .inl ((cp 61), 12, .inl (fun _ => 0)))] H) (hD : va_D A [(h0, .inr (10, oF q)), ((q 15), .inl ((cq 15), 7, .inl (fun _ => 0))), ((q 1), .inl ((cq 1), 40, .inr (.inr (.inr (.inr (fun _ => none)))))), ((q 3), .inl ((cq 3), 20, .inr (.inr (.inr (.inr (fun _ => none)))))), ((q 8), .inr (5, [.ref (q 80), .ref (q 81), .int 0])), ((q 9), .inr (8, [.ref (q 90), .int 0, .ref (q 91), .int 0, .int 0, .int 0])), ((q 90), .inl ((cq 90), 60, .inl (fun _ => 0))), ((q 10), .inr (7, [.ref (q 100), .ref (q 101)])), ((q 100), .inl ((cq 100), 100, .inl (fun _ => 0))), ((q 11), .inr (4, [.ref (q 110), .ref (q 111), .int 0, .ref (q 112), .int 0, .int 0])), ((q 110), .inl ((cq 110), 81, .inr (.inl (fun _ => 0)))), ((q 112), .inl ((cq 112), 4, .inl (fun _ => 0))), ((q 13), .inl ((cq 13), 12, .inl (fun _ => 0))), (g0, .inr (11, mF pq)), ((pq 0), .inl ((cp 0), 7, .inl (fun _ => 0))), ((pq 1), .inl ((cp 1), 100, .inl (fun _ => 0))), ((pq 2), .inl ((cp 2), 40, .inl (fun _ => 0))), ((pq 3), .inl ((cp 3), 40, .inl (fun _ => 0))), ((pq 4), .inl ((cp 4), 40, .inl (fun _ => 0))), ((pq 6), .inl ((cp 6), 20, .inl (fun _ => 0))), ((pq 7), .inl ((cp 7), 20, .inl (fun _ => 0))), ((pq 8), .inl ((cp 8), 20, .inl (fun _ => 0))), ((pq 9), .inl ((cp 9), 20, .inl (fun _ => 0))), ((pq 44), .inl ((cp 44), 60, .inl (fun _ => 0))), ((pq 55), .inl ((cp 55), 8, .inl (fun _ => 0))), ((pq 61), .inl ((cp 61), 12, .inl (fun _ => 0)))]) (hS : va_S A s.heap H locs) {ls : Array Slot} (hl : lv_has ls 4 [(3, .int 0), (2, .ref g0), (1, .ref h0), (0, .ref b)]) : W p l e room_1 s m #[Value.ref b] below meth c H locs 141 20685 (lw_Z below #[Value.ref b] s) (F0 m 1433 ls []) := by
  obtain ⟨hx, hb, hr, hml, hown, hts, hX, hbl, hlocks, hgv⟩ := id C0
  have hts := fun w h => hts w (wsL_law_in w h)
  have hown : s.vm.findClass RL = some m.cls := hown
  have hbA : ¬ A b := fun h => Nat.not_le.mpr hbl (hAq b h)
  refine lv_aload_n hx hb dL_law_1433 rfl (lv_at hl 2 rfl) ?_
  refine lv_aload_n hx hb dL_law_1434 rfl (lv_at hl 3 rfl) ?_
  refine lv_iload_n hx hb dL_law_1435 rfl (lv_at hl 0 rfl) ?_
  refine lv_iconst (v := 1) hx hb dL_law_1436 (by decide) ?_
  refine lv_iadd hx hb dL_law_1437 ?_
  refine lv_topi (fun y ey => ?_)
  obtain rfl : y = 1 := ey.trans (by decide)
  refine va_sld hx hb hX hbl hbA hS (by unfold vp_in; decide) dL_law_1438 ?_
  refine lv_aload_n hx hb dL_law_1439 rfl (lv_at hl 3 rfl) ?_
  refine lv_iload_n hx hb dL_law_1440 rfl (lv_at hl 0 rfl) ?_
  refine lv_iconst (v := 2) hx hb dL_law_1441 (by decide) ?_
  refine lv_iadd hx hb dL_law_1442 ?_
  refine lv_topi (fun y ey => ?_)
  obtain rfl : y = 2 := ey.trans (by decide)
  refine va_sld hx hb hX hbl hbA hS (by unfold vp_in; decide) dL_law_1443 ?_
  refine lv_aload_n hx hb dL_law_1444 rfl (lv_at hl 3 rfl) ?_
  refine lv_iload_n hx hb dL_law_1445 rfl (lv_at hl 0 rfl) ?_
  refine lv_iconst (v := 3) hx hb dL_law_1446 (by decide) ?_
  refine lv_iadd hx hb dL_law_1447 ?_
  refine lv_topi (fun y ey => ?_)
  obtain rfl : y = 3 := ey.trans (by decide)
  refine va_sld hx hb hX hbl hbA hS (by unfold vp_in; decide) dL_law_1448 ?_
  have hPc := hP.sub (ws' := [(h0, .inr (10, oF q)), ((q 15), .inl ((cq 15), 7, .inl (fun _ => 0)))]) [0, 1] rfl
  have hDc := hD.sub (ws' := [(h0, .inr (10, oF q)), ((q 15), .inl ((cq 15), 7, .inl (fun _ => 0)))]) [0, 1] (by decide) rfl
  have hKc := hK.sub (tys' := [((cq 15), .int)]) [0] rfl
  have hFc := va_free (wc := [(h0, .inr (10, oF q)), ((q 15), .inl ((cq 15), 7, .inl (fun _ => 0)))]) hD hS hA [0, 1] rfl
  refine va_calli (va_runV (As := [.int (xs (1 : Int32).toNatClampNeg), .int (xs (2 : Int32).toNatClampNeg), .int (xs (3 : Int32).toNatClampNeg)]) (rest := []) ⟨hx, hb, hml, hown, hts⟩ (c_X10_check l dC dI H.size h0 q cq (xs (1 : Int32).toNatClampNeg) (xs (2 : Int32).toNatClampNeg) (xs (3 : Int32).toNatClampNeg)) (cwV 3 hts gL_law_X10_check rfl rfl rfl (by decide +kernel) ⟨(Nat.le_of_ble_eq_true rfl), (Nat.le_of_ble_eq_true rfl)⟩) (pr_V (r := (RX10, TX10, 16)) hPc hKc hDc 0 10 rfl rfl) rfl rfl hl.1 rfl (lv_room (Nat.le_of_ble_eq_true rfl)) dL_law_1449 ⟨(Nat.le_of_ble_eq_true rfl), (Nat.le_of_ble_eq_true rfl)⟩) hS (fun q _ h => hFc q h) hFc (fun r_2 u t H locs ht hvm w_1 hB hz1 hk1 hS => ?_)
  obtain ⟨hP, hD⟩ := va_join (wr := [(g0, .inr (11, mF pq)), ((pq 0), .inl ((cp 0), 7, .inl (fun _ => 0))), ((pq 1), .inl ((cp 1), 100, .inl (fun _ => 0))), ((pq 2), .inl ((cp 2), 40, .inl (fun _ => 0))), ((pq 3), .inl ((cp 3), 40, .inl (fun _ => 0))), ((pq 4), .inl ((cp 4), 40, .inl (fun _ => 0))), ((pq 6), .inl ((cp 6), 20, .inl (fun _ => 0))), ((pq 7), .inl ((cp 7), 20, .inl (fun _ => 0))), ((pq 8), .inl ((cp 8), 20, .inl (fun _ => 0))), ((pq 9), .inl ((cp 9), 20, .inl (fun _ => 0))), ((pq 44), .inl ((cp 44), 60, .inl (fun _ => 0))), ((pq 55), .inl ((cp 55), 8, .inl (fun _ => 0))), ((pq 61), .inl ((cp 61), 12, .inl (fun _ => 0)))]) (w1 := []) hP hD [0, 1] [13, 14, 15, 16, 17, 18, 19, 20, 21, 22, 23, 24, 25] rfl rfl (by decide) (by decide) hk1 hFc vP0 vD0
  have hP : va_P (dC, dI) vwCl [(g0, .inr (11, mF pq)), ((pq 0), .inl ((cp 0), 7, .inl (fun _ => 0))), ((pq 1), .inl ((cp 1), 100, .inl (fun _ => 0))), ((pq 2), .inl ((cp 2), 40, .inl (fun _ => 0))), ((pq 3), .inl ((cp 3), 40, .inl (fun _ => 0))), ((pq 4), .inl ((cp 4), 40, .inl (fun _ => 0))), ((pq 6), .inl ((cp 6), 20, .inl (fun _ => 0))), ((pq 7), .inl ((cp 7), 20, .inl (fun _ => 0))), ((pq 8), .inl ((cp 8), 20, .inl (fun _ => 0))), ((pq 9), .inl ((cp 9), 20, .inl (fun _ => 0))), ((pq 44), .inl ((cp 44), 60, .inl (fun _ => 0))), ((pq 55), .inl ((cp 55), 8, .inl (fun _ => 0))), ((pq 61), .inl ((cp 61), 12, .inl (fun _ => 0)))] H := hP
  have hD : va_D A [(g0, .inr (11, mF pq)), ((pq 0), .inl ((cp 0), 7, .inl (fun _ => 0))), ((pq 1), .inl ((cp 1), 100, .inl (fun _ => 0))), ((pq 2), .inl ((cp 2), 40, .inl (fun _ => 0))), ((pq 3), .inl ((cp 3), 40, .inl (fun _ => 0))), ((pq 4), .inl ((cp 4), 40, .inl (fun _ => 0))), ((pq 6), .inl ((cp 6), 20, .inl (fun _ => 0))), ((pq 7), .inl ((cp 7), 20, .inl (fun _ => 0))), ((pq 8), .inl ((cp 8), 20, .inl (fun _ => 0))), ((pq 9), .inl ((cp 9), 20, .inl (fun _ => 0))), ((pq 44), .inl ((cp 44), 60, .inl (fun _ => 0))), ((pq 55), .inl ((cp 55), 8, .inl (fun _ => 0))), ((pq 61), .inl ((cp 61), 12, .inl (fun _ => 0)))] := hD
  clear hk1 hz1 hvm hB ht hPc hDc hKc hFc
  refine lv_aload_n hx hb dL_law_1452 rfl (lv_at hl 1 rfl) ?_
  refine lv_aload_n hx hb dL_law_1453 rfl (lv_at hl 3 rfl) ?_
  refine lv_iload_n hx hb dL_law_1454 rfl (lv_at hl 0 rfl) ?_
  refine lv_iconst (v := 1) hx hb dL_law_1455 (by decide) ?_
  refine lv_iadd hx hb dL_law_1456 ?_
  refine lv_topi (fun y ey => ?_)
  obtain rfl : y = 1 := ey.trans (by decide)
  refine va_sld hx hb hX hbl hbA hS (by unfold vp_in; decide) dL_law_1457 ?_
  refine lv_aload_n hx hb dL_law_1458 rfl (lv_at hl 3 rfl) ?_
  refine lv_iload_n hx hb dL_law_1459 rfl (lv_at hl 0 rfl) ?_
  refine lv_iconst (v := 2) hx hb dL_law_1460 (by decide) ?_
  refine lv_iadd hx hb dL_law_1461 ?_
  refine lv_topi (fun y ey => ?_)
  obtain rfl : y = 2 := ey.trans (by decide)
  refine va_sld hx hb hX hbl hbA hS (by unfold vp_in; decide) dL_law_1462 ?_
  refine lv_aload_n hx hb dL_law_1463 rfl (lv_at hl 3 rfl) ?_
  refine lv_iload_n hx hb dL_law_1464 rfl (lv_at hl 0 rfl) ?_
  refine lv_iconst (v := 3) hx hb dL_law_1465 (by decide) ?_
  refine lv_iadd hx hb dL_law_1466 ?_
  refine lv_topi (fun y ey => ?_)
  obtain rfl : y = 3 := ey.trans (by decide)
  refine va_sld hx hb hX hbl hbA hS (by unfold vp_in; decide) dL_law_1467 ?_
  have hPc := hP.sub (ws' := [(g0, .inr (11, mF pq)), ((pq 0), .inl ((cp 0), 7, .inl (fun _ => 0)))]) [0, 1] rfl
  have hDc := hD.sub (ws' := [(g0, .inr (11, mF pq)), ((pq 0), .inl ((cp 0), 7, .inl (fun _ => 0)))]) [0, 1] (by decide) rfl
  have hKc := hK.sub (tys' := [((cp 0), .int)]) [8] rfl
  have hFc := va_free (wc := [(g0, .inr (11, mF pq)), ((pq 0), .inl ((cp 0), 7, .inl (fun _ => 0)))]) hD hS hA [0, 1] rfl
  refine va_calli (va_runV (As := [.int (xs (1 : Int32).toNatClampNeg), .int (xs (2 : Int32).toNatClampNeg), .int (xs (3 : Int32).toNatClampNeg)]) (rest := [.int r_2]) ⟨hx, hb, hml, hown, hts⟩ (c_X11_check l dC dI H.size g0 pq cp (xs (1 : Int32).toNatClampNeg) (xs (2 : Int32).toNatClampNeg) (xs (3 : Int32).toNatClampNeg)) (cwV 3 hts gL_law_X11_check rfl rfl rfl (by decide +kernel) ⟨(Nat.le_of_ble_eq_true rfl), (Nat.le_of_ble_eq_true rfl)⟩) (pr_V (r := (RX11, TX11, 63)) hPc hKc hDc 0 11 rfl rfl) rfl rfl hl.1 rfl (lv_room (Nat.le_of_ble_eq_true rfl)) dL_law_1468 ⟨(Nat.le_of_ble_eq_true rfl), (Nat.le_of_ble_eq_true rfl)⟩) hS (fun q _ h => hFc q h) hFc (fun r_4 u t H locs ht hvm w_3 hB hz1 hk1 hS => ?_)
  clear hk1 hz1 hvm hB ht hPc hDc hKc hFc
  refine lv_icmp_eq (tgt := 1499) hx hb dL_law_1471 (by decide) (fun c_5 => ?_) (fun c_5 => absurd c_5 (fun h => h (w_1.trans w_3.symm)))
  exact lc_end (Nat.le_of_ble_eq_true rfl) (Nat.le_of_ble_eq_true rfl) C0 hAq hS hl
set_option maxHeartbeats 4000000 in
set_option maxRecDepth 100000 in
theorem lc_34 {p : Program} {l : Launch} {e : Env} {s : State} {m : MethodId} {below : List Frame} {meth : Method} {c : Code} {b : Nat} {xs : Nat → Int32} {A : Nat → Prop} {dC : Nat → ClassId} {dI : Nat → Nat → Nat} {tL tS h0 g0 : Nat} {q pq : Nat → Nat} {cq cp : Nat → ClassId} (C0 : lw_At p s m meth c b 6 xs) (hA : ∀ q : Nat, s.heap.size ≤ q → A q) (hAq : ∀ q, A q → s.heap.size ≤ q) (hZ : stZ A tL tS s s.heap) {H : Heap} {locs : List Loc} (hK : va_K (dC, dI) vwCl [((cq 15), .int), ((cq 1), .object RX6), ((cq 3), .object RX9), ((cq 90), .int), ((cq 100), .int), ((cq 110), .long), ((cq 112), .int), ((cq 13), .int), ((cp 0), .int), ((cp 1), .int), ((cp 2), .int), ((cp 3), .int), ((cp 4), .int), ((cp 6), .int), ((cp 7), .int), ((cp 8), .int), ((cp 9), .int), ((cp 44), .int), ((cp 55), .int), ((cp 61), .int)] s) (hP : va_P (dC, dI) vwCl [(h0, .inr (10, oF q)), ((q 15), .inl ((cq 15), 7, .inl (fun _ => 0))), ((q 1), .inl ((cq 1), 40, .inr (.inr (.inr (.inr (fun _ => none)))))), ((q 3), .inl ((cq 3), 20, .inr (.inr (.inr (.inr (fun _ => none)))))), ((q 8), .inr (5, [.ref (q 80), .ref (q 81), .int 0])), ((q 9), .inr (8, [.ref (q 90), .int 0, .ref (q 91), .int 0, .int 0, .int 0])), ((q 90), .inl ((cq 90), 60, .inl (fun _ => 0))), ((q 10), .inr (7, [.ref (q 100), .ref (q 101)])), ((q 100), .inl ((cq 100), 100, .inl (fun _ => 0))), ((q 11), .inr (4, [.ref (q 110), .ref (q 111), .int 0, .ref (q 112), .int 0, .int 0])), ((q 110), .inl ((cq 110), 81, .inr (.inl (fun _ => 0)))), ((q 112), .inl ((cq 112), 4, .inl (fun _ => 0))), ((q 13), .inl ((cq 13), 12, .inl (fun _ => 0))), (g0, .inr (11, mF pq)), ((pq 0), .inl ((cp 0), 7, .inl (fun _ => 0))), ((pq 1), .inl ((cp 1), 100, .inl (fun _ => 0))), ((pq 2), .inl ((cp 2), 40, .inl (fun _ => 0))), ((pq 3), .inl ((cp 3), 40, .inl (fun _ => 0))), ((pq 4), .inl ((cp 4), 40, .inl (fun _ => 0))), ((pq 6), .inl ((cp 6), 20, .inl (fun _ => 0))), ((pq 7), .inl ((cp 7), 20, .inl (fun _ => 0))), ((pq 8), .inl ((cp 8), 20, .inl (fun _ => 0))), ((pq 9), .inl ((cp 9), 20, .inl (fun _ => 0))), ((pq 44), .inl ((cp 44), 60, .inl (fun _ => 0))), ((pq 55), .inl ((cp 55), 8, .inl (fun _ => 0))), ((pq 61), .inl ((cp 61), 12, .inl (fun _ => 0)))] H) (hD : va_D A [(h0, .inr (10, oF q)), ((q 15), .inl ((cq 15), 7, .inl (fun _ => 0))), ((q 1), .inl ((cq 1), 40, .inr (.inr (.inr (.inr (fun _ => none)))))), ((q 3), .inl ((cq 3), 20, .inr (.inr (.inr (.inr (fun _ => none)))))), ((q 8), .inr (5, [.ref (q 80), .ref (q 81), .int 0])), ((q 9), .inr (8, [.ref (q 90), .int 0, .ref (q 91), .int 0, .int 0, .int 0])), ((q 90), .inl ((cq 90), 60, .inl (fun _ => 0))), ((q 10), .inr (7, [.ref (q 100), .ref (q 101)])), ((q 100), .inl ((cq 100), 100, .inl (fun _ => 0))), ((q 11), .inr (4, [.ref (q 110), .ref (q 111), .int 0, .ref (q 112), .int 0, .int 0])), ((q 110), .inl ((cq 110), 81, .inr (.inl (fun _ => 0)))), ((q 112), .inl ((cq 112), 4, .inl (fun _ => 0))), ((q 13), .inl ((cq 13), 12, .inl (fun _ => 0))), (g0, .inr (11, mF pq)), ((pq 0), .inl ((cp 0), 7, .inl (fun _ => 0))), ((pq 1), .inl ((cp 1), 100, .inl (fun _ => 0))), ((pq 2), .inl ((cp 2), 40, .inl (fun _ => 0))), ((pq 3), .inl ((cp 3), 40, .inl (fun _ => 0))), ((pq 4), .inl ((cp 4), 40, .inl (fun _ => 0))), ((pq 6), .inl ((cp 6), 20, .inl (fun _ => 0))), ((pq 7), .inl ((cp 7), 20, .inl (fun _ => 0))), ((pq 8), .inl ((cp 8), 20, .inl (fun _ => 0))), ((pq 9), .inl ((cp 9), 20, .inl (fun _ => 0))), ((pq 44), .inl ((cp 44), 60, .inl (fun _ => 0))), ((pq 55), .inl ((cp 55), 8, .inl (fun _ => 0))), ((pq 61), .inl ((cp 61), 12, .inl (fun _ => 0)))]) (hS : va_S A s.heap H locs) {ls : Array Slot} (hl : lv_has ls 4 [(3, .int 0), (2, .ref g0), (1, .ref h0), (0, .ref b)]) : W p l e room_1 s m #[Value.ref b] below meth c H locs 141 20685 (lw_Z below #[Value.ref b] s) (F0 m 1476 ls []) := by
  obtain ⟨hx, hb, hr, hml, hown, hts, hX, hbl, hlocks, hgv⟩ := id C0
  have hts := fun w h => hts w (wsL_law_in w h)
  have hown : s.vm.findClass RL = some m.cls := hown
  have hbA : ¬ A b := fun h => Nat.not_le.mpr hbl (hAq b h)
  refine lv_aload_n hx hb dL_law_1476 rfl (lv_at hl 2 rfl) ?_
  refine lv_aload_n hx hb dL_law_1477 rfl (lv_at hl 3 rfl) ?_
  refine lv_iload_n hx hb dL_law_1478 rfl (lv_at hl 0 rfl) ?_
  refine lv_iconst (v := 1) hx hb dL_law_1479 (by decide) ?_
  refine lv_iadd hx hb dL_law_1480 ?_
  refine lv_topi (fun y ey => ?_)
  obtain rfl : y = 1 := ey.trans (by decide)
  refine va_sld hx hb hX hbl hbA hS (by unfold vp_in; decide) dL_law_1481 ?_
  have hPc := hP.sub (ws' := [(h0, .inr (10, oF q)), ((q 15), .inl ((cq 15), 7, .inl (fun _ => 0))), ((q 8), .inr (5, [.ref (q 80), .ref (q 81), .int 0])), ((q 9), .inr (8, [.ref (q 90), .int 0, .ref (q 91), .int 0, .int 0, .int 0]))]) [0, 1, 4, 5] rfl
  have hDc := hD.sub (ws' := [(h0, .inr (10, oF q)), ((q 15), .inl ((cq 15), 7, .inl (fun _ => 0))), ((q 8), .inr (5, [.ref (q 80), .ref (q 81), .int 0])), ((q 9), .inr (8, [.ref (q 90), .int 0, .ref (q 91), .int 0, .int 0, .int 0]))]) [0, 1, 4, 5] (by decide) rfl
  have hKc := hK.sub (tys' := [((cq 15), .int)]) [0] rfl
  have hFc := va_free (wc := [(h0, .inr (10, oF q)), ((q 15), .inl ((cq 15), 7, .inl (fun _ => 0))), ((q 8), .inr (5, [.ref (q 80), .ref (q 81), .int 0])), ((q 9), .inr (8, [.ref (q 90), .int 0, .ref (q 91), .int 0, .int 0, .int 0]))]) hD hS hA [0, 1, 4, 5] rfl
  refine va_calli (va_runV (As := [.int (xs (1 : Int32).toNatClampNeg)]) (rest := []) ⟨hx, hb, hml, hown, hts⟩ (c_X10_count l dC dI H.size h0 q cq (xs (1 : Int32).toNatClampNeg)) (cwV 1 hts gL_law_X10_count rfl rfl rfl (by decide +kernel) ⟨(Nat.le_of_ble_eq_true rfl), (Nat.le_of_ble_eq_true rfl)⟩) (pr_V (r := (RX10, TX10, 16)) hPc hKc hDc 0 10 rfl rfl) rfl rfl hl.1 rfl (lv_room (Nat.le_of_ble_eq_true rfl)) dL_law_1482 ⟨(Nat.le_of_ble_eq_true rfl), (Nat.le_of_ble_eq_true rfl)⟩) hS (fun q _ h => hFc q h) hFc (fun r_2 u t H locs ht hvm w_1 hB hz1 hk1 hS => ?_)
  obtain ⟨hP, hD⟩ := va_join (wr := [(g0, .inr (11, mF pq)), ((pq 0), .inl ((cp 0), 7, .inl (fun _ => 0))), ((pq 1), .inl ((cp 1), 100, .inl (fun _ => 0))), ((pq 2), .inl ((cp 2), 40, .inl (fun _ => 0))), ((pq 3), .inl ((cp 3), 40, .inl (fun _ => 0))), ((pq 4), .inl ((cp 4), 40, .inl (fun _ => 0))), ((pq 6), .inl ((cp 6), 20, .inl (fun _ => 0))), ((pq 7), .inl ((cp 7), 20, .inl (fun _ => 0))), ((pq 8), .inl ((cp 8), 20, .inl (fun _ => 0))), ((pq 9), .inl ((cp 9), 20, .inl (fun _ => 0))), ((pq 44), .inl ((cp 44), 60, .inl (fun _ => 0))), ((pq 55), .inl ((cp 55), 8, .inl (fun _ => 0))), ((pq 61), .inl ((cp 61), 12, .inl (fun _ => 0)))]) (w1 := []) hP hD [0, 1, 4, 5] [13, 14, 15, 16, 17, 18, 19, 20, 21, 22, 23, 24, 25] rfl rfl (by decide) (by decide) hk1 hFc vP0 vD0
  have hP : va_P (dC, dI) vwCl [(g0, .inr (11, mF pq)), ((pq 0), .inl ((cp 0), 7, .inl (fun _ => 0))), ((pq 1), .inl ((cp 1), 100, .inl (fun _ => 0))), ((pq 2), .inl ((cp 2), 40, .inl (fun _ => 0))), ((pq 3), .inl ((cp 3), 40, .inl (fun _ => 0))), ((pq 4), .inl ((cp 4), 40, .inl (fun _ => 0))), ((pq 6), .inl ((cp 6), 20, .inl (fun _ => 0))), ((pq 7), .inl ((cp 7), 20, .inl (fun _ => 0))), ((pq 8), .inl ((cp 8), 20, .inl (fun _ => 0))), ((pq 9), .inl ((cp 9), 20, .inl (fun _ => 0))), ((pq 44), .inl ((cp 44), 60, .inl (fun _ => 0))), ((pq 55), .inl ((cp 55), 8, .inl (fun _ => 0))), ((pq 61), .inl ((cp 61), 12, .inl (fun _ => 0)))] H := hP
  have hD : va_D A [(g0, .inr (11, mF pq)), ((pq 0), .inl ((cp 0), 7, .inl (fun _ => 0))), ((pq 1), .inl ((cp 1), 100, .inl (fun _ => 0))), ((pq 2), .inl ((cp 2), 40, .inl (fun _ => 0))), ((pq 3), .inl ((cp 3), 40, .inl (fun _ => 0))), ((pq 4), .inl ((cp 4), 40, .inl (fun _ => 0))), ((pq 6), .inl ((cp 6), 20, .inl (fun _ => 0))), ((pq 7), .inl ((cp 7), 20, .inl (fun _ => 0))), ((pq 8), .inl ((cp 8), 20, .inl (fun _ => 0))), ((pq 9), .inl ((cp 9), 20, .inl (fun _ => 0))), ((pq 44), .inl ((cp 44), 60, .inl (fun _ => 0))), ((pq 55), .inl ((cp 55), 8, .inl (fun _ => 0))), ((pq 61), .inl ((cp 61), 12, .inl (fun _ => 0)))] := hD
  clear hk1 hz1 hvm hB ht hPc hDc hKc hFc
  refine lv_aload_n hx hb dL_law_1485 rfl (lv_at hl 1 rfl) ?_
  refine lv_aload_n hx hb dL_law_1486 rfl (lv_at hl 3 rfl) ?_
  refine lv_iload_n hx hb dL_law_1487 rfl (lv_at hl 0 rfl) ?_
  refine lv_iconst (v := 1) hx hb dL_law_1488 (by decide) ?_
  refine lv_iadd hx hb dL_law_1489 ?_
  refine lv_topi (fun y ey => ?_)
  obtain rfl : y = 1 := ey.trans (by decide)
  refine va_sld hx hb hX hbl hbA hS (by unfold vp_in; decide) dL_law_1490 ?_
  have hPc := hP.sub (ws' := [(g0, .inr (11, mF pq)), ((pq 0), .inl ((cp 0), 7, .inl (fun _ => 0)))]) [0, 1] rfl
  have hDc := hD.sub (ws' := [(g0, .inr (11, mF pq)), ((pq 0), .inl ((cp 0), 7, .inl (fun _ => 0)))]) [0, 1] (by decide) rfl
  have hKc := hK.sub (tys' := [((cp 0), .int)]) [8] rfl
  have hFc := va_free (wc := [(g0, .inr (11, mF pq)), ((pq 0), .inl ((cp 0), 7, .inl (fun _ => 0)))]) hD hS hA [0, 1] rfl
  refine va_calli (va_runV (As := [.int (xs (1 : Int32).toNatClampNeg)]) (rest := [.int r_2]) ⟨hx, hb, hml, hown, hts⟩ (c_X11_count l dC dI H.size g0 pq cp (xs (1 : Int32).toNatClampNeg)) (cwV 1 hts gL_law_X11_count rfl rfl rfl (by decide +kernel) ⟨(Nat.le_of_ble_eq_true rfl), (Nat.le_of_ble_eq_true rfl)⟩) (pr_V (r := (RX11, TX11, 63)) hPc hKc hDc 0 11 rfl rfl) rfl rfl hl.1 rfl (lv_room (Nat.le_of_ble_eq_true rfl)) dL_law_1491 ⟨(Nat.le_of_ble_eq_true rfl), (Nat.le_of_ble_eq_true rfl)⟩) hS (fun q _ h => hFc q h) hFc (fun r_4 u t H locs ht hvm w_3 hB hz1 hk1 hS => ?_)
  clear hk1 hz1 hvm hB ht hPc hDc hKc hFc
  refine lv_icmp_eq (tgt := 1499) hx hb dL_law_1494 (by decide) (fun c_5 => ?_) (fun c_5 => absurd c_5 (fun h => h (w_1.trans w_3.symm)))
  exact lc_end (Nat.le_of_ble_eq_true rfl) (Nat.le_of_ble_eq_true rfl) C0 hAq hS hl
