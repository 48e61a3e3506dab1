set_option maxRecDepth 20000 in
theorem ggL_law_X10_count : GoodIn wsL_law wsX10_count := gp_c (goodIn_r _ [1083] (by decide +kernel) (by decide +kernel)) (goodIn_app (goodIn_app (goodIn_app (goodIn_app (goodIn_app (goodIn_app (goodIn_app (goodIn_r wsX10_count_r1 [148, 188, 234, 267, 308, 22, 425, 26, 408, 1066, 39, 1084, 1085, 1086, 2, 1087, 16, 242, 1088, 1089, 1090, 1091, 18, 274] (by decide +kernel) (by decide +kernel)) (goodIn_r wsX10_count_r2 [275, 276, 277, 278, 279, 280, 281, 282, 283, 1092, 1093, 1094, 1095, 14, 1014, 1015, 1016, 190, 1017, 195] (by decide +kernel) (by decide +kernel))) gpX10) gpX5) gpX8) gpX9) gpX1) gpX6)
set_option maxRecDepth 20000 in
theorem gL_law_X10_count : GoodIn wsL_law (wsV RL 158 RX10 yX10_count wsX10_count) := goodIn_app (goodIn_of _ (by decide +kernel)) ggL_law_X10_count
set_option maxRecDepth 20000 in
theorem ggL_law_X11_count : GoodIn wsL_law wsX11_count := gp_c (goodIn_r _ [1099] (by decide +kernel) (by decide +kernel)) (goodIn_app (goodIn_app (goodIn_r wsX11_count_r1 [96, 157, 229, 260, 105, 288, 297, 502, 419, 1071, 298, 299, 300, 5, 301, 122, 117, 293, 294, 295, 296, 106, 107, 1050] (by decide +kernel) (by decide +kernel)) (goodIn_r wsX11_count_r2 [1051, 1052, 1053, 101] (by decide +kernel) (by decide +kernel))) gpX11)
set_option maxRecDepth 20000 in
theorem gL_law_X11_count : GoodIn wsL_law (wsV RL 161 RX11 yX11_count wsX11_count) := goodIn_app (goodIn_of _ (by decide +kernel)) ggL_law_X11_count
theorem dL_law_1476 : decode cL_law 1476 = .ok (.aload_n 1, 1) := by decide +kernel
theorem dL_law_1477 : decode cL_law 1477 = .ok (.aload_n 0, 1) := by decide +kernel
theorem dL_law_1478 : decode cL_law 1478 = .ok (.iload_n 3, 1) := by decide +kernel
theorem dL_law_1479 : decode cL_law 1479 = .ok (.iconst 1, 1) := by decide +kernel
theorem dL_law_1480 : decode cL_law 1480 = .ok (.iadd, 1) := by decide +kernel
theorem dL_law_1481 : decode cL_law 1481 = .ok (.iaload, 1) := by decide +kernel
theorem dL_law_1482 : decode cL_law 1482 = .ok (.invokevirtual 158, 3) := by decide +kernel
theorem dL_law_1485 : decode cL_law 1485 = .ok (.pop, 1) := by decide +kernel
theorem dL_law_1486 : decode cL_law 1486 = .ok (.aload_n 2, 1) := by decide +kernel
theorem dL_law_1487 : decode cL_law 1487 = .ok (.aload_n 0, 1) := by decide +kernel
theorem dL_law_1488 : decode cL_law 1488 = .ok (.iload_n 3, 1) := by decide +kernel
theorem dL_law_1489 : decode cL_law 1489 = .ok (.iconst 1, 1) := by decide +kernel
theorem dL_law_1490 : decode cL_law 1490 = .ok (.iadd, 1) := by decide +kernel
theorem dL_law_1491 : decode cL_law 1491 = .ok (.iaload, 1) := by decide +kernel
theorem dL_law_1492 : decode cL_law 1492 = .ok (.invokevirtual 161, 3) := by decide +kernel
theorem dL_law_1495 : decode cL_law 1495 = .ok (.pop, 1) := by decide +kernel
theorem dL_law_1496 : decode cL_law 1496 = .ok (.goto 3, 3) := by decide +kernel

set_option maxHeartbeats 4000000 in
set_option maxRecDepth 100000 in
theorem lc_34 {p : Program} {l : Launch} {e : Env} {s : State} {m : MethodId} {below : List Frame} {meth : Method} {c : Code} {b L : Nat} {xs : Nat → Int32} {A : Nat → Prop} {dC : Nat → ClassId} {dI : Nat → Nat → Nat} {tL tS tG h0 g0 : Nat} {pq : Nat → Nat} {cq cp : Nat → ClassId} (C0 : lw_At p s m meth c b L xs) (hL : L ≤ 3072) (hA : ∀ q : Nat, s.heap.size ≤ q → A q) (hAq : ∀ q, A q → s.heap.size ≤ q) (hZ : stO A tL tS tG s s.heap) (hKo : va_K (dC, dI) vwCl (oT cq) s) (hKm : va_K (dC, dI) vwCl (mT cp) s) {S : oS} {v : Nat → Int32} {fa : Nat → Nat → Int32} {H : Heap} {locs : List Loc} {i cells slots : Nat} (hi : i + 6 ≤ L) (hcl : cells ≤ 500000) (hsl : slots ≤ 7000000) (hJ : lwI 38 S h0 v fa) (hH : lwH (dC, dI) A cq cp g0 pq S v fa H) (hS : va_S A s.heap H locs) {ls : Array Slot} (hl : lv_has ls 4 [(3, .int (nI i)), (2, .ref g0), (1, .ref h0), (0, .ref b)]) (K : (∀ (S1 : oS) (v1 : Nat → Int32) (fa1 : Nat → Nat → Int32) (H1 : Heap) (locs1 : List Loc) (ls1 : Array Slot), lwI 38 S1 h0 v1 fa1 → lwH (dC, dI) A cq cp g0 pq S1 v1 fa1 H1 → va_S A s.heap H1 locs1 → lv_has ls1 4 [(3, .int (nI i)), (2, .ref g0), (1, .ref h0), (0, .ref b)] → W p l e room_1 s m #[Value.ref b] below meth c H1 locs1 (cells + 4) (slots + 134) (lw_Z below #[Value.ref b] s) (F0 m 1499 ls1 []))) : W p l e room_1 s m #[Value.ref b] below meth c H locs cells slots (lw_Z below #[Value.ref b] s) (F0 m 1476 ls []) := by
  obtain ⟨hx, hb, hr, hml, hown, hts, hX, hbl, hlocks, hgv⟩ := id C0
  have hts := fun w h => hts w (wsL_law_in w h)
  have hown : s.vm.findClass RL = some m.cls := hown
  have hbA : ¬ A b := fun h => Nat.not_le.mpr hbl (hAq b h)
  refine lv_aload_n hx hb dL_law_1476 rfl (lv_at hl 2 rfl) ?_
  refine lv_aload_n hx hb dL_law_1477 rfl (lv_at hl 3 rfl) ?_
  refine lv_iload_n hx hb dL_law_1478 rfl (lv_at hl 0 rfl) ?_
  refine lv_iconst (v := 1) hx hb dL_law_1479 (by decide) ?_
  refine lv_iadd hx hb dL_law_1480 ?_
  refine lv_topi (fun y_1 ey_1 => ?_)
  have hy_1 : y_1.toInt = (i : Int) + 1 := by rw [ey_1]; exact ad_i (nI_toInt (by omega)) (by decide) (by omega) (by omega)
  have ny_1 : y_1.toNatClampNeg = i + 1 := (show y_1.toInt.toNat = _ by omega)
  clear ey_1
  refine va_sld hx hb hX hbl hbA hS (vp_in_iff.mpr (by omega)) dL_law_1481 ?_
  refine lv_topi (fun z_2 ez_2 => ?_)
  obtain rfl : z_2 = xs (i + 1) := ez_2.trans (by rw [ny_1])
  clear ny_1 hy_1
  obtain ⟨hI_o, to, gV, gA, hnow⟩ := id hJ
  obtain ⟨hPo, hDo, hPm, hDm, hdis⟩ := id hH
  have hFc : ∀ q, va_A [] H.size q → A q := pu_free hS hA
  obtain ⟨q0, hq0⟩ := og (cq := cq) to.1 (oE_10 to.2)
  refine va_calli (va_runV (As := [.int (xs (i + 1))]) (rest := []) ⟨hx, hb, hml, hown, hts⟩ (c_X10_count l dC dI H.size cq S hI_o h0 to (xs (i + 1))) (cwV 1 hts gL_law_X10_count rfl rfl rfl (by decide +kernel) ⟨(Nat.le_of_ble_eq_true rfl), (Nat.le_of_ble_eq_true rfl)⟩) (pr_V (r := (RX10, TX10, 16)) hPo hKo hDo q0 10 rfl hq0) rfl rfl hl.1 rfl (lv_room (Nat.le_of_ble_eq_true rfl)) dL_law_1482 ⟨(show cells + 0 ≤ 600000 by omega), (show slots + 0 ≤ 7302250 by omega)⟩) hS (fun q _ h => hFc q h) hFc (fun r_4 u t H locs ht hvm w_3 hB hz1 hk1 hS => ?_)
  have hH := lwH_p hH hk1
  clear hk1 hz1 hvm ht hFc
  refine lv_pop hx hb dL_law_1485 rfl ?_
  refine lv_aload_n hx hb dL_law_1486 rfl (lv_at hl 1 rfl) ?_
  refine lv_aload_n hx hb dL_law_1487 rfl (lv_at hl 3 rfl) ?_
  refine lv_iload_n hx hb dL_law_1488 rfl (lv_at hl 0 rfl) ?_
  refine lv_iconst (v := 1) hx hb dL_law_1489 (by decide) ?_
  refine lv_iadd hx hb dL_law_1490 ?_
  refine lv_topi (fun y_5 ey_5 => ?_)
  have hy_5 : y_5.toInt = (i : Int) + 1 := by rw [ey_5]; exact ad_i (nI_toInt (by omega)) (by decide) (by omega) (by omega)
  have ny_5 : y_5.toNatClampNeg = i + 1 := (show y_5.toInt.toNat = _ by omega)
  clear ey_5
  refine va_sld hx hb hX hbl hbA hS (vp_in_iff.mpr (by omega)) dL_law_1491 ?_
  refine lv_topi (fun z_6 ez_6 => ?_)
  obtain rfl : z_6 = xs (i + 1) := ez_6.trans (by rw [ny_5])
  clear ny_5 hy_5
  obtain ⟨hI_o, to, gV, gA, hnow⟩ := id hJ
  obtain ⟨hPo, hDo, hPm, hDm, hdis⟩ := id hH
  have hFc : ∀ q, va_A [] H.size q → A q := pu_free hS hA
  refine va_calli (va_runV (As := [.int (xs (i + 1))]) (rest := []) ⟨hx, hb, hml, hown, hts⟩ (c_X11_count l dC dI H.size g0 pq cp v fa gV gA (xs (i + 1))) (cwV 1 hts gL_law_X11_count rfl rfl rfl (by decide +kernel) ⟨(Nat.le_of_ble_eq_true rfl), (Nat.le_of_ble_eq_true rfl)⟩) (pr_V (r := (RX11, TX11, 63)) hPm hKm hDm 0 11 rfl rfl) rfl rfl hl.1 rfl (lv_room (Nat.le_of_ble_eq_true rfl)) dL_law_1492 ⟨(show cells + 0 ≤ 600000 by omega), (show slots + 0 ≤ 7302250 by omega)⟩) hS (fun q _ h => hFc q h) hFc (fun r_8 u t H locs ht hvm w_7 hB hz1 hk1 hS => ?_)
  have hH := lwH_p hH hk1
  clear hk1 hz1 hvm ht hFc
  refine lv_pop hx hb dL_law_1495 rfl ?_
  refine lv_goto (tgt := 1499) hx hb dL_law_1496 (by decide) ?_
  refine W.widen (k := cells + 4) (n := slots + 134) (by omega) (by omega) ?_
  exact K _ _ _ _ _ _ hJ hH hS hl
