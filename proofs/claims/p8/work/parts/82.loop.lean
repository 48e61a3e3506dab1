theorem dL_law_18 : decode cL_law 18 = .ok (.iload_n 3, 1) := by decide +kernel
theorem dL_law_19 : decode cL_law 19 = .ok (.aload_n 0, 1) := by decide +kernel
theorem dL_law_20 : decode cL_law 20 = .ok (.arraylength, 1) := by decide +kernel
theorem dL_law_21 : decode cL_law 21 = .ok (.bipush 6, 2) := by decide +kernel
theorem dL_law_23 : decode cL_law 23 = .ok (.isub, 1) := by decide +kernel
theorem dL_law_24 : decode cL_law 24 = .ok (.if_icmp .gt 1481, 3) := by decide +kernel
theorem dL_law_27 : decode cL_law 27 = .ok (.aload_n 0, 1) := by decide +kernel
theorem dL_law_28 : decode cL_law 28 = .ok (.iload_n 3, 1) := by decide +kernel
theorem dL_law_29 : decode cL_law 29 = .ok (.iaload, 1) := by decide +kernel
theorem dL_law_30 : decode cL_law 30 = .ok (.bipush 63, 2) := by decide +kernel
theorem dL_law_32 : decode cL_law 32 = .ok (.iand, 1) := by decide +kernel
theorem dL_law_33 : decode cL_law 33 = .ok (.tableswitch 1466 0 34 #[155, 178, 221, 264, 297, 330, 363, 396, 429, 482, 515, 548, 611, 644, 707, 740, 783, 826, 859, 892, 925, 994, 1027, 1070, 1113, 1156, 1189, 1232, 1255, 1278, 1301, 1344, 1377, 1400, 1443], 155) := by decide +kernel
theorem dL_law_1499 : decode cL_law 1499 = .ok (.iinc 3 6, 3) := by decide +kernel
theorem dL_law_1502 : decode cL_law 1502 = .ok (.goto (-1484), 3) := by decide +kernel
theorem dL_law_1505 : decode cL_law 1505 = .ok (.iconst 1, 1) := by decide +kernel
theorem dL_law_1506 : decode cL_law 1506 = .ok (.ireturn, 1) := by decide +kernel


theorem lc_out {p : Program} {l : Launch} {e : Env} {s : State} {m : MethodId} {below : List Frame} {meth : Method} {c : Code} {b L : Nat} {xs : Nat → Int32} {A : Nat → Prop} {cells slots : Nat} (hc : cells ≤ 600000) (hs : slots ≤ 7302250) (C0 : lw_At p s m meth c b L xs) (hAq : ∀ q, A q → s.heap.size ≤ q) {H : Heap} {locs : List Loc} (hS : va_S A s.heap H locs) {ls : Array Slot} : W p l e room_1 s m #[Value.ref b] below meth c H locs cells slots (lw_Z below #[Value.ref b] s) (F0 m 1505 ls []) := by
  obtain ⟨hx, hb, hr, hml, hown, hts, hX, hbl, hlocks, hgv⟩ := id C0
  refine lv_iconst (v := 1) hx hb dL_law_1505 (by decide +kernel) ?_
  refine va_forget (fun q hq => hAq _ (hS.2.2 q hq)) ?_
  refine W.widen (k := 600000) (n := 7302250) hc hs ?_
  exact lw_ret hx hb hr hlocks dL_law_1506
set_option maxHeartbeats 8000000 in
set_option maxRecDepth 100000 in
/-- the loop, from its k-th turn on -/
theorem law_loop {p : Program} {l : Launch} {e : Env} {s : State} {m : MethodId} {below : List Frame} {meth : Method} {c : Code} {b L : Nat} {xs : Nat → Int32} {A : Nat → Prop} {dC : Nat → ClassId} {dI : Nat → Nat → Nat} {tL tS tG h0 g0 : Nat} {pq : Nat → Nat} {cq cp : Nat → ClassId} (C0 : lw_At p s m meth c b L xs) (hL : L ≤ 3072) (hA : ∀ q : Nat, s.heap.size ≤ q → A q) (hAq : ∀ q, A q → s.heap.size ≤ q) (hZ : stO A tL tS tG s s.heap) (hKo : va_K (dC, dI) vwCl (oT cq) s) (hKm : va_K (dC, dI) vwCl (mT cp) s) : ∀ (n k : Nat) (S : oS) (v : Nat → Int32) (fa : Nat → Nat → Int32) (H : Heap) (locs : List Loc) (ls : Array Slot), 513 ≤ k + n → k ≤ 512 → lwI S h0 v fa → lwH (dC, dI) A cq cp g0 pq S v fa H → va_S A s.heap H locs → lv_has ls 4 [(3, .int (nI (6 * k))), (2, .ref g0), (1, .ref h0), (0, .ref b)] → W p l e room_1 s m #[Value.ref b] below meth c H locs (88 + 4 * k) (9083 + 134 * k) (lw_Z below #[Value.ref b] s) (F0 m 18 ls []) := by
  obtain ⟨hx, hb, hr, hml, hown, hts, hX, hbl, hlocks, hgv⟩ := id C0
  have hts := fun w h => hts w (wsL_law_in w h)
  have hown : s.vm.findClass RL = some m.cls := hown
  have hbA : ¬ A b := fun h => Nat.not_le.mpr hbl (hAq b h)
  intro n
  induction n with
  | zero =>
    intro k S v fa H locs ls hn hk
    omega
  | succ n ih =>
    intro k S v fa H locs ls hn hk hJ hH hS hl
    refine lv_iload_n hx hb dL_law_18 rfl (lv_at hl 0 rfl) ?_
    refine lv_aload_n hx hb dL_law_19 rfl (lv_at hl 3 rfl) ?_
    refine va_slen hx hb hX hbl hbA hS dL_law_20 ?_
    refine lv_bipush (v := 6) hx hb dL_law_21 (by decide +kernel) ?_
    refine lv_isub hx hb dL_law_23 ?_
    refine lv_topi (fun y ey => ?_)
    have hy : y.toInt = (L : Int) - 6 := by rw [ey]; exact sb_i (nI_toInt (by omega)) (by decide +kernel) (by omega) (by omega)
    refine lv_icmp_gt (tgt := 1505) hx hb dL_law_24 (by decide +kernel) (fun c_1 => ?_) (fun c_1 => ?_)
    · exact lc_out (by omega) (by omega) C0 hAq hS
    · have hd := c_nlt (a := (L : Int) - 6) (b := ((6 * k : Nat) : Int)) hy (nI_toInt (by omega)) c_1
      have K : ∀ (S1 : oS) (v1 : Nat → Int32) (fa1 : Nat → Nat → Int32) (H1 : Heap) (locs1 : List Loc) (ls1 : Array Slot), lwI S1 h0 v1 fa1 → lwH (dC, dI) A cq cp g0 pq S1 v1 fa1 H1 → va_S A s.heap H1 locs1 → lv_has ls1 4 [(3, .int (nI (6 * k))), (2, .ref g0), (1, .ref h0), (0, .ref b)] → W p l e room_1 s m #[Value.ref b] below meth c H1 locs1 (88 + 4 * k + 4) (9083 + 134 * k + 134) (lw_Z below #[Value.ref b] s) (F0 m 1499 ls1 []) := by
        intro S1 v1 fa1 H1 locs1 ls1 hJ1 hH1 hS1 hl1
        refine lv_iinc (v := nI (6 * (k + 1))) (lv' := [(3, .int (nI (6 * (k + 1)))), (2, .ref g0), (1, .ref h0), (0, .ref b)]) hx hb dL_law_1499 hl1 (k := 0) rfl (show nI (6 * k) + nI 6 = nI (6 * (k + 1)) by rw [nI_add, show 6 * k + 6 = 6 * (k + 1) by omega]) (by decide +kernel) rfl (fun ls hl => ?_)
        refine lv_goto (tgt := 18) hx hb dL_law_1502 (by decide +kernel) ?_
        rw [show 88 + 4 * k + 4 = 88 + 4 * (k + 1) by omega, show 9083 + 134 * k + 134 = 9083 + 134 * (k + 1) by omega]
        exact ih (k + 1) S1 v1 fa1 H1 locs1 ls (by omega) (by omega) hJ1 hH1 hS1 hl
      refine lv_aload_n hx hb dL_law_27 rfl (lv_at hl 3 rfl) ?_
      refine lv_iload_n hx hb dL_law_28 rfl (lv_at hl 0 rfl) ?_
      refine va_sld hx hb hX hbl hbA hS (vp_in_iff.mpr (by rw [nI_toInt (by omega)]; omega)) dL_law_29 ?_
      refine lv_bipush (v := 63) hx hb dL_law_30 (by decide +kernel) ?_
      refine lv_iand hx hb dL_law_32 ?_
      refine lv_topi (fun y2 ey2 => ?_)
      obtain ⟨j, hj, ej⟩ := pk_andE (xs (nI (6 * k)).toNatClampNeg) (m := 63) 6 (by decide +kernel)
      rw [ej] at ey2
      rcases Nat.lt_or_ge j 35 with h | h
      · rcases (show j = 0 ∨ j = 1 ∨ j = 2 ∨ j = 3 ∨ j = 4 ∨ j = 5 ∨ j = 6 ∨ j = 7 ∨ j = 8 ∨ j = 9 ∨ j = 10 ∨ j = 11 ∨ j = 12 ∨ j = 13 ∨ j = 14 ∨ j = 15 ∨ j = 16 ∨ j = 17 ∨ j = 18 ∨ j = 19 ∨ j = 20 ∨ j = 21 ∨ j = 22 ∨ j = 23 ∨ j = 24 ∨ j = 25 ∨ j = 26 ∨ j = 27 ∨ j = 28 ∨ j = 29 ∨ j = 30 ∨ j = 31 ∨ j = 32 ∨ j = 33 ∨ j = 34 by omega) with rfl | rfl | rfl | rfl | rfl | rfl | rfl | rfl | rfl | rfl | rfl | rfl | rfl | rfl | rfl | rfl | rfl | rfl | rfl | rfl | rfl | rfl | rfl | rfl | rfl | rfl | rfl | rfl | rfl | rfl | rfl | rfl | rfl | rfl | rfl
        · obtain rfl : y2 = 0 := ey2.trans (by decide +kernel)
          refine lv_tableIn (x := 0) (off := 155) (tgt := 188) hx hb dL_law_33 (by decide +kernel) (by decide +kernel) (by decide +kernel) (by decide +kernel) ?_
          exact lc_0 C0 hL hA hAq hZ hKo hKm (by omega) (by omega) (by omega) hJ hH hS hl K
        · obtain rfl : y2 = 1 := ey2.trans (by decide +kernel)
          refine lv_tableIn (x := 1) (off := 178) (tgt := 211) hx hb dL_law_33 (by decide +kernel) (by decide +kernel) (by decide +kernel) (by decide +kernel) ?_
          exact lc_1 C0 hL hA hAq hZ hKo hKm (by omega) (by omega) (by omega) hJ hH hS hl K
        · obtain rfl : y2 = 2 := ey2.trans (by decide +kernel)
          refine lv_tableIn (x := 2) (off := 221) (tgt := 254) hx hb dL_law_33 (by decide +kernel) (by decide +kernel) (by decide +kernel) (by decide +kernel) ?_
          exact lc_2 C0 hL hA hAq hZ hKo hKm (by omega) (by omega) (by omega) hJ hH hS hl K
        · obtain rfl : y2 = 3 := ey2.trans (by decide +kernel)
          refine lv_tableIn (x := 3) (off := 264) (tgt := 297) hx hb dL_law_33 (by decide +kernel) (by decide +kernel) (by decide +kernel) (by decide +kernel) ?_
          exact lc_3 C0 hL hA hAq hZ hKo hKm (by omega) (by omega) (by omega) hJ hH hS hl K
        · obtain rfl : y2 = 4 := ey2.trans (by decide +kernel)
          refine lv_tableIn (x := 4) (off := 297) (tgt := 330) hx hb dL_law_33 (by decide +kernel) (by decide +kernel) (by decide +kernel) (by decide +kernel) ?_
          exact lc_4 C0 hL hA hAq hZ hKo hKm (by omega) (by omega) (by omega) hJ hH hS hl K
        · obtain rfl : y2 = 5 := ey2.trans (by decide +kernel)
          refine lv_tableIn (x := 5) (off := 330) (tgt := 363) hx hb dL_law_33 (by decide +kernel) (by decide +kernel) (by decide +kernel) (by decide +kernel) ?_
          exact lc_5 C0 hL hA hAq hZ hKo hKm (by omega) (by omega) (by omega) hJ hH hS hl K
        · obtain rfl : y2 = 6 := ey2.trans (by decide +kernel)
          refine lv_tableIn (x := 6) (off := 363) (tgt := 396) hx hb dL_law_33 (by decide +kernel) (by decide +kernel) (by decide +kernel) (by decide +kernel) ?_
          exact lc_6 C0 hL hA hAq hZ hKo hKm (by omega) (by omega) (by omega) hJ hH hS hl K
        · obtain rfl : y2 = 7 := ey2.trans (by decide +kernel)
          refine lv_tableIn (x := 7) (off := 396) (tgt := 429) hx hb dL_law_33 (by decide +kernel) (by decide +kernel) (by decide +kernel) (by decide +kernel) ?_
          exact lc_7 C0 hL hA hAq hZ hKo hKm (by omega) (by omega) (by omega) hJ hH hS hl K
        · obtain rfl : y2 = 8 := ey2.trans (by decide +kernel)
          refine lv_tableIn (x := 8) (off := 429) (tgt := 462) hx hb dL_law_33 (by decide +kernel) (by decide +kernel) (by decide +kernel) (by decide +kernel) ?_
          exact lc_8 C0 hL hA hAq hZ hKo hKm (by omega) (by omega) (by omega) hJ hH hS hl K
        · obtain rfl : y2 = 9 := ey2.trans (by decide +kernel)
          refine lv_tableIn (x := 9) (off := 482) (tgt := 515) hx hb dL_law_33 (by decide +kernel) (by decide +kernel) (by decide +kernel) (by decide +kernel) ?_
          exact lc_9 C0 hL hA hAq hZ hKo hKm (by omega) (by omega) (by omega) hJ hH hS hl K
        · obtain rfl : y2 = 10 := ey2.trans (by decide +kernel)
          refine lv_tableIn (x := 10) (off := 515) (tgt := 548) hx hb dL_law_33 (by decide +kernel) (by decide +kernel) (by decide +kernel) (by decide +kernel) ?_
          exact lc_10 C0 hL hA hAq hZ hKo hKm (by omega) (by omega) (by omega) hJ hH hS hl K
        · obtain rfl : y2 = 11 := ey2.trans (by decide +kernel)
          refine lv_tableIn (x := 11) (off := 548) (tgt := 581) hx hb dL_law_33 (by decide +kernel) (by decide +kernel) (by decide +kernel) (by decide +kernel) ?_
          exact lc_11 C0 hL hA hAq hZ hKo hKm (by omega) (by omega) (by omega) hJ hH hS hl K
        · obtain rfl : y2 = 12 := ey2.trans (by decide +kernel)
          refine lv_tableIn (x := 12) (off := 611) (tgt := 644) hx hb dL_law_33 (by decide +kernel) (by decide +kernel) (by decide +kernel) (by decide +kernel) ?_
          exact lc_12 C0 hL hA hAq hZ hKo hKm (by omega) (by omega) (by omega) hJ hH hS hl K
        · obtain rfl : y2 = 13 := ey2.trans (by decide +kernel)
          refine lv_tableIn (x := 13) (off := 644) (tgt := 677) hx hb dL_law_33 (by decide +kernel) (by decide +kernel) (by decide +kernel) (by decide +kernel) ?_
          exact lc_13 C0 hL hA hAq hZ hKo hKm (by omega) (by omega) (by omega) hJ hH hS hl K
        · obtain rfl : y2 = 14 := ey2.trans (by decide +kernel)
          refine lv_tableIn (x := 14) (off := 707) (tgt := 740) hx hb dL_law_33 (by decide +kernel) (by decide +kernel) (by decide +kernel) (by decide +kernel) ?_
          exact lc_14 C0 hL hA hAq hZ hKo hKm (by omega) (by omega) (by omega) hJ hH hS hl K
        · obtain rfl : y2 = 15 := ey2.trans (by decide +kernel)
          refine lv_tableIn (x := 15) (off := 740) (tgt := 773) hx hb dL_law_33 (by decide +kernel) (by decide +kernel) (by decide +kernel) (by decide +kernel) ?_
          exact lc_15 C0 hL hA hAq hZ hKo hKm (by omega) (by omega) (by omega) hJ hH hS hl K
        · obtain rfl : y2 = 16 := ey2.trans (by decide +kernel)
          refine lv_tableIn (x := 16) (off := 783) (tgt := 816) hx hb dL_law_33 (by decide +kernel) (by decide +kernel) (by decide +kernel) (by decide +kernel) ?_
          exact lc_16 C0 hL hA hAq hZ hKo hKm (by omega) (by omega) (by omega) hJ hH hS hl K
        · obtain rfl : y2 = 17 := ey2.trans (by decide +kernel)
          refine lv_tableIn (x := 17) (off := 826) (tgt := 859) hx hb dL_law_33 (by decide +kernel) (by decide +kernel) (by decide +kernel) (by decide +kernel) ?_
          exact lc_17 C0 hL hA hAq hZ hKo hKm (by omega) (by omega) (by omega) hJ hH hS hl K
        · obtain rfl : y2 = 18 := ey2.trans (by decide +kernel)
          refine lv_tableIn (x := 18) (off := 859) (tgt := 892) hx hb dL_law_33 (by decide +kernel) (by decide +kernel) (by decide +kernel) (by decide +kernel) ?_
          exact lc_18 C0 hL hA hAq hZ hKo hKm (by omega) (by omega) (by omega) hJ hH hS hl K
        · obtain rfl : y2 = 19 := ey2.trans (by decide +kernel)
          refine lv_tableIn (x := 19) (off := 892) (tgt := 925) hx hb dL_law_33 (by decide +kernel) (by decide +kernel) (by decide +kernel) (by decide +kernel) ?_
          exact lc_19 C0 hL hA hAq hZ hKo hKm (by omega) (by omega) (by omega) hJ hH hS hl K
        · obtain rfl : y2 = 20 := ey2.trans (by decide +kernel)
          refine lv_tableIn (x := 20) (off := 925) (tgt := 958) hx hb dL_law_33 (by decide +kernel) (by decide +kernel) (by decide +kernel) (by decide +kernel) ?_
          exact lc_20 C0 hL hA hAq hZ hKo hKm (by omega) (by omega) (by omega) hJ hH hS hl K
        · obtain rfl : y2 = 21 := ey2.trans (by decide +kernel)
          refine lv_tableIn (x := 21) (off := 994) (tgt := 1027) hx hb dL_law_33 (by decide +kernel) (by decide +kernel) (by decide +kernel) (by decide +kernel) ?_
          exact lc_21 C0 hL hA hAq hZ hKo hKm (by omega) (by omega) (by omega) hJ hH hS hl K
        · obtain rfl : y2 = 22 := ey2.trans (by decide +kernel)
          refine lv_tableIn (x := 22) (off := 1027) (tgt := 1060) hx hb dL_law_33 (by decide +kernel) (by decide +kernel) (by decide +kernel) (by decide +kernel) ?_
          exact lc_22 C0 hL hA hAq hZ hKo hKm (by omega) (by omega) (by omega) hJ hH hS hl K
        · obtain rfl : y2 = 23 := ey2.trans (by decide +kernel)
          refine lv_tableIn (x := 23) (off := 1070) (tgt := 1103) hx hb dL_law_33 (by decide +kernel) (by decide +kernel) (by decide +kernel) (by decide +kernel) ?_
          exact lc_23 C0 hL hA hAq hZ hKo hKm (by omega) (by omega) (by omega) hJ hH hS hl K
        · obtain rfl : y2 = 24 := ey2.trans (by decide +kernel)
          refine lv_tableIn (x := 24) (off := 1113) (tgt := 1146) hx hb dL_law_33 (by decide +kernel) (by decide +kernel) (by decide +kernel) (by decide +kernel) ?_
          exact lc_24 C0 hL hA hAq hZ hKo hKm (by omega) (by omega) (by omega) hJ hH hS hl K
        · obtain rfl : y2 = 25 := ey2.trans (by decide +kernel)
          refine lv_tableIn (x := 25) (off := 1156) (tgt := 1189) hx hb dL_law_33 (by decide +kernel) (by decide +kernel) (by decide +kernel) (by decide +kernel) ?_
          exact lc_25 C0 hL hA hAq hZ hKo hKm (by omega) (by omega) (by omega) hJ hH hS hl K
        · obtain rfl : y2 = 26 := ey2.trans (by decide +kernel)
          refine lv_tableIn (x := 26) (off := 1189) (tgt := 1222) hx hb dL_law_33 (by decide +kernel) (by decide +kernel) (by decide +kernel) (by decide +kernel) ?_
          exact lc_26 C0 hL hA hAq hZ hKo hKm (by omega) (by omega) (by omega) hJ hH hS hl K
        · obtain rfl : y2 = 27 := ey2.trans (by decide +kernel)
          refine lv_tableIn (x := 27) (off := 1232) (tgt := 1265) hx hb dL_law_33 (by decide +kernel) (by decide +kernel) (by decide +kernel) (by decide +kernel) ?_
          exact lc_27 C0 hL hA hAq hZ hKo hKm (by omega) (by omega) (by omega) hJ hH hS hl K
        · obtain rfl : y2 = 28 := ey2.trans (by decide +kernel)
          refine lv_tableIn (x := 28) (off := 1255) (tgt := 1288) hx hb dL_law_33 (by decide +kernel) (by decide +kernel) (by decide +kernel) (by decide +kernel) ?_
          exact lc_28 C0 hL hA hAq hZ hKo hKm (by omega) (by omega) (by omega) hJ hH hS hl K
        · obtain rfl : y2 = 29 := ey2.trans (by decide +kernel)
          refine lv_tableIn (x := 29) (off := 1278) (tgt := 1311) hx hb dL_law_33 (by decide +kernel) (by decide +kernel) (by decide +kernel) (by decide +kernel) ?_
          exact lc_29 C0 hL hA hAq hZ hKo hKm (by omega) (by omega) (by omega) hJ hH hS hl K
        · obtain rfl : y2 = 30 := ey2.trans (by decide +kernel)
          refine lv_tableIn (x := 30) (off := 1301) (tgt := 1334) hx hb dL_law_33 (by decide +kernel) (by decide +kernel) (by decide +kernel) (by decide +kernel) ?_
          exact lc_30 C0 hL hA hAq hZ hKo hKm (by omega) (by omega) (by omega) hJ hH hS hl K
        · obtain rfl : y2 = 31 := ey2.trans (by decide +kernel)
          refine lv_tableIn (x := 31) (off := 1344) (tgt := 1377) hx hb dL_law_33 (by decide +kernel) (by decide +kernel) (by decide +kernel) (by decide +kernel) ?_
          exact lc_31 C0 hL hA hAq hZ hKo hKm (by omega) (by omega) (by omega) hJ hH hS hl K
        · obtain rfl : y2 = 32 := ey2.trans (by decide +kernel)
          refine lv_tableIn (x := 32) (off := 1377) (tgt := 1410) hx hb dL_law_33 (by decide +kernel) (by decide +kernel) (by decide +kernel) (by decide +kernel) ?_
          exact lc_32 C0 hL hA hAq hZ hKo hKm (by omega) (by omega) (by omega) hJ hH hS hl K
        · obtain rfl : y2 = 33 := ey2.trans (by decide +kernel)
          refine lv_tableIn (x := 33) (off := 1400) (tgt := 1433) hx hb dL_law_33 (by decide +kernel) (by decide +kernel) (by decide +kernel) (by decide +kernel) ?_
          exact lc_33 C0 hL hA hAq hZ hKo hKm (by omega) (by omega) (by omega) hJ hH hS hl K
        · obtain rfl : y2 = 34 := ey2.trans (by decide +kernel)
          refine lv_tableIn (x := 34) (off := 1443) (tgt := 1476) hx hb dL_law_33 (by decide +kernel) (by decide +kernel) (by decide +kernel) (by decide +kernel) ?_
          exact lc_34 C0 hL hA hAq hZ hKo hKm (by omega) (by omega) (by omega) hJ hH hS hl K
      · refine lv_tableOut (tgt := 1499) hx hb dL_law_33 (Or.inr (by rw [ey2, nI_toInt (by omega)]; omega)) (by decide +kernel) ?_
        refine W.widen (k := 88 + 4 * k + 4) (n := 9083 + 134 * k + 134) (by omega) (by omega) ?_
        exact K S v fa H locs ls hJ hH hS hl
