theorem gw_X10_voyage : wsX10_voyage.all goodWord = true := by decide +kernel
theorem gw_X10_ended : wsX10_ended.all goodWord = true := by decide +kernel
theorem gw_X11_voyage : wsX11_voyage.all goodWord = true := by decide +kernel
theorem gw_X11_ended : wsX11_ended.all goodWord = true := by decide +kernel
theorem il_L_law_6 : ∀ w ∈ wsL_law_r6, w ∈ wsL_law := fun w h => (List.mem_append_left _ (List.mem_append_left _ (List.mem_append_left _ (List.mem_append_left _ (List.mem_append_left _ (List.mem_append_left _ (List.mem_append_left _ (List.mem_append_left _ (List.mem_append_left _ (List.mem_append_left _ (List.mem_append_left _ (List.mem_append_left _ (List.mem_append_left _ (List.mem_append_right _ (List.mem_append_right _ (List.mem_append_right _ (List.mem_append_right _ (List.mem_append_right _ (List.mem_append_left _ h)))))))))))))))))))
theorem il_L_law_11 : ∀ w ∈ wsL_law_r11, w ∈ wsL_law := fun w h => (List.mem_append_left _ (List.mem_append_left _ (List.mem_append_left _ (List.mem_append_left _ (List.mem_append_left _ (List.mem_append_left _ (List.mem_append_left _ (List.mem_append_left _ (List.mem_append_left _ (List.mem_append_left _ (List.mem_append_left _ (List.mem_append_left _ (List.mem_append_left _ (List.mem_append_right _ (List.mem_append_right _ (List.mem_append_right _ (List.mem_append_right _ (List.mem_append_right _ (List.mem_append_right _ (List.mem_append_right _ (List.mem_append_right _ (List.mem_append_right _ (List.mem_append_right _ (List.mem_append_left _ h))))))))))))))))))))))))
theorem il_L_law_12 : ∀ w ∈ wsL_law_r12, w ∈ wsL_law := fun w h => (List.mem_append_left _ (List.mem_append_left _ (List.mem_append_left _ (List.mem_append_left _ (List.mem_append_left _ (List.mem_append_left _ (List.mem_append_left _ (List.mem_append_left _ (List.mem_append_left _ (List.mem_append_left _ (List.mem_append_left _ (List.mem_append_left _ (List.mem_append_left _ (List.mem_append_right _ (List.mem_append_right _ (List.mem_append_right _ (List.mem_append_right _ (List.mem_append_right _ (List.mem_append_right _ (List.mem_append_right _ (List.mem_append_right _ (List.mem_append_right _ (List.mem_append_right _ (List.mem_append_right _ (List.mem_append_left _ h)))))))))))))))))))))))))
theorem il_L_law_13 : ∀ w ∈ wsL_law_r13, w ∈ wsL_law := fun w h => (List.mem_append_left _ (List.mem_append_left _ (List.mem_append_left _ (List.mem_append_left _ (List.mem_append_left _ (List.mem_append_left _ (List.mem_append_left _ (List.mem_append_left _ (List.mem_append_left _ (List.mem_append_left _ (List.mem_append_left _ (List.mem_append_left _ (List.mem_append_left _ (List.mem_append_right _ (List.mem_append_right _ (List.mem_append_right _ (List.mem_append_right _ (List.mem_append_right _ (List.mem_append_right _ (List.mem_append_right _ (List.mem_append_right _ (List.mem_append_right _ (List.mem_append_right _ (List.mem_append_right _ (List.mem_append_right _ (List.mem_append_left _ h))))))))))))))))))))))))))
theorem il_L_law_55 : ∀ w ∈ wsX90, w ∈ wsL_law := fun w h => (List.mem_append_left _ (List.mem_append_left _ (List.mem_append_left _ (List.mem_append_left _ (List.mem_append_right _ h)))))
theorem il_L_law_56 : ∀ w ∈ wsX10, w ∈ wsL_law := fun w h => (List.mem_append_left _ (List.mem_append_left _ (List.mem_append_left _ (List.mem_append_right _ h))))
set_option maxRecDepth 100000 in
theorem ggL_law_X10_voyage : GoodIn wsL_law wsX10_voyage := goodIn_sub (mmC (mmI il_L_law_10 17 rfl) (mmA (mmA (mmA (mmC (mmI il_L_law_10 18 rfl) (mmC (mmI il_L_law_1 16 rfl) (mmC (mmI il_L_law_1 15 rfl) (mmC (mmI il_L_law_10 19 rfl) (mmC (mmI il_L_law_10 20 rfl) (mmC (mmI il_L_law_7 4 rfl) (mmC (mmI il_L_law_7 22 rfl) (mmC (mmI il_L_law_7 23 rfl) (mmC (mmI il_L_law_1 2 rfl) (mmC (mmI il_L_law_8 0 rfl) (mmC (mmI il_L_law_7 5 rfl) (mmC (mmI il_L_law_7 6 rfl) (mmC (mmI il_L_law_7 7 rfl) (mmC (mmI il_L_law_7 8 rfl) (mmC (mmI il_L_law_2 15 rfl) (mmC (mmI il_L_law_10 21 rfl) (mmC (mmI il_L_law_10 22 rfl) (mmC (mmI il_L_law_10 23 rfl) (mmC (mmI il_L_law_11 0 rfl) (mmC (mmI il_L_law_11 1 rfl) (mmC (mmI il_L_law_11 2 rfl) (mmC (mmI il_L_law_11 3 rfl) (mmC (mmI il_L_law_11 4 rfl) (mmC (mmI il_L_law_11 5 rfl) mmN)))))))))))))))))))))))) (mmC (mmI il_L_law_11 6 rfl) (mmC (mmI il_L_law_1 11 rfl) (mmC (mmI il_L_law_1 12 rfl) (mmC (mmI il_L_law_11 7 rfl) (mmC (mmI il_L_law_11 8 rfl) (mmC (mmI il_L_law_11 9 rfl) (mmC (mmI il_L_law_11 10 rfl) (mmC (mmI il_L_law_11 11 rfl) (mmC (mmI il_L_law_11 12 rfl) (mmC (mmI il_L_law_11 13 rfl) (mmC (mmI il_L_law_11 14 rfl) (mmC (mmI il_L_law_11 15 rfl) mmN))))))))))))) il_L_law_47) il_L_law_55)) gw_X10_voyage
theorem gL_law_X10_voyage : GoodIn wsL_law (wsV RL 27 RX10 yX10_voyage wsX10_voyage) := goodIn_app (goodIn_sub (mmC (mmI il_L_law_10 14 rfl) (mmC (mmI il_L_law_10 15 rfl) (mmC (mmI il_L_law_10 16 rfl) (mmC (mmI il_L_law_1 2 rfl) mmN)))) (by decide +kernel)) ggL_law_X10_voyage
set_option maxRecDepth 100000 in
theorem ggL_law_X11_voyage : GoodIn wsL_law wsX11_voyage := goodIn_sub (mmC (mmI il_L_law_11 19 rfl) (mmA (mmC (mmI il_L_law_11 20 rfl) (mmC (mmI il_L_law_5 6 rfl) (mmC (mmI il_L_law_5 9 rfl) (mmC (mmI il_L_law_5 7 rfl) (mmC (mmI il_L_law_7 13 rfl) (mmC (mmI il_L_law_5 8 rfl) (mmC (mmI il_L_law_8 12 rfl) (mmC (mmI il_L_law_8 13 rfl) (mmC (mmI il_L_law_1 5 rfl) (mmC (mmI il_L_law_8 14 rfl) (mmC (mmI il_L_law_8 9 rfl) (mmC (mmI il_L_law_8 10 rfl) (mmC (mmI il_L_law_8 11 rfl) (mmC (mmI il_L_law_7 14 rfl) (mmC (mmI il_L_law_7 15 rfl) (mmC (mmI il_L_law_7 16 rfl) (mmC (mmI il_L_law_7 17 rfl) (mmC (mmI il_L_law_5 0 rfl) mmN)))))))))))))))))) il_L_law_48)) gw_X11_voyage
theorem gL_law_X11_voyage : GoodIn wsL_law (wsV RL 31 RX11 yX11_voyage wsX11_voyage) := goodIn_app (goodIn_sub (mmC (mmI il_L_law_11 16 rfl) (mmC (mmI il_L_law_11 17 rfl) (mmC (mmI il_L_law_11 18 rfl) (mmC (mmI il_L_law_1 5 rfl) mmN)))) (by decide +kernel)) ggL_law_X11_voyage
set_option maxRecDepth 100000 in
theorem ggL_law_X10_ended : GoodIn wsL_law wsX10_ended := goodIn_sub (mmC (mmI il_L_law_12 0 rfl) (mmA (mmA (mmA (mmA (mmC (mmI il_L_law_11 2 rfl) (mmC (mmI il_L_law_12 1 rfl) (mmC (mmI il_L_law_12 2 rfl) (mmC (mmI il_L_law_12 3 rfl) (mmC (mmI il_L_law_1 18 rfl) (mmC (mmI il_L_law_12 4 rfl) (mmC (mmI il_L_law_7 4 rfl) (mmC (mmI il_L_law_12 5 rfl) (mmC (mmI il_L_law_12 6 rfl) (mmC (mmI il_L_law_12 7 rfl) (mmC (mmI il_L_law_12 8 rfl) (mmC (mmI il_L_law_1 2 rfl) (mmC (mmI il_L_law_12 9 rfl) (mmC (mmI il_L_law_10 18 rfl) (mmC (mmI il_L_law_1 16 rfl) (mmC (mmI il_L_law_7 22 rfl) (mmC (mmI il_L_law_7 23 rfl) (mmC (mmI il_L_law_8 0 rfl) (mmC (mmI il_L_law_7 5 rfl) (mmC (mmI il_L_law_7 6 rfl) (mmC (mmI il_L_law_7 7 rfl) (mmC (mmI il_L_law_7 8 rfl) (mmC (mmI il_L_law_2 15 rfl) (mmC (mmI il_L_law_12 10 rfl) mmN)))))))))))))))))))))))) (mmC (mmI il_L_law_12 11 rfl) (mmC (mmI il_L_law_12 12 rfl) (mmC (mmI il_L_law_12 13 rfl) (mmC (mmI il_L_law_12 14 rfl) (mmC (mmI il_L_law_12 15 rfl) (mmC (mmI il_L_law_12 16 rfl) (mmC (mmI il_L_law_12 17 rfl) (mmC (mmI il_L_law_12 18 rfl) (mmC (mmI il_L_law_12 19 rfl) mmN)))))))))) il_L_law_55) il_L_law_47) il_L_law_56)) gw_X10_ended
theorem gL_law_X10_ended : GoodIn wsL_law (wsV RL 32 RX10 yX10_ended wsX10_ended) := goodIn_app (goodIn_sub (mmC (mmI il_L_law_11 21 rfl) (mmC (mmI il_L_law_11 22 rfl) (mmC (mmI il_L_law_11 23 rfl) (mmC (mmI il_L_law_1 2 rfl) mmN)))) (by decide +kernel)) ggL_law_X10_ended
set_option maxRecDepth 100000 in
theorem ggL_law_X11_ended : GoodIn wsL_law wsX11_ended := goodIn_sub (mmC (mmI il_L_law_12 23 rfl) (mmA (mmA (mmC (mmI il_L_law_5 9 rfl) (mmC (mmI il_L_law_13 0 rfl) (mmC (mmI il_L_law_5 21 rfl) (mmC (mmI il_L_law_6 2 rfl) (mmC (mmI il_L_law_7 13 rfl) (mmC (mmI il_L_law_13 1 rfl) (mmC (mmI il_L_law_13 2 rfl) (mmC (mmI il_L_law_13 3 rfl) (mmC (mmI il_L_law_1 5 rfl) (mmC (mmI il_L_law_13 4 rfl) (mmC (mmI il_L_law_11 20 rfl) (mmC (mmI il_L_law_8 12 rfl) (mmC (mmI il_L_law_8 13 rfl) (mmC (mmI il_L_law_8 14 rfl) (mmC (mmI il_L_law_8 9 rfl) (mmC (mmI il_L_law_8 10 rfl) (mmC (mmI il_L_law_8 11 rfl) (mmC (mmI il_L_law_7 14 rfl) (mmC (mmI il_L_law_7 15 rfl) (mmC (mmI il_L_law_7 16 rfl) (mmC (mmI il_L_law_7 17 rfl) (mmC (mmI il_L_law_5 0 rfl) (mmC (mmI il_L_law_13 5 rfl) (mmC (mmI il_L_law_13 6 rfl) mmN)))))))))))))))))))))))) (mmC (mmI il_L_law_13 7 rfl) (mmC (mmI il_L_law_13 8 rfl) (mmC (mmI il_L_law_13 9 rfl) (mmC (mmI il_L_law_5 10 rfl) (mmC (mmI il_L_law_5 11 rfl) (mmC (mmI il_L_law_13 10 rfl) (mmC (mmI il_L_law_13 11 rfl) (mmC (mmI il_L_law_13 12 rfl) (mmC (mmI il_L_law_13 13 rfl) mmN)))))))))) il_L_law_48)) gw_X11_ended
theorem gL_law_X11_ended : GoodIn wsL_law (wsV RL 35 RX11 yX11_ended wsX11_ended) := goodIn_app (goodIn_sub (mmC (mmI il_L_law_12 20 rfl) (mmC (mmI il_L_law_12 21 rfl) (mmC (mmI il_L_law_12 22 rfl) (mmC (mmI il_L_law_1 5 rfl) mmN)))) (by decide +kernel)) ggL_law_X11_ended
theorem dL_law_297 : decode cL_law 297 = .ok (.aload_n 1, 1) := by decide +kernel
theorem dL_law_298 : decode cL_law 298 = .ok (.aload_n 0, 1) := by decide +kernel
theorem dL_law_299 : decode cL_law 299 = .ok (.iload_n 3, 1) := by decide +kernel
theorem dL_law_300 : decode cL_law 300 = .ok (.iconst 1, 1) := by decide +kernel
theorem dL_law_301 : decode cL_law 301 = .ok (.iadd, 1) := by decide +kernel
theorem dL_law_302 : decode cL_law 302 = .ok (.iaload, 1) := by decide +kernel
theorem dL_law_303 : decode cL_law 303 = .ok (.aload_n 0, 1) := by decide +kernel
theorem dL_law_304 : decode cL_law 304 = .ok (.iload_n 3, 1) := by decide +kernel
theorem dL_law_305 : decode cL_law 305 = .ok (.iconst 2, 1) := by decide +kernel
theorem dL_law_306 : decode cL_law 306 = .ok (.iadd, 1) := by decide +kernel
theorem dL_law_307 : decode cL_law 307 = .ok (.iaload, 1) := by decide +kernel
theorem dL_law_308 : decode cL_law 308 = .ok (.invokevirtual 27, 3) := by decide +kernel
theorem dL_law_311 : decode cL_law 311 = .ok (.pop, 1) := by decide +kernel
theorem dL_law_312 : decode cL_law 312 = .ok (.aload_n 2, 1) := by decide +kernel
theorem dL_law_313 : decode cL_law 313 = .ok (.aload_n 0, 1) := by decide +kernel
theorem dL_law_314 : decode cL_law 314 = .ok (.iload_n 3, 1) := by decide +kernel
theorem dL_law_315 : decode cL_law 315 = .ok (.iconst 1, 1) := by decide +kernel
theorem dL_law_316 : decode cL_law 316 = .ok (.iadd, 1) := by decide +kernel
theorem dL_law_317 : decode cL_law 317 = .ok (.iaload, 1) := by decide +kernel
theorem dL_law_318 : decode cL_law 318 = .ok (.aload_n 0, 1) := by decide +kernel
theorem dL_law_319 : decode cL_law 319 = .ok (.iload_n 3, 1) := by decide +kernel
theorem dL_law_320 : decode cL_law 320 = .ok (.iconst 2, 1) := by decide +kernel
theorem dL_law_321 : decode cL_law 321 = .ok (.iadd, 1) := by decide +kernel
theorem dL_law_322 : decode cL_law 322 = .ok (.iaload, 1) := by decide +kernel
theorem dL_law_323 : decode cL_law 323 = .ok (.invokevirtual 31, 3) := by decide +kernel
theorem dL_law_326 : decode cL_law 326 = .ok (.pop, 1) := by decide +kernel
theorem dL_law_327 : decode cL_law 327 = .ok (.goto 1172, 3) := by decide +kernel
theorem dL_law_330 : decode cL_law 330 = .ok (.aload_n 1, 1) := by decide +kernel
theorem dL_law_331 : decode cL_law 331 = .ok (.aload_n 0, 1) := by decide +kernel
theorem dL_law_332 : decode cL_law 332 = .ok (.iload_n 3, 1) := by decide +kernel
theorem dL_law_333 : decode cL_law 333 = .ok (.iconst 1, 1) := by decide +kernel
theorem dL_law_334 : decode cL_law 334 = .ok (.iadd, 1) := by decide +kernel
theorem dL_law_335 : decode cL_law 335 = .ok (.iaload, 1) := by decide +kernel
theorem dL_law_336 : decode cL_law 336 = .ok (.aload_n 0, 1) := by decide +kernel
theorem dL_law_337 : decode cL_law 337 = .ok (.iload_n 3, 1) := by decide +kernel
theorem dL_law_338 : decode cL_law 338 = .ok (.iconst 2, 1) := by decide +kernel
theorem dL_law_339 : decode cL_law 339 = .ok (.iadd, 1) := by decide +kernel
theorem dL_law_340 : decode cL_law 340 = .ok (.iaload, 1) := by decide +kernel
theorem dL_law_341 : decode cL_law 341 = .ok (.invokevirtual 32, 3) := by decide +kernel
theorem dL_law_344 : decode cL_law 344 = .ok (.pop, 1) := by decide +kernel
theorem dL_law_345 : decode cL_law 345 = .ok (.aload_n 2, 1) := by decide +kernel
theorem dL_law_346 : decode cL_law 346 = .ok (.aload_n 0, 1) := by decide +kernel
theorem dL_law_347 : decode cL_law 347 = .ok (.iload_n 3, 1) := by decide +kernel
theorem dL_law_348 : decode cL_law 348 = .ok (.iconst 1, 1) := by decide +kernel
theorem dL_law_349 : decode cL_law 349 = .ok (.iadd, 1) := by decide +kernel
theorem dL_law_350 : decode cL_law 350 = .ok (.iaload, 1) := by decide +kernel
theorem dL_law_351 : decode cL_law 351 = .ok (.aload_n 0, 1) := by decide +kernel
theorem dL_law_352 : decode cL_law 352 = .ok (.iload_n 3, 1) := by decide +kernel
theorem dL_law_353 : decode cL_law 353 = .ok (.iconst 2, 1) := by decide +kernel
theorem dL_law_354 : decode cL_law 354 = .ok (.iadd, 1) := by decide +kernel
theorem dL_law_355 : decode cL_law 355 = .ok (.iaload, 1) := by decide +kernel
theorem dL_law_356 : decode cL_law 356 = .ok (.invokevirtual 35, 3) := by decide +kernel
theorem dL_law_359 : decode cL_law 359 = .ok (.pop, 1) := by decide +kernel
theorem dL_law_360 : decode cL_law 360 = .ok (.goto 1139, 3) := by decide +kernel


set_option maxHeartbeats 4000000 in
set_option maxRecDepth 100000 in
theorem lc_3 {p : Program} {l : Launch} {e : Env} {s : State} {m : MethodId} {below : List Frame} {meth : Method} {c : Code} {b L : Nat} {xs : Nat → Int32} {A : Nat → Prop} {dC : Nat → ClassId} {dI : Nat → Nat → Nat} {tL tS tG h0 g0 : Nat} {pq : Nat → Nat} {cq cp : Nat → ClassId} (C0 : lw_At p s m meth c b L xs) (hL : L ≤ 3072) (hA : ∀ q : Nat, s.heap.size ≤ q → A q) (hAq : ∀ q, A q → s.heap.size ≤ q) (hZ : stO A tL tS tG s s.heap) (hKo : va_K (dC, dI) vwCl (oT cq) s) (hKm : va_K (dC, dI) vwCl (mT cp) s) {S : oS} {v : Nat → Int32} {fa : Nat → Nat → Int32} {H : Heap} {locs : List Loc} {i cells slots : Nat} (hi : i + 6 ≤ L) (hcl : cells ≤ 500000) (hsl : slots ≤ 7000000) (hJ : lwI S h0 v fa) (hH : lwH (dC, dI) A cq cp g0 pq S v fa H) (hS : va_S A s.heap H locs) {ls : Array Slot} (hl : lv_has ls 4 [(3, .int (nI i)), (2, .ref g0), (1, .ref h0), (0, .ref b)]) (K : (∀ (S1 : oS) (v1 : Nat → Int32) (fa1 : Nat → Nat → Int32) (H1 : Heap) (locs1 : List Loc) (ls1 : Array Slot), lwI S1 h0 v1 fa1 → lwH (dC, dI) A cq cp g0 pq S1 v1 fa1 H1 → va_S A s.heap H1 locs1 → lv_has ls1 4 [(3, .int (nI i)), (2, .ref g0), (1, .ref h0), (0, .ref b)] → W p l e room_1 s m #[Value.ref b] below meth c H1 locs1 (cells + 4) (slots + 134) (lw_Z below #[Value.ref b] s) (F0 m 1499 ls1 []))) : W p l e room_1 s m #[Value.ref b] below meth c H locs cells slots (lw_Z below #[Value.ref b] s) (F0 m 297 ls []) := by
  obtain ⟨hx, hb, hr, hml, hown, hts, hX, hbl, hlocks, hgv⟩ := id C0
  have hts := fun w h => hts w (wsL_law_in w h)
  have hown : s.vm.findClass RL = some m.cls := hown
  have hbA : ¬ A b := fun h => Nat.not_le.mpr hbl (hAq b h)
  refine lv_aload_n hx hb dL_law_297 rfl (lv_at hl 2 rfl) ?_
  refine lv_aload_n hx hb dL_law_298 rfl (lv_at hl 3 rfl) ?_
  refine lv_iload_n hx hb dL_law_299 rfl (lv_at hl 0 rfl) ?_
  refine lv_iconst (v := 1) hx hb dL_law_300 (by decide +kernel) ?_
  refine lv_iadd hx hb dL_law_301 ?_
  refine lv_topi (fun y_1 ey_1 => ?_)
  have hy_1 : y_1.toInt = (i : Int) + 1 := by rw [ey_1]; exact ad_i (nI_toInt (by omega)) (by decide +kernel) (by omega) (by omega)
  have ny_1 : y_1.toNatClampNeg = i + 1 := (show y_1.toInt.toNat = _ by omega)
  clear ey_1
  refine va_sld hx hb hX hbl hbA hS (vp_in_iff.mpr (by omega)) dL_law_302 ?_
  refine lv_topi (fun z_2 ez_2 => ?_)
  obtain rfl : z_2 = xs (i + 1) := ez_2.trans (by rw [ny_1])
  clear ny_1 hy_1
  refine lv_aload_n hx hb dL_law_303 rfl (lv_at hl 3 rfl) ?_
  refine lv_iload_n hx hb dL_law_304 rfl (lv_at hl 0 rfl) ?_
  refine lv_iconst (v := 2) hx hb dL_law_305 (by decide +kernel) ?_
  refine lv_iadd hx hb dL_law_306 ?_
  refine lv_topi (fun y_3 ey_3 => ?_)
  have hy_3 : y_3.toInt = (i : Int) + 2 := by rw [ey_3]; exact ad_i (nI_toInt (by omega)) (by decide +kernel) (by omega) (by omega)
  have ny_3 : y_3.toNatClampNeg = i + 2 := (show y_3.toInt.toNat = _ by omega)
  clear ey_3
  refine va_sld hx hb hX hbl hbA hS (vp_in_iff.mpr (by omega)) dL_law_307 ?_
  refine lv_topi (fun z_4 ez_4 => ?_)
  obtain rfl : z_4 = xs (i + 2) := ez_4.trans (by rw [ny_3])
  clear ny_3 hy_3
  obtain ⟨hI_o, to, gV, gA, hlw⟩ := id hJ
  obtain ⟨hPo, hDo, hPm, hDm, hdis⟩ := id hH
  have hFc := o_free hDo hS hA
  obtain ⟨q0, hq0⟩ := og (cq := cq) to.1 (oE_10 to.2)
  refine va_calli (va_runV (As := [.int (xs (i + 1)), .int (xs (i + 2))]) (rest := []) ⟨hx, hb, hml, hown, hts⟩ (c_X10_voyage_c l dC dI H.size cq S hI_o h0 to (xs (i + 1)) (xs (i + 2)) v fa hlw) (cwV 2 hts gL_law_X10_voyage rfl rfl rfl (by decide +kernel) ⟨(Nat.le_of_ble_eq_true rfl), (Nat.le_of_ble_eq_true rfl)⟩) (pr_V (r := (RX10, TX10, 16)) hPo hKo hDo q0 10 rfl hq0) rfl rfl hl.1 rfl (lv_room (Nat.le_of_ble_eq_true rfl)) dL_law_308 ⟨(show cells + 1 ≤ 600000 by omega), (show slots + 10 ≤ 7302250 by omega)⟩) hS (fun q _ h => hFc q h) hFc (fun r_6 u t H locs ht hvm w_5 hB hz1 hk1 hS => ?_)
  refine W.widen (k := cells + 1) (n := slots + 10) (by omega) (by omega) ?_
  obtain ⟨S9, rfl⟩ : ∃ z, z = u := ⟨_, rfl⟩
  obtain ⟨hP1, hK1, hD1⟩ := hB
  rw [ht] at hP1
  have hH := lwH_o hH hFc hk1 hP1 hD1
  clear hP1 hK1 hD1
  obtain ⟨hI1, hX1, hp1⟩ := w_5
  clear hk1 hz1 hvm ht hFc
  refine lv_pop hx hb dL_law_311 rfl ?_
  refine lv_aload_n hx hb dL_law_312 rfl (lv_at hl 1 rfl) ?_
  refine lv_aload_n hx hb dL_law_313 rfl (lv_at hl 3 rfl) ?_
  refine lv_iload_n hx hb dL_law_314 rfl (lv_at hl 0 rfl) ?_
  refine lv_iconst (v := 1) hx hb dL_law_315 (by decide +kernel) ?_
  refine lv_iadd hx hb dL_law_316 ?_
  refine lv_topi (fun y_7 ey_7 => ?_)
  have hy_7 : y_7.toInt = (i : Int) + 1 := by rw [ey_7]; exact ad_i (nI_toInt (by omega)) (by decide +kernel) (by omega) (by omega)
  have ny_7 : y_7.toNatClampNeg = i + 1 := (show y_7.toInt.toNat = _ by omega)
  clear ey_7
  refine va_sld hx hb hX hbl hbA hS (vp_in_iff.mpr (by omega)) dL_law_317 ?_
  refine lv_topi (fun z_8 ez_8 => ?_)
  obtain rfl : z_8 = xs (i + 1) := ez_8.trans (by rw [ny_7])
  clear ny_7 hy_7
  refine lv_aload_n hx hb dL_law_318 rfl (lv_at hl 3 rfl) ?_
  refine lv_iload_n hx hb dL_law_319 rfl (lv_at hl 0 rfl) ?_
  refine lv_iconst (v := 2) hx hb dL_law_320 (by decide +kernel) ?_
  refine lv_iadd hx hb dL_law_321 ?_
  refine lv_topi (fun y_9 ey_9 => ?_)
  have hy_9 : y_9.toInt = (i : Int) + 2 := by rw [ey_9]; exact ad_i (nI_toInt (by omega)) (by decide +kernel) (by omega) (by omega)
  have ny_9 : y_9.toNatClampNeg = i + 2 := (show y_9.toInt.toNat = _ by omega)
  clear ey_9
  refine va_sld hx hb hX hbl hbA hS (vp_in_iff.mpr (by omega)) dL_law_322 ?_
  refine lv_topi (fun z_10 ez_10 => ?_)
  obtain rfl : z_10 = xs (i + 2) := ez_10.trans (by rw [ny_9])
  clear ny_9 hy_9
  obtain ⟨hI_o, to, gV, gA, hlw⟩ := id hJ
  obtain ⟨hPo, hDo, hPm, hDm, hdis⟩ := id hH
  have hFc := o_free hDm hS hA
  refine va_calli (va_runV (As := [.int (xs (i + 1)), .int (xs (i + 2))]) (rest := []) ⟨hx, hb, hml, hown, hts⟩ (c_X11_voyage_f l dC dI H.size g0 pq cp v fa gV gA (xs (i + 1)) (xs (i + 2))) (cwV 2 hts gL_law_X11_voyage rfl rfl rfl (by decide +kernel) ⟨(Nat.le_of_ble_eq_true rfl), (Nat.le_of_ble_eq_true rfl)⟩) (pr_V (r := (RX11, TX11, 63)) hPm hKm hDm 0 11 rfl rfl) rfl rfl hl.1 rfl (lv_room (Nat.le_of_ble_eq_true rfl)) dL_law_323 ⟨(show cells + 1 + 0 ≤ 600000 by omega), (show slots + 10 + 0 ≤ 7302250 by omega)⟩) hS (fun q _ h => hFc q h) hFc (fun r_12 u t H locs ht hvm w_11 hB hz1 hk1 hS => ?_)
  obtain ⟨v1, fa1⟩ := u
  obtain ⟨hP1, hK1, hD1⟩ := hB
  rw [ht] at hP1
  dsimp only at hP1 hD1
  have hH := lwH_m hH hFc hk1 hP1 hD1
  clear hP1 hK1 hD1
  obtain ⟨hV1, hA1, hm1, hq1⟩ := w_11
  dsimp only at hV1 hA1 hm1 hq1
  obtain ⟨er, hJ⟩ := lw_voyage hJ hI1 hX1 hp1 hV1 hA1 hm1 hq1 (by decide +kernel) (by decide +kernel)
  clear hk1 hz1 hvm ht hFc
  refine lv_pop hx hb dL_law_326 rfl ?_
  refine lv_goto (tgt := 1499) hx hb dL_law_327 (by decide +kernel) ?_
  refine W.widen (k := cells + 4) (n := slots + 134) (by omega) (by omega) ?_
  exact K _ _ _ _ _ _ hJ hH hS hl
set_option maxHeartbeats 4000000 in
set_option maxRecDepth 100000 in
theorem lc_4 {p : Program} {l : Launch} {e : Env} {s : State} {m : MethodId} {below : List Frame} {meth : Method} {c : Code} {b L : Nat} {xs : Nat → Int32} {A : Nat → Prop} {dC : Nat → ClassId} {dI : Nat → Nat → Nat} {tL tS tG h0 g0 : Nat} {pq : Nat → Nat} {cq cp : Nat → ClassId} (C0 : lw_At p s m meth c b L xs) (hL : L ≤ 3072) (hA : ∀ q : Nat, s.heap.size ≤ q → A q) (hAq : ∀ q, A q → s.heap.size ≤ q) (hZ : stO A tL tS tG s s.heap) (hKo : va_K (dC, dI) vwCl (oT cq) s) (hKm : va_K (dC, dI) vwCl (mT cp) s) {S : oS} {v : Nat → Int32} {fa : Nat → Nat → Int32} {H : Heap} {locs : List Loc} {i cells slots : Nat} (hi : i + 6 ≤ L) (hcl : cells ≤ 500000) (hsl : slots ≤ 7000000) (hJ : lwI S h0 v fa) (hH : lwH (dC, dI) A cq cp g0 pq S v fa H) (hS : va_S A s.heap H locs) {ls : Array Slot} (hl : lv_has ls 4 [(3, .int (nI i)), (2, .ref g0), (1, .ref h0), (0, .ref b)]) (K : (∀ (S1 : oS) (v1 : Nat → Int32) (fa1 : Nat → Nat → Int32) (H1 : Heap) (locs1 : List Loc) (ls1 : Array Slot), lwI S1 h0 v1 fa1 → lwH (dC, dI) A cq cp g0 pq S1 v1 fa1 H1 → va_S A s.heap H1 locs1 → lv_has ls1 4 [(3, .int (nI i)), (2, .ref g0), (1, .ref h0), (0, .ref b)] → W p l e room_1 s m #[Value.ref b] below meth c H1 locs1 (cells + 4) (slots + 134) (lw_Z below #[Value.ref b] s) (F0 m 1499 ls1 []))) : W p l e room_1 s m #[Value.ref b] below meth c H locs cells slots (lw_Z below #[Value.ref b] s) (F0 m 330 ls []) := by
  obtain ⟨hx, hb, hr, hml, hown, hts, hX, hbl, hlocks, hgv⟩ := id C0
  have hts := fun w h => hts w (wsL_law_in w h)
  have hown : s.vm.findClass RL = some m.cls := hown
  have hbA : ¬ A b := fun h => Nat.not_le.mpr hbl (hAq b h)
  refine lv_aload_n hx hb dL_law_330 rfl (lv_at hl 2 rfl) ?_
  refine lv_aload_n hx hb dL_law_331 rfl (lv_at hl 3 rfl) ?_
  refine lv_iload_n hx hb dL_law_332 rfl (lv_at hl 0 rfl) ?_
  refine lv_iconst (v := 1) hx hb dL_law_333 (by decide +kernel) ?_
  refine lv_iadd hx hb dL_law_334 ?_
  refine lv_topi (fun y_1 ey_1 => ?_)
  have hy_1 : y_1.toInt = (i : Int) + 1 := by rw [ey_1]; exact ad_i (nI_toInt (by omega)) (by decide +kernel) (by omega) (by omega)
  have ny_1 : y_1.toNatClampNeg = i + 1 := (show y_1.toInt.toNat = _ by omega)
  clear ey_1
  refine va_sld hx hb hX hbl hbA hS (vp_in_iff.mpr (by omega)) dL_law_335 ?_
  refine lv_topi (fun z_2 ez_2 => ?_)
  obtain rfl : z_2 = xs (i + 1) := ez_2.trans (by rw [ny_1])
  clear ny_1 hy_1
  refine lv_aload_n hx hb dL_law_336 rfl (lv_at hl 3 rfl) ?_
  refine lv_iload_n hx hb dL_law_337 rfl (lv_at hl 0 rfl) ?_
  refine lv_iconst (v := 2) hx hb dL_law_338 (by decide +kernel) ?_
  refine lv_iadd hx hb dL_law_339 ?_
  refine lv_topi (fun y_3 ey_3 => ?_)
  have hy_3 : y_3.toInt = (i : Int) + 2 := by rw [ey_3]; exact ad_i (nI_toInt (by omega)) (by decide +kernel) (by omega) (by omega)
  have ny_3 : y_3.toNatClampNeg = i + 2 := (show y_3.toInt.toNat = _ by omega)
  clear ey_3
  refine va_sld hx hb hX hbl hbA hS (vp_in_iff.mpr (by omega)) dL_law_340 ?_
  refine lv_topi (fun z_4 ez_4 => ?_)
  obtain rfl : z_4 = xs (i + 2) := ez_4.trans (by rw [ny_3])
  clear ny_3 hy_3
  obtain ⟨hI_o, to, gV, gA, hlw⟩ := id hJ
  obtain ⟨hPo, hDo, hPm, hDm, hdis⟩ := id hH
  have hFc := o_free hDo hS hA
  obtain ⟨q0, hq0⟩ := og (cq := cq) to.1 (oE_10 to.2)
  refine va_calli (va_runV (As := [.int (xs (i + 1)), .int (xs (i + 2))]) (rest := []) ⟨hx, hb, hml, hown, hts⟩ (c_X10_ended_c l dC dI H.size cq S hI_o h0 to (xs (i + 1)) (xs (i + 2)) v fa hlw) (cwV 2 hts gL_law_X10_ended rfl rfl rfl (by decide +kernel) ⟨(Nat.le_of_ble_eq_true rfl), (Nat.le_of_ble_eq_true rfl)⟩) (pr_V (r := (RX10, TX10, 16)) hPo hKo hDo q0 10 rfl hq0) rfl rfl hl.1 rfl (lv_room (Nat.le_of_ble_eq_true rfl)) dL_law_341 ⟨(show cells + 0 ≤ 600000 by omega), (show slots + 0 ≤ 7302250 by omega)⟩) hS (fun q _ h => hFc q h) hFc (fun r_6 u t H locs ht hvm w_5 hB hz1 hk1 hS => ?_)
  obtain ⟨S9, rfl⟩ : ∃ z, z = u := ⟨_, rfl⟩
  obtain ⟨hP1, hK1, hD1⟩ := hB
  rw [ht] at hP1
  have hH := lwH_o hH hFc hk1 hP1 hD1
  clear hP1 hK1 hD1
  obtain ⟨hI1, hX1, hp1⟩ := w_5
  clear hk1 hz1 hvm ht hFc
  refine lv_pop hx hb dL_law_344 rfl ?_
  refine lv_aload_n hx hb dL_law_345 rfl (lv_at hl 1 rfl) ?_
  refine lv_aload_n hx hb dL_law_346 rfl (lv_at hl 3 rfl) ?_
  refine lv_iload_n hx hb dL_law_347 rfl (lv_at hl 0 rfl) ?_
  refine lv_iconst (v := 1) hx hb dL_law_348 (by decide +kernel) ?_
  refine lv_iadd hx hb dL_law_349 ?_
  refine lv_topi (fun y_7 ey_7 => ?_)
  have hy_7 : y_7.toInt = (i : Int) + 1 := by rw [ey_7]; exact ad_i (nI_toInt (by omega)) (by decide +kernel) (by omega) (by omega)
  have ny_7 : y_7.toNatClampNeg = i + 1 := (show y_7.toInt.toNat = _ by omega)
  clear ey_7
  refine va_sld hx hb hX hbl hbA hS (vp_in_iff.mpr (by omega)) dL_law_350 ?_
  refine lv_topi (fun z_8 ez_8 => ?_)
  obtain rfl : z_8 = xs (i + 1) := ez_8.trans (by rw [ny_7])
  clear ny_7 hy_7
  refine lv_aload_n hx hb dL_law_351 rfl (lv_at hl 3 rfl) ?_
  refine lv_iload_n hx hb dL_law_352 rfl (lv_at hl 0 rfl) ?_
  refine lv_iconst (v := 2) hx hb dL_law_353 (by decide +kernel) ?_
  refine lv_iadd hx hb dL_law_354 ?_
  refine lv_topi (fun y_9 ey_9 => ?_)
  have hy_9 : y_9.toInt = (i : Int) + 2 := by rw [ey_9]; exact ad_i (nI_toInt (by omega)) (by decide +kernel) (by omega) (by omega)
  have ny_9 : y_9.toNatClampNeg = i + 2 := (show y_9.toInt.toNat = _ by omega)
  clear ey_9
  refine va_sld hx hb hX hbl hbA hS (vp_in_iff.mpr (by omega)) dL_law_355 ?_
  refine lv_topi (fun z_10 ez_10 => ?_)
  obtain rfl : z_10 = xs (i + 2) := ez_10.trans (by rw [ny_9])
  clear ny_9 hy_9
  obtain ⟨hI_o, to, gV, gA, hlw⟩ := id hJ
  obtain ⟨hPo, hDo, hPm, hDm, hdis⟩ := id hH
  have hFc := o_free hDm hS hA
  refine va_calli (va_runV (As := [.int (xs (i + 1)), .int (xs (i + 2))]) (rest := []) ⟨hx, hb, hml, hown, hts⟩ (c_X11_ended_f l dC dI H.size g0 pq cp v fa gV gA (xs (i + 1)) (xs (i + 2))) (cwV 2 hts gL_law_X11_ended rfl rfl rfl (by decide +kernel) ⟨(Nat.le_of_ble_eq_true rfl), (Nat.le_of_ble_eq_true rfl)⟩) (pr_V (r := (RX11, TX11, 63)) hPm hKm hDm 0 11 rfl rfl) rfl rfl hl.1 rfl (lv_room (Nat.le_of_ble_eq_true rfl)) dL_law_356 ⟨(show cells + 0 ≤ 600000 by omega), (show slots + 0 ≤ 7302250 by omega)⟩) hS (fun q _ h => hFc q h) hFc (fun r_12 u t H locs ht hvm w_11 hB hz1 hk1 hS => ?_)
  obtain ⟨v1, fa1⟩ := u
  obtain ⟨hP1, hK1, hD1⟩ := hB
  rw [ht] at hP1
  dsimp only at hP1 hD1
  have hH := lwH_m hH hFc hk1 hP1 hD1
  clear hP1 hK1 hD1
  obtain ⟨hV1, hA1, hm1, hq1⟩ := w_11
  dsimp only at hV1 hA1 hm1 hq1
  obtain ⟨er, hJ⟩ := lw_ended hJ hI1 hX1 hp1 hV1 hA1 hm1 hq1 (by decide +kernel) (by decide +kernel)
  clear hk1 hz1 hvm ht hFc
  refine lv_pop hx hb dL_law_359 rfl ?_
  refine lv_goto (tgt := 1499) hx hb dL_law_360 (by decide +kernel) ?_
  refine W.widen (k := cells + 4) (n := slots + 134) (by omega) (by omega) ?_
  exact K _ _ _ _ _ _ hJ hH hS hl
