theorem gw_X10_miles : wsX10_miles.all goodWord = true := by decide +kernel
theorem gw_X10_man : wsX10_man.all goodWord = true := by decide +kernel
theorem gw_X11_miles : wsX11_miles.all goodWord = true := by decide +kernel
theorem gw_X11_man : wsX11_man.all goodWord = true := by decide +kernel
theorem il_L_law_4 : ∀ w ∈ wsL_law_r4, w ∈ wsL_law := fun w h => (List.mem_append_left _ (List.mem_append_left _ (List.mem_append_left _ (List.mem_append_left _ (List.mem_append_left _ (List.mem_append_left _ (List.mem_append_left _ (List.mem_append_left _ (List.mem_append_left _ (List.mem_append_left _ (List.mem_append_left _ (List.mem_append_left _ (List.mem_append_left _ (List.mem_append_right _ (List.mem_append_right _ (List.mem_append_right _ (List.mem_append_left _ h)))))))))))))))))
theorem il_L_law_8 : ∀ w ∈ wsL_law_r8, w ∈ wsL_law := fun w h => (List.mem_append_left _ (List.mem_append_left _ (List.mem_append_left _ (List.mem_append_left _ (List.mem_append_left _ (List.mem_append_left _ (List.mem_append_left _ (List.mem_append_left _ (List.mem_append_left _ (List.mem_append_left _ (List.mem_append_left _ (List.mem_append_left _ (List.mem_append_left _ (List.mem_append_right _ (List.mem_append_right _ (List.mem_append_right _ (List.mem_append_right _ (List.mem_append_right _ (List.mem_append_right _ (List.mem_append_right _ (List.mem_append_left _ h)))))))))))))))))))))
theorem il_L_law_9 : ∀ w ∈ wsL_law_r9, w ∈ wsL_law := fun w h => (List.mem_append_left _ (List.mem_append_left _ (List.mem_append_left _ (List.mem_append_left _ (List.mem_append_left _ (List.mem_append_left _ (List.mem_append_left _ (List.mem_append_left _ (List.mem_append_left _ (List.mem_append_left _ (List.mem_append_left _ (List.mem_append_left _ (List.mem_append_left _ (List.mem_append_right _ (List.mem_append_right _ (List.mem_append_right _ (List.mem_append_right _ (List.mem_append_right _ (List.mem_append_right _ (List.mem_append_right _ (List.mem_append_right _ (List.mem_append_left _ h))))))))))))))))))))))
theorem il_L_law_10 : ∀ w ∈ wsL_law_r10, w ∈ wsL_law := fun w h => (List.mem_append_left _ (List.mem_append_left _ (List.mem_append_left _ (List.mem_append_left _ (List.mem_append_left _ (List.mem_append_left _ (List.mem_append_left _ (List.mem_append_left _ (List.mem_append_left _ (List.mem_append_left _ (List.mem_append_left _ (List.mem_append_left _ (List.mem_append_left _ (List.mem_append_right _ (List.mem_append_right _ (List.mem_append_right _ (List.mem_append_right _ (List.mem_append_right _ (List.mem_append_right _ (List.mem_append_right _ (List.mem_append_right _ (List.mem_append_right _ (List.mem_append_left _ h)))))))))))))))))))))))
theorem il_L_law_51 : ∀ w ∈ wsX70, w ∈ wsL_law := fun w h => (List.mem_append_left _ (List.mem_append_left _ (List.mem_append_left _ (List.mem_append_left _ (List.mem_append_left _ (List.mem_append_left _ (List.mem_append_left _ (List.mem_append_left _ (List.mem_append_right _ h)))))))))
theorem il_L_law_54 : ∀ w ∈ wsX60, w ∈ wsL_law := fun w h => (List.mem_append_left _ (List.mem_append_left _ (List.mem_append_left _ (List.mem_append_left _ (List.mem_append_left _ (List.mem_append_right _ h))))))
set_option maxRecDepth 100000 in
theorem ggL_law_X10_miles : GoodIn wsL_law wsX10_miles := goodIn_sub (mmC (mmI il_L_law_7 21 rfl) (mmA (mmA (mmC (mmI il_L_law_2 6 rfl) (mmC (mmI il_L_law_7 22 rfl) (mmC (mmI il_L_law_7 23 rfl) (mmC (mmI il_L_law_1 2 rfl) (mmC (mmI il_L_law_8 0 rfl) (mmC (mmI il_L_law_7 5 rfl) (mmC (mmI il_L_law_7 6 rfl) (mmC (mmI il_L_law_7 7 rfl) (mmC (mmI il_L_law_7 8 rfl) (mmC (mmI il_L_law_2 15 rfl) (mmC (mmI il_L_law_8 1 rfl) (mmC (mmI il_L_law_8 2 rfl) (mmC (mmI il_L_law_8 3 rfl) (mmC (mmI il_L_law_2 5 rfl) (mmC (mmI il_L_law_8 4 rfl) (mmC (mmI il_L_law_4 10 rfl) mmN)))))))))))))))) il_L_law_47) il_L_law_51)) gw_X10_miles
theorem gL_law_X10_miles : GoodIn wsL_law (wsV RL 18 RX10 yX10_miles wsX10_miles) := goodIn_app (goodIn_sub (mmC (mmI il_L_law_7 18 rfl) (mmC (mmI il_L_law_7 19 rfl) (mmC (mmI il_L_law_7 20 rfl) (mmC (mmI il_L_law_1 2 rfl) mmN)))) (by decide +kernel)) ggL_law_X10_miles
set_option maxRecDepth 100000 in
theorem ggL_law_X11_miles : GoodIn wsL_law wsX11_miles := goodIn_sub (mmC (mmI il_L_law_8 8 rfl) (mmA (mmC (mmI il_L_law_5 1 rfl) (mmC (mmI il_L_law_8 9 rfl) (mmC (mmI il_L_law_8 10 rfl) (mmC (mmI il_L_law_1 5 rfl) (mmC (mmI il_L_law_8 11 rfl) (mmC (mmI il_L_law_8 12 rfl) (mmC (mmI il_L_law_8 13 rfl) (mmC (mmI il_L_law_8 14 rfl) (mmC (mmI il_L_law_7 14 rfl) (mmC (mmI il_L_law_7 15 rfl) (mmC (mmI il_L_law_7 16 rfl) (mmC (mmI il_L_law_7 17 rfl) (mmC (mmI il_L_law_5 0 rfl) mmN))))))))))))) il_L_law_48)) gw_X11_miles
theorem gL_law_X11_miles : GoodIn wsL_law (wsV RL 22 RX11 yX11_miles wsX11_miles) := goodIn_app (goodIn_sub (mmC (mmI il_L_law_8 5 rfl) (mmC (mmI il_L_law_8 6 rfl) (mmC (mmI il_L_law_8 7 rfl) (mmC (mmI il_L_law_1 5 rfl) mmN)))) (by decide +kernel)) ggL_law_X11_miles
set_option maxRecDepth 100000 in
theorem ggL_law_X10_man : GoodIn wsL_law wsX10_man := goodIn_sub (mmC (mmI il_L_law_8 18 rfl) (mmA (mmA (mmA (mmC (mmI il_L_law_8 19 rfl) (mmC (mmI il_L_law_7 4 rfl) (mmC (mmI il_L_law_8 20 rfl) (mmC (mmI il_L_law_1 14 rfl) (mmC (mmI il_L_law_1 13 rfl) (mmC (mmI il_L_law_8 21 rfl) (mmC (mmI il_L_law_8 22 rfl) (mmC (mmI il_L_law_7 5 rfl) (mmC (mmI il_L_law_7 6 rfl) (mmC (mmI il_L_law_7 7 rfl) (mmC (mmI il_L_law_1 2 rfl) (mmC (mmI il_L_law_7 8 rfl) (mmC (mmI il_L_law_2 15 rfl) (mmC (mmI il_L_law_8 23 rfl) (mmC (mmI il_L_law_9 0 rfl) (mmC (mmI il_L_law_9 1 rfl) (mmC (mmI il_L_law_9 2 rfl) (mmC (mmI il_L_law_1 11 rfl) (mmC (mmI il_L_law_1 12 rfl) (mmC (mmI il_L_law_2 12 rfl) (mmC (mmI il_L_law_9 3 rfl) (mmC (mmI il_L_law_9 4 rfl) (mmC (mmI il_L_law_9 5 rfl) (mmC (mmI il_L_law_9 6 rfl) mmN)))))))))))))))))))))))) (mmA (mmC (mmI il_L_law_9 7 rfl) (mmC (mmI il_L_law_9 8 rfl) (mmC (mmI il_L_law_9 9 rfl) (mmC (mmI il_L_law_9 10 rfl) (mmC (mmI il_L_law_9 11 rfl) (mmC (mmI il_L_law_9 12 rfl) (mmC (mmI il_L_law_9 13 rfl) (mmC (mmI il_L_law_9 14 rfl) (mmC (mmI il_L_law_9 15 rfl) (mmC (mmI il_L_law_9 16 rfl) (mmC (mmI il_L_law_9 17 rfl) (mmC (mmI il_L_law_9 18 rfl) (mmC (mmI il_L_law_9 19 rfl) (mmC (mmI il_L_law_9 20 rfl) (mmC (mmI il_L_law_9 21 rfl) (mmC (mmI il_L_law_9 22 rfl) (mmC (mmI il_L_law_9 23 rfl) (mmC (mmI il_L_law_10 0 rfl) (mmC (mmI il_L_law_10 1 rfl) (mmC (mmI il_L_law_10 2 rfl) (mmC (mmI il_L_law_10 3 rfl) (mmC (mmI il_L_law_10 4 rfl) (mmC (mmI il_L_law_10 5 rfl) (mmC (mmI il_L_law_10 6 rfl) mmN)))))))))))))))))))))))) (mmC (mmI il_L_law_10 7 rfl) mmN))) il_L_law_47) il_L_law_54)) gw_X10_man
theorem gL_law_X10_man : GoodIn wsL_law (wsV RL 23 RX10 yX10_man wsX10_man) := goodIn_app (goodIn_sub (mmC (mmI il_L_law_8 15 rfl) (mmC (mmI il_L_law_8 16 rfl) (mmC (mmI il_L_law_8 17 rfl) (mmC (mmI il_L_law_1 2 rfl) mmN)))) (by decide +kernel)) ggL_law_X10_man
set_option maxRecDepth 100000 in
theorem ggL_law_X11_man : GoodIn wsL_law wsX11_man := goodIn_sub (mmC (mmI il_L_law_10 11 rfl) (mmA (mmC (mmI il_L_law_10 12 rfl) (mmC (mmI il_L_law_7 13 rfl) (mmC (mmI il_L_law_10 13 rfl) (mmC (mmI il_L_law_5 2 rfl) (mmC (mmI il_L_law_5 3 rfl) (mmC (mmI il_L_law_5 4 rfl) (mmC (mmI il_L_law_7 14 rfl) (mmC (mmI il_L_law_7 15 rfl) (mmC (mmI il_L_law_7 16 rfl) (mmC (mmI il_L_law_1 5 rfl) (mmC (mmI il_L_law_7 17 rfl) (mmC (mmI il_L_law_5 0 rfl) mmN)))))))))))) il_L_law_48)) gw_X11_man
theorem gL_law_X11_man : GoodIn wsL_law (wsV RL 26 RX11 yX11_man wsX11_man) := goodIn_app (goodIn_sub (mmC (mmI il_L_law_10 8 rfl) (mmC (mmI il_L_law_10 9 rfl) (mmC (mmI il_L_law_10 10 rfl) (mmC (mmI il_L_law_1 5 rfl) mmN)))) (by decide +kernel)) ggL_law_X11_man
theorem dL_law_211 : decode cL_law 211 = .ok (.aload_n 1, 1) := by decide +kernel
theorem dL_law_212 : decode cL_law 212 = .ok (.aload_n 0, 1) := by decide +kernel
theorem dL_law_213 : decode cL_law 213 = .ok (.iload_n 3, 1) := by decide +kernel
theorem dL_law_214 : decode cL_law 214 = .ok (.iconst 1, 1) := by decide +kernel
theorem dL_law_215 : decode cL_law 215 = .ok (.iadd, 1) := by decide +kernel
theorem dL_law_216 : decode cL_law 216 = .ok (.iaload, 1) := by decide +kernel
theorem dL_law_217 : decode cL_law 217 = .ok (.aload_n 0, 1) := by decide +kernel
theorem dL_law_218 : decode cL_law 218 = .ok (.iload_n 3, 1) := by decide +kernel
theorem dL_law_219 : decode cL_law 219 = .ok (.iconst 2, 1) := by decide +kernel
theorem dL_law_220 : decode cL_law 220 = .ok (.iadd, 1) := by decide +kernel
theorem dL_law_221 : decode cL_law 221 = .ok (.iaload, 1) := by decide +kernel
theorem dL_law_222 : decode cL_law 222 = .ok (.aload_n 0, 1) := by decide +kernel
theorem dL_law_223 : decode cL_law 223 = .ok (.iload_n 3, 1) := by decide +kernel
theorem dL_law_224 : decode cL_law 224 = .ok (.iconst 3, 1) := by decide +kernel
theorem dL_law_225 : decode cL_law 225 = .ok (.iadd, 1) := by decide +kernel
theorem dL_law_226 : decode cL_law 226 = .ok (.iaload, 1) := by decide +kernel
theorem dL_law_227 : decode cL_law 227 = .ok (.invokevirtual 18, 3) := by decide +kernel
theorem dL_law_230 : decode cL_law 230 = .ok (.pop, 1) := by decide +kernel
theorem dL_law_231 : decode cL_law 231 = .ok (.aload_n 2, 1) := by decide +kernel
theorem dL_law_232 : decode cL_law 232 = .ok (.aload_n 0, 1) := by decide +kernel
theorem dL_law_233 : decode cL_law 233 = .ok (.iload_n 3, 1) := by decide +kernel
theorem dL_law_234 : decode cL_law 234 = .ok (.iconst 1, 1) := by decide +kernel
theorem dL_law_235 : decode cL_law 235 = .ok (.iadd, 1) := by decide +kernel
theorem dL_law_236 : decode cL_law 236 = .ok (.iaload, 1) := by decide +kernel
theorem dL_law_237 : decode cL_law 237 = .ok (.aload_n 0, 1) := by decide +kernel
theorem dL_law_238 : decode cL_law 238 = .ok (.iload_n 3, 1) := by decide +kernel
theorem dL_law_239 : decode cL_law 239 = .ok (.iconst 2, 1) := by decide +kernel
theorem dL_law_240 : decode cL_law 240 = .ok (.iadd, 1) := by decide +kernel
theorem dL_law_241 : decode cL_law 241 = .ok (.iaload, 1) := by decide +kernel
theorem dL_law_242 : decode cL_law 242 = .ok (.aload_n 0, 1) := by decide +kernel
theorem dL_law_243 : decode cL_law 243 = .ok (.iload_n 3, 1) := by decide +kernel
theorem dL_law_244 : decode cL_law 244 = .ok (.iconst 3, 1) := by decide +kernel
theorem dL_law_245 : decode cL_law 245 = .ok (.iadd, 1) := by decide +kernel
theorem dL_law_246 : decode cL_law 246 = .ok (.iaload, 1) := by decide +kernel
theorem dL_law_247 : decode cL_law 247 = .ok (.invokevirtual 22, 3) := by decide +kernel
theorem dL_law_250 : decode cL_law 250 = .ok (.pop, 1) := by decide +kernel
theorem dL_law_251 : decode cL_law 251 = .ok (.goto 1248, 3) := by decide +kernel
theorem dL_law_254 : decode cL_law 254 = .ok (.aload_n 1, 1) := by decide +kernel
theorem dL_law_255 : decode cL_law 255 = .ok (.aload_n 0, 1) := by decide +kernel
theorem dL_law_256 : decode cL_law 256 = .ok (.iload_n 3, 1) := by decide +kernel
theorem dL_law_257 : decode cL_law 257 = .ok (.iconst 1, 1) := by decide +kernel
theorem dL_law_258 : decode cL_law 258 = .ok (.iadd, 1) := by decide +kernel
theorem dL_law_259 : decode cL_law 259 = .ok (.iaload, 1) := by decide +kernel
theorem dL_law_260 : decode cL_law 260 = .ok (.aload_n 0, 1) := by decide +kernel
theorem dL_law_261 : decode cL_law 261 = .ok (.iload_n 3, 1) := by decide +kernel
theorem dL_law_262 : decode cL_law 262 = .ok (.iconst 2, 1) := by decide +kernel
theorem dL_law_263 : decode cL_law 263 = .ok (.iadd, 1) := by decide +kernel
theorem dL_law_264 : decode cL_law 264 = .ok (.iaload, 1) := by decide +kernel
theorem dL_law_265 : decode cL_law 265 = .ok (.aload_n 0, 1) := by decide +kernel
theorem dL_law_266 : decode cL_law 266 = .ok (.iload_n 3, 1) := by decide +kernel
theorem dL_law_267 : decode cL_law 267 = .ok (.iconst 3, 1) := by decide +kernel
theorem dL_law_268 : decode cL_law 268 = .ok (.iadd, 1) := by decide +kernel
theorem dL_law_269 : decode cL_law 269 = .ok (.iaload, 1) := by decide +kernel
theorem dL_law_270 : decode cL_law 270 = .ok (.invokevirtual 23, 3) := by decide +kernel
theorem dL_law_273 : decode cL_law 273 = .ok (.pop, 1) := by decide +kernel
theorem dL_law_274 : decode cL_law 274 = .ok (.aload_n 2, 1) := by decide +kernel
theorem dL_law_275 : decode cL_law 275 = .ok (.aload_n 0, 1) := by decide +kernel
theorem dL_law_276 : decode cL_law 276 = .ok (.iload_n 3, 1) := by decide +kernel
theorem dL_law_277 : decode cL_law 277 = .ok (.iconst 1, 1) := by decide +kernel
theorem dL_law_278 : decode cL_law 278 = .ok (.iadd, 1) := by decide +kernel
theorem dL_law_279 : decode cL_law 279 = .ok (.iaload, 1) := by decide +kernel
theorem dL_law_280 : decode cL_law 280 = .ok (.aload_n 0, 1) := by decide +kernel
theorem dL_law_281 : decode cL_law 281 = .ok (.iload_n 3, 1) := by decide +kernel
theorem dL_law_282 : decode cL_law 282 = .ok (.iconst 2, 1) := by decide +kernel
theorem dL_law_283 : decode cL_law 283 = .ok (.iadd, 1) := by decide +kernel
theorem dL_law_284 : decode cL_law 284 = .ok (.iaload, 1) := by decide +kernel
theorem dL_law_285 : decode cL_law 285 = .ok (.aload_n 0, 1) := by decide +kernel
theorem dL_law_286 : decode cL_law 286 = .ok (.iload_n 3, 1) := by decide +kernel
theorem dL_law_287 : decode cL_law 287 = .ok (.iconst 3, 1) := by decide +kernel
theorem dL_law_288 : decode cL_law 288 = .ok (.iadd, 1) := by decide +kernel
theorem dL_law_289 : decode cL_law 289 = .ok (.iaload, 1) := by decide +kernel
theorem dL_law_290 : decode cL_law 290 = .ok (.invokevirtual 26, 3) := by decide +kernel
theorem dL_law_293 : decode cL_law 293 = .ok (.pop, 1) := by decide +kernel
theorem dL_law_294 : decode cL_law 294 = .ok (.goto 1205, 3) := by decide +kernel


set_option maxHeartbeats 4000000 in
set_option maxRecDepth 100000 in
theorem lc_1 {p : Program} {l : Launch} {e : Env} {s : State} {m : MethodId} {below : List Frame} {meth : Method} {c : Code} {b L : Nat} {xs : Nat → Int32} {A : Nat → Prop} {dC : Nat → ClassId} {dI : Nat → Nat → Nat} {tL tS tG h0 g0 : Nat} {pq : Nat → Nat} {cq cp : Nat → ClassId} (C0 : lw_At p s m meth c b L xs) (hL : L ≤ 3072) (hA : ∀ q : Nat, s.heap.size ≤ q → A q) (hAq : ∀ q, A q → s.heap.size ≤ q) (hZ : stO A tL tS tG s s.heap) (hKo : va_K (dC, dI) vwCl (oT cq) s) (hKm : va_K (dC, dI) vwCl (mT cp) s) {S : oS} {v : Nat → Int32} {fa : Nat → Nat → Int32} {H : Heap} {locs : List Loc} {i cells slots : Nat} (hi : i + 6 ≤ L) (hcl : cells ≤ 500000) (hsl : slots ≤ 7000000) (hJ : lwI S h0 v fa) (hH : lwH (dC, dI) A cq cp g0 pq S v fa H) (hS : va_S A s.heap H locs) {ls : Array Slot} (hl : lv_has ls 4 [(3, .int (nI i)), (2, .ref g0), (1, .ref h0), (0, .ref b)]) (K : (∀ (S1 : oS) (v1 : Nat → Int32) (fa1 : Nat → Nat → Int32) (H1 : Heap) (locs1 : List Loc) (ls1 : Array Slot), lwI S1 h0 v1 fa1 → lwH (dC, dI) A cq cp g0 pq S1 v1 fa1 H1 → va_S A s.heap H1 locs1 → lv_has ls1 4 [(3, .int (nI i)), (2, .ref g0), (1, .ref h0), (0, .ref b)] → W p l e room_1 s m #[Value.ref b] below meth c H1 locs1 (cells + 4) (slots + 134) (lw_Z below #[Value.ref b] s) (F0 m 1499 ls1 []))) : W p l e room_1 s m #[Value.ref b] below meth c H locs cells slots (lw_Z below #[Value.ref b] s) (F0 m 211 ls []) := by
  obtain ⟨hx, hb, hr, hml, hown, hts, hX, hbl, hlocks, hgv⟩ := id C0
  have hts := fun w h => hts w (wsL_law_in w h)
  have hown : s.vm.findClass RL = some m.cls := hown
  have hbA : ¬ A b := fun h => Nat.not_le.mpr hbl (hAq b h)
  refine lv_aload_n hx hb dL_law_211 rfl (lv_at hl 2 rfl) ?_
  refine lv_aload_n hx hb dL_law_212 rfl (lv_at hl 3 rfl) ?_
  refine lv_iload_n hx hb dL_law_213 rfl (lv_at hl 0 rfl) ?_
  refine lv_iconst (v := 1) hx hb dL_law_214 (by decide +kernel) ?_
  refine lv_iadd hx hb dL_law_215 ?_
  refine lv_topi (fun y_1 ey_1 => ?_)
  have hy_1 : y_1.toInt = (i : Int) + 1 := by rw [ey_1]; exact ad_i (nI_toInt (by omega)) (by decide +kernel) (by omega) (by omega)
  have ny_1 : y_1.toNatClampNeg = i + 1 := (show y_1.toInt.toNat = _ by omega)
  clear ey_1
  refine va_sld hx hb hX hbl hbA hS (vp_in_iff.mpr (by omega)) dL_law_216 ?_
  refine lv_topi (fun z_2 ez_2 => ?_)
  obtain rfl : z_2 = xs (i + 1) := ez_2.trans (by rw [ny_1])
  clear ny_1 hy_1
  refine lv_aload_n hx hb dL_law_217 rfl (lv_at hl 3 rfl) ?_
  refine lv_iload_n hx hb dL_law_218 rfl (lv_at hl 0 rfl) ?_
  refine lv_iconst (v := 2) hx hb dL_law_219 (by decide +kernel) ?_
  refine lv_iadd hx hb dL_law_220 ?_
  refine lv_topi (fun y_3 ey_3 => ?_)
  have hy_3 : y_3.toInt = (i : Int) + 2 := by rw [ey_3]; exact ad_i (nI_toInt (by omega)) (by decide +kernel) (by omega) (by omega)
  have ny_3 : y_3.toNatClampNeg = i + 2 := (show y_3.toInt.toNat = _ by omega)
  clear ey_3
  refine va_sld hx hb hX hbl hbA hS (vp_in_iff.mpr (by omega)) dL_law_221 ?_
  refine lv_topi (fun z_4 ez_4 => ?_)
  obtain rfl : z_4 = xs (i + 2) := ez_4.trans (by rw [ny_3])
  clear ny_3 hy_3
  refine lv_aload_n hx hb dL_law_222 rfl (lv_at hl 3 rfl) ?_
  refine lv_iload_n hx hb dL_law_223 rfl (lv_at hl 0 rfl) ?_
  refine lv_iconst (v := 3) hx hb dL_law_224 (by decide +kernel) ?_
  refine lv_iadd hx hb dL_law_225 ?_
  refine lv_topi (fun y_5 ey_5 => ?_)
  have hy_5 : y_5.toInt = (i : Int) + 3 := by rw [ey_5]; exact ad_i (nI_toInt (by omega)) (by decide +kernel) (by omega) (by omega)
  have ny_5 : y_5.toNatClampNeg = i + 3 := (show y_5.toInt.toNat = _ by omega)
  clear ey_5
  refine va_sld hx hb hX hbl hbA hS (vp_in_iff.mpr (by omega)) dL_law_226 ?_
  refine lv_topi (fun z_6 ez_6 => ?_)
  obtain rfl : z_6 = xs (i + 3) := ez_6.trans (by rw [ny_5])
  clear ny_5 hy_5
  obtain ⟨hI_o, to, gV, gA, hlw⟩ := id hJ
  obtain ⟨hPo, hDo, hPm, hDm, hdis⟩ := id hH
  have hFc := o_free hDo hS hA
  obtain ⟨q0, hq0⟩ := og (cq := cq) to.1 (oE_10 to.2)
  refine va_calli (va_runV (As := [.int (xs (i + 1)), .int (xs (i + 2)), .int (xs (i + 3))]) (rest := []) ⟨hx, hb, hml, hown, hts⟩ (c_X10_miles_f l dC dI H.size cq S hI_o h0 to (xs (i + 1)) (xs (i + 2)) (xs (i + 3))) (cwV 3 hts gL_law_X10_miles rfl rfl rfl (by decide +kernel) ⟨(Nat.le_of_ble_eq_true rfl), (Nat.le_of_ble_eq_true rfl)⟩) (pr_V (r := (RX10, TX10, 16)) hPo hKo hDo q0 10 rfl hq0) rfl rfl hl.1 rfl (lv_room (Nat.le_of_ble_eq_true rfl)) dL_law_227 ⟨(show cells + 0 ≤ 600000 by omega), (show slots + 0 ≤ 7302250 by omega)⟩) hS (fun q _ h => hFc q h) hFc (fun r_8 u t H locs ht hvm w_7 hB hz1 hk1 hS => ?_)
  obtain ⟨S9, rfl⟩ : ∃ z, z = u := ⟨_, rfl⟩
  obtain ⟨hP1, hK1, hD1⟩ := hB
  rw [ht] at hP1
  have hH := lwH_o hH hFc hk1 hP1 hD1
  clear hP1 hK1 hD1
  have hJ := lwI_o hJ w_7.1 w_7.2.1 (by decide +kernel)
  clear hk1 hz1 hvm ht hFc
  refine lv_pop hx hb dL_law_230 rfl ?_
  refine lv_aload_n hx hb dL_law_231 rfl (lv_at hl 1 rfl) ?_
  refine lv_aload_n hx hb dL_law_232 rfl (lv_at hl 3 rfl) ?_
  refine lv_iload_n hx hb dL_law_233 rfl (lv_at hl 0 rfl) ?_
  refine lv_iconst (v := 1) hx hb dL_law_234 (by decide +kernel) ?_
  refine lv_iadd hx hb dL_law_235 ?_
  refine lv_topi (fun y_9 ey_9 => ?_)
  have hy_9 : y_9.toInt = (i : Int) + 1 := by rw [ey_9]; exact ad_i (nI_toInt (by omega)) (by decide +kernel) (by omega) (by omega)
  have ny_9 : y_9.toNatClampNeg = i + 1 := (show y_9.toInt.toNat = _ by omega)
  clear ey_9
  refine va_sld hx hb hX hbl hbA hS (vp_in_iff.mpr (by omega)) dL_law_236 ?_
  refine lv_topi (fun z_10 ez_10 => ?_)
  obtain rfl : z_10 = xs (i + 1) := ez_10.trans (by rw [ny_9])
  clear ny_9 hy_9
  refine lv_aload_n hx hb dL_law_237 rfl (lv_at hl 3 rfl) ?_
  refine lv_iload_n hx hb dL_law_238 rfl (lv_at hl 0 rfl) ?_
  refine lv_iconst (v := 2) hx hb dL_law_239 (by decide +kernel) ?_
  refine lv_iadd hx hb dL_law_240 ?_
  refine lv_topi (fun y_11 ey_11 => ?_)
  have hy_11 : y_11.toInt = (i : Int) + 2 := by rw [ey_11]; exact ad_i (nI_toInt (by omega)) (by decide +kernel) (by omega) (by omega)
  have ny_11 : y_11.toNatClampNeg = i + 2 := (show y_11.toInt.toNat = _ by omega)
  clear ey_11
  refine va_sld hx hb hX hbl hbA hS (vp_in_iff.mpr (by omega)) dL_law_241 ?_
  refine lv_topi (fun z_12 ez_12 => ?_)
  obtain rfl : z_12 = xs (i + 2) := ez_12.trans (by rw [ny_11])
  clear ny_11 hy_11
  refine lv_aload_n hx hb dL_law_242 rfl (lv_at hl 3 rfl) ?_
  refine lv_iload_n hx hb dL_law_243 rfl (lv_at hl 0 rfl) ?_
  refine lv_iconst (v := 3) hx hb dL_law_244 (by decide +kernel) ?_
  refine lv_iadd hx hb dL_law_245 ?_
  refine lv_topi (fun y_13 ey_13 => ?_)
  have hy_13 : y_13.toInt = (i : Int) + 3 := by rw [ey_13]; exact ad_i (nI_toInt (by omega)) (by decide +kernel) (by omega) (by omega)
  have ny_13 : y_13.toNatClampNeg = i + 3 := (show y_13.toInt.toNat = _ by omega)
  clear ey_13
  refine va_sld hx hb hX hbl hbA hS (vp_in_iff.mpr (by omega)) dL_law_246 ?_
  refine lv_topi (fun z_14 ez_14 => ?_)
  obtain rfl : z_14 = xs (i + 3) := ez_14.trans (by rw [ny_13])
  clear ny_13 hy_13
  obtain ⟨hI_o, to, gV, gA, hlw⟩ := id hJ
  obtain ⟨hPo, hDo, hPm, hDm, hdis⟩ := id hH
  have hFc := o_free hDm hS hA
  refine va_calli (va_runV (As := [.int (xs (i + 1)), .int (xs (i + 2)), .int (xs (i + 3))]) (rest := []) ⟨hx, hb, hml, hown, hts⟩ (c_X11_miles l dC dI H.size g0 pq cp v fa (xs (i + 1)) (xs (i + 2)) (xs (i + 3))) (cwV 3 hts gL_law_X11_miles rfl rfl rfl (by decide +kernel) ⟨(Nat.le_of_ble_eq_true rfl), (Nat.le_of_ble_eq_true rfl)⟩) (pr_V (r := (RX11, TX11, 63)) hPm hKm hDm 0 11 rfl rfl) rfl rfl hl.1 rfl (lv_room (Nat.le_of_ble_eq_true rfl)) dL_law_247 ⟨(show cells + 0 ≤ 600000 by omega), (show slots + 0 ≤ 7302250 by omega)⟩) hS (fun q _ h => hFc q h) hFc (fun r_16 u t H locs ht hvm w_15 hB hz1 hk1 hS => ?_)
  obtain ⟨v1, fa1⟩ := u
  obtain ⟨hP1, hK1, hD1⟩ := hB
  rw [ht] at hP1
  dsimp only at hP1 hD1
  have hH := lwH_m hH hFc hk1 hP1 hD1
  clear hP1 hK1 hD1
  obtain ⟨hV1, hA1, hm1, -⟩ := ml_of gV gA w_15
  dsimp only at hV1 hA1 hm1
  have hJ := lwI_m hJ hV1 hA1 hm1 (by decide +kernel)
  clear hk1 hz1 hvm ht hFc
  refine lv_pop hx hb dL_law_250 rfl ?_
  refine lv_goto (tgt := 1499) hx hb dL_law_251 (by decide +kernel) ?_
  refine W.widen (k := cells + 4) (n := slots + 134) (by omega) (by omega) ?_
  exact K _ _ _ _ _ _ hJ hH hS hl
set_option maxHeartbeats 4000000 in
set_option maxRecDepth 100000 in
theorem lc_2 {p : Program} {l : Launch} {e : Env} {s : State} {m : MethodId} {below : List Frame} {meth : Method} {c : Code} {b L : Nat} {xs : Nat → Int32} {A : Nat → Prop} {dC : Nat → ClassId} {dI : Nat → Nat → Nat} {tL tS tG h0 g0 : Nat} {pq : Nat → Nat} {cq cp : Nat → ClassId} (C0 : lw_At p s m meth c b L xs) (hL : L ≤ 3072) (hA : ∀ q : Nat, s.heap.size ≤ q → A q) (hAq : ∀ q, A q → s.heap.size ≤ q) (hZ : stO A tL tS tG s s.heap) (hKo : va_K (dC, dI) vwCl (oT cq) s) (hKm : va_K (dC, dI) vwCl (mT cp) s) {S : oS} {v : Nat → Int32} {fa : Nat → Nat → Int32} {H : Heap} {locs : List Loc} {i cells slots : Nat} (hi : i + 6 ≤ L) (hcl : cells ≤ 500000) (hsl : slots ≤ 7000000) (hJ : lwI S h0 v fa) (hH : lwH (dC, dI) A cq cp g0 pq S v fa H) (hS : va_S A s.heap H locs) {ls : Array Slot} (hl : lv_has ls 4 [(3, .int (nI i)), (2, .ref g0), (1, .ref h0), (0, .ref b)]) (K : (∀ (S1 : oS) (v1 : Nat → Int32) (fa1 : Nat → Nat → Int32) (H1 : Heap) (locs1 : List Loc) (ls1 : Array Slot), lwI S1 h0 v1 fa1 → lwH (dC, dI) A cq cp g0 pq S1 v1 fa1 H1 → va_S A s.heap H1 locs1 → lv_has ls1 4 [(3, .int (nI i)), (2, .ref g0), (1, .ref h0), (0, .ref b)] → W p l e room_1 s m #[Value.ref b] below meth c H1 locs1 (cells + 4) (slots + 134) (lw_Z below #[Value.ref b] s) (F0 m 1499 ls1 []))) : W p l e room_1 s m #[Value.ref b] below meth c H locs cells slots (lw_Z below #[Value.ref b] s) (F0 m 254 ls []) := by
  obtain ⟨hx, hb, hr, hml, hown, hts, hX, hbl, hlocks, hgv⟩ := id C0
  have hts := fun w h => hts w (wsL_law_in w h)
  have hown : s.vm.findClass RL = some m.cls := hown
  have hbA : ¬ A b := fun h => Nat.not_le.mpr hbl (hAq b h)
  refine lv_aload_n hx hb dL_law_254 rfl (lv_at hl 2 rfl) ?_
  refine lv_aload_n hx hb dL_law_255 rfl (lv_at hl 3 rfl) ?_
  refine lv_iload_n hx hb dL_law_256 rfl (lv_at hl 0 rfl) ?_
  refine lv_iconst (v := 1) hx hb dL_law_257 (by decide +kernel) ?_
  refine lv_iadd hx hb dL_law_258 ?_
  refine lv_topi (fun y_1 ey_1 => ?_)
  have hy_1 : y_1.toInt = (i : Int) + 1 := by rw [ey_1]; exact ad_i (nI_toInt (by omega)) (by decide +kernel) (by omega) (by omega)
  have ny_1 : y_1.toNatClampNeg = i + 1 := (show y_1.toInt.toNat = _ by omega)
  clear ey_1
  refine va_sld hx hb hX hbl hbA hS (vp_in_iff.mpr (by omega)) dL_law_259 ?_
  refine lv_topi (fun z_2 ez_2 => ?_)
  obtain rfl : z_2 = xs (i + 1) := ez_2.trans (by rw [ny_1])
  clear ny_1 hy_1
  refine lv_aload_n hx hb dL_law_260 rfl (lv_at hl 3 rfl) ?_
  refine lv_iload_n hx hb dL_law_261 rfl (lv_at hl 0 rfl) ?_
  refine lv_iconst (v := 2) hx hb dL_law_262 (by decide +kernel) ?_
  refine lv_iadd hx hb dL_law_263 ?_
  refine lv_topi (fun y_3 ey_3 => ?_)
  have hy_3 : y_3.toInt = (i : Int) + 2 := by rw [ey_3]; exact ad_i (nI_toInt (by omega)) (by decide +kernel) (by omega) (by omega)
  have ny_3 : y_3.toNatClampNeg = i + 2 := (show y_3.toInt.toNat = _ by omega)
  clear ey_3
  refine va_sld hx hb hX hbl hbA hS (vp_in_iff.mpr (by omega)) dL_law_264 ?_
  refine lv_topi (fun z_4 ez_4 => ?_)
  obtain rfl : z_4 = xs (i + 2) := ez_4.trans (by rw [ny_3])
  clear ny_3 hy_3
  refine lv_aload_n hx hb dL_law_265 rfl (lv_at hl 3 rfl) ?_
  refine lv_iload_n hx hb dL_law_266 rfl (lv_at hl 0 rfl) ?_
  refine lv_iconst (v := 3) hx hb dL_law_267 (by decide +kernel) ?_
  refine lv_iadd hx hb dL_law_268 ?_
  refine lv_topi (fun y_5 ey_5 => ?_)
  have hy_5 : y_5.toInt = (i : Int) + 3 := by rw [ey_5]; exact ad_i (nI_toInt (by omega)) (by decide +kernel) (by omega) (by omega)
  have ny_5 : y_5.toNatClampNeg = i + 3 := (show y_5.toInt.toNat = _ by omega)
  clear ey_5
  refine va_sld hx hb hX hbl hbA hS (vp_in_iff.mpr (by omega)) dL_law_269 ?_
  refine lv_topi (fun z_6 ez_6 => ?_)
  obtain rfl : z_6 = xs (i + 3) := ez_6.trans (by rw [ny_5])
  clear ny_5 hy_5
  obtain ⟨hI_o, to, gV, gA, hlw⟩ := id hJ
  obtain ⟨hPo, hDo, hPm, hDm, hdis⟩ := id hH
  have hFc := o_free hDo hS hA
  obtain ⟨q0, hq0⟩ := og (cq := cq) to.1 (oE_10 to.2)
  refine va_calli (va_runV (As := [.int (xs (i + 1)), .int (xs (i + 2)), .int (xs (i + 3))]) (rest := []) ⟨hx, hb, hml, hown, hts⟩ (c_X10_man_g l dC dI H.size cq S hI_o h0 to (xs (i + 1)) (xs (i + 2)) (xs (i + 3))) (cwV 3 hts gL_law_X10_man rfl rfl rfl (by decide +kernel) ⟨(Nat.le_of_ble_eq_true rfl), (Nat.le_of_ble_eq_true rfl)⟩) (pr_V (r := (RX10, TX10, 16)) hPo hKo hDo q0 10 rfl hq0) rfl rfl hl.1 rfl (lv_room (Nat.le_of_ble_eq_true rfl)) dL_law_270 ⟨(show cells + 2 ≤ 600000 by omega), (show slots + 10 ≤ 7302250 by omega)⟩) hS (fun q _ h => hFc q h) hFc (fun r_8 u t H locs ht hvm w_7 hB hz1 hk1 hS => ?_)
  refine W.widen (k := cells + 2) (n := slots + 10) (by omega) (by omega) ?_
  obtain ⟨S9, rfl⟩ : ∃ z, z = u := ⟨_, rfl⟩
  obtain ⟨hP1, hK1, hD1⟩ := hB
  rw [ht] at hP1
  have hH := lwH_o hH hFc hk1 hP1 hD1
  clear hP1 hK1 hD1
  obtain ⟨hI1, hX1, hp1⟩ := w_7
  clear hk1 hz1 hvm ht hFc
  refine lv_pop hx hb dL_law_273 rfl ?_
  refine lv_aload_n hx hb dL_law_274 rfl (lv_at hl 1 rfl) ?_
  refine lv_aload_n hx hb dL_law_275 rfl (lv_at hl 3 rfl) ?_
  refine lv_iload_n hx hb dL_law_276 rfl (lv_at hl 0 rfl) ?_
  refine lv_iconst (v := 1) hx hb dL_law_277 (by decide +kernel) ?_
  refine lv_iadd hx hb dL_law_278 ?_
  refine lv_topi (fun y_9 ey_9 => ?_)
  have hy_9 : y_9.toInt = (i : Int) + 1 := by rw [ey_9]; exact ad_i (nI_toInt (by omega)) (by decide +kernel) (by omega) (by omega)
  have ny_9 : y_9.toNatClampNeg = i + 1 := (show y_9.toInt.toNat = _ by omega)
  clear ey_9
  refine va_sld hx hb hX hbl hbA hS (vp_in_iff.mpr (by omega)) dL_law_279 ?_
  refine lv_topi (fun z_10 ez_10 => ?_)
  obtain rfl : z_10 = xs (i + 1) := ez_10.trans (by rw [ny_9])
  clear ny_9 hy_9
  refine lv_aload_n hx hb dL_law_280 rfl (lv_at hl 3 rfl) ?_
  refine lv_iload_n hx hb dL_law_281 rfl (lv_at hl 0 rfl) ?_
  refine lv_iconst (v := 2) hx hb dL_law_282 (by decide +kernel) ?_
  refine lv_iadd hx hb dL_law_283 ?_
  refine lv_topi (fun y_11 ey_11 => ?_)
  have hy_11 : y_11.toInt = (i : Int) + 2 := by rw [ey_11]; exact ad_i (nI_toInt (by omega)) (by decide +kernel) (by omega) (by omega)
  have ny_11 : y_11.toNatClampNeg = i + 2 := (show y_11.toInt.toNat = _ by omega)
  clear ey_11
  refine va_sld hx hb hX hbl hbA hS (vp_in_iff.mpr (by omega)) dL_law_284 ?_
  refine lv_topi (fun z_12 ez_12 => ?_)
  obtain rfl : z_12 = xs (i + 2) := ez_12.trans (by rw [ny_11])
  clear ny_11 hy_11
  refine lv_aload_n hx hb dL_law_285 rfl (lv_at hl 3 rfl) ?_
  refine lv_iload_n hx hb dL_law_286 rfl (lv_at hl 0 rfl) ?_
  refine lv_iconst (v := 3) hx hb dL_law_287 (by decide +kernel) ?_
  refine lv_iadd hx hb dL_law_288 ?_
  refine lv_topi (fun y_13 ey_13 => ?_)
  have hy_13 : y_13.toInt = (i : Int) + 3 := by rw [ey_13]; exact ad_i (nI_toInt (by omega)) (by decide +kernel) (by omega) (by omega)
  have ny_13 : y_13.toNatClampNeg = i + 3 := (show y_13.toInt.toNat = _ by omega)
  clear ey_13
  refine va_sld hx hb hX hbl hbA hS (vp_in_iff.mpr (by omega)) dL_law_289 ?_
  refine lv_topi (fun z_14 ez_14 => ?_)
  obtain rfl : z_14 = xs (i + 3) := ez_14.trans (by rw [ny_13])
  clear ny_13 hy_13
  obtain ⟨hI_o, to, gV, gA, hlw⟩ := id hJ
  obtain ⟨hPo, hDo, hPm, hDm, hdis⟩ := id hH
  have hFc := o_free hDm hS hA
  refine va_calli (va_runV (As := [.int (xs (i + 1)), .int (xs (i + 2)), .int (xs (i + 3))]) (rest := []) ⟨hx, hb, hml, hown, hts⟩ (c_X11_man l dC dI H.size g0 pq cp v fa (v 39).toNatClampNeg (cn_le (n := 40) (gV 39)) (cn_eq (n := 40) (gV 39)) (xs (i + 1)) (xs (i + 2)) (xs (i + 3))) (cwV 3 hts gL_law_X11_man rfl rfl rfl (by decide +kernel) ⟨(Nat.le_of_ble_eq_true rfl), (Nat.le_of_ble_eq_true rfl)⟩) (pr_V (r := (RX11, TX11, 63)) hPm hKm hDm 0 11 rfl rfl) rfl rfl hl.1 rfl (lv_room (Nat.le_of_ble_eq_true rfl)) dL_law_290 ⟨(show cells + 2 + 0 ≤ 600000 by omega), (show slots + 10 + 0 ≤ 7302250 by omega)⟩) hS (fun q _ h => hFc q h) hFc (fun r_16 u t H locs ht hvm w_15 hB hz1 hk1 hS => ?_)
  obtain ⟨v1, fa1⟩ := u
  obtain ⟨hP1, hK1, hD1⟩ := hB
  rw [ht] at hP1
  dsimp only at hP1 hD1
  have hH := lwH_m hH hFc hk1 hP1 hD1
  clear hP1 hK1 hD1
  obtain ⟨hV1, hA1, hm1, hq1⟩ := mn_of2 gV gA w_15
  dsimp only at hV1 hA1 hm1 hq1
  obtain ⟨er, hJ⟩ := lw_man hJ hI1 hX1 hp1 hV1 hA1 hm1 hq1 (by decide +kernel) (by decide +kernel)
  clear hk1 hz1 hvm ht hFc
  refine lv_pop hx hb dL_law_293 rfl ?_
  refine lv_goto (tgt := 1499) hx hb dL_law_294 (by decide +kernel) ?_
  refine W.widen (k := cells + 4) (n := slots + 134) (by omega) (by omega) ?_
  exact K _ _ _ _ _ _ hJ hH hS hl
