set_option maxRecDepth 20000 in
theorem ggL_law_X10_init : GoodIn wsL_law wsX10_init := gp_c (goodIn_r _ [9] (by decide +kernel) (by decide +kernel)) (goodIn_app (goodIn_app (goodIn_app (goodIn_app (goodIn_app (goodIn_app (goodIn_app (goodIn_r wsX10_init_r1 [10, 11, 12, 13, 14, 15, 16, 17, 18, 19, 20, 21, 22, 23, 24, 25, 26, 27, 28, 29, 30, 31, 32, 33] (by decide +kernel) (by decide +kernel)) (goodIn_app (goodIn_r wsX10_init_r2 [34, 35, 36, 37, 38, 39, 40, 41, 42, 43, 44, 45, 46, 47, 48, 49, 50, 51, 52, 53, 54, 55, 56, 57] (by decide +kernel) (by decide +kernel)) (goodIn_app (goodIn_r wsX10_init_r3 [58, 59, 60, 61, 62, 63, 64, 65, 66, 67, 68, 69, 70, 71, 72, 73, 74, 75, 76, 77, 78, 79, 80, 81] (by decide +kernel) (by decide +kernel)) (goodIn_r wsX10_init_r4 [82, 83, 84, 85, 86, 87, 88, 89, 90, 91] (by decide +kernel) (by decide +kernel))))) gpX10) gpX5) gpX8) gpX7) gpX4) gpX0)
set_option maxRecDepth 20000 in
theorem gL_law_X10_init : GoodIn wsL_law (wsX10_init) := ggL_law_X10_init
set_option maxRecDepth 20000 in
theorem ggL_law_X11_init : GoodIn wsL_law wsX11_init := gp_c (goodIn_r _ [94] (by decide +kernel) (by decide +kernel)) (goodIn_app (goodIn_app (goodIn_r wsX11_init_r1 [95, 11, 12, 36, 96, 97, 98, 99, 100, 101, 102, 103, 104, 105, 106, 107, 108, 109, 110, 111, 112, 113, 114, 115] (by decide +kernel) (by decide +kernel)) (goodIn_app (goodIn_r wsX11_init_r2 [116, 117, 118, 119, 120, 121, 122, 123, 124, 125, 126, 127, 128, 129, 130, 131, 132, 133, 134, 135, 136, 137, 138, 139] (by decide +kernel) (by decide +kernel)) (goodIn_r wsX11_init_r3 [140, 141, 142, 143] (by decide +kernel) (by decide +kernel)))) gpX11)
set_option maxRecDepth 20000 in
theorem gL_law_X11_init : GoodIn wsL_law (wsX11_init) := ggL_law_X11_init
theorem dL_law_0 : decode cL_law 0 = .ok (.new 7, 3) := by decide +kernel
theorem dL_law_3 : decode cL_law 3 = .ok (.dup, 1) := by decide +kernel
theorem dL_law_4 : decode cL_law 4 = .ok (.invokespecial 9, 3) := by decide +kernel
theorem dL_law_7 : decode cL_law 7 = .ok (.astore_n 1, 1) := by decide +kernel
theorem dL_law_8 : decode cL_law 8 = .ok (.new 10, 3) := by decide +kernel
theorem dL_law_11 : decode cL_law 11 = .ok (.dup, 1) := by decide +kernel
theorem dL_law_12 : decode cL_law 12 = .ok (.invokespecial 12, 3) := by decide +kernel
theorem dL_law_15 : decode cL_law 15 = .ok (.astore_n 2, 1) := by decide +kernel
theorem dL_law_16 : decode cL_law 16 = .ok (.iconst 0, 1) := by decide +kernel
theorem dL_law_17 : decode cL_law 17 = .ok (.istore_n 3, 1) := by decide +kernel
theorem dL_law_27 : decode cL_law 27 = .ok (.aload_n 0, 1) := by decide +kernel
theorem dL_law_28 : decode cL_law 28 = .ok (.iload_n 3, 1) := by decide +kernel
theorem dL_law_29 : decode cL_law 29 = .ok (.iaload, 1) := by decide +kernel
theorem dL_law_30 : decode cL_law 30 = .ok (.bipush 63, 2) := by decide +kernel
theorem dL_law_32 : decode cL_law 32 = .ok (.iand, 1) := by decide +kernel
theorem dL_law_33 : decode cL_law 33 = .ok (.tableswitch 1466 0 34 #[155, 178, 221, 264, 297, 330, 363, 396, 429, 482, 515, 548, 611, 644, 707, 740, 783, 826, 859, 892, 925, 994, 1027, 1070, 1113, 1156, 1189, 1232, 1255, 1278, 1301, 1344, 1377, 1400, 1443], 155) := by decide +kernel

set_option maxHeartbeats 8000000 in
set_option maxRecDepth 100000 in
/-- THE LAW, from its entry -/
theorem whole_start {p : Program} {e : Env} {s : State} {m : MethodId} {below : List Frame} {meth : Method} {c : Code} (l : Launch) {b L : Nat} {xs : Nat → Int32} (hL : L ≤ 6) (C0 : lw_At p s m meth c b L xs) : W p l e room_1 s m #[Value.ref b] below meth c s.heap [] 0 0 (lw_Z below #[Value.ref b] s) (entryFrame m ([Value.ref b] : List Value).toArray 4) := by
  obtain ⟨hx, hb, hr, hml, hown, hts0, hX, hbl, hlocks, hgv⟩ := id C0
  obtain ⟨A, hAe⟩ : ∃ A : Nat → Prop, A = fun q => s.heap.size ≤ q := ⟨_, rfl⟩
  have hA : ∀ q : Nat, s.heap.size ≤ q → A q := fun q h => by rw [hAe]; exact h
  have hAq : ∀ q, A q → s.heap.size ≤ q := fun q h => by rw [hAe] at h; exact h
  have hbA : ¬ A b := fun h => Nat.not_le.mpr hbl (hAq b h)
  obtain ⟨tL, tS, hZ⟩ := st_of (A := A) hts0 hgv (fun a h h2 => absurd (hAq a h2) (Nat.not_le.mpr h))
  obtain ⟨dC, dI, hKc⟩ := kn_of hts0
  have hS : va_S A s.heap s.heap [] := va_S.rf
  have hK : va_K (dC, dI) vwCl [] s := ⟨hKc, fun k q h => by simp at h⟩
  have hP : va_P (dC, dI) vwCl [] s.heap := vP0
  have hD : va_D A [] := vD0
  have hts := fun w h => hts0 w (wsL_law_in w h)
  have hown : s.vm.findClass RL = some m.cls := hown
  have hl := lv_entry ([.ref b]) (n := 4) (Nat.le_of_ble_eq_true rfl)
  rw [lg_entry_eq]
  generalize (lg_sl ([.ref b]) ++ List.replicate (4 - (lg_sl ([.ref b])).length) Slot.unset).toArray = ls at hl ⊢
  have hl : lv_has ls 4 [(0, .ref b)] := hl
  refine va_new (ci := 10) (fs := [.int 0, .null, .int 0, .null, .int 0, .null, .int 0, .int 0, .null, .null, .null, .null, .null, .null, .int 0, .null]) (C := RX10) (T := TX10) (N := 16) hx hb hts inlX10 tyX10 tyX10_ok hown (hts (.classLink RL 7 RX10) (by decide +kernel)) (hts (.instantiable RX10 16) (by decide +kernel)) (hts (.initialized RX10) (by decide +kernel)) hK hP hD hS hA rfl (fun j hj => by rcases (show j = 0 ∨ j = 1 ∨ j = 2 ∨ j = 3 ∨ j = 4 ∨ j = 5 ∨ j = 6 ∨ j = 7 ∨ j = 8 ∨ j = 9 ∨ j = 10 ∨ j = 11 ∨ j = 12 ∨ j = 13 ∨ j = 14 ∨ j = 15 by omega) with rfl | rfl | rfl | rfl | rfl | rfl | rfl | rfl | rfl | rfl | rfl | rfl | rfl | rfl | rfl | rfl <;> rfl) (Nat.le_of_ble_eq_true rfl) (Nat.le_of_ble_eq_true rfl) dL_law_0 (fun q_1 H hP hD hS => ?_)
  have hP : va_P (dC, dI) vwCl [(q_1, .inr (10, [.int 0, .null, .int 0, .null, .int 0, .null, .int 0, .int 0, .null, .null, .null, .null, .null, .null, .int 0, .null]))] H := hP
  have hD : va_D A [(q_1, .inr (10, [.int 0, .null, .int 0, .null, .int 0, .null, .int 0, .int 0, .null, .null, .null, .null, .null, .null, .int 0, .null]))] := hD
  refine W.widen (k := 1) (n := 16) (Nat.le_of_ble_eq_true rfl) (Nat.le_of_ble_eq_true rfl) ?_
  refine lv_dup hx hb dL_law_3 rfl ?_
  have hPc := hP.sub (ws' := [(q_1, .inr (10, [.int 0, .null, .int 0, .null, .int 0, .null, .int 0, .int 0, .null, .null, .null, .null, .null, .null, .int 0, .null]))]) [0] rfl
  have hDc := hD.sub (ws' := [(q_1, .inr (10, [.int 0, .null, .int 0, .null, .int 0, .null, .int 0, .int 0, .null, .null, .null, .null, .null, .null, .int 0, .null]))]) [0] (by decide) rfl
  have hKc := hK.sub (tys' := []) [] rfl
  have hFc := va_free (wc := [(q_1, .inr (10, [.int 0, .null, .int 0, .null, .int 0, .null, .int 0, .int 0, .null, .null, .null, .null, .null, .null, .int 0, .null]))]) hD hS hA [0] rfl
  refine va_callv (va_runI (As := []) (rest := [.ref q_1]) ⟨hx, hb, hml, hown, hts⟩ (c_X10_init l dC dI H.size tL tS q_1) (cwI 0 hts gL_law_X10_init rfl rfl rfl (hts (.initialized RX10) (by decide +kernel)) (hts (.methodLink RL 9 yX10_init) (by decide +kernel)) (hts (.instanceMethod yX10_init) (by decide +kernel)) rfl (by decide +kernel) ⟨(Nat.le_of_ble_eq_true rfl), (Nat.le_of_ble_eq_true rfl)⟩) (pr_SS hPc hKc hDc (hZ.go hS hFc)) rfl rfl hl.1 rfl (lv_room (Nat.le_of_ble_eq_true rfl)) dL_law_4 ⟨(Nat.le_of_ble_eq_true rfl), (Nat.le_of_ble_eq_true rfl)⟩) hS (fun q _ h => hFc q h) hFc (fun u t H locs ht hvm w_0 hB hz1 hk1 hS => ?_)
  obtain ⟨q, cq⟩ := u
  obtain ⟨hP1, hK1, hD1⟩ := hB
  rw [ht] at hP1
  have hK1 := va_K.moved hvm.symm hK1
  obtain ⟨hP, hD⟩ := va_join (wr := []) (w1 := [(q_1, .inr (10, oF q)), ((q 15), .inl ((cq 15), 7, .inl (fun _ => 0))), ((q 1), .inl ((cq 1), 40, .inr (.inr (.inr (.inr (fun _ => none)))))), ((q 3), .inl ((cq 3), 20, .inr (.inr (.inr (.inr (fun _ => none)))))), ((q 8), .inr (5, [.ref (q 80), .ref (q 81), .int 0])), ((q 9), .inr (8, [.ref (q 90), .int 0, .ref (q 91), .int 0, .int 0, .int 0])), ((q 90), .inl ((cq 90), 60, .inl (fun _ => 0))), ((q 10), .inr (7, [.ref (q 100), .ref (q 101)])), ((q 100), .inl ((cq 100), 100, .inl (fun _ => 0))), ((q 11), .inr (4, [.ref (q 110), .ref (q 111), .int 0, .ref (q 112), .int 0, .int 0])), ((q 110), .inl ((cq 110), 81, .inr (.inl (fun _ => 0)))), ((q 112), .inl ((cq 112), 4, .inl (fun _ => 0))), ((q 13), .inl ((cq 13), 12, .inl (fun _ => 0)))]) hP hD [0] [] rfl rfl (by decide) (by decide) hk1 hFc hP1 hD1
  have hK := hK.app hK1
  have hP : va_P (dC, dI) vwCl [(q_1, .inr (10, oF q)), ((q 15), .inl ((cq 15), 7, .inl (fun _ => 0))), ((q 1), .inl ((cq 1), 40, .inr (.inr (.inr (.inr (fun _ => none)))))), ((q 3), .inl ((cq 3), 20, .inr (.inr (.inr (.inr (fun _ => none)))))), ((q 8), .inr (5, [.ref (q 80), .ref (q 81), .int 0])), ((q 9), .inr (8, [.ref (q 90), .int 0, .ref (q 91), .int 0, .int 0, .int 0])), ((q 90), .inl ((cq 90), 60, .inl (fun _ => 0))), ((q 10), .inr (7, [.ref (q 100), .ref (q 101)])), ((q 100), .inl ((cq 100), 100, .inl (fun _ => 0))), ((q 11), .inr (4, [.ref (q 110), .ref (q 111), .int 0, .ref (q 112), .int 0, .int 0])), ((q 110), .inl ((cq 110), 81, .inr (.inl (fun _ => 0)))), ((q 112), .inl ((cq 112), 4, .inl (fun _ => 0))), ((q 13), .inl ((cq 13), 12, .inl (fun _ => 0)))] H := hP
  have hD : va_D A [(q_1, .inr (10, oF q)), ((q 15), .inl ((cq 15), 7, .inl (fun _ => 0))), ((q 1), .inl ((cq 1), 40, .inr (.inr (.inr (.inr (fun _ => none)))))), ((q 3), .inl ((cq 3), 20, .inr (.inr (.inr (.inr (fun _ => none)))))), ((q 8), .inr (5, [.ref (q 80), .ref (q 81), .int 0])), ((q 9), .inr (8, [.ref (q 90), .int 0, .ref (q 91), .int 0, .int 0, .int 0])), ((q 90), .inl ((cq 90), 60, .inl (fun _ => 0))), ((q 10), .inr (7, [.ref (q 100), .ref (q 101)])), ((q 100), .inl ((cq 100), 100, .inl (fun _ => 0))), ((q 11), .inr (4, [.ref (q 110), .ref (q 111), .int 0, .ref (q 112), .int 0, .int 0])), ((q 110), .inl ((cq 110), 81, .inr (.inl (fun _ => 0)))), ((q 112), .inl ((cq 112), 4, .inl (fun _ => 0))), ((q 13), .inl ((cq 13), 12, .inl (fun _ => 0)))] := hD
  have hK : va_K (dC, dI) vwCl [((cq 15), .int), ((cq 1), .object RX6), ((cq 3), .object RX9), ((cq 90), .int), ((cq 100), .int), ((cq 110), .long), ((cq 112), .int), ((cq 13), .int)] s := hK
  clear hP1 hK1 hD1 hk1 hz1 hvm ht hPc hDc hKc hFc
  refine W.widen (k := 40) (n := 622) (Nat.le_of_ble_eq_true rfl) (Nat.le_of_ble_eq_true rfl) ?_
  refine lv_astore_n (lv' := [(1, .ref q_1), (0, .ref b)]) hx hb dL_law_7 rfl hl (by decide) rfl (fun ls hl => ?_)
  refine va_new (ci := 11) (fs := [.null, .null, .null, .null, .null, .null, .null, .null, .null, .null, .null, .null, .null, .null, .null, .null, .null, .null, .null, .null, .null, .null, .null, .null, .null, .null, .null, .null, .null, .null, .null, .null, .null, .null, .null, .null, .null, .null, .int 0, .int 0, .int 0, .int 0, .int 0, .int 0, .null, .null, .int 0, .int 0, .int 0, .int 0, .int 0, .int 0, .null, .null, .null, .null, .null, .null, .int 0, .int 0, .int 0, .null, .int 0]) (C := RX11) (T := TX11) (N := 63) hx hb hts inlX11 tyX11 tyX11_ok hown (hts (.classLink RL 10 RX11) (by decide +kernel)) (hts (.instantiable RX11 63) (by decide +kernel)) (hts (.initialized RX11) (by decide +kernel)) hK hP hD hS hA rfl (fun j hj => by rcases (show j = 0 ∨ j = 1 ∨ j = 2 ∨ j = 3 ∨ j = 4 ∨ j = 5 ∨ j = 6 ∨ j = 7 ∨ j = 8 ∨ j = 9 ∨ j = 10 ∨ j = 11 ∨ j = 12 ∨ j = 13 ∨ j = 14 ∨ j = 15 ∨ j = 16 ∨ j = 17 ∨ j = 18 ∨ j = 19 ∨ j = 20 ∨ j = 21 ∨ j = 22 ∨ j = 23 ∨ j = 24 ∨ j = 25 ∨ j = 26 ∨ j = 27 ∨ j = 28 ∨ j = 29 ∨ j = 30 ∨ j = 31 ∨ j = 32 ∨ j = 33 ∨ j = 34 ∨ j = 35 ∨ j = 36 ∨ j = 37 ∨ j = 38 ∨ j = 39 ∨ j = 40 ∨ j = 41 ∨ j = 42 ∨ j = 43 ∨ j = 44 ∨ j = 45 ∨ j = 46 ∨ j = 47 ∨ j = 48 ∨ j = 49 ∨ j = 50 ∨ j = 51 ∨ j = 52 ∨ j = 53 ∨ j = 54 ∨ j = 55 ∨ j = 56 ∨ j = 57 ∨ j = 58 ∨ j = 59 ∨ j = 60 ∨ j = 61 ∨ j = 62 by omega) with rfl | rfl | rfl | rfl | rfl | rfl | rfl | rfl | rfl | rfl | rfl | rfl | rfl | rfl | rfl | rfl | rfl | rfl | rfl | rfl | rfl | rfl | rfl | rfl | rfl | rfl | rfl | rfl | rfl | rfl | rfl | rfl | rfl | rfl | rfl | rfl | rfl | rfl | rfl | rfl | rfl | rfl | rfl | rfl | rfl | rfl | rfl | rfl | rfl | rfl | rfl | rfl | rfl | rfl | rfl | rfl | rfl | rfl | rfl | rfl | rfl | rfl | rfl <;> rfl) (Nat.le_of_ble_eq_true rfl) (Nat.le_of_ble_eq_true rfl) dL_law_8 (fun q_2 H hP hD hS => ?_)
  have hP : va_P (dC, dI) vwCl [(q_1, .inr (10, oF q)), ((q 15), .inl ((cq 15), 7, .inl (fun _ => 0))), ((q 1), .inl ((cq 1), 40, .inr (.inr (.inr (.inr (fun _ => none)))))), ((q 3), .inl ((cq 3), 20, .inr (.inr (.inr (.inr (fun _ => none)))))), ((q 8), .inr (5, [.ref (q 80), .ref (q 81), .int 0])), ((q 9), .inr (8, [.ref (q 90), .int 0, .ref (q 91), .int 0, .int 0, .int 0])), ((q 90), .inl ((cq 90), 60, .inl (fun _ => 0))), ((q 10), .inr (7, [.ref (q 100), .ref (q 101)])), ((q 100), .inl ((cq 100), 100, .inl (fun _ => 0))), ((q 11), .inr (4, [.ref (q 110), .ref (q 111), .int 0, .ref (q 112), .int 0, .int 0])), ((q 110), .inl ((cq 110), 81, .inr (.inl (fun _ => 0)))), ((q 112), .inl ((cq 112), 4, .inl (fun _ => 0))), ((q 13), .inl ((cq 13), 12, .inl (fun _ => 0))), (q_2, .inr (11, [.null, .null, .null, .null, .null, .null, .null, .null, .null, .null, .null, .null, .null, .null, .null, .null, .null, .null, .null, .null, .null, .null, .null, .null, .null, .null, .null, .null, .null, .null, .null, .null, .null, .null, .null, .null, .null, .null, .int 0, .int 0, .int 0, .int 0, .int 0, .int 0, .null, .null, .int 0, .int 0, .int 0, .int 0, .int 0, .int 0, .null, .null, .null, .null, .null, .null, .int 0, .int 0, .int 0, .null, .int 0]))] H := hP
  have hD : va_D A [(q_1, .inr (10, oF q)), ((q 15), .inl ((cq 15), 7, .inl (fun _ => 0))), ((q 1), .inl ((cq 1), 40, .inr (.inr (.inr (.inr (fun _ => none)))))), ((q 3), .inl ((cq 3), 20, .inr (.inr (.inr (.inr (fun _ => none)))))), ((q 8), .inr (5, [.ref (q 80), .ref (q 81), .int 0])), ((q 9), .inr (8, [.ref (q 90), .int 0, .ref (q 91), .int 0, .int 0, .int 0])), ((q 90), .inl ((cq 90), 60, .inl (fun _ => 0))), ((q 10), .inr (7, [.ref (q 100), .ref (q 101)])), ((q 100), .inl ((cq 100), 100, .inl (fun _ => 0))), ((q 11), .inr (4, [.ref (q 110), .ref (q 111), .int 0, .ref (q 112), .int 0, .int 0])), ((q 110), .inl ((cq 110), 81, .inr (.inl (fun _ => 0)))), ((q 112), .inl ((cq 112), 4, .inl (fun _ => 0))), ((q 13), .inl ((cq 13), 12, .inl (fun _ => 0))), (q_2, .inr (11, [.null, .null, .null, .null, .null, .null, .null, .null, .null, .null, .null, .null, .null, .null, .null, .null, .null, .null, .null, .null, .null, .null, .null, .null, .null, .null, .null, .null, .null, .null, .null, .null, .null, .null, .null, .null, .null, .null, .int 0, .int 0, .int 0, .int 0, .int 0, .int 0, .null, .null, .int 0, .int 0, .int 0, .int 0, .int 0, .int 0, .null, .null, .null, .null, .null, .null, .int 0, .int 0, .int 0, .null, .int 0]))] := hD
  refine W.widen (k := 41) (n := 685) (Nat.le_of_ble_eq_true rfl) (Nat.le_of_ble_eq_true rfl) ?_
  refine lv_dup hx hb dL_law_11 rfl ?_
  have hPc := hP.sub (ws' := [(q_2, .inr (11, [.null, .null, .null, .null, .null, .null, .null, .null, .null, .null, .null, .null, .null, .null, .null, .null, .null, .null, .null, .null, .null, .null, .null, .null, .null, .null, .null, .null, .null, .null, .null, .null, .null, .null, .null, .null, .null, .null, .int 0, .int 0, .int 0, .int 0, .int 0, .int 0, .null, .null, .int 0, .int 0, .int 0, .int 0, .int 0, .int 0, .null, .null, .null, .null, .null, .null, .int 0, .int 0, .int 0, .null, .int 0]))]) [13] rfl
  have hDc := hD.sub (ws' := [(q_2, .inr (11, [.null, .null, .null, .null, .null, .null, .null, .null, .null, .null, .null, .null, .null, .null, .null, .null, .null, .null, .null, .null, .null, .null, .null, .null, .null, .null, .null, .null, .null, .null, .null, .null, .null, .null, .null, .null, .null, .null, .int 0, .int 0, .int 0, .int 0, .int 0, .int 0, .null, .null, .int 0, .int 0, .int 0, .int 0, .int 0, .int 0, .null, .null, .null, .null, .null, .null, .int 0, .int 0, .int 0, .null, .int 0]))]) [13] (by decide) rfl
  have hKc := hK.sub (tys' := []) [] rfl
  have hFc := va_free (wc := [(q_2, .inr (11, [.null, .null, .null, .null, .null, .null, .null, .null, .null, .null, .null, .null, .null, .null, .null, .null, .null, .null, .null, .null, .null, .null, .null, .null, .null, .null, .null, .null, .null, .null, .null, .null, .null, .null, .null, .null, .null, .null, .int 0, .int 0, .int 0, .int 0, .int 0, .int 0, .null, .null, .int 0, .int 0, .int 0, .int 0, .int 0, .int 0, .null, .null, .null, .null, .null, .null, .int 0, .int 0, .int 0, .null, .int 0]))]) hD hS hA [13] rfl
  refine va_callv (va_runI (As := []) (rest := [.ref q_2]) ⟨hx, hb, hml, hown, hts⟩ (c_X11_init l dC dI H.size q_2) (cwI 0 hts gL_law_X11_init rfl rfl rfl (hts (.initialized RX11) (by decide +kernel)) (hts (.methodLink RL 12 yX11_init) (by decide +kernel)) (hts (.instanceMethod yX11_init) (by decide +kernel)) rfl (by decide +kernel) ⟨(Nat.le_of_ble_eq_true rfl), (Nat.le_of_ble_eq_true rfl)⟩) (pr_S hPc hKc hDc) rfl rfl hl.1 rfl (lv_room (Nat.le_of_ble_eq_true rfl)) dL_law_12 ⟨(Nat.le_of_ble_eq_true rfl), (Nat.le_of_ble_eq_true rfl)⟩) hS (fun q _ h => hFc q h) hFc (fun u t H locs ht hvm w_0 hB hz1 hk1 hS => ?_)
  obtain ⟨pq, cp⟩ := u
  obtain ⟨hP1, hK1, hD1⟩ := hB
  rw [ht] at hP1
  have hK1 := va_K.moved hvm.symm hK1
  obtain ⟨hP, hD⟩ := va_join (wr := [(q_1, .inr (10, oF q)), ((q 15), .inl ((cq 15), 7, .inl (fun _ => 0))), ((q 1), .inl ((cq 1), 40, .inr (.inr (.inr (.inr (fun _ => none)))))), ((q 3), .inl ((cq 3), 20, .inr (.inr (.inr (.inr (fun _ => none)))))), ((q 8), .inr (5, [.ref (q 80), .ref (q 81), .int 0])), ((q 9), .inr (8, [.ref (q 90), .int 0, .ref (q 91), .int 0, .int 0, .int 0])), ((q 90), .inl ((cq 90), 60, .inl (fun _ => 0))), ((q 10), .inr (7, [.ref (q 100), .ref (q 101)])), ((q 100), .inl ((cq 100), 100, .inl (fun _ => 0))), ((q 11), .inr (4, [.ref (q 110), .ref (q 111), .int 0, .ref (q 112), .int 0, .int 0])), ((q 110), .inl ((cq 110), 81, .inr (.inl (fun _ => 0)))), ((q 112), .inl ((cq 112), 4, .inl (fun _ => 0))), ((q 13), .inl ((cq 13), 12, .inl (fun _ => 0)))]) (w1 := [(q_2, .inr (11, mF pq)), ((pq 0), .inl ((cp 0), 7, .inl (fun _ => 0))), ((pq 1), .inl ((cp 1), 100, .inl (fun _ => 0))), ((pq 2), .inl ((cp 2), 40, .inl (fun _ => 0))), ((pq 3), .inl ((cp 3), 40, .inl (fun _ => 0))), ((pq 4), .inl ((cp 4), 40, .inl (fun _ => 0))), ((pq 6), .inl ((cp 6), 20, .inl (fun _ => 0))), ((pq 7), .inl ((cp 7), 20, .inl (fun _ => 0))), ((pq 8), .inl ((cp 8), 20, .inl (fun _ => 0))), ((pq 9), .inl ((cp 9), 20, .inl (fun _ => 0))), ((pq 44), .inl ((cp 44), 60, .inl (fun _ => 0))), ((pq 55), .inl ((cp 55), 8, .inl (fun _ => 0))), ((pq 61), .inl ((cp 61), 12, .inl (fun _ => 0)))]) hP hD [13] [0, 1, 2, 3, 4, 5, 6, 7, 8, 9, 10, 11, 12] rfl rfl (by decide) (by decide) hk1 hFc hP1 hD1
  have hK := hK.app hK1
  have hP : va_P (dC, dI) vwCl [(q_1, .inr (10, oF q)), ((q 15), .inl ((cq 15), 7, .inl (fun _ => 0))), ((q 1), .inl ((cq 1), 40, .inr (.inr (.inr (.inr (fun _ => none)))))), ((q 3), .inl ((cq 3), 20, .inr (.inr (.inr (.inr (fun _ => none)))))), ((q 8), .inr (5, [.ref (q 80), .ref (q 81), .int 0])), ((q 9), .inr (8, [.ref (q 90), .int 0, .ref (q 91), .int 0, .int 0, .int 0])), ((q 90), .inl ((cq 90), 60, .inl (fun _ => 0))), ((q 10), .inr (7, [.ref (q 100), .ref (q 101)])), ((q 100), .inl ((cq 100), 100, .inl (fun _ => 0))), ((q 11), .inr (4, [.ref (q 110), .ref (q 111), .int 0, .ref (q 112), .int 0, .int 0])), ((q 110), .inl ((cq 110), 81, .inr (.inl (fun _ => 0)))), ((q 112), .inl ((cq 112), 4, .inl (fun _ => 0))), ((q 13), .inl ((cq 13), 12, .inl (fun _ => 0))), (q_2, .inr (11, mF pq)), ((pq 0), .inl ((cp 0), 7, .inl (fun _ => 0))), ((pq 1), .inl ((cp 1), 100, .inl (fun _ => 0))), ((pq 2), .inl ((cp 2), 40, .inl (fun _ => 0))), ((pq 3), .inl ((cp 3), 40, .inl (fun _ => 0))), ((pq 4), .inl ((cp 4), 40, .inl (fun _ => 0))), ((pq 6), .inl ((cp 6), 20, .inl (fun _ => 0))), ((pq 7), .inl ((cp 7), 20, .inl (fun _ => 0))), ((pq 8), .inl ((cp 8), 20, .inl (fun _ => 0))), ((pq 9), .inl ((cp 9), 20, .inl (fun _ => 0))), ((pq 44), .inl ((cp 44), 60, .inl (fun _ => 0))), ((pq 55), .inl ((cp 55), 8, .inl (fun _ => 0))), ((pq 61), .inl ((cp 61), 12, .inl (fun _ => 0)))] H := hP
  have hD : va_D A [(q_1, .inr (10, oF q)), ((q 15), .inl ((cq 15), 7, .inl (fun _ => 0))), ((q 1), .inl ((cq 1), 40, .inr (.inr (.inr (.inr (fun _ => none)))))), ((q 3), .inl ((cq 3), 20, .inr (.inr (.inr (.inr (fun _ => none)))))), ((q 8), .inr (5, [.ref (q 80), .ref (q 81), .int 0])), ((q 9), .inr (8, [.ref (q 90), .int 0, .ref (q 91), .int 0, .int 0, .int 0])), ((q 90), .inl ((cq 90), 60, .inl (fun _ => 0))), ((q 10), .inr (7, [.ref (q 100), .ref (q 101)])), ((q 100), .inl ((cq 100), 100, .inl (fun _ => 0))), ((q 11), .inr (4, [.ref (q 110), .ref (q 111), .int 0, .ref (q 112), .int 0, .int 0])), ((q 110), .inl ((cq 110), 81, .inr (.inl (fun _ => 0)))), ((q 112), .inl ((cq 112), 4, .inl (fun _ => 0))), ((q 13), .inl ((cq 13), 12, .inl (fun _ => 0))), (q_2, .inr (11, mF pq)), ((pq 0), .inl ((cp 0), 7, .inl (fun _ => 0))), ((pq 1), .inl ((cp 1), 100, .inl (fun _ => 0))), ((pq 2), .inl ((cp 2), 40, .inl (fun _ => 0))), ((pq 3), .inl ((cp 3), 40, .inl (fun _ => 0))), ((pq 4), .inl ((cp 4), 40, .inl (fun _ => 0))), ((pq 6), .inl ((cp 6), 20, .inl (fun _ => 0))), ((pq 7), .inl ((cp 7), 20, .inl (fun _ => 0))), ((pq 8), .inl ((cp 8), 20, .inl (fun _ => 0))), ((pq 9), .inl ((cp 9), 20, .inl (fun _ => 0))), ((pq 44), .inl ((cp 44), 60, .inl (fun _ => 0))), ((pq 55), .inl ((cp 55), 8, .inl (fun _ => 0))), ((pq 61), .inl ((cp 61), 12, .inl (fun _ => 0)))] := hD
  have hK : va_K (dC, dI) vwCl [((cq 15), .int), ((cq 1), .object RX6), ((cq 3), .object RX9), ((cq 90), .int), ((cq 100), .int), ((cq 110), .long), ((cq 112), .int), ((cq 13), .int), ((cp 0), .int), ((cp 1), .int), ((cp 2), .int), ((cp 3), .int), ((cp 4), .int), ((cp 6), .int), ((cp 7), .int), ((cp 8), .int), ((cp 9), .int), ((cp 44), .int), ((cp 55), .int), ((cp 61), .int)] s := hK
  clear hP1 hK1 hD1 hk1 hz1 hvm ht hPc hDc hKc hFc
  refine W.widen (k := 141) (n := 20685) (Nat.le_of_ble_eq_true rfl) (Nat.le_of_ble_eq_true rfl) ?_
  refine lv_astore_n (lv' := [(2, .ref q_2), (1, .ref q_1), (0, .ref b)]) hx hb dL_law_15 rfl hl (by decide) rfl (fun ls hl => ?_)
  refine lv_iconst (v := 0) hx hb dL_law_16 (by decide) ?_
  refine lv_istore_n (lv' := [(3, .int 0), (2, .ref q_2), (1, .ref q_1), (0, .ref b)]) hx hb dL_law_17 rfl hl (by decide) rfl (fun ls hl => ?_)
  refine lv_iload_n hx hb dL_law_18 rfl (lv_at hl 0 rfl) ?_
  refine lv_aload_n hx hb dL_law_19 rfl (lv_at hl 3 rfl) ?_
  refine va_slen hx hb hX hbl hbA hS dL_law_20 ?_
  refine lv_bipush (v := 6) hx hb dL_law_21 (by decide) ?_
  refine lv_isub hx hb dL_law_23 ?_
  by_cases h6 : L = 6
  · subst h6
    refine lv_topi (fun y ey => ?_)
    obtain rfl : y = 0 := ey.trans (by decide)
    refine lv_icmp_gt (tgt := 1505) hx hb dL_law_24 (by decide) (fun c_1 => absurd c_1 (by decide)) (fun _ => ?_)
    refine lv_aload_n hx hb dL_law_27 rfl (lv_at hl 3 rfl) ?_
    refine lv_iload_n hx hb dL_law_28 rfl (lv_at hl 0 rfl) ?_
    refine va_sld hx hb hX hbl hbA hS (by unfold vp_in; decide) dL_law_29 ?_
    refine lv_bipush (v := 63) hx hb dL_law_30 (by decide) ?_
    refine lv_iand hx hb dL_law_32 ?_
    refine lv_topi (fun y ey => ?_)
    obtain ⟨j, hj, ej⟩ := pk_andE (xs (0 : Int32).toNatClampNeg) (m := 63) 6 (by decide)
    rw [ej] at ey
    rcases Nat.lt_or_ge j 35 with h | h
    · rcases (show j = 0 ∨ j = 1 ∨ j = 2 ∨ j = 3 ∨ j = 4 ∨ j = 5 ∨ j = 6 ∨ j = 7 ∨ j = 8 ∨ j = 9 ∨ j = 10 ∨ j = 11 ∨ j = 12 ∨ j = 13 ∨ j = 14 ∨ j = 15 ∨ j = 16 ∨ j = 17 ∨ j = 18 ∨ j = 19 ∨ j = 20 ∨ j = 21 ∨ j = 22 ∨ j = 23 ∨ j = 24 ∨ j = 25 ∨ j = 26 ∨ j = 27 ∨ j = 28 ∨ j = 29 ∨ j = 30 ∨ j = 31 ∨ j = 32 ∨ j = 33 ∨ j = 34 by omega) with rfl | rfl | rfl | rfl | rfl | rfl | rfl | rfl | rfl | rfl | rfl | rfl | rfl | rfl | rfl | rfl | rfl | rfl | rfl | rfl | rfl | rfl | rfl | rfl | rfl | rfl | rfl | rfl | rfl | rfl | rfl | rfl | rfl | rfl | rfl
      · obtain rfl : y = 0 := ey.trans (by decide)
        refine lv_tableIn (x := 0) (off := 155) (tgt := 188) hx hb dL_law_33 (by decide) (by decide) (by decide) (by decide) ?_
        exact lc_0 C0 hA hAq hZ hK hP hD hS hl
      · obtain rfl : y = 1 := ey.trans (by decide)
        refine lv_tableIn (x := 1) (off := 178) (tgt := 211) hx hb dL_law_33 (by decide) (by decide) (by decide) (by decide) ?_
        exact lc_1 C0 hA hAq hZ hK hP hD hS hl
      · obtain rfl : y = 2 := ey.trans (by decide)
        refine lv_tableIn (x := 2) (off := 221) (tgt := 254) hx hb dL_law_33 (by decide) (by decide) (by decide) (by decide) ?_
        exact lc_2 C0 hA hAq hZ hK hP hD hS hl
      · obtain rfl : y = 3 := ey.trans (by decide)
        refine lv_tableIn (x := 3) (off := 264) (tgt := 297) hx hb dL_law_33 (by decide) (by decide) (by decide) (by decide) ?_
        exact lc_3 C0 hA hAq hZ hK hP hD hS hl
      · obtain rfl : y = 4 := ey.trans (by decide)
        refine lv_tableIn (x := 4) (off := 297) (tgt := 330) hx hb dL_law_33 (by decide) (by decide) (by decide) (by decide) ?_
        exact lc_4 C0 hA hAq hZ hK hP hD hS hl
      · obtain rfl : y = 5 := ey.trans (by decide)
        refine lv_tableIn (x := 5) (off := 330) (tgt := 363) hx hb dL_law_33 (by decide) (by decide) (by decide) (by decide) ?_
        exact lc_5 C0 hA hAq hZ hK hP hD hS hl
      · obtain rfl : y = 6 := ey.trans (by decide)
        refine lv_tableIn (x := 6) (off := 363) (tgt := 396) hx hb dL_law_33 (by decide) (by decide) (by decide) (by decide) ?_
        exact lc_6 C0 hA hAq hZ hK hP hD hS hl
      · obtain rfl : y = 7 := ey.trans (by decide)
        refine lv_tableIn (x := 7) (off := 396) (tgt := 429) hx hb dL_law_33 (by decide) (by decide) (by decide) (by decide) ?_
        exact lc_7 C0 hA hAq hZ hK hP hD hS hl
      · obtain rfl : y = 8 := ey.trans (by decide)
        refine lv_tableIn (x := 8) (off := 429) (tgt := 462) hx hb dL_law_33 (by decide) (by decide) (by decide) (by decide) ?_
        exact lc_8 C0 hA hAq hZ hK hP hD hS hl
      · obtain rfl : y = 9 := ey.trans (by decide)
        refine lv_tableIn (x := 9) (off := 482) (tgt := 515) hx hb dL_law_33 (by decide) (by decide) (by decide) (by decide) ?_
        exact lc_9 C0 hA hAq hZ hK hP hD hS hl
      · obtain rfl : y = 10 := ey.trans (by decide)
        refine lv_tableIn (x := 10) (off := 515) (tgt := 548) hx hb dL_law_33 (by decide) (by decide) (by decide) (by decide) ?_
        exact lc_10 C0 hA hAq hZ hK hP hD hS hl
      · obtain rfl : y = 11 := ey.trans (by decide)
        refine lv_tableIn (x := 11) (off := 548) (tgt := 581) hx hb dL_law_33 (by decide) (by decide) (by decide) (by decide) ?_
        exact lc_11 C0 hA hAq hZ hK hP hD hS hl
      · obtain rfl : y = 12 := ey.trans (by decide)
        refine lv_tableIn (x := 12) (off := 611) (tgt := 644) hx hb dL_law_33 (by decide) (by decide) (by decide) (by decide) ?_
        exact lc_12 C0 hA hAq hZ hK hP hD hS hl
      · obtain rfl : y = 13 := ey.trans (by decide)
        refine lv_tableIn (x := 13) (off := 644) (tgt := 677) hx hb dL_law_33 (by decide) (by decide) (by decide) (by decide) ?_
        exact lc_13 C0 hA hAq hZ hK hP hD hS hl
      · obtain rfl : y = 14 := ey.trans (by decide)
        refine lv_tableIn (x := 14) (off := 707) (tgt := 740) hx hb dL_law_33 (by decide) (by decide) (by decide) (by decide) ?_
        exact lc_14 C0 hA hAq hZ hK hP hD hS hl
      · obtain rfl : y = 15 := ey.trans (by decide)
        refine lv_tableIn (x := 15) (off := 740) (tgt := 773) hx hb dL_law_33 (by decide) (by decide) (by decide) (by decide) ?_
        exact lc_15 C0 hA hAq hZ hK hP hD hS hl
      · obtain rfl : y = 16 := ey.trans (by decide)
        refine lv_tableIn (x := 16) (off := 783) (tgt := 816) hx hb dL_law_33 (by decide) (by decide) (by decide) (by decide) ?_
        exact lc_16 C0 hA hAq hZ hK hP hD hS hl
      · obtain rfl : y = 17 := ey.trans (by decide)
        refine lv_tableIn (x := 17) (off := 826) (tgt := 859) hx hb dL_law_33 (by decide) (by decide) (by decide) (by decide) ?_
        exact lc_17 C0 hA hAq hZ hK hP hD hS hl
      · obtain rfl : y = 18 := ey.trans (by decide)
        refine lv_tableIn (x := 18) (off := 859) (tgt := 892) hx hb dL_law_33 (by decide) (by decide) (by decide) (by decide) ?_
        exact lc_18 C0 hA hAq hZ hK hP hD hS hl
      · obtain rfl : y = 19 := ey.trans (by decide)
        refine lv_tableIn (x := 19) (off := 892) (tgt := 925) hx hb dL_law_33 (by decide) (by decide) (by decide) (by decide) ?_
        exact lc_19 C0 hA hAq hZ hK hP hD hS hl
      · obtain rfl : y = 20 := ey.trans (by decide)
        refine lv_tableIn (x := 20) (off := 925) (tgt := 958) hx hb dL_law_33 (by decide) (by decide) (by decide) (by decide) ?_
        exact lc_20 C0 hA hAq hZ hK hP hD hS hl
      · obtain rfl : y = 21 := ey.trans (by decide)
        refine lv_tableIn (x := 21) (off := 994) (tgt := 1027) hx hb dL_law_33 (by decide) (by decide) (by decide) (by decide) ?_
        exact lc_21 C0 hA hAq hZ hK hP hD hS hl
      · obtain rfl : y = 22 := ey.trans (by decide)
        refine lv_tableIn (x := 22) (off := 1027) (tgt := 1060) hx hb dL_law_33 (by decide) (by decide) (by decide) (by decide) ?_
        exact lc_22 C0 hA hAq hZ hK hP hD hS hl
      · obtain rfl : y = 23 := ey.trans (by decide)
        refine lv_tableIn (x := 23) (off := 1070) (tgt := 1103) hx hb dL_law_33 (by decide) (by decide) (by decide) (by decide) ?_
        exact lc_23 C0 hA hAq hZ hK hP hD hS hl
      · obtain rfl : y = 24 := ey.trans (by decide)
        refine lv_tableIn (x := 24) (off := 1113) (tgt := 1146) hx hb dL_law_33 (by decide) (by decide) (by decide) (by decide) ?_
        exact lc_24 C0 hA hAq hZ hK hP hD hS hl
      · obtain rfl : y = 25 := ey.trans (by decide)
        refine lv_tableIn (x := 25) (off := 1156) (tgt := 1189) hx hb dL_law_33 (by decide) (by decide) (by decide) (by decide) ?_
        exact lc_25 C0 hA hAq hZ hK hP hD hS hl
      · obtain rfl : y = 26 := ey.trans (by decide)
        refine lv_tableIn (x := 26) (off := 1189) (tgt := 1222) hx hb dL_law_33 (by decide) (by decide) (by decide) (by decide) ?_
        exact lc_26 C0 hA hAq hZ hK hP hD hS hl
      · obtain rfl : y = 27 := ey.trans (by decide)
        refine lv_tableIn (x := 27) (off := 1232) (tgt := 1265) hx hb dL_law_33 (by decide) (by decide) (by decide) (by decide) ?_
        exact lc_27 C0 hA hAq hZ hK hP hD hS hl
      · obtain rfl : y = 28 := ey.trans (by decide)
        refine lv_tableIn (x := 28) (off := 1255) (tgt := 1288) hx hb dL_law_33 (by decide) (by decide) (by decide) (by decide) ?_
        exact lc_28 C0 hA hAq hZ hK hP hD hS hl
      · obtain rfl : y = 29 := ey.trans (by decide)
        refine lv_tableIn (x := 29) (off := 1278) (tgt := 1311) hx hb dL_law_33 (by decide) (by decide) (by decide) (by decide) ?_
        exact lc_29 C0 hA hAq hZ hK hP hD hS hl
      · obtain rfl : y = 30 := ey.trans (by decide)
        refine lv_tableIn (x := 30) (off := 1301) (tgt := 1334) hx hb dL_law_33 (by decide) (by decide) (by decide) (by decide) ?_
        exact lc_30 C0 hA hAq hZ hK hP hD hS hl
      · obtain rfl : y = 31 := ey.trans (by decide)
        refine lv_tableIn (x := 31) (off := 1344) (tgt := 1377) hx hb dL_law_33 (by decide) (by decide) (by decide) (by decide) ?_
        exact lc_31 C0 hA hAq hZ hK hP hD hS hl
      · obtain rfl : y = 32 := ey.trans (by decide)
        refine lv_tableIn (x := 32) (off := 1377) (tgt := 1410) hx hb dL_law_33 (by decide) (by decide) (by decide) (by decide) ?_
        exact lc_32 C0 hA hAq hZ hK hP hD hS hl
      · obtain rfl : y = 33 := ey.trans (by decide)
        refine lv_tableIn (x := 33) (off := 1400) (tgt := 1433) hx hb dL_law_33 (by decide) (by decide) (by decide) (by decide) ?_
        exact lc_33 C0 hA hAq hZ hK hP hD hS hl
      · obtain rfl : y = 34 := ey.trans (by decide)
        refine lv_tableIn (x := 34) (off := 1443) (tgt := 1476) hx hb dL_law_33 (by decide) (by decide) (by decide) (by decide) ?_
        exact lc_34 C0 hA hAq hZ hK hP hD hS hl
    · refine lv_tableOut (tgt := 1499) hx hb dL_law_33 (Or.inr (by rw [ey, nI_toInt (by omega)]; omega)) (by decide) ?_
      exact lc_end (Nat.le_of_ble_eq_true rfl) (Nat.le_of_ble_eq_true rfl) C0 hAq hS hl
  · have hlt : Int32.ofNat L - 6 < 0 := by
      rcases (show L = 0 ∨ L = 1 ∨ L = 2 ∨ L = 3 ∨ L = 4 ∨ L = 5 by omega) with rfl | rfl | rfl | rfl | rfl | rfl <;> decide
    refine lv_icmp_gt (tgt := 1505) hx hb dL_law_24 (by decide) (fun _ => ?_) (fun c_1 => absurd hlt c_1)
    exact lc_out (Nat.le_of_ble_eq_true rfl) (Nat.le_of_ble_eq_true rfl) C0 hAq hS
