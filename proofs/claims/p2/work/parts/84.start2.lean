set_option maxRecDepth 20000 in
theorem ggL_law_X10_init : GoodIn wsL_law wsX10_init := gp_c (goodIn_r _ [9] (by decide +kernel) (by decide +kernel)) (goodIn_app (goodIn_app (goodIn_app (goodIn_app (goodIn_app (goodIn_app (goodIn_app (goodIn_r wsX10_init_r1 [10, 11, 12, 13, 14, 15, 16, 17, 18, 19, 20, 21, 22, 23, 24, 25, 26, 27, 28, 29, 30, 31, 32, 33] (by decide +kernel) (by decide +kernel)) (goodIn_app (goodIn_r wsX10_init_r2 [34, 35, 36, 37, 38, 39, 40, 41, 42, 43, 44, 45, 46, 47, 48, 49, 50, 51, 52, 53, 54, 55, 56, 57] (by decide +kernel) (by decide +kernel)) (goodIn_app (goodIn_r wsX10_init_r3 [58, 59, 60, 61, 62, 63, 64, 65, 66, 67, 68, 69, 70, 71, 72, 73, 74, 75, 76, 77, 78, 79, 80, 81] (by decide +kernel) (by decide +kernel)) (goodIn_r wsX10_init_r4 [82, 83, 84, 85, 86, 87, 88, 89, 90, 91] (by decide +kernel) (by decide +kernel))))) gpX10) gpX5) gpX8) gpX7) gpX4) gpX0)
set_option maxRecDepth 20000 in
theorem gL_law_X10_init : GoodIn wsL_law (wsX10_init) := ggL_law_X10_init
set_option maxRecDepth 20000 in
theorem ggL_law_X11_init : GoodIn wsL_law wsX11_init := gp_c (goodIn_r _ [94] (by decide +kernel) (by decide +kernel)) (goodIn_app (goodIn_app (goodIn_r wsX11_init_r1 [95, 11, 12, 36, 96, 97, 98, 99, 100, 101, 102, 103, 104, 105, 106, 107, 108, 109, 110, 111, 112, 113, 114, 115] (by decide +kernel) (by decide +kernel)) (goodIn_app (goodIn_r wsX11_init_r2 [116, 117, 118, 119, 120, 121, 122, 123, 124, 125, 126, 127, 128, 129, 130, 131, 132, 133, 134, 135, 136, 137, 138, 139] (by decide +kernel) (by decide +kernel)) (goodIn_r wsX11_init_r3 [140, 141, 142, 143] (by decide +kernel) (by decide +kernel)))) gpX11)
set_option maxRecDepth 20000 in
theorem gL_law_X11_init : GoodIn wsL_law (wsX11_init) := ggL_law_X11_init
theorem dL_law_0 : decode cL_law 0 = .ok (.new 7, 3) := by decide +kernel
theorem dL_law_3 : decode cL_law 3 = .ok (.dup, 1) := by decide +kernel
theorem dL_law_4 : decode cL_law 4 = .ok (.invokespecial 9, 3) := by decide +kernel
theorem dL_law_7 : decode cL_law 7 = .ok (.astore_n 1, 1) := by decide +kernel
theorem dL_law_8 : decode cL_law 8 = .ok (.new 10, 3) := by decide +kernel
theorem dL_law_11 : decode cL_law 11 = .ok (.dup, 1) := by decide +kernel
theorem dL_law_12 : decode cL_law 12 = .ok (.invokespecial 12, 3) := by decide +kernel
theorem dL_law_15 : decode cL_law 15 = .ok (.astore_n 2, 1) := by decide +kernel
theorem dL_law_16 : decode cL_law 16 = .ok (.iconst 0, 1) := by decide +kernel
theorem dL_law_17 : decode cL_law 17 = .ok (.istore_n 3, 1) := by decide +kernel

set_option maxHeartbeats 8000000 in
set_option maxRecDepth 100000 in
/-- THE LAW, from its entry -/
theorem whole_start {p : Program} {e : Env} {s : State} {m : MethodId} {below : List Frame} {meth : Method} {c : Code} (l : Launch) {b L : Nat} {xs : Nat → Int32} (hL : L ≤ 3072) (C0 : lw_At p s m meth c b L xs) : W p l e room_1 s m #[Value.ref b] below meth c s.heap [] 0 0 (lw_Z below #[Value.ref b] s) (entryFrame m ([Value.ref b] : List Value).toArray 4) := by
  obtain ⟨hx, hb, hr, hml, hown, hts0, hX, hbl, hlocks, hgv⟩ := id C0
  obtain ⟨A, hAe⟩ : ∃ A : Nat → Prop, A = fun q => s.heap.size ≤ q := ⟨_, rfl⟩
  have hA : ∀ q : Nat, s.heap.size ≤ q → A q := fun q h => by rw [hAe]; exact h
  have hAq : ∀ q, A q → s.heap.size ≤ q := fun q h => by rw [hAe] at h; exact h
  have hbA : ¬ A b := fun h => Nat.not_le.mpr hbl (hAq b h)
  obtain ⟨tL, tS, tG, hZ⟩ := st_ofO (A := A) hts0 hgv (fun a h h2 => absurd (hAq a h2) (Nat.not_le.mpr h))
  obtain ⟨dC, dI, hKc⟩ := kn_of hts0
  obtain ⟨k0, f0, g_0⟩ := ac_of (hts0 (.arrayClass .int) (by decide +kernel))
  obtain ⟨k1, f1, g_1⟩ := ac_of (hts0 (.arrayClass .long) (by decide +kernel))
  obtain ⟨k2, f2, g_2⟩ := ao_of (va_AO.of (hts0 (.arrayOver (.object "ShipOffice$Act")) (by decide +kernel)))
  obtain ⟨k3, f3, g_3⟩ := ao_of (va_AO.of (hts0 (.arrayOver (.object "ShipOffice$Man")) (by decide +kernel)))
  obtain ⟨k4, f4, g_4⟩ := ao_of (va_AO.of (hts0 (.arrayOver (.object "ShipOffice$Voyage")) (by decide +kernel)))
  obtain ⟨k5, f5, g_5⟩ := ao_of (va_AO.of (hts0 (.arrayOver (.object "ShipOffice$Agreement")) (by decide +kernel)))
  obtain ⟨k6, f6, g_6⟩ := ao_of (va_AO.of (hts0 (.arrayOver (.object "ShipOffice$Fine")) (by decide +kernel)))
  obtain ⟨cq, rfl, rfl, rfl, rfl, rfl, rfl, rfl⟩ : ∃ cq : Nat → ClassId, cq 0 = k0 ∧ cq 1 = k1 ∧ cq 2 = k2 ∧ cq 3 = k3 ∧ cq 4 = k4 ∧ cq 5 = k5 ∧ cq 6 = k6 := ⟨fun i => if i = 0 then k0 else if i = 1 then k1 else if i = 2 then k2 else if i = 3 then k3 else if i = 4 then k4 else if i = 5 then k5 else k6, rfl, rfl, rfl, rfl, rfl, rfl, rfl⟩
  have hKo : va_K (dC, dI) vwCl (oT cq) s := by
    refine ⟨hKc, fun k q h => ?_⟩
    match k, h with
    | 0, h => cases h; exact ⟨f0, g_0⟩
    | 1, h => cases h; exact ⟨f1, g_1⟩
    | 2, h => cases h; exact ⟨f2, g_2⟩
    | 3, h => cases h; exact ⟨f3, g_3⟩
    | 4, h => cases h; exact ⟨f4, g_4⟩
    | 5, h => cases h; exact ⟨f5, g_5⟩
    | 6, h => cases h; exact ⟨f6, g_6⟩
    | k + 7, h => simp [oT] at h
  have hS : va_S A s.heap s.heap [] := va_S.rf
  have hP : va_P (dC, dI) vwCl (oW cq oS0) s.heap := fun k q h => by simp [oW, va_pl, oL, oS0] at h
  have hD : va_D A (oW cq oS0) := ⟨fun i j p q h => by simp [oW, va_pl, oL, oS0] at h, fun k q h => by simp [oW, va_pl, oL, oS0] at h⟩
  have hts := fun w h => hts0 w (wsL_law_in w h)
  have hown : s.vm.findClass RL = some m.cls := hown
  have hl := lv_entry ([.ref b]) (n := 4) (Nat.le_of_ble_eq_true rfl)
  rw [lg_entry_eq]
  generalize (lg_sl ([.ref b]) ++ List.replicate (4 - (lg_sl ([.ref b])).length) Slot.unset).toArray = ls at hl ⊢
  have hl : lv_has ls 4 [(0, .ref b)] := hl
  refine va_new (ci := 10) (fs := [.int 0, .null, .int 0, .null, .int 0, .null, .int 0, .int 0, .null, .null, .null, .null, .null, .null, .int 0, .null]) (C := RX10) (T := TX10) (N := 16) hx hb hts inlX10 tyX10 tyX10_ok hown (hts (.classLink RL 7 RX10) (by decide +kernel)) (hts (.instantiable RX10 16) (by decide +kernel)) (hts (.initialized RX10) (by decide +kernel)) hKo hP hD hS hA rfl (fun j hj => by rcases (show j = 0 ∨ j = 1 ∨ j = 2 ∨ j = 3 ∨ j = 4 ∨ j = 5 ∨ j = 6 ∨ j = 7 ∨ j = 8 ∨ j = 9 ∨ j = 10 ∨ j = 11 ∨ j = 12 ∨ j = 13 ∨ j = 14 ∨ j = 15 by omega) with rfl | rfl | rfl | rfl | rfl | rfl | rfl | rfl | rfl | rfl | rfl | rfl | rfl | rfl | rfl | rfl <;> rfl) (Nat.le_of_ble_eq_true rfl) (Nat.le_of_ble_eq_true rfl) dL_law_0 (fun h0 H hP1 hD1 hS => ?_)
  have hn0 := add_q hD1
  obtain ⟨S1, eS1⟩ : ∃ zq, zq = addO oS0 h0 40 := ⟨_, rfl⟩
  have hP : va_P (dC, dI) vwCl (oW cq S1) H := by rw [eS1]; exact cP (onew hD1 (by rw [oE_40 add_K, add_I, add_P]; rfl)) hP1
  have hD : va_D A (oW cq S1) := by rw [eS1]; exact cD (onew hD1 (by rw [oE_40 add_K, add_I, add_P]; rfl)) hD1
  clear hP1 hD1
  have hI1 : oInv S1 := by rw [eS1]; exact oInv.add oI_S0 hn0 (by decide)
  have t1 : oty S1 h0 40 := by rw [eS1]; exact add_ty
  have hz : ∀ j, oI S1 h0 j = 0 := fun j => by rw [eS1, add_I]
  refine lv_dup hx hb dL_law_3 rfl ?_
  have hFc := o_free hD hS hA
  refine va_callv (va_runI (As := []) (rest := [.ref h0]) ⟨hx, hb, hml, hown, hts⟩ (c_X10_init l dC dI H.size tL tS tG cq S1 hI1 h0 t1 hz) (cwI 0 hts gL_law_X10_init rfl rfl rfl (hts (.initialized RX10) (by decide +kernel)) (hts (.methodLink RL 9 yX10_init) (by decide +kernel)) (hts (.instanceMethod yX10_init) (by decide +kernel)) rfl (by decide +kernel) ⟨(Nat.le_of_ble_eq_true rfl), (Nat.le_of_ble_eq_true rfl)⟩) (pr_SO hP hKo hD (hZ.go hS hFc)) rfl rfl hl.1 rfl (lv_room (Nat.le_of_ble_eq_true rfl)) dL_law_4 ⟨(Nat.le_of_ble_eq_true rfl), (Nat.le_of_ble_eq_true rfl)⟩) hS (fun q _ h => hFc q h) hFc (fun u t H locs ht hvm w_0 hB hz1 hk1 hS => ?_)
  obtain ⟨S, rfl⟩ : ∃ z, z = u := ⟨_, rfl⟩
  obtain ⟨hP1, hK1, hD1⟩ := hB
  rw [ht] at hP1
  have hP : va_P (dC, dI) vwCl (oW cq S) H := hP1
  have hD : va_D A (oW cq S) := hD1.weaken (fun _ _ _ h => hFc _ h)
  obtain ⟨hI, -, to, hd0⟩ := w_0
  clear hP1 hK1 hD1 hk1 hz1 hvm ht hFc
  refine W.widen (k := 40) (n := 917) (Nat.le_of_ble_eq_true rfl) (Nat.le_of_ble_eq_true rfl) ?_
  refine lv_astore_n (lv' := [(1, .ref h0), (0, .ref b)]) hx hb dL_law_7 rfl hl (by decide) rfl (fun ls hl => ?_)
  refine va_new (ci := 11) (fs := [.null, .null, .null, .null, .null, .null, .null, .null, .null, .null, .null, .null, .null, .null, .null, .null, .null, .null, .null, .null, .null, .null, .null, .null, .null, .null, .null, .null, .null, .null, .null, .null, .null, .null, .null, .null, .null, .null, .int 0, .int 0, .int 0, .int 0, .int 0, .int 0, .null, .null, .int 0, .int 0, .int 0, .int 0, .int 0, .int 0, .null, .null, .null, .null, .null, .null, .int 0, .int 0, .int 0, .null, .int 0]) (C := RX11) (T := TX11) (N := 63) hx hb hts inlX11 tyX11 tyX11_ok hown (hts (.classLink RL 10 RX11) (by decide +kernel)) (hts (.instantiable RX11 63) (by decide +kernel)) (hts (.initialized RX11) (by decide +kernel)) hKo hP hD hS hA rfl (fun j hj => by rcases (show j = 0 ∨ j = 1 ∨ j = 2 ∨ j = 3 ∨ j = 4 ∨ j = 5 ∨ j = 6 ∨ j = 7 ∨ j = 8 ∨ j = 9 ∨ j = 10 ∨ j = 11 ∨ j = 12 ∨ j = 13 ∨ j = 14 ∨ j = 15 ∨ j = 16 ∨ j = 17 ∨ j = 18 ∨ j = 19 ∨ j = 20 ∨ j = 21 ∨ j = 22 ∨ j = 23 ∨ j = 24 ∨ j = 25 ∨ j = 26 ∨ j = 27 ∨ j = 28 ∨ j = 29 ∨ j = 30 ∨ j = 31 ∨ j = 32 ∨ j = 33 ∨ j = 34 ∨ j = 35 ∨ j = 36 ∨ j = 37 ∨ j = 38 ∨ j = 39 ∨ j = 40 ∨ j = 41 ∨ j = 42 ∨ j = 43 ∨ j = 44 ∨ j = 45 ∨ j = 46 ∨ j = 47 ∨ j = 48 ∨ j = 49 ∨ j = 50 ∨ j = 51 ∨ j = 52 ∨ j = 53 ∨ j = 54 ∨ j = 55 ∨ j = 56 ∨ j = 57 ∨ j = 58 ∨ j = 59 ∨ j = 60 ∨ j = 61 ∨ j = 62 by omega) with rfl | rfl | rfl | rfl | rfl | rfl | rfl | rfl | rfl | rfl | rfl | rfl | rfl | rfl | rfl | rfl | rfl | rfl | rfl | rfl | rfl | rfl | rfl | rfl | rfl | rfl | rfl | rfl | rfl | rfl | rfl | rfl | rfl | rfl | rfl | rfl | rfl | rfl | rfl | rfl | rfl | rfl | rfl | rfl | rfl | rfl | rfl | rfl | rfl | rfl | rfl | rfl | rfl | rfl | rfl | rfl | rfl | rfl | rfl | rfl | rfl | rfl | rfl <;> rfl) (Nat.le_of_ble_eq_true rfl) (Nat.le_of_ble_eq_true rfl) dL_law_8 (fun g0 H hP1 hD1 hS => ?_)
  have hg : g0 ∉ oL S := add_q hD1
  have hPo := vP_l hP1
  have hPm := vP_r hP1
  have hDm := vD_r hD1
  refine lv_dup hx hb dL_law_11 rfl ?_
  have hFc := o_free hDm hS hA
  refine va_callv (va_runI (As := []) (rest := [.ref g0]) ⟨hx, hb, hml, hown, hts⟩ (c_X11_init l dC dI H.size g0) (cwI 0 hts gL_law_X11_init rfl rfl rfl (hts (.initialized RX11) (by decide +kernel)) (hts (.methodLink RL 12 yX11_init) (by decide +kernel)) (hts (.instanceMethod yX11_init) (by decide +kernel)) rfl (by decide +kernel) ⟨(Nat.le_of_ble_eq_true rfl), (Nat.le_of_ble_eq_true rfl)⟩) (pr_S hPm (hKo.sub (tys' := []) [] rfl) hDm) rfl rfl hl.1 rfl (lv_room (Nat.le_of_ble_eq_true rfl)) dL_law_12 ⟨(Nat.le_of_ble_eq_true rfl), (Nat.le_of_ble_eq_true rfl)⟩) hS (fun q _ h => hFc q h) hFc (fun u t H locs ht hvm w_1 hB hz1 hk1 hS => ?_)
  obtain ⟨pq, cp⟩ := u
  obtain ⟨hP2, hK2, hD2⟩ := hB
  rw [ht] at hP2
  dsimp only at hP2 hK2 hD2
  have hKm := va_K.moved hvm.symm hK2
  have hH := lwH_st hPo hD hg hFc hk1 hP2 hD2
  refine W.widen (k := 88) (n := 9083) (Nat.le_of_ble_eq_true rfl) (Nat.le_of_ble_eq_true rfl) ?_
  refine lv_astore_n (lv' := [(2, .ref g0), (1, .ref h0), (0, .ref b)]) hx hb dL_law_15 rfl hl (by decide) rfl (fun ls hl => ?_)
  refine lv_iconst (v := 0) hx hb dL_law_16 (by decide) ?_
  refine lv_istore_n (lv' := [(3, .int 0), (2, .ref g0), (1, .ref h0), (0, .ref b)]) hx hb dL_law_17 rfl hl (by decide) rfl (fun ls hl => ?_)
  exact law_loop C0 hL hA hAq hZ hKo hKm 513 0 S _ _ H locs ls (by decide) (by decide) ⟨hI, to, mV_0, mA_0, by rw [hd0]⟩ hH hS hl
