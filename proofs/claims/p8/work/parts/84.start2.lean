theorem gw_X10_init : wsX10_init.all goodWord = true := by decide +kernel
theorem gw_X11_init : wsX11_init.all goodWord = true := by decide +kernel
theorem iw_L_law_1 : Cond.classLink RL 7 RX10 ∈ wsL_law := (mmI il_L_law_1 0 rfl)
theorem iw_L_law_2 : Cond.instantiable RX10 16 ∈ wsL_law := (mmI il_L_law_1 1 rfl)
theorem iw_L_law_3 : Cond.initialized RX10 ∈ wsL_law := (mmI il_L_law_1 2 rfl)
theorem iw_L_law_4 : Cond.methodLink RL 9 yX10_init ∈ wsL_law := (mmI il_L_law_1 7 rfl)
theorem iw_L_law_5 : Cond.instanceMethod yX10_init ∈ wsL_law := (mmI il_L_law_1 8 rfl)
theorem iw_L_law_6 : Cond.classLink RL 10 RX11 ∈ wsL_law := (mmI il_L_law_1 3 rfl)
theorem iw_L_law_7 : Cond.instantiable RX11 63 ∈ wsL_law := (mmI il_L_law_1 4 rfl)
theorem iw_L_law_8 : Cond.initialized RX11 ∈ wsL_law := (mmI il_L_law_1 5 rfl)
theorem iw_L_law_9 : Cond.methodLink RL 12 yX11_init ∈ wsL_law := (mmI il_L_law_4 20 rfl)
theorem iw_L_law_10 : Cond.instanceMethod yX11_init ∈ wsL_law := (mmI il_L_law_4 21 rfl)
set_option maxRecDepth 100000 in
theorem ggL_law_X10_init : GoodIn wsL_law wsX10_init := goodIn_sub (mmC (mmI il_L_law_1 9 rfl) (mmA (mmA (mmA (mmA (mmA (mmA (mmA (mmC (mmI il_L_law_1 10 rfl) (mmC (mmI il_L_law_1 11 rfl) (mmC (mmI il_L_law_1 12 rfl) (mmC (mmI il_L_law_1 13 rfl) (mmC (mmI il_L_law_1 14 rfl) (mmC (mmI il_L_law_1 15 rfl) (mmC (mmI il_L_law_1 16 rfl) (mmC (mmI il_L_law_1 17 rfl) (mmC (mmI il_L_law_1 18 rfl) (mmC (mmI il_L_law_1 19 rfl) (mmC (mmI il_L_law_1 20 rfl) (mmC (mmI il_L_law_1 21 rfl) (mmC (mmI il_L_law_1 22 rfl) (mmC (mmI il_L_law_1 23 rfl) (mmC (mmI il_L_law_2 0 rfl) (mmC (mmI il_L_law_2 1 rfl) (mmC (mmI il_L_law_2 2 rfl) (mmC (mmI il_L_law_2 3 rfl) (mmC (mmI il_L_law_2 4 rfl) (mmC (mmI il_L_law_2 5 rfl) (mmC (mmI il_L_law_2 6 rfl) (mmC (mmI il_L_law_2 7 rfl) (mmC (mmI il_L_law_2 8 rfl) (mmC (mmI il_L_law_2 9 rfl) mmN)))))))))))))))))))))))) (mmA (mmC (mmI il_L_law_2 10 rfl) (mmC (mmI il_L_law_2 11 rfl) (mmC (mmI il_L_law_2 12 rfl) (mmC (mmI il_L_law_2 13 rfl) (mmC (mmI il_L_law_2 14 rfl) (mmC (mmI il_L_law_2 15 rfl) (mmC (mmI il_L_law_2 16 rfl) (mmC (mmI il_L_law_2 17 rfl) (mmC (mmI il_L_law_2 18 rfl) (mmC (mmI il_L_law_2 19 rfl) (mmC (mmI il_L_law_2 20 rfl) (mmC (mmI il_L_law_2 21 rfl) (mmC (mmI il_L_law_2 22 rfl) (mmC (mmI il_L_law_2 23 rfl) (mmC (mmI il_L_law_3 0 rfl) (mmC (mmI il_L_law_3 1 rfl) (mmC (mmI il_L_law_3 2 rfl) (mmC (mmI il_L_law_3 3 rfl) (mmC (mmI il_L_law_3 4 rfl) (mmC (mmI il_L_law_3 5 rfl) (mmC (mmI il_L_law_3 6 rfl) (mmC (mmI il_L_law_3 7 rfl) (mmC (mmI il_L_law_3 8 rfl) (mmC (mmI il_L_law_3 9 rfl) mmN)))))))))))))))))))))))) (mmA (mmC (mmI il_L_law_3 10 rfl) (mmC (mmI il_L_law_3 11 rfl) (mmC (mmI il_L_law_3 12 rfl) (mmC (mmI il_L_law_3 13 rfl) (mmC (mmI il_L_law_3 14 rfl) (mmC (mmI il_L_law_3 15 rfl) (mmC (mmI il_L_law_3 16 rfl) (mmC (mmI il_L_law_3 17 rfl) (mmC (mmI il_L_law_3 18 rfl) (mmC (mmI il_L_law_3 19 rfl) (mmC (mmI il_L_law_3 20 rfl) (mmC (mmI il_L_law_3 21 rfl) (mmC (mmI il_L_law_3 22 rfl) (mmC (mmI il_L_law_3 23 rfl) (mmC (mmI il_L_law_4 0 rfl) (mmC (mmI il_L_law_4 1 rfl) (mmC (mmI il_L_law_4 2 rfl) (mmC (mmI il_L_law_4 3 rfl) (mmC (mmI il_L_law_4 4 rfl) (mmC (mmI il_L_law_4 5 rfl) (mmC (mmI il_L_law_4 6 rfl) (mmC (mmI il_L_law_4 7 rfl) (mmC (mmI il_L_law_4 8 rfl) (mmC (mmI il_L_law_4 9 rfl) mmN)))))))))))))))))))))))) (mmC (mmI il_L_law_4 10 rfl) (mmC (mmI il_L_law_4 11 rfl) (mmC (mmI il_L_law_4 12 rfl) (mmC (mmI il_L_law_4 13 rfl) (mmC (mmI il_L_law_4 14 rfl) (mmC (mmI il_L_law_4 15 rfl) (mmC (mmI il_L_law_4 16 rfl) (mmC (mmI il_L_law_4 17 rfl) (mmC (mmI il_L_law_4 18 rfl) (mmC (mmI il_L_law_4 19 rfl) mmN))))))))))))) il_L_law_47) il_L_law_49) il_L_law_50) il_L_law_51) il_L_law_52) il_L_law_53)) gw_X10_init
set_option maxRecDepth 20000 in
theorem gL_law_X10_init : GoodIn wsL_law (wsX10_init) := ggL_law_X10_init
set_option maxRecDepth 100000 in
theorem ggL_law_X11_init : GoodIn wsL_law wsX11_init := goodIn_sub (mmC (mmI il_L_law_4 22 rfl) (mmA (mmA (mmC (mmI il_L_law_4 23 rfl) (mmC (mmI il_L_law_1 11 rfl) (mmC (mmI il_L_law_1 12 rfl) (mmC (mmI il_L_law_2 12 rfl) (mmC (mmI il_L_law_5 0 rfl) (mmC (mmI il_L_law_5 1 rfl) (mmC (mmI il_L_law_5 2 rfl) (mmC (mmI il_L_law_5 3 rfl) (mmC (mmI il_L_law_5 4 rfl) (mmC (mmI il_L_law_5 5 rfl) (mmC (mmI il_L_law_5 6 rfl) (mmC (mmI il_L_law_5 7 rfl) (mmC (mmI il_L_law_5 8 rfl) (mmC (mmI il_L_law_5 9 rfl) (mmC (mmI il_L_law_5 10 rfl) (mmC (mmI il_L_law_5 11 rfl) (mmC (mmI il_L_law_5 12 rfl) (mmC (mmI il_L_law_5 13 rfl) (mmC (mmI il_L_law_5 14 rfl) (mmC (mmI il_L_law_5 15 rfl) (mmC (mmI il_L_law_5 16 rfl) (mmC (mmI il_L_law_5 17 rfl) (mmC (mmI il_L_law_5 18 rfl) (mmC (mmI il_L_law_5 19 rfl) mmN)))))))))))))))))))))))) (mmA (mmC (mmI il_L_law_5 20 rfl) (mmC (mmI il_L_law_5 21 rfl) (mmC (mmI il_L_law_5 22 rfl) (mmC (mmI il_L_law_5 23 rfl) (mmC (mmI il_L_law_6 0 rfl) (mmC (mmI il_L_law_6 1 rfl) (mmC (mmI il_L_law_6 2 rfl) (mmC (mmI il_L_law_6 3 rfl) (mmC (mmI il_L_law_6 4 rfl) (mmC (mmI il_L_law_6 5 rfl) (mmC (mmI il_L_law_6 6 rfl) (mmC (mmI il_L_law_6 7 rfl) (mmC (mmI il_L_law_6 8 rfl) (mmC (mmI il_L_law_6 9 rfl) (mmC (mmI il_L_law_6 10 rfl) (mmC (mmI il_L_law_6 11 rfl) (mmC (mmI il_L_law_6 12 rfl) (mmC (mmI il_L_law_6 13 rfl) (mmC (mmI il_L_law_6 14 rfl) (mmC (mmI il_L_law_6 15 rfl) (mmC (mmI il_L_law_6 16 rfl) (mmC (mmI il_L_law_6 17 rfl) (mmC (mmI il_L_law_6 18 rfl) (mmC (mmI il_L_law_6 19 rfl) mmN)))))))))))))))))))))))) (mmC (mmI il_L_law_6 20 rfl) (mmC (mmI il_L_law_6 21 rfl) (mmC (mmI il_L_law_6 22 rfl) (mmC (mmI il_L_law_6 23 rfl) mmN)))))) il_L_law_48)) gw_X11_init
set_option maxRecDepth 20000 in
theorem gL_law_X11_init : GoodIn wsL_law (wsX11_init) := ggL_law_X11_init
theorem dL_law_0 : decode cL_law 0 = .ok (.new 7, 3) := by decide +kernel
theorem dL_law_3 : decode cL_law 3 = .ok (.dup, 1) := by decide +kernel
theorem dL_law_4 : decode cL_law 4 = .ok (.invokespecial 9, 3) := by decide +kernel
theorem dL_law_7 : decode cL_law 7 = .ok (.astore_n 1, 1) := by decide +kernel
theorem dL_law_8 : decode cL_law 8 = .ok (.new 10, 3) := by decide +kernel
theorem dL_law_11 : decode cL_law 11 = .ok (.dup, 1) := by decide +kernel
theorem dL_law_12 : decode cL_law 12 = .ok (.invokespecial 12, 3) := by decide +kernel
theorem dL_law_15 : decode cL_law 15 = .ok (.astore_n 2, 1) := by decide +kernel
theorem dL_law_16 : decode cL_law 16 = .ok (.iconst 0, 1) := by decide +kernel
theorem dL_law_17 : decode cL_law 17 = .ok (.istore_n 3, 1) := by decide +kernel


set_option maxHeartbeats 8000000 in
set_option maxRecDepth 100000 in
/-- THE LAW, from its entry -/
theorem whole_start {p : Program} {e : Env} {s : State} {m : MethodId} {below : List Frame} {meth : Method} {c : Code} (l : Launch) {b L : Nat} {xs : Nat → Int32} (hL : L ≤ 3072) (C0 : lw_At p s m meth c b L xs) : W p l e room_1 s m #[Value.ref b] below meth c s.heap [] 0 0 (lw_Z below #[Value.ref b] s) (entryFrame m ([Value.ref b] : List Value).toArray 4) := by
  obtain ⟨hx, hb, hr, hml, hown, hts0, hX, hbl, hlocks, hgv⟩ := id C0
  obtain ⟨A, hAe⟩ : ∃ A : Nat → Prop, A = fun q => s.heap.size ≤ q := ⟨_, rfl⟩
  have hA : ∀ q : Nat, s.heap.size ≤ q → A q := fun q h => by rw [hAe]; exact h
  have hAq : ∀ q, A q → s.heap.size ≤ q := fun q h => by rw [hAe] at h; exact h
  have hbA : ¬ A b := fun h => Nat.not_le.mpr hbl (hAq b h)
  obtain ⟨tL, tS, tG, hZ⟩ := st_ofO (A := A) hts0 hgv (fun a h h2 => absurd (hAq a h2) (Nat.not_le.mpr h))
  obtain ⟨dC, dI, hKc⟩ := kn_of hts0
  obtain ⟨k0, f0, g_0⟩ := ac_of (hts0 (.arrayClass .int) (by decide +kernel))
  obtain ⟨k1, f1, g_1⟩ := ac_of (hts0 (.arrayClass .long) (by decide +kernel))
  obtain ⟨k2, f2, g_2⟩ := ao_of (va_AO.of (hts0 (.arrayOver (.object "ShipOffice$Act")) (by decide +kernel)))
  obtain ⟨k3, f3, g_3⟩ := ao_of (va_AO.of (hts0 (.arrayOver (.object "ShipOffice$Man")) (by decide +kernel)))
  obtain ⟨k4, f4, g_4⟩ := ao_of (va_AO.of (hts0 (.arrayOver (.object "ShipOffice$Voyage")) (by decide +kernel)))
  obtain ⟨k5, f5, g_5⟩ := ao_of (va_AO.of (hts0 (.arrayOver (.object "ShipOffice$Agreement")) (by decide +kernel)))
  obtain ⟨k6, f6, g_6⟩ := ao_of (va_AO.of (hts0 (.arrayOver (.object "ShipOffice$Fine")) (by decide +kernel)))
  obtain ⟨cq, rfl, rfl, rfl, rfl, rfl, rfl, rfl⟩ : ∃ cq : Nat → ClassId, cq 0 = k0 ∧ cq 1 = k1 ∧ cq 2 = k2 ∧ cq 3 = k3 ∧ cq 4 = k4 ∧ cq 5 = k5 ∧ cq 6 = k6 := ⟨fun i => if i = 0 then k0 else if i = 1 then k1 else if i = 2 then k2 else if i = 3 then k3 else if i = 4 then k4 else if i = 5 then k5 else k6, rfl, rfl, rfl, rfl, rfl, rfl, rfl⟩
  have hKo : va_K (dC, dI) vwCl (oT cq) s := by
    refine ⟨hKc, fun k q h => ?_⟩
    match k, h with
    | 0, h => cases h; exact ⟨f0, g_0⟩
    | 1, h => cases h; exact ⟨f1, g_1⟩
    | 2, h => cases h; exact ⟨f2, g_2⟩
    | 3, h => cases h; exact ⟨f3, g_3⟩
    | 4, h => cases h; exact ⟨f4, g_4⟩
    | 5, h => cases h; exact ⟨f5, g_5⟩
    | 6, h => cases h; exact ⟨f6, g_6⟩
    | k + 7, h => simp [oT] at h
  have hS : va_S A s.heap s.heap [] := va_S.rf
  have hP : va_P (dC, dI) vwCl (oW cq oS0) s.heap := fun k q h => by simp [oW, va_pl, oL, oS0] at h
  have hD : va_D A (oW cq oS0) := ⟨fun i j p q h => by simp [oW, va_pl, oL, oS0] at h, fun k q h => by simp [oW, va_pl, oL, oS0] at h⟩
  have hts := fun w h => hts0 w (wsL_law_in w h)
  have hown : s.vm.findClass RL = some m.cls := hown
  have hl := lv_entry ([.ref b]) (n := 4) (Nat.le_of_ble_eq_true rfl)
  rw [lg_entry_eq]
  generalize (lg_sl ([.ref b]) ++ List.replicate (4 - (lg_sl ([.ref b])).length) Slot.unset).toArray = ls at hl ⊢
  have hl : lv_has ls 4 [(0, .ref b)] := hl
  refine va_new (ci := 10) (fs := [.int 0, .null, .int 0, .null, .int 0, .null, .int 0, .int 0, .null, .null, .null, .null, .null, .null, .int 0, .null]) (C := RX10) (T := TX10) (N := 16) hx hb hts inlX10 tyX10 tyX10_ok hown (hts (.classLink RL 7 RX10) iw_L_law_1) (hts (.instantiable RX10 16) iw_L_law_2) (hts (.initialized RX10) iw_L_law_3) hKo hP hD hS hA rfl (fun j hj => by rcases (show j = 0 ∨ j = 1 ∨ j = 2 ∨ j = 3 ∨ j = 4 ∨ j = 5 ∨ j = 6 ∨ j = 7 ∨ j = 8 ∨ j = 9 ∨ j = 10 ∨ j = 11 ∨ j = 12 ∨ j = 13 ∨ j = 14 ∨ j = 15 by omega) with rfl | rfl | rfl | rfl | rfl | rfl | rfl | rfl | rfl | rfl | rfl | rfl | rfl | rfl | rfl | rfl <;> rfl) (Nat.le_of_ble_eq_true rfl) (Nat.le_of_ble_eq_true rfl) dL_law_0 (fun h0 H hP1 hD1 hS => ?_)
  have hn0 := add_q hD1
  obtain ⟨S1, eS1⟩ : ∃ zq, zq = addO oS0 h0 40 := ⟨_, rfl⟩
  have hP : va_P (dC, dI) vwCl (oW cq S1) H := by rw [eS1]; exact cP (onew hD1 (by rw [oE_40 add_K, add_I, add_P]; rfl)) hP1
  have hD : va_D A (oW cq S1) := by rw [eS1]; exact cD (onew hD1 (by rw [oE_40 add_K, add_I, add_P]; rfl)) hD1
  clear hP1 hD1
  have hI1 : oInv S1 := by rw [eS1]; exact oInv.add oI_S0 hn0 (by decide +kernel)
  have t1 : oty S1 h0 40 := by rw [eS1]; exact add_ty
  have hz : ∀ j, oI S1 h0 j = 0 := fun j => by rw [eS1, add_I]
  refine lv_dup hx hb dL_law_3 rfl ?_
  have hFc := o_free hD hS hA
  refine va_callv (va_runI (As := []) (rest := [.ref h0]) ⟨hx, hb, hml, hown, hts⟩ (c_X10_init_g l dC dI H.size tL tS tG cq S1 hI1 h0 t1 hz) (cwI 0 hts gL_law_X10_init rfl rfl rfl (hts (.initialized RX10) iw_L_law_3) (hts (.methodLink RL 9 yX10_init) iw_L_law_4) (hts (.instanceMethod yX10_init) iw_L_law_5) rfl (by decide +kernel) ⟨(Nat.le_of_ble_eq_true rfl), (Nat.le_of_ble_eq_true rfl)⟩) (pr_SO hP hKo hD (hZ.go hS hFc)) rfl rfl hl.1 rfl (lv_room (Nat.le_of_ble_eq_true rfl)) dL_law_4 ⟨(Nat.le_of_ble_eq_true rfl), (Nat.le_of_ble_eq_true rfl)⟩) hS (fun q _ h => hFc q h) hFc (fun u t H locs ht hvm w_0 hB hz1 hk1 hS => ?_)
  obtain ⟨S, rfl⟩ : ∃ z, z = u := ⟨_, rfl⟩
  obtain ⟨hP1, hK1, hD1⟩ := hB
  rw [ht] at hP1
  have hP : va_P (dC, dI) vwCl (oW cq S) H := hP1
  have hD : va_D A (oW cq S) := hD1.weaken (fun _ _ _ h => hFc _ h)
  obtain ⟨hI, -, to, ⟨hd0, hd2, hd4, hd6, hd7, hd14⟩, hd_s, hd_t, hd_l, hd_r⟩ := w_0
  clear hP1 hK1 hD1 hk1 hz1 hvm ht hFc
  refine W.widen (k := 40) (n := 917) (Nat.le_of_ble_eq_true rfl) (Nat.le_of_ble_eq_true rfl) ?_
  refine lv_astore_n (lv' := [(1, .ref h0), (0, .ref b)]) hx hb dL_law_7 rfl hl (by decide +kernel) rfl (fun ls hl => ?_)
  refine va_new (ci := 11) (fs := [.null, .null, .null, .null, .null, .null, .null, .null, .null, .null, .null, .null, .null, .null, .null, .null, .null, .null, .null, .null, .null, .null, .null, .null, .null, .null, .null, .null, .null, .null, .null, .null, .null, .null, .null, .null, .null, .null, .int 0, .int 0, .int 0, .int 0, .int 0, .int 0, .null, .null, .int 0, .int 0, .int 0, .int 0, .int 0, .int 0, .null, .null, .null, .null, .null, .null, .int 0, .int 0, .int 0, .null, .int 0]) (C := RX11) (T := TX11) (N := 63) hx hb hts inlX11 tyX11 tyX11_ok hown (hts (.classLink RL 10 RX11) iw_L_law_6) (hts (.instantiable RX11 63) iw_L_law_7) (hts (.initialized RX11) iw_L_law_8) hKo hP hD hS hA rfl (fun j hj => by rcases (show j = 0 ∨ j = 1 ∨ j = 2 ∨ j = 3 ∨ j = 4 ∨ j = 5 ∨ j = 6 ∨ j = 7 ∨ j = 8 ∨ j = 9 ∨ j = 10 ∨ j = 11 ∨ j = 12 ∨ j = 13 ∨ j = 14 ∨ j = 15 ∨ j = 16 ∨ j = 17 ∨ j = 18 ∨ j = 19 ∨ j = 20 ∨ j = 21 ∨ j = 22 ∨ j = 23 ∨ j = 24 ∨ j = 25 ∨ j = 26 ∨ j = 27 ∨ j = 28 ∨ j = 29 ∨ j = 30 ∨ j = 31 ∨ j = 32 ∨ j = 33 ∨ j = 34 ∨ j = 35 ∨ j = 36 ∨ j = 37 ∨ j = 38 ∨ j = 39 ∨ j = 40 ∨ j = 41 ∨ j = 42 ∨ j = 43 ∨ j = 44 ∨ j = 45 ∨ j = 46 ∨ j = 47 ∨ j = 48 ∨ j = 49 ∨ j = 50 ∨ j = 51 ∨ j = 52 ∨ j = 53 ∨ j = 54 ∨ j = 55 ∨ j = 56 ∨ j = 57 ∨ j = 58 ∨ j = 59 ∨ j = 60 ∨ j = 61 ∨ j = 62 by omega) with rfl | rfl | rfl | rfl | rfl | rfl | rfl | rfl | rfl | rfl | rfl | rfl | rfl | rfl | rfl | rfl | rfl | rfl | rfl | rfl | rfl | rfl | rfl | rfl | rfl | rfl | rfl | rfl | rfl | rfl | rfl | rfl | rfl | rfl | rfl | rfl | rfl | rfl | rfl | rfl | rfl | rfl | rfl | rfl | rfl | rfl | rfl | rfl | rfl | rfl | rfl | rfl | rfl | rfl | rfl | rfl | rfl | rfl | rfl | rfl | rfl | rfl | rfl <;> rfl) (Nat.le_of_ble_eq_true rfl) (Nat.le_of_ble_eq_true rfl) dL_law_8 (fun g0 H hP1 hD1 hS => ?_)
  have hg : g0 ∉ oL S := add_q hD1
  have hPo := vP_l hP1
  have hPm := vP_r hP1
  have hDm := vD_r hD1
  refine lv_dup hx hb dL_law_11 rfl ?_
  have hFc := o_free hDm hS hA
  refine va_callv (va_runI (As := []) (rest := [.ref g0]) ⟨hx, hb, hml, hown, hts⟩ (c_X11_init l dC dI H.size g0) (cwI 0 hts gL_law_X11_init rfl rfl rfl (hts (.initialized RX11) iw_L_law_8) (hts (.methodLink RL 12 yX11_init) iw_L_law_9) (hts (.instanceMethod yX11_init) iw_L_law_10) rfl (by decide +kernel) ⟨(Nat.le_of_ble_eq_true rfl), (Nat.le_of_ble_eq_true rfl)⟩) (pr_S hPm (hKo.sub (tys' := []) [] rfl) hDm) rfl rfl hl.1 rfl (lv_room (Nat.le_of_ble_eq_true rfl)) dL_law_12 ⟨(Nat.le_of_ble_eq_true rfl), (Nat.le_of_ble_eq_true rfl)⟩) hS (fun q _ h => hFc q h) hFc (fun u t H locs ht hvm w_1 hB hz1 hk1 hS => ?_)
  obtain ⟨pq, cp⟩ := u
  obtain ⟨hP2, hK2, hD2⟩ := hB
  rw [ht] at hP2
  dsimp only at hP2 hK2 hD2
  have hKm := va_K.moved hvm.symm hK2
  have hH := lwH_st hPo hD hg hFc hk1 hP2 hD2
  refine W.widen (k := 88) (n := 9083) (Nat.le_of_ble_eq_true rfl) (Nat.le_of_ble_eq_true rfl) ?_
  refine lv_astore_n (lv' := [(2, .ref g0), (1, .ref h0), (0, .ref b)]) hx hb dL_law_15 rfl hl (by decide +kernel) rfl (fun ls hl => ?_)
  refine lv_iconst (v := 0) hx hb dL_law_16 (by decide +kernel) ?_
  refine lv_istore_n (lv' := [(3, .int 0), (2, .ref g0), (1, .ref h0), (0, .ref b)]) hx hb dL_law_17 rfl hl (by decide +kernel) rfl (fun ls hl => ?_)
  exact law_loop C0 hL hA hAq hZ hKo hKm 513 0 S _ _ H locs ls (by decide +kernel) (by decide +kernel) ⟨hI, to, mV_0, mA_0, RC_start mV_0 mA_0 hI to hd0 hd2 hd4 hd6 hd7 hd_t hd_l⟩ hH hS hl
