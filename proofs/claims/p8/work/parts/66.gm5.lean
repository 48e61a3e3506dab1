


set_option maxHeartbeats 4000000 in
set_option maxRecDepth 100000 in
theorem c_X11_days_b (l : Launch) (dC : Nat → ClassId) (dI : Nat → Nat → Nat) (sz : Nat) (g0 : Nat) (pq : Nat → Nat) (cp : Nat → ClassId) (v : Nat → Int32) (fa : Nat → Nat → Int32) (gV : mV v) (gA : mA fa) (x1 : Int32) : Met l yX11_days wsX11_days ({ frames := 1, cells := 0, slots := 0, locals := 21 }) (va_Pc [.ref g0, .int x1] (pcW (dC, dI) (mT cp) (mW g0 pq cp v fa) sz)) (va_Qi (fun (r : Int32) (u : (Nat → Int32) × (Nat → Nat → Int32)) => mV u.1 ∧ mA u.2 ∧ mX [0, 38] v fa u.1 u.2 ∧ (odays (v 38).toInt x1.toInt r.toInt (u.1 38).toInt)) (fun u t => va_P (dC, dI) vwCl (mW g0 pq cp u.1 u.2) t.heap ∧ va_K (dC, dI) vwCl (mT cp) t ∧ va_D (va_A (mW g0 pq cp v fa) sz) (mW g0 pq cp u.1 u.2)) (va_A (mW g0 pq cp v fa) sz)) 0 0 (va_A (mW g0 pq cp v fa) sz) := by
  refine Met.ofW (cc := cX11_days) (maxL := 2) (ret := (some .int)) (by decide +kernel) rfl ?_
  intro p e s m args below meth c s₁ B hml hv
  obtain ⟨rfl, hsz, hP, hK, hD0⟩ := hv
  have hx := B.exec
  have hb := B.bytes
  have hr := B.returns
  have hts := atoms_spec (ws := wsX11_days) B.pre
  have hown : s.vm.findClass RX11 = some m.cls := findClass_of_methodNamed B.named
  have hlocks := B.notSynchronized
  subst hsz
  have hD := hD0.self (sz := s.heap.size)
  generalize hAe : va_A (mW g0 pq cp v fa) s.heap.size = A at hD ⊢
  have hA : ∀ q : Nat, s.heap.size ≤ q → A q := fun q h => by rw [← hAe]; exact Or.inr h
  have hS : va_S A s.heap s.heap [] := va_S.rf
  have hP : va_P (dC, dI) vwCl (mW g0 pq cp v fa) s.heap := hP
  have hl := lv_entry ([.ref g0, .int x1]) (n := 2) (Nat.le_of_ble_eq_true rfl)
  rw [lg_entry_eq]
  generalize (lg_sl ([.ref g0, .int x1]) ++ List.replicate (2 - (lg_sl ([.ref g0, .int x1])).length) Slot.unset).toArray = ls at hl ⊢
  have hl : lv_has ls 2 [(0, .ref g0), (1, .int x1)] := hl
  refine lv_iload_n hx hb dX11_days_0 rfl (lv_at hl 1 rfl) ?_
  refine lv_iconst (v := 1) hx hb dX11_days_1 (by decide +kernel) ?_
  refine lv_icmp_ge (tgt := 12) hx hb dX11_days_2 (by decide +kernel) (fun c_1 => ?_) (fun c_1 => ?_)
  · have dc_1 := c_le (a := 1) (b := x1.toInt) (by decide +kernel) rfl c_1
    refine lv_iload_n hx hb dX11_days_12 rfl (lv_at hl 1 rfl) ?_
    refine lv_sipush (v := 3000) hx hb dX11_days_13 (by decide +kernel) ?_
    refine lv_aload_n hx hb dX11_days_16 rfl (lv_at hl 0 rfl) ?_
    refine va_get (D := (dC, dI)) (ci := 11) (v := .int (v 38)) (C := RX11) (T := TX11) (N := 63) hx hb hts in_wsX11_days_X11 hown hK hP 0 rfl rfl 38 (by decide +kernel) (hts (.fieldLink RX11 171 "ShipOfficeModel" "now" "I") iw_X11_days_1) (fun _ h9 => h9) rfl dX11_days_17 ?_
    refine lv_topi (fun x_2 ex_2 => ?_)
    have hx_2 : 0 ≤ x_2.toInt ∧ x_2.toInt ≤ 3000 := iv_of ex_2 (gV 38)
    have gx_2 : x_2.toInt = (v 38).toInt := iv_to ex_2
    clear ex_2
    refine lv_isub hx hb dX11_days_20 ?_
    refine lv_topi (fun x_3 ex_3 => ?_)
    have hx_3 : x_3.toInt = 3000 - x_2.toInt := (iv_to ex_3).trans (sb_i (by decide +kernel) rfl (by omega) (by omega))
    clear ex_3
    refine lv_icmp_le (tgt := 31) hx hb dX11_days_21 (by decide +kernel) (fun c_4 => ?_) (fun c_4 => ?_)
    · have dc_4 := c_le (a := x1.toInt) (b := x_3.toInt) rfl rfl c_4
      refine lv_aload_n hx hb dX11_days_31 rfl (lv_at hl 0 rfl) ?_
      refine lv_dup hx hb dX11_days_32 rfl ?_
      refine va_get (D := (dC, dI)) (ci := 11) (v := .int (v 38)) (C := RX11) (T := TX11) (N := 63) hx hb hts in_wsX11_days_X11 hown hK hP 0 rfl rfl 38 (by decide +kernel) (hts (.fieldLink RX11 171 "ShipOfficeModel" "now" "I") iw_X11_days_1) (fun _ h9 => h9) rfl dX11_days_33 ?_
      refine lv_topi (fun x_5 ex_5 => ?_)
      have hx_5 : 0 ≤ x_5.toInt ∧ x_5.toInt ≤ 3000 := iv_of ex_5 (gV 38)
      have gx_5 : x_5.toInt = (v 38).toInt := iv_to ex_5
      clear ex_5
      refine lv_iload_n hx hb dX11_days_36 rfl (lv_at hl 1 rfl) ?_
      refine lv_iadd hx hb dX11_days_37 ?_
      refine lv_topi (fun x_6 ex_6 => ?_)
      have hx_6 : x_6.toInt = x_5.toInt + x1.toInt := (iv_to ex_6).trans (ad_i rfl rfl (by omega) (by omega))
      clear ex_6
      refine va_put (D := (dC, dI)) (ci := 11) (v := .int x_6) (ty := .int) (C := RX11) (T := TX11) (N := 63) hx hb hts in_wsX11_days_X11 tyX11 tyX11_ok nmX11 hown hK hP hD hS 0 rfl rfl 38 (by decide +kernel) (hts (.fieldLink RX11 171 "ShipOfficeModel" "now" "I") iw_X11_days_1) (fun _ h9 => h9) rfl (by decide +kernel) rfl rfl (Nat.le_of_ble_eq_true rfl) dX11_days_38 (fun H locs hP hD hS => ?_)
      have hP : va_P (dC, dI) vwCl (mW g0 pq cp (upd v 38 x_6) fa) H := hP
      have hD : va_D A (mW g0 pq cp (upd v 38 x_6) fa) := hD
      obtain ⟨z_7, ez_7⟩ : ∃ zq, zq = (upd v 38 x_6) := ⟨_, rfl⟩
      rw [← ez_7] at hP hD
      have hVz_7 : mV z_7 := by rw [ez_7]; exact mV_upd (lo := 0) (hi := 3000) gV rfl rfl (by omega)
      have hRz_7 : mX [0, 38] v fa z_7 fa := by rw [ez_7]; exact mX.up mX.rf (by decide +kernel)
      have g_8 : (z_7 38).toInt = x_6.toInt := by rw [ez_7, show upd v 38 x_6 38 = x_6 from if_pos rfl]
      refine lv_aload_n hx hb dX11_days_41 rfl (lv_at hl 0 rfl) ?_
      refine va_get (D := (dC, dI)) (ci := 11) (v := .int (z_7 38)) (C := RX11) (T := TX11) (N := 63) hx hb hts in_wsX11_days_X11 hown hK hP 0 rfl rfl 38 (by decide +kernel) (hts (.fieldLink RX11 171 "ShipOfficeModel" "now" "I") iw_X11_days_1) (fun _ h9 => h9) rfl dX11_days_42 ?_
      refine lv_topi (fun x_9 ex_9 => ?_)
      have hx_9 : 0 ≤ x_9.toInt ∧ x_9.toInt ≤ 3000 := iv_of ex_9 (hVz_7 38)
      have gx_9 : x_9.toInt = (z_7 38).toInt := iv_to ex_9
      clear ex_9
      exact W.iret (v := x_9) hx hb hr (fun t ht hW => ⟨⟨x_9, (z_7, fa), rfl, ⟨hVz_7, gA, hRz_7, (by unfold odays; dsimp only; omega)⟩, ⟨by rw [ht]; exact hP, va_K.moved hW.alike hK, hD⟩⟩, hS.F ht⟩) hS.2.2 dX11_days_45
    · have dc_4 := c_nle (a := x1.toInt) (b := x_3.toInt) rfl rfl c_4
      refine lv_aload_n hx hb dX11_days_24 rfl (lv_at hl 0 rfl) ?_
      refine lv_bipush (v := (-6)) hx hb dX11_days_25 (by decide +kernel) ?_
      have hFc := va_free (wc := (mW g0 pq cp v fa)) hD hS hA (List.range 48) rfl
      refine va_calli (va_runV (As := [.int (-6)]) (rest := []) ⟨hx, hb, hml, hown, hts⟩ (c_X11_refuse l dC dI s.heap.size g0 pq cp v fa (-6) (by unfold vp_in; decide)) (cwV 1 hts gX11_days_X11_refuse rfl rfl rfl (by decide +kernel) ⟨(Nat.le_of_ble_eq_true rfl), (Nat.le_of_ble_eq_true rfl)⟩) (pr_V (r := (RX11, TX11, 63)) hP hK hD 0 11 rfl rfl) rfl rfl hl.1 rfl (lv_room (Nat.le_of_ble_eq_true rfl)) dX11_days_27 ⟨(Nat.le_of_ble_eq_true rfl), (Nat.le_of_ble_eq_true rfl)⟩) hS (fun q _ h => hFc q h) hFc (fun r_11 u t H locs ht hvm w_10 hB hz1 hk1 hS => ?_)
      obtain ⟨v_12, fa_13⟩ := u
      obtain ⟨hP1, hK1, hD1⟩ := hB
      rw [ht] at hP1
      have hP : va_P (dC, dI) vwCl (mW g0 pq cp v_12 fa_13) H := hP1
      have hD : va_D A (mW g0 pq cp v_12 fa_13) := hD1.weaken (fun _ _ _ h => hFc _ h)
      clear hP1 hK1 hD1 hk1 hz1 hvm ht hFc
      obtain ⟨rfl, w_10⟩ := w_10
      have hVv_12 : mV v_12 := sm0_V w_10 gV
      have hAv_12 : mA fa_13 := sm0_A w_10 gA
      have g_14 : (v_12 38).toInt = (v 38).toInt := congrArg Int32.toInt (congrFun w_10.1 38)
      have hRv_12 : mX [0, 38] v fa v_12 fa_13 := mX.st mX.rf (mX.s0 w_10) (by decide +kernel)
      exact W.iret (v := (-6)) hx hb hr (fun t ht hW => ⟨⟨(-6), (v_12, fa_13), rfl, ⟨hVv_12, hAv_12, hRv_12, (by unfold odays; dsimp only; have h0 : ((-6) : Int32).toInt = -6 := (by decide +kernel); omega)⟩, ⟨by rw [ht]; exact hP, va_K.moved hW.alike hK, hD⟩⟩, hS.F ht⟩) hS.2.2 dX11_days_30
  · have dc_1 := c_nle (a := 1) (b := x1.toInt) (by decide +kernel) rfl c_1
    refine lv_aload_n hx hb dX11_days_5 rfl (lv_at hl 0 rfl) ?_
    refine lv_bipush (v := (-4)) hx hb dX11_days_6 (by decide +kernel) ?_
    have hFc := va_free (wc := (mW g0 pq cp v fa)) hD hS hA (List.range 48) rfl
    refine va_calli (va_runV (As := [.int (-4)]) (rest := []) ⟨hx, hb, hml, hown, hts⟩ (c_X11_refuse l dC dI s.heap.size g0 pq cp v fa (-4) (by unfold vp_in; decide)) (cwV 1 hts gX11_days_X11_refuse rfl rfl rfl (by decide +kernel) ⟨(Nat.le_of_ble_eq_true rfl), (Nat.le_of_ble_eq_true rfl)⟩) (pr_V (r := (RX11, TX11, 63)) hP hK hD 0 11 rfl rfl) rfl rfl hl.1 rfl (lv_room (Nat.le_of_ble_eq_true rfl)) dX11_days_8 ⟨(Nat.le_of_ble_eq_true rfl), (Nat.le_of_ble_eq_true rfl)⟩) hS (fun q _ h => hFc q h) hFc (fun r_16 u t H locs ht hvm w_15 hB hz1 hk1 hS => ?_)
    obtain ⟨v_17, fa_18⟩ := u
    obtain ⟨hP1, hK1, hD1⟩ := hB
    rw [ht] at hP1
    have hP : va_P (dC, dI) vwCl (mW g0 pq cp v_17 fa_18) H := hP1
    have hD : va_D A (mW g0 pq cp v_17 fa_18) := hD1.weaken (fun _ _ _ h => hFc _ h)
    clear hP1 hK1 hD1 hk1 hz1 hvm ht hFc
    obtain ⟨rfl, w_15⟩ := w_15
    have hVv_17 : mV v_17 := sm0_V w_15 gV
    have hAv_17 : mA fa_18 := sm0_A w_15 gA
    have g_19 : (v_17 38).toInt = (v 38).toInt := congrArg Int32.toInt (congrFun w_15.1 38)
    have hRv_17 : mX [0, 38] v fa v_17 fa_18 := mX.st mX.rf (mX.s0 w_15) (by decide +kernel)
    exact W.iret (v := (-4)) hx hb hr (fun t ht hW => ⟨⟨(-4), (v_17, fa_18), rfl, ⟨hVv_17, hAv_17, hRv_17, (by unfold odays; dsimp only; have h0 : ((-4) : Int32).toInt = -4 := (by decide +kernel); omega)⟩, ⟨by rw [ht]; exact hP, va_K.moved hW.alike hK, hD⟩⟩, hS.F ht⟩) hS.2.2 dX11_days_11
set_option maxHeartbeats 4000000 in
set_option maxRecDepth 100000 in
theorem c_X11_put_b (l : Launch) (dC : Nat → ClassId) (dI : Nat → Nat → Nat) (sz : Nat) (g0 : Nat) (pq : Nat → Nat) (cp : Nat → ClassId) (v : Nat → Int32) (fa : Nat → Nat → Int32) (gV : mV v) (gA : mA fa) (x1 : Int32) : Met l yX11_put wsX11_put ({ frames := 1, cells := 0, slots := 0, locals := 21 }) (va_Pc [.ref g0, .int x1] (pcW (dC, dI) (mT cp) (mW g0 pq cp v fa) sz)) (va_Qi (fun (r : Int32) (u : (Nat → Int32) × (Nat → Nat → Int32)) => mV u.1 ∧ mA u.2 ∧ mX [0, 61, 62] v fa u.1 u.2) (fun u t => va_P (dC, dI) vwCl (mW g0 pq cp u.1 u.2) t.heap ∧ va_K (dC, dI) vwCl (mT cp) t ∧ va_D (va_A (mW g0 pq cp v fa) sz) (mW g0 pq cp u.1 u.2)) (va_A (mW g0 pq cp v fa) sz)) 0 0 (va_A (mW g0 pq cp v fa) sz) := by
  refine Met.ofW (cc := cX11_put) (maxL := 2) (ret := (some .int)) (by decide +kernel) rfl ?_
  intro p e s m args below meth c s₁ B hml hv
  obtain ⟨rfl, hsz, hP, hK, hD0⟩ := hv
  have hx := B.exec
  have hb := B.bytes
  have hr := B.returns
  have hts := atoms_spec (ws := wsX11_put) B.pre
  have hown : s.vm.findClass RX11 = some m.cls := findClass_of_methodNamed B.named
  have hlocks := B.notSynchronized
  subst hsz
  have hD := hD0.self (sz := s.heap.size)
  generalize hAe : va_A (mW g0 pq cp v fa) s.heap.size = A at hD ⊢
  have hA : ∀ q : Nat, s.heap.size ≤ q → A q := fun q h => by rw [← hAe]; exact Or.inr h
  have hS : va_S A s.heap s.heap [] := va_S.rf
  have hP : va_P (dC, dI) vwCl (mW g0 pq cp v fa) s.heap := hP
  have hl := lv_entry ([.ref g0, .int x1]) (n := 2) (Nat.le_of_ble_eq_true rfl)
  rw [lg_entry_eq]
  generalize (lg_sl ([.ref g0, .int x1]) ++ List.replicate (2 - (lg_sl ([.ref g0, .int x1])).length) Slot.unset).toArray = ls at hl ⊢
  have hl : lv_has ls 2 [(0, .ref g0), (1, .int x1)] := hl
  refine lv_aload_n hx hb dX11_put_0 rfl (lv_at hl 0 rfl) ?_
  refine va_get (D := (dC, dI)) (ci := 11) (v := .int (v 62)) (C := RX11) (T := TX11) (N := 63) hx hb hts in_wsX11_put_X11 hown hK hP 0 rfl rfl 62 (by decide +kernel) (hts (.fieldLink RX11 357 "ShipOfficeModel" "rowed" "I") iw_X11_put_1) (fun _ h9 => h9) rfl dX11_put_1 ?_
  refine lv_topi (fun x_1 ex_1 => ?_)
  have hx_1 : 0 ≤ x_1.toInt ∧ x_1.toInt ≤ 12 := iv_of ex_1 (gV 62)
  have gx_1 : x_1.toInt = (v 62).toInt := iv_to ex_1
  clear ex_1
  refine lv_bipush (v := 12) hx hb dX11_put_4 (by decide +kernel) ?_
  refine lv_icmp_ne (tgt := 16) hx hb dX11_put_6 (by decide +kernel) (fun c_2 => ?_) (fun c_2 => ?_)
  · have dc_2 := c_ne (a := x_1.toInt) (b := 12) rfl (by decide +kernel) c_2
    refine lv_aload_n hx hb dX11_put_16 rfl (lv_at hl 0 rfl) ?_
    refine va_get (D := (dC, dI)) (ci := 11) (v := .ref (pq 61)) (C := RX11) (T := TX11) (N := 63) hx hb hts in_wsX11_put_X11 hown hK hP 0 rfl rfl 61 (by decide +kernel) (hts (.fieldLink RX11 149 "ShipOfficeModel" "row" "[I") iw_X11_put_2) (fun _ h9 => h9) rfl dX11_put_17 ?_
    refine lv_aload_n hx hb dX11_put_20 rfl (lv_at hl 0 rfl) ?_
    refine va_get (D := (dC, dI)) (ci := 11) (v := .int (v 62)) (C := RX11) (T := TX11) (N := 63) hx hb hts in_wsX11_put_X11 hown hK hP 0 rfl rfl 62 (by decide +kernel) (hts (.fieldLink RX11 357 "ShipOfficeModel" "rowed" "I") iw_X11_put_1) (fun _ h9 => h9) rfl dX11_put_21 ?_
    refine lv_topi (fun x_3 ex_3 => ?_)
    have hx_3 : 0 ≤ x_3.toInt ∧ x_3.toInt ≤ 12 := iv_of ex_3 (gV 62)
    have gx_3 : x_3.toInt = (v 62).toInt := iv_to ex_3
    clear ex_3
    refine lv_iload_n hx hb dX11_put_24 rfl (lv_at hl 1 rfl) ?_
    refine va_iast hx hb hK hP hD hS 47 46 rfl rfl (vp_in_iff.mpr (by omega)) dX11_put_25 (fun H locs hP hD hS => ?_)
    have hP : va_P (dC, dI) vwCl (mW g0 pq cp v (upF fa 61 (x_3 : Int32).toNatClampNeg x1)) H := hP
    have hD : va_D A (mW g0 pq cp v (upF fa 61 (x_3 : Int32).toNatClampNeg x1)) := hD
    obtain ⟨fz_4, efz_4⟩ : ∃ zq, zq = (upF fa 61 (x_3 : Int32).toNatClampNeg x1) := ⟨_, rfl⟩
    rw [← efz_4] at hP hD
    have hAfz_4 : mA fz_4 := by rw [efz_4]; exact mA_upF (lo := -2147483648) (hi := 2147483647) gA rfl rfl (iv_all _)
    have hRfz_4 : mX [0, 61, 62] v fa v fz_4 := by rw [efz_4]; exact mX.uF mX.rf (by decide +kernel)
    refine lv_aload_n hx hb dX11_put_26 rfl (lv_at hl 0 rfl) ?_
    refine lv_dup hx hb dX11_put_27 rfl ?_
    refine va_get (D := (dC, dI)) (ci := 11) (v := .int (v 62)) (C := RX11) (T := TX11) (N := 63) hx hb hts in_wsX11_put_X11 hown hK hP 0 rfl rfl 62 (by decide +kernel) (hts (.fieldLink RX11 357 "ShipOfficeModel" "rowed" "I") iw_X11_put_1) (fun _ h9 => h9) rfl dX11_put_28 ?_
    refine lv_topi (fun x_5 ex_5 => ?_)
    have hx_5 : 0 ≤ x_5.toInt ∧ x_5.toInt ≤ 12 := iv_of ex_5 (gV 62)
    have gx_5 : x_5.toInt = (v 62).toInt := iv_to ex_5
    clear ex_5
    refine lv_iconst (v := 1) hx hb dX11_put_31 (by decide +kernel) ?_
    refine lv_iadd hx hb dX11_put_32 ?_
    refine lv_topi (fun x_6 ex_6 => ?_)
    have hx_6 : x_6.toInt = x_5.toInt + 1 := (iv_to ex_6).trans (ad_i rfl (by decide +kernel) (by omega) (by omega))
    clear ex_6
    refine va_put (D := (dC, dI)) (ci := 11) (v := .int x_6) (ty := .int) (C := RX11) (T := TX11) (N := 63) hx hb hts in_wsX11_put_X11 tyX11 tyX11_ok nmX11 hown hK hP hD hS 0 rfl rfl 62 (by decide +kernel) (hts (.fieldLink RX11 357 "ShipOfficeModel" "rowed" "I") iw_X11_put_1) (fun _ h9 => h9) rfl (by decide +kernel) rfl rfl (Nat.le_of_ble_eq_true rfl) dX11_put_33 (fun H locs hP hD hS => ?_)
    have hP : va_P (dC, dI) vwCl (mW g0 pq cp (upd v 62 x_6) fz_4) H := hP
    have hD : va_D A (mW g0 pq cp (upd v 62 x_6) fz_4) := hD
    obtain ⟨z_7, ez_7⟩ : ∃ zq, zq = (upd v 62 x_6) := ⟨_, rfl⟩
    rw [← ez_7] at hP hD
    have hVz_7 : mV z_7 := by rw [ez_7]; exact mV_upd (lo := 0) (hi := 12) gV rfl rfl (by omega)
    have hRz_7 : mX [0, 61, 62] v fa z_7 fz_4 := by rw [ez_7]; exact mX.up hRfz_4 (by decide +kernel)
    have g_8 : (z_7 62).toInt = x_6.toInt := by rw [ez_7, show upd v 62 x_6 62 = x_6 from if_pos rfl]
    refine lv_aload_n hx hb dX11_put_36 rfl (lv_at hl 0 rfl) ?_
    refine va_get (D := (dC, dI)) (ci := 11) (v := .int (z_7 62)) (C := RX11) (T := TX11) (N := 63) hx hb hts in_wsX11_put_X11 hown hK hP 0 rfl rfl 62 (by decide +kernel) (hts (.fieldLink RX11 357 "ShipOfficeModel" "rowed" "I") iw_X11_put_1) (fun _ h9 => h9) rfl dX11_put_37 ?_
    refine lv_topi (fun x_9 ex_9 => ?_)
    have hx_9 : 0 ≤ x_9.toInt ∧ x_9.toInt ≤ 12 := iv_of ex_9 (hVz_7 62)
    have gx_9 : x_9.toInt = (z_7 62).toInt := iv_to ex_9
    clear ex_9
    exact W.iret (v := x_9) hx hb hr (fun t ht hW => ⟨⟨x_9, (z_7, fz_4), rfl, ⟨hVz_7, hAfz_4, hRz_7⟩, ⟨by rw [ht]; exact hP, va_K.moved hW.alike hK, hD⟩⟩, hS.F ht⟩) hS.2.2 dX11_put_40
  · have dc_2 := c_eq (a := x_1.toInt) (b := 12) rfl (by decide +kernel) c_2
    refine lv_aload_n hx hb dX11_put_9 rfl (lv_at hl 0 rfl) ?_
    refine lv_bipush (v := (-6)) hx hb dX11_put_10 (by decide +kernel) ?_
    have hFc := va_free (wc := (mW g0 pq cp v fa)) hD hS hA (List.range 48) rfl
    refine va_calli (va_runV (As := [.int (-6)]) (rest := []) ⟨hx, hb, hml, hown, hts⟩ (c_X11_refuse l dC dI s.heap.size g0 pq cp v fa (-6) (by unfold vp_in; decide)) (cwV 1 hts gX11_put_X11_refuse rfl rfl rfl (by decide +kernel) ⟨(Nat.le_of_ble_eq_true rfl), (Nat.le_of_ble_eq_true rfl)⟩) (pr_V (r := (RX11, TX11, 63)) hP hK hD 0 11 rfl rfl) rfl rfl hl.1 rfl (lv_room (Nat.le_of_ble_eq_true rfl)) dX11_put_12 ⟨(Nat.le_of_ble_eq_true rfl), (Nat.le_of_ble_eq_true rfl)⟩) hS (fun q _ h => hFc q h) hFc (fun r_11 u t H locs ht hvm w_10 hB hz1 hk1 hS => ?_)
    obtain ⟨v_12, fa_13⟩ := u
    obtain ⟨hP1, hK1, hD1⟩ := hB
    rw [ht] at hP1
    have hP : va_P (dC, dI) vwCl (mW g0 pq cp v_12 fa_13) H := hP1
    have hD : va_D A (mW g0 pq cp v_12 fa_13) := hD1.weaken (fun _ _ _ h => hFc _ h)
    clear hP1 hK1 hD1 hk1 hz1 hvm ht hFc
    obtain ⟨rfl, w_10⟩ := w_10
    have hVv_12 : mV v_12 := sm0_V w_10 gV
    have hAv_12 : mA fa_13 := sm0_A w_10 gA
    have g_14 : (v_12 62).toInt = (v 62).toInt := congrArg Int32.toInt (congrFun w_10.1 62)
    have hRv_12 : mX [0, 61, 62] v fa v_12 fa_13 := mX.st mX.rf (mX.s0 w_10) (by decide +kernel)
    exact W.iret (v := (-6)) hx hb hr (fun t ht hW => ⟨⟨(-6), (v_12, fa_13), rfl, ⟨hVv_12, hAv_12, hRv_12⟩, ⟨by rw [ht]; exact hP, va_K.moved hW.alike hK, hD⟩⟩, hS.F ht⟩) hS.2.2 dX11_put_15
