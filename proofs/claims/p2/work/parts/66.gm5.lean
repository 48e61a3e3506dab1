

set_option maxHeartbeats 4000000 in
set_option maxRecDepth 100000 in
theorem c_X11_days_b (l : Launch) (dC : Nat → ClassId) (dI : Nat → Nat → Nat) (sz : Nat) (g0 : Nat) (pq : Nat → Nat) (cp : Nat → ClassId) (v : Nat → Int32) (fa : Nat → Nat → Int32) (gV : mV v) (gA : mA fa) (x1 : Int32) : Met l yX11_days wsX11_days ({ frames := 1, cells := 0, slots := 0, locals := 21 }) (va_Pc [.ref g0, .int x1] (pcW (dC, dI) (mT cp) (mW g0 pq cp v fa) sz)) (va_Qi (fun (r : Int32) (u : (Nat → Int32) × (Nat → Nat → Int32)) => mV u.1 ∧ mA u.2 ∧ True ∧ (odays (v 38).toInt x1.toInt r.toInt (u.1 38).toInt)) (fun u t => va_P (dC, dI) vwCl (mW g0 pq cp u.1 u.2) t.heap ∧ va_K (dC, dI) vwCl (mT cp) t ∧ va_D (va_A (mW g0 pq cp v fa) sz) (mW g0 pq cp u.1 u.2)) (va_A (mW g0 pq cp v fa) sz)) 0 0 (va_A (mW g0 pq cp v fa) sz) := by
  refine Met.ofW (cc := cX11_days) (maxL := 2) (ret := (some .int)) (by decide) rfl ?_
  intro p e s m args below meth c s₁ B hml hv
  obtain ⟨rfl, hsz, hP, hK, hD0⟩ := hv
  have hx := B.exec
  have hb := B.bytes
  have hr := B.returns
  have hts := atoms_spec (ws := wsX11_days) B.pre
  have hown : s.vm.findClass RX11 = some m.cls := findClass_of_methodNamed B.named
  have hlocks := B.notSynchronized
  subst hsz
  have hD := hD0.self (sz := s.heap.size)
  generalize hAe : va_A (mW g0 pq cp v fa) s.heap.size = A at hD ⊢
  have hA : ∀ q : Nat, s.heap.size ≤ q → A q := fun q h => by rw [← hAe]; exact Or.inr h
  have hS : va_S A s.heap s.heap [] := va_S.rf
  have hP : va_P (dC, dI) vwCl (mW g0 pq cp v fa) s.heap := hP
  have hl := lv_entry ([.ref g0, .int x1]) (n := 2) (Nat.le_of_ble_eq_true rfl)
  rw [lg_entry_eq]
  generalize (lg_sl ([.ref g0, .int x1]) ++ List.replicate (2 - (lg_sl ([.ref g0, .int x1])).length) Slot.unset).toArray = ls at hl ⊢
  have hl : lv_has ls 2 [(0, .ref g0), (1, .int x1)] := hl
  refine lv_iload_n hx hb dX11_days_0 rfl (lv_at hl 1 rfl) ?_
  refine lv_iconst (v := 1) hx hb dX11_days_1 (by decide) ?_
  refine lv_icmp_ge (tgt := 12) hx hb dX11_days_2 (by decide) (fun c_1 => ?_) (fun c_1 => ?_)
  · have dc_1 := c_le (a := 1) (b := x1.toInt) (by decide) rfl c_1
    refine lv_iload_n hx hb dX11_days_12 rfl (lv_at hl 1 rfl) ?_
    refine lv_sipush (v := 3000) hx hb dX11_days_13 (by decide) ?_
    refine lv_aload_n hx hb dX11_days_16 rfl (lv_at hl 0 rfl) ?_
    refine va_get (D := (dC, dI)) (ci := 11) (v := .int (v 38)) (C := RX11) (T := TX11) (N := 63) hx hb hts in_wsX11_days_X11 hown hK hP 0 rfl rfl 38 (by decide) (hts (.fieldLink RX11 171 "ShipOfficeModel" "now" "I") (by decide +kernel)) (fun _ h9 => h9) rfl dX11_days_17 ?_
    refine lv_topi (fun x_2 ex_2 => ?_)
    have hx_2 : 0 ≤ x_2.toInt ∧ x_2.toInt ≤ 3000 := iv_of ex_2 (gV 38)
    have gx_2 : x_2.toInt = (v 38).toInt := iv_to ex_2
    clear ex_2
    refine lv_isub hx hb dX11_days_20 ?_
    refine lv_topi (fun x_3 ex_3 => ?_)
    have hx_3 : x_3.toInt = 3000 - x_2.toInt := (iv_to ex_3).trans (sb_i (by decide) rfl (by omega) (by omega))
    clear ex_3
    refine lv_icmp_le (tgt := 31) hx hb dX11_days_21 (by decide) (fun c_4 => ?_) (fun c_4 => ?_)
    · have dc_4 := c_le (a := x1.toInt) (b := x_3.toInt) rfl rfl c_4
      refine lv_aload_n hx hb dX11_days_31 rfl (lv_at hl 0 rfl) ?_
      refine lv_dup hx hb dX11_days_32 rfl ?_
      refine va_get (D := (dC, dI)) (ci := 11) (v := .int (v 38)) (C := RX11) (T := TX11) (N := 63) hx hb hts in_wsX11_days_X11 hown hK hP 0 rfl rfl 38 (by decide) (hts (.fieldLink RX11 171 "ShipOfficeModel" "now" "I") (by decide +kernel)) (fun _ h9 => h9) rfl dX11_days_33 ?_
      refine lv_topi (fun x_5 ex_5 => ?_)
      have hx_5 : 0 ≤ x_5.toInt ∧ x_5.toInt ≤ 3000 := iv_of ex_5 (gV 38)
      have gx_5 : x_5.toInt = (v 38).toInt := iv_to ex_5
      clear ex_5
      refine lv_iload_n hx hb dX11_days_36 rfl (lv_at hl 1 rfl) ?_
      refine lv_iadd hx hb dX11_days_37 ?_
      refine lv_topi (fun x_6 ex_6 => ?_)
      have hx_6 : x_6.toInt = x_5.toInt + x1.toInt := (iv_to ex_6).trans (ad_i rfl rfl (by omega) (by omega))
      clear ex_6
      refine va_put (D := (dC, dI)) (ci := 11) (v := .int x_6) (ty := .int) (C := RX11) (T := TX11) (N := 63) hx hb hts in_wsX11_days_X11 tyX11 tyX11_ok nmX11 hown hK hP hD hS 0 rfl rfl 38 (by decide) (hts (.fieldLink RX11 171 "ShipOfficeModel" "now" "I") (by decide +kernel)) (fun _ h9 => h9) rfl (by decide +kernel) rfl rfl (Nat.le_of_ble_eq_true rfl) dX11_days_38 (fun H locs hP hD hS => ?_)
      have hP : va_P (dC, dI) vwCl (mW g0 pq cp (upd v 38 x_6) fa) H := hP
      have hD : va_D A (mW g0 pq cp (upd v 38 x_6) fa) := hD
      obtain ⟨z_7, ez_7⟩ : ∃ zq, zq = (upd v 38 x_6) := ⟨_, rfl⟩
      rw [← ez_7] at hP hD
      have hVz_7 : mV z_7 := by rw [ez_7]; exact mV_upd (lo := 0) (hi := 3000) gV rfl rfl (by omega)
      have g_8 : (z_7 38).toInt = x_6.toInt := by rw [ez_7, show upd v 38 x_6 38 = x_6 from if_pos rfl]
      refine lv_aload_n hx hb dX11_days_41 rfl (lv_at hl 0 rfl) ?_
      refine va_get (D := (dC, dI)) (ci := 11) (v := .int (z_7 38)) (C := RX11) (T := TX11) (N := 63) hx hb hts in_wsX11_days_X11 hown hK hP 0 rfl rfl 38 (by decide) (hts (.fieldLink RX11 171 "ShipOfficeModel" "now" "I") (by decide +kernel)) (fun _ h9 => h9) rfl dX11_days_42 ?_
      refine lv_topi (fun x_9 ex_9 => ?_)
      have hx_9 : 0 ≤ x_9.toInt ∧ x_9.toInt ≤ 3000 := iv_of ex_9 (hVz_7 38)
      have gx_9 : x_9.toInt = (z_7 38).toInt := iv_to ex_9
      clear ex_9
      exact W.iret (v := x_9) hx hb hr (fun t ht hW => ⟨⟨x_9, (z_7, fa), rfl, ⟨hVz_7, gA, trivial, (by unfold odays; dsimp only; omega)⟩, ⟨by rw [ht]; exact hP, va_K.moved hW.alike hK, hD⟩⟩, hS.F ht⟩) hS.2.2 dX11_days_45
    · have dc_4 := c_nle (a := x1.toInt) (b := x_3.toInt) rfl rfl c_4
      refine lv_aload_n hx hb dX11_days_24 rfl (lv_at hl 0 rfl) ?_
      refine lv_bipush (v := (-6)) hx hb dX11_days_25 (by decide) ?_
      have hFc := va_free (wc := (mW g0 pq cp v fa)) hD hS hA (List.range 48) rfl
      refine va_calli (va_runV (As := [.int (-6)]) (rest := []) ⟨hx, hb, hml, hown, hts⟩ (c_X11_refuse l dC dI s.heap.size g0 pq cp v fa (-6) (by unfold vp_in; decide)) (cwV 1 hts gX11_days_X11_refuse rfl rfl rfl (by decide +kernel) ⟨(Nat.le_of_ble_eq_true rfl), (Nat.le_of_ble_eq_true rfl)⟩) (pr_V (r := (RX11, TX11, 63)) hP hK hD 0 11 rfl rfl) rfl rfl hl.1 rfl (lv_room (Nat.le_of_ble_eq_true rfl)) dX11_days_27 ⟨(Nat.le_of_ble_eq_true rfl), (Nat.le_of_ble_eq_true rfl)⟩) hS (fun q _ h => hFc q h) hFc (fun r_11 u t H locs ht hvm w_10 hB hz1 hk1 hS => ?_)
      obtain ⟨v_12, fa_13⟩ := u
      obtain ⟨hP1, hK1, hD1⟩ := hB
      rw [ht] at hP1
      have hP : va_P (dC, dI) vwCl (mW g0 pq cp v_12 fa_13) H := hP1
      have hD : va_D A (mW g0 pq cp v_12 fa_13) := hD1.weaken (fun _ _ _ h => hFc _ h)
      clear hP1 hK1 hD1 hk1 hz1 hvm ht hFc
      obtain ⟨rfl, w_10⟩ := w_10
      have hVv_12 : mV v_12 := sm0_V w_10 gV
      have hAv_12 : mA fa_13 := sm0_A w_10 gA
      have g_14 : (v_12 38).toInt = (v 38).toInt := congrArg Int32.toInt (congrFun w_10.1 38)
      exact W.iret (v := (-6)) hx hb hr (fun t ht hW => ⟨⟨(-6), (v_12, fa_13), rfl, ⟨hVv_12, hAv_12, trivial, (by unfold odays; dsimp only; have h0 : ((-6) : Int32).toInt = -6 := (by decide); omega)⟩, ⟨by rw [ht]; exact hP, va_K.moved hW.alike hK, hD⟩⟩, hS.F ht⟩) hS.2.2 dX11_days_30
  · have dc_1 := c_nle (a := 1) (b := x1.toInt) (by decide) rfl c_1
    refine lv_aload_n hx hb dX11_days_5 rfl (lv_at hl 0 rfl) ?_
    refine lv_bipush (v := (-4)) hx hb dX11_days_6 (by decide) ?_
    have hFc := va_free (wc := (mW g0 pq cp v fa)) hD hS hA (List.range 48) rfl
    refine va_calli (va_runV (As := [.int (-4)]) (rest := []) ⟨hx, hb, hml, hown, hts⟩ (c_X11_refuse l dC dI s.heap.size g0 pq cp v fa (-4) (by unfold vp_in; decide)) (cwV 1 hts gX11_days_X11_refuse rfl rfl rfl (by decide +kernel) ⟨(Nat.le_of_ble_eq_true rfl), (Nat.le_of_ble_eq_true rfl)⟩) (pr_V (r := (RX11, TX11, 63)) hP hK hD 0 11 rfl rfl) rfl rfl hl.1 rfl (lv_room (Nat.le_of_ble_eq_true rfl)) dX11_days_8 ⟨(Nat.le_of_ble_eq_true rfl), (Nat.le_of_ble_eq_true rfl)⟩) hS (fun q _ h => hFc q h) hFc (fun r_16 u t H locs ht hvm w_15 hB hz1 hk1 hS => ?_)
    obtain ⟨v_17, fa_18⟩ := u
    obtain ⟨hP1, hK1, hD1⟩ := hB
    rw [ht] at hP1
    have hP : va_P (dC, dI) vwCl (mW g0 pq cp v_17 fa_18) H := hP1
    have hD : va_D A (mW g0 pq cp v_17 fa_18) := hD1.weaken (fun _ _ _ h => hFc _ h)
    clear hP1 hK1 hD1 hk1 hz1 hvm ht hFc
    obtain ⟨rfl, w_15⟩ := w_15
    have hVv_17 : mV v_17 := sm0_V w_15 gV
    have hAv_17 : mA fa_18 := sm0_A w_15 gA
    have g_19 : (v_17 38).toInt = (v 38).toInt := congrArg Int32.toInt (congrFun w_15.1 38)
    exact W.iret (v := (-4)) hx hb hr (fun t ht hW => ⟨⟨(-4), (v_17, fa_18), rfl, ⟨hVv_17, hAv_17, trivial, (by unfold odays; dsimp only; have h0 : ((-4) : Int32).toInt = -4 := (by decide); omega)⟩, ⟨by rw [ht]; exact hP, va_K.moved hW.alike hK, hD⟩⟩, hS.F ht⟩) hS.2.2 dX11_days_11
set_option maxHeartbeats 4000000 in
set_option maxRecDepth 100000 in
theorem c_X11_miles_b (l : Launch) (dC : Nat → ClassId) (dI : Nat → Nat → Nat) (sz : Nat) (g0 : Nat) (pq : Nat → Nat) (cp : Nat → ClassId) (v : Nat → Int32) (fa : Nat → Nat → Int32) (gV : mV v) (gA : mA fa) (x1 : Int32) (x2 : Int32) (x3 : Int32) : Met l yX11_miles wsX11_miles ({ frames := 2, cells := 0, slots := 0, locals := 41 }) (va_Pc [.ref g0, .int x1, .int x2, .int x3] (pcW (dC, dI) (mT cp) (mW g0 pq cp v fa) sz)) (va_Qi (fun (r : Int32) (u : (Nat → Int32) × (Nat → Nat → Int32)) => mV u.1 ∧ mA u.2 ∧ u.1 38 = v 38) (fun u t => va_P (dC, dI) vwCl (mW g0 pq cp u.1 u.2) t.heap ∧ va_K (dC, dI) vwCl (mT cp) t ∧ va_D (va_A (mW g0 pq cp v fa) sz) (mW g0 pq cp u.1 u.2)) (va_A (mW g0 pq cp v fa) sz)) 0 0 (va_A (mW g0 pq cp v fa) sz) := by
  refine Met.ofW (cc := cX11_miles) (maxL := 5) (ret := (some .int)) (by decide) rfl ?_
  intro p e s m args below meth c s₁ B hml hv
  obtain ⟨rfl, hsz, hP, hK, hD0⟩ := hv
  have hx := B.exec
  have hb := B.bytes
  have hr := B.returns
  have hts := atoms_spec (ws := wsX11_miles) B.pre
  have hown : s.vm.findClass RX11 = some m.cls := findClass_of_methodNamed B.named
  have hlocks := B.notSynchronized
  subst hsz
  have hD := hD0.self (sz := s.heap.size)
  generalize hAe : va_A (mW g0 pq cp v fa) s.heap.size = A at hD ⊢
  have hA : ∀ q : Nat, s.heap.size ≤ q → A q := fun q h => by rw [← hAe]; exact Or.inr h
  have hS : va_S A s.heap s.heap [] := va_S.rf
  have hP : va_P (dC, dI) vwCl (mW g0 pq cp v fa) s.heap := hP
  have hl := lv_entry ([.ref g0, .int x1, .int x2, .int x3]) (n := 5) (Nat.le_of_ble_eq_true rfl)
  rw [lg_entry_eq]
  generalize (lg_sl ([.ref g0, .int x1, .int x2, .int x3]) ++ List.replicate (5 - (lg_sl ([.ref g0, .int x1, .int x2, .int x3])).length) Slot.unset).toArray = ls at hl ⊢
  have hl : lv_has ls 5 [(0, .ref g0), (1, .int x1), (2, .int x2), (3, .int x3)] := hl
  refine lv_iload_n hx hb dX11_miles_0 rfl (lv_at hl 1 rfl) ?_
  have hFc : ∀ q, va_A [] s.heap.size q → A q := pu_free hS hA
  have hPc := hP.sub (ws' := []) [] rfl
  have hDc := hD.sub (ws' := []) [] (by decide) rfl
  have hKc := hK.sub (tys' := []) [] rfl
  refine va_calli (va_runS (As := [.int x1]) (rest := []) ⟨hx, hb, hml, hown, hts⟩ (c_X11_isPort l dC dI s.heap.size x1) (va_cwS 1 hts gX11_miles_X11_isPort rfl rfl rfl (by decide +kernel) ⟨(Nat.le_of_ble_eq_true rfl), (Nat.le_of_ble_eq_true rfl)⟩) (pr_S hPc hKc hDc) rfl rfl hl.1 rfl (lv_room (Nat.le_of_ble_eq_true rfl)) dX11_miles_1 ⟨(Nat.le_of_ble_eq_true rfl), (Nat.le_of_ble_eq_true rfl)⟩) hS (fun q _ h => hFc q h) hFc (fun r_2 u t H locs ht hvm w_1 hB hz1 hk1 hS => ?_)
  have hP := pu_keep hP hk1
  clear hk1 hz1 hvm hB ht hFc hPc hDc hKc
  have hbr_2 : 0 ≤ r_2.toInt ∧ r_2.toInt ≤ 1 := iv_of w_1 (isI_i _ _)
  refine lv_if_eq (tgt := 19) hx hb dX11_miles_4 (by decide) (fun c_3 => ?_) (fun c_3 => ?_)
  · have dc_3 := c_eq (a := r_2.toInt) (b := 0) rfl (by decide) c_3
    refine lv_aload_n hx hb dX11_miles_19 rfl (lv_at hl 0 rfl) ?_
    refine lv_iconst (v := (-1)) hx hb dX11_miles_20 (by decide) ?_
    have hFc := va_free (wc := (mW g0 pq cp v fa)) hD hS hA (List.range 48) rfl
    refine va_calli (va_runV (As := [.int (-1)]) (rest := []) ⟨hx, hb, hml, hown, hts⟩ (c_X11_refuse l dC dI H.size g0 pq cp v fa (-1) (by unfold vp_in; decide)) (cwV 1 hts gX11_miles_X11_refuse rfl rfl rfl (by decide +kernel) ⟨(Nat.le_of_ble_eq_true rfl), (Nat.le_of_ble_eq_true rfl)⟩) (pr_V (r := (RX11, TX11, 63)) hP hK hD 0 11 rfl rfl) rfl rfl hl.1 rfl (lv_room (Nat.le_of_ble_eq_true rfl)) dX11_miles_21 ⟨(Nat.le_of_ble_eq_true rfl), (Nat.le_of_ble_eq_true rfl)⟩) hS (fun q _ h => hFc q h) hFc (fun r_5 u t H locs ht hvm w_4 hB hz1 hk1 hS => ?_)
    obtain ⟨v_6, fa_7⟩ := u
    obtain ⟨hP1, hK1, hD1⟩ := hB
    rw [ht] at hP1
    have hP : va_P (dC, dI) vwCl (mW g0 pq cp v_6 fa_7) H := hP1
    have hD : va_D A (mW g0 pq cp v_6 fa_7) := hD1.weaken (fun _ _ _ h => hFc _ h)
    clear hP1 hK1 hD1 hk1 hz1 hvm ht hFc
    obtain ⟨rfl, w_4⟩ := w_4
    have hVv_6 : mV v_6 := sm0_V w_4 gV
    have hAv_6 : mA fa_7 := sm0_A w_4 gA
    have hRv_6 : v_6 38 = v 38 := (congrFun w_4.1 38).trans rfl
    exact W.iret (v := (-1)) hx hb hr (fun t ht hW => ⟨⟨(-1), (v_6, fa_7), rfl, ⟨hVv_6, hAv_6, hRv_6⟩, ⟨by rw [ht]; exact hP, va_K.moved hW.alike hK, hD⟩⟩, hS.F ht⟩) hS.2.2 dX11_miles_24
  · have dc_3 := c_ne (a := r_2.toInt) (b := 0) rfl (by decide) c_3
    have hi_8 := isI_t w_1 (fun q => c_3 (Int32.toInt_inj.mp q))
    have khi_8 : (10 : Int32).toInt = 10 := by decide
    refine lv_iload_n hx hb dX11_miles_7 rfl (lv_at hl 2 rfl) ?_
    have hFc : ∀ q, va_A [] H.size q → A q := pu_free hS hA
    have hPc := hP.sub (ws' := []) [] rfl
    have hDc := hD.sub (ws' := []) [] (by decide) rfl
    have hKc := hK.sub (tys' := []) [] rfl
    refine va_calli (va_runS (As := [.int x2]) (rest := []) ⟨hx, hb, hml, hown, hts⟩ (c_X11_isPort l dC dI H.size x2) (va_cwS 1 hts gX11_miles_X11_isPort rfl rfl rfl (by decide +kernel) ⟨(Nat.le_of_ble_eq_true rfl), (Nat.le_of_ble_eq_true rfl)⟩) (pr_S hPc hKc hDc) rfl rfl hl.1 rfl (lv_room (Nat.le_of_ble_eq_true rfl)) dX11_miles_8 ⟨(Nat.le_of_ble_eq_true rfl), (Nat.le_of_ble_eq_true rfl)⟩) hS (fun q _ h => hFc q h) hFc (fun r_10 u t H locs ht hvm w_9 hB hz1 hk1 hS => ?_)
    have hP := pu_keep hP hk1
    clear hk1 hz1 hvm hB ht hFc hPc hDc hKc
    have hbr_10 : 0 ≤ r_10.toInt ∧ r_10.toInt ≤ 1 := iv_of w_9 (isI_i _ _)
    refine lv_if_eq (tgt := 19) hx hb dX11_miles_11 (by decide) (fun c_11 => ?_) (fun c_11 => ?_)
    · have dc_11 := c_eq (a := r_10.toInt) (b := 0) rfl (by decide) c_11
      refine lv_aload_n hx hb dX11_miles_19 rfl (lv_at hl 0 rfl) ?_
      refine lv_iconst (v := (-1)) hx hb dX11_miles_20 (by decide) ?_
      have hFc := va_free (wc := (mW g0 pq cp v fa)) hD hS hA (List.range 48) rfl
      refine va_calli (va_runV (As := [.int (-1)]) (rest := []) ⟨hx, hb, hml, hown, hts⟩ (c_X11_refuse l dC dI H.size g0 pq cp v fa (-1) (by unfold vp_in; decide)) (cwV 1 hts gX11_miles_X11_refuse rfl rfl rfl (by decide +kernel) ⟨(Nat.le_of_ble_eq_true rfl), (Nat.le_of_ble_eq_true rfl)⟩) (pr_V (r := (RX11, TX11, 63)) hP hK hD 0 11 rfl rfl) rfl rfl hl.1 rfl (lv_room (Nat.le_of_ble_eq_true rfl)) dX11_miles_21 ⟨(Nat.le_of_ble_eq_true rfl), (Nat.le_of_ble_eq_true rfl)⟩) hS (fun q _ h => hFc q h) hFc (fun r_13 u t H locs ht hvm w_12 hB hz1 hk1 hS => ?_)
      obtain ⟨v_14, fa_15⟩ := u
      obtain ⟨hP1, hK1, hD1⟩ := hB
      rw [ht] at hP1
      have hP : va_P (dC, dI) vwCl (mW g0 pq cp v_14 fa_15) H := hP1
      have hD : va_D A (mW g0 pq cp v_14 fa_15) := hD1.weaken (fun _ _ _ h => hFc _ h)
      clear hP1 hK1 hD1 hk1 hz1 hvm ht hFc
      obtain ⟨rfl, w_12⟩ := w_12
      have hVv_14 : mV v_14 := sm0_V w_12 gV
      have hAv_14 : mA fa_15 := sm0_A w_12 gA
      have hRv_14 : v_14 38 = v 38 := (congrFun w_12.1 38).trans rfl
      exact W.iret (v := (-1)) hx hb hr (fun t ht hW => ⟨⟨(-1), (v_14, fa_15), rfl, ⟨hVv_14, hAv_14, hRv_14⟩, ⟨by rw [ht]; exact hP, va_K.moved hW.alike hK, hD⟩⟩, hS.F ht⟩) hS.2.2 dX11_miles_24
    · have dc_11 := c_ne (a := r_10.toInt) (b := 0) rfl (by decide) c_11
      have hi_16 := isI_t w_9 (fun q => c_11 (Int32.toInt_inj.mp q))
      have khi_16 : (10 : Int32).toInt = 10 := by decide
      refine lv_iload_n hx hb dX11_miles_14 rfl (lv_at hl 1 rfl) ?_
      refine lv_iload_n hx hb dX11_miles_15 rfl (lv_at hl 2 rfl) ?_
      refine lv_icmp_ne (tgt := 25) hx hb dX11_miles_16 (by decide) (fun c_17 => ?_) (fun c_17 => ?_)
      · have dc_17 := c_ne (a := x1.toInt) (b := x2.toInt) rfl rfl c_17
        refine lv_iload_n hx hb dX11_miles_25 rfl (lv_at hl 3 rfl) ?_
        refine lv_if_ge (tgt := 36) hx hb dX11_miles_26 (by decide) (fun c_18 => ?_) (fun c_18 => ?_)
        · have dc_18 := c_le (a := 0) (b := x3.toInt) (by decide) rfl c_18
          refine lv_iload_n hx hb dX11_miles_36 rfl (lv_at hl 3 rfl) ?_
          refine lv_sipush (v := 9999) hx hb dX11_miles_37 (by decide) ?_
          refine lv_icmp_le (tgt := 50) hx hb dX11_miles_40 (by decide) (fun c_19 => ?_) (fun c_19 => ?_)
          · have dc_19 := c_le (a := x3.toInt) (b := 9999) rfl (by decide) c_19
            refine lv_aload_n hx hb dX11_miles_50 rfl (lv_at hl 0 rfl) ?_
            refine va_get (D := (dC, dI)) (ci := 11) (v := .ref (pq 1)) (C := RX11) (T := TX11) (N := 63) hx hb hts in_wsX11_miles_X11 hown hK hP 0 rfl rfl 1 (by decide) (hts (.fieldLink RX11 13 "ShipOfficeModel" "mile" "[I") (by decide +kernel)) (fun _ h9 => h9) rfl dX11_miles_51 ?_
            refine lv_bipush (v := 10) hx hb dX11_miles_54 (by decide) ?_
            refine lv_iload_n hx hb dX11_miles_56 rfl (lv_at hl 1 rfl) ?_
            refine lv_imul hx hb dX11_miles_57 ?_
            refine lv_topi (fun x_20 ex_20 => ?_)
            have hx_20 : x_20.toInt = 10 * x1.toInt := (iv_to ex_20).trans (mu_i (by decide) rfl (by omega) (by omega))
            clear ex_20
            refine lv_iload_n hx hb dX11_miles_58 rfl (lv_at hl 2 rfl) ?_
            refine lv_iadd hx hb dX11_miles_59 ?_
            refine lv_topi (fun x_21 ex_21 => ?_)
            have hx_21 : x_21.toInt = x_20.toInt + x2.toInt := (iv_to ex_21).trans (ad_i rfl rfl (by omega) (by omega))
            clear ex_21
            refine va_iald hx hb hK hP 2 1 rfl rfl (vp_in_iff.mpr (by omega)) dX11_miles_60 ?_
            refine lv_topi (fun x_22 ex_22 => ?_)
            clear ex_22
            refine lv_istore (lv' := [(4, .int x_22), (0, .ref g0), (1, .int x1), (2, .int x2), (3, .int x3)]) hx hb dX11_miles_61 hl (by decide) rfl (fun ls hl => ?_)
            refine lv_aload_n hx hb dX11_miles_63 rfl (lv_at hl 1 rfl) ?_
            refine va_get (D := (dC, dI)) (ci := 11) (v := .ref (pq 1)) (C := RX11) (T := TX11) (N := 63) hx hb hts in_wsX11_miles_X11 hown hK hP 0 rfl rfl 1 (by decide) (hts (.fieldLink RX11 13 "ShipOfficeModel" "mile" "[I") (by decide +kernel)) (fun _ h9 => h9) rfl dX11_miles_64 ?_
            refine lv_bipush (v := 10) hx hb dX11_miles_67 (by decide) ?_
            refine lv_iload_n hx hb dX11_miles_69 rfl (lv_at hl 2 rfl) ?_
            refine lv_imul hx hb dX11_miles_70 ?_
            refine lv_topi (fun x_23 ex_23 => ?_)
            have hx_23 : x_23.toInt = 10 * x1.toInt := (iv_to ex_23).trans (mu_i (by decide) rfl (by omega) (by omega))
            clear ex_23
            refine lv_iload_n hx hb dX11_miles_71 rfl (lv_at hl 3 rfl) ?_
            refine lv_iadd hx hb dX11_miles_72 ?_
            refine lv_topi (fun x_24 ex_24 => ?_)
            have hx_24 : x_24.toInt = x_23.toInt + x2.toInt := (iv_to ex_24).trans (ad_i rfl rfl (by omega) (by omega))
            clear ex_24
            refine lv_iload_n hx hb dX11_miles_73 rfl (lv_at hl 4 rfl) ?_
            refine va_iast hx hb hK hP hD hS 2 1 rfl rfl (vp_in_iff.mpr (by omega)) dX11_miles_74 (fun H locs hP hD hS => ?_)
            have hP : va_P (dC, dI) vwCl (mW g0 pq cp v (upF fa 1 (x_24 : Int32).toNatClampNeg x3)) H := hP
            have hD : va_D A (mW g0 pq cp v (upF fa 1 (x_24 : Int32).toNatClampNeg x3)) := hD
            obtain ⟨fz_25, efz_25⟩ : ∃ zq, zq = (upF fa 1 (x_24 : Int32).toNatClampNeg x3) := ⟨_, rfl⟩
            rw [← efz_25] at hP hD
            have hAfz_25 : mA fz_25 := by rw [efz_25]; exact mA_upF (lo := -2147483648) (hi := 2147483647) gA rfl rfl (iv_all _)
            refine lv_aload_n hx hb dX11_miles_75 rfl (lv_at hl 1 rfl) ?_
            refine va_get (D := (dC, dI)) (ci := 11) (v := .ref (pq 1)) (C := RX11) (T := TX11) (N := 63) hx hb hts in_wsX11_miles_X11 hown hK hP 0 rfl rfl 1 (by decide) (hts (.fieldLink RX11 13 "ShipOfficeModel" "mile" "[I") (by decide +kernel)) (fun _ h9 => h9) rfl dX11_miles_76 ?_
            refine lv_bipush (v := 10) hx hb dX11_miles_79 (by decide) ?_
            refine lv_iload_n hx hb dX11_miles_81 rfl (lv_at hl 3 rfl) ?_
            refine lv_imul hx hb dX11_miles_82 ?_
            refine lv_topi (fun x_26 ex_26 => ?_)
            have hx_26 : x_26.toInt = 10 * x2.toInt := (iv_to ex_26).trans (mu_i (by decide) rfl (by omega) (by omega))
            clear ex_26
            refine lv_iload_n hx hb dX11_miles_83 rfl (lv_at hl 2 rfl) ?_
            refine lv_iadd hx hb dX11_miles_84 ?_
            refine lv_topi (fun x_27 ex_27 => ?_)
            have hx_27 : x_27.toInt = x_26.toInt + x1.toInt := (iv_to ex_27).trans (ad_i rfl rfl (by omega) (by omega))
            clear ex_27
            refine lv_iload_n hx hb dX11_miles_85 rfl (lv_at hl 4 rfl) ?_
            refine va_iast hx hb hK hP hD hS 2 1 rfl rfl (vp_in_iff.mpr (by omega)) dX11_miles_86 (fun H locs hP hD hS => ?_)
            have hP : va_P (dC, dI) vwCl (mW g0 pq cp v (upF fz_25 1 (x_27 : Int32).toNatClampNeg x3)) H := hP
            have hD : va_D A (mW g0 pq cp v (upF fz_25 1 (x_27 : Int32).toNatClampNeg x3)) := hD
            obtain ⟨fz_28, efz_28⟩ : ∃ zq, zq = (upF fz_25 1 (x_27 : Int32).toNatClampNeg x3) := ⟨_, rfl⟩
            rw [← efz_28] at hP hD
            have hAfz_28 : mA fz_28 := by rw [efz_28]; exact mA_upF (lo := -2147483648) (hi := 2147483647) hAfz_25 rfl rfl (iv_all _)
            refine lv_iload hx hb dX11_miles_87 (lv_at hl 0 rfl) ?_
            exact W.iret (v := x_22) hx hb hr (fun t ht hW => ⟨⟨x_22, (v, fz_28), rfl, ⟨gV, hAfz_28, rfl⟩, ⟨by rw [ht]; exact hP, va_K.moved hW.alike hK, hD⟩⟩, hS.F ht⟩) hS.2.2 dX11_miles_89
          · have dc_19 := c_nle (a := x3.toInt) (b := 9999) rfl (by decide) c_19
            refine lv_aload_n hx hb dX11_miles_43 rfl (lv_at hl 0 rfl) ?_
            refine lv_bipush (v := (-6)) hx hb dX11_miles_44 (by decide) ?_
            have hFc := va_free (wc := (mW g0 pq cp v fa)) hD hS hA (List.range 48) rfl
            refine va_calli (va_runV (As := [.int (-6)]) (rest := []) ⟨hx, hb, hml, hown, hts⟩ (c_X11_refuse l dC dI H.size g0 pq cp v fa (-6) (by unfold vp_in; decide)) (cwV 1 hts gX11_miles_X11_refuse rfl rfl rfl (by decide +kernel) ⟨(Nat.le_of_ble_eq_true rfl), (Nat.le_of_ble_eq_true rfl)⟩) (pr_V (r := (RX11, TX11, 63)) hP hK hD 0 11 rfl rfl) rfl rfl hl.1 rfl (lv_room (Nat.le_of_ble_eq_true rfl)) dX11_miles_46 ⟨(Nat.le_of_ble_eq_true rfl), (Nat.le_of_ble_eq_true rfl)⟩) hS (fun q _ h => hFc q h) hFc (fun r_30 u t H locs ht hvm w_29 hB hz1 hk1 hS => ?_)
            obtain ⟨v_31, fa_32⟩ := u
            obtain ⟨hP1, hK1, hD1⟩ := hB
            rw [ht] at hP1
            have hP : va_P (dC, dI) vwCl (mW g0 pq cp v_31 fa_32) H := hP1
            have hD : va_D A (mW g0 pq cp v_31 fa_32) := hD1.weaken (fun _ _ _ h => hFc _ h)
            clear hP1 hK1 hD1 hk1 hz1 hvm ht hFc
            obtain ⟨rfl, w_29⟩ := w_29
            have hVv_31 : mV v_31 := sm0_V w_29 gV
            have hAv_31 : mA fa_32 := sm0_A w_29 gA
            have hRv_31 : v_31 38 = v 38 := (congrFun w_29.1 38).trans rfl
            exact W.iret (v := (-6)) hx hb hr (fun t ht hW => ⟨⟨(-6), (v_31, fa_32), rfl, ⟨hVv_31, hAv_31, hRv_31⟩, ⟨by rw [ht]; exact hP, va_K.moved hW.alike hK, hD⟩⟩, hS.F ht⟩) hS.2.2 dX11_miles_49
        · have dc_18 := c_nle (a := 0) (b := x3.toInt) (by decide) rfl c_18
          refine lv_aload_n hx hb dX11_miles_29 rfl (lv_at hl 0 rfl) ?_
          refine lv_bipush (v := (-4)) hx hb dX11_miles_30 (by decide) ?_
          have hFc := va_free (wc := (mW g0 pq cp v fa)) hD hS hA (List.range 48) rfl
          refine va_calli (va_runV (As := [.int (-4)]) (rest := []) ⟨hx, hb, hml, hown, hts⟩ (c_X11_refuse l dC dI H.size g0 pq cp v fa (-4) (by unfold vp_in; decide)) (cwV 1 hts gX11_miles_X11_refuse rfl rfl rfl (by decide +kernel) ⟨(Nat.le_of_ble_eq_true rfl), (Nat.le_of_ble_eq_true rfl)⟩) (pr_V (r := (RX11, TX11, 63)) hP hK hD 0 11 rfl rfl) rfl rfl hl.1 rfl (lv_room (Nat.le_of_ble_eq_true rfl)) dX11_miles_32 ⟨(Nat.le_of_ble_eq_true rfl), (Nat.le_of_ble_eq_true rfl)⟩) hS (fun q _ h => hFc q h) hFc (fun r_34 u t H locs ht hvm w_33 hB hz1 hk1 hS => ?_)
          obtain ⟨v_35, fa_36⟩ := u
          obtain ⟨hP1, hK1, hD1⟩ := hB
          rw [ht] at hP1
          have hP : va_P (dC, dI) vwCl (mW g0 pq cp v_35 fa_36) H := hP1
          have hD : va_D A (mW g0 pq cp v_35 fa_36) := hD1.weaken (fun _ _ _ h => hFc _ h)
          clear hP1 hK1 hD1 hk1 hz1 hvm ht hFc
          obtain ⟨rfl, w_33⟩ := w_33
          have hVv_35 : mV v_35 := sm0_V w_33 gV
          have hAv_35 : mA fa_36 := sm0_A w_33 gA
          have hRv_35 : v_35 38 = v 38 := (congrFun w_33.1 38).trans rfl
          exact W.iret (v := (-4)) hx hb hr (fun t ht hW => ⟨⟨(-4), (v_35, fa_36), rfl, ⟨hVv_35, hAv_35, hRv_35⟩, ⟨by rw [ht]; exact hP, va_K.moved hW.alike hK, hD⟩⟩, hS.F ht⟩) hS.2.2 dX11_miles_35
      · have dc_17 := c_eq (a := x1.toInt) (b := x2.toInt) rfl rfl c_17
        refine lv_aload_n hx hb dX11_miles_19 rfl (lv_at hl 0 rfl) ?_
        refine lv_iconst (v := (-1)) hx hb dX11_miles_20 (by decide) ?_
        have hFc := va_free (wc := (mW g0 pq cp v fa)) hD hS hA (List.range 48) rfl
        refine va_calli (va_runV (As := [.int (-1)]) (rest := []) ⟨hx, hb, hml, hown, hts⟩ (c_X11_refuse l dC dI H.size g0 pq cp v fa (-1) (by unfold vp_in; decide)) (cwV 1 hts gX11_miles_X11_refuse rfl rfl rfl (by decide +kernel) ⟨(Nat.le_of_ble_eq_true rfl), (Nat.le_of_ble_eq_true rfl)⟩) (pr_V (r := (RX11, TX11, 63)) hP hK hD 0 11 rfl rfl) rfl rfl hl.1 rfl (lv_room (Nat.le_of_ble_eq_true rfl)) dX11_miles_21 ⟨(Nat.le_of_ble_eq_true rfl), (Nat.le_of_ble_eq_true rfl)⟩) hS (fun q _ h => hFc q h) hFc (fun r_38 u t H locs ht hvm w_37 hB hz1 hk1 hS => ?_)
        obtain ⟨v_39, fa_40⟩ := u
        obtain ⟨hP1, hK1, hD1⟩ := hB
        rw [ht] at hP1
        have hP : va_P (dC, dI) vwCl (mW g0 pq cp v_39 fa_40) H := hP1
        have hD : va_D A (mW g0 pq cp v_39 fa_40) := hD1.weaken (fun _ _ _ h => hFc _ h)
        clear hP1 hK1 hD1 hk1 hz1 hvm ht hFc
        obtain ⟨rfl, w_37⟩ := w_37
        have hVv_39 : mV v_39 := sm0_V w_37 gV
        have hAv_39 : mA fa_40 := sm0_A w_37 gA
        have hRv_39 : v_39 38 = v 38 := (congrFun w_37.1 38).trans rfl
        exact W.iret (v := (-1)) hx hb hr (fun t ht hW => ⟨⟨(-1), (v_39, fa_40), rfl, ⟨hVv_39, hAv_39, hRv_39⟩, ⟨by rw [ht]; exact hP, va_K.moved hW.alike hK, hD⟩⟩, hS.F ht⟩) hS.2.2 dX11_miles_24
set_option maxHeartbeats 4000000 in
set_option maxRecDepth 100000 in
theorem c_X11_put_b (l : Launch) (dC : Nat → ClassId) (dI : Nat → Nat → Nat) (sz : Nat) (g0 : Nat) (pq : Nat → Nat) (cp : Nat → ClassId) (v : Nat → Int32) (fa : Nat → Nat → Int32) (gV : mV v) (gA : mA fa) (x1 : Int32) : Met l yX11_put wsX11_put ({ frames := 1, cells := 0, slots := 0, locals := 21 }) (va_Pc [.ref g0, .int x1] (pcW (dC, dI) (mT cp) (mW g0 pq cp v fa) sz)) (va_Qi (fun (r : Int32) (u : (Nat → Int32) × (Nat → Nat → Int32)) => mV u.1 ∧ mA u.2 ∧ u.1 38 = v 38) (fun u t => va_P (dC, dI) vwCl (mW g0 pq cp u.1 u.2) t.heap ∧ va_K (dC, dI) vwCl (mT cp) t ∧ va_D (va_A (mW g0 pq cp v fa) sz) (mW g0 pq cp u.1 u.2)) (va_A (mW g0 pq cp v fa) sz)) 0 0 (va_A (mW g0 pq cp v fa) sz) := by
  refine Met.ofW (cc := cX11_put) (maxL := 2) (ret := (some .int)) (by decide) rfl ?_
  intro p e s m args below meth c s₁ B hml hv
  obtain ⟨rfl, hsz, hP, hK, hD0⟩ := hv
  have hx := B.exec
  have hb := B.bytes
  have hr := B.returns
  have hts := atoms_spec (ws := wsX11_put) B.pre
  have hown : s.vm.findClass RX11 = some m.cls := findClass_of_methodNamed B.named
  have hlocks := B.notSynchronized
  subst hsz
  have hD := hD0.self (sz := s.heap.size)
  generalize hAe : va_A (mW g0 pq cp v fa) s.heap.size = A at hD ⊢
  have hA : ∀ q : Nat, s.heap.size ≤ q → A q := fun q h => by rw [← hAe]; exact Or.inr h
  have hS : va_S A s.heap s.heap [] := va_S.rf
  have hP : va_P (dC, dI) vwCl (mW g0 pq cp v fa) s.heap := hP
  have hl := lv_entry ([.ref g0, .int x1]) (n := 2) (Nat.le_of_ble_eq_true rfl)
  rw [lg_entry_eq]
  generalize (lg_sl ([.ref g0, .int x1]) ++ List.replicate (2 - (lg_sl ([.ref g0, .int x1])).length) Slot.unset).toArray = ls at hl ⊢
  have hl : lv_has ls 2 [(0, .ref g0), (1, .int x1)] := hl
  refine lv_aload_n hx hb dX11_put_0 rfl (lv_at hl 0 rfl) ?_
  refine va_get (D := (dC, dI)) (ci := 11) (v := .int (v 62)) (C := RX11) (T := TX11) (N := 63) hx hb hts in_wsX11_put_X11 hown hK hP 0 rfl rfl 62 (by decide) (hts (.fieldLink RX11 357 "ShipOfficeModel" "rowed" "I") (by decide +kernel)) (fun _ h9 => h9) rfl dX11_put_1 ?_
  refine lv_topi (fun x_1 ex_1 => ?_)
  have hx_1 : 0 ≤ x_1.toInt ∧ x_1.toInt ≤ 12 := iv_of ex_1 (gV 62)
  have gx_1 : x_1.toInt = (v 62).toInt := iv_to ex_1
  clear ex_1
  refine lv_bipush (v := 12) hx hb dX11_put_4 (by decide) ?_
  refine lv_icmp_ne (tgt := 16) hx hb dX11_put_6 (by decide) (fun c_2 => ?_) (fun c_2 => ?_)
  · have dc_2 := c_ne (a := x_1.toInt) (b := 12) rfl (by decide) c_2
    refine lv_aload_n hx hb dX11_put_16 rfl (lv_at hl 0 rfl) ?_
    refine va_get (D := (dC, dI)) (ci := 11) (v := .ref (pq 61)) (C := RX11) (T := TX11) (N := 63) hx hb hts in_wsX11_put_X11 hown hK hP 0 rfl rfl 61 (by decide) (hts (.fieldLink RX11 149 "ShipOfficeModel" "row" "[I") (by decide +kernel)) (fun _ h9 => h9) rfl dX11_put_17 ?_
    refine lv_aload_n hx hb dX11_put_20 rfl (lv_at hl 0 rfl) ?_
    refine va_get (D := (dC, dI)) (ci := 11) (v := .int (v 62)) (C := RX11) (T := TX11) (N := 63) hx hb hts in_wsX11_put_X11 hown hK hP 0 rfl rfl 62 (by decide) (hts (.fieldLink RX11 357 "ShipOfficeModel" "rowed" "I") (by decide +kernel)) (fun _ h9 => h9) rfl dX11_put_21 ?_
    refine lv_topi (fun x_3 ex_3 => ?_)
    have hx_3 : 0 ≤ x_3.toInt ∧ x_3.toInt ≤ 12 := iv_of ex_3 (gV 62)
    have gx_3 : x_3.toInt = (v 62).toInt := iv_to ex_3
    clear ex_3
    refine lv_iload_n hx hb dX11_put_24 rfl (lv_at hl 1 rfl) ?_
    refine va_iast hx hb hK hP hD hS 47 46 rfl rfl (vp_in_iff.mpr (by omega)) dX11_put_25 (fun H locs hP hD hS => ?_)
    have hP : va_P (dC, dI) vwCl (mW g0 pq cp v (upF fa 61 (x_3 : Int32).toNatClampNeg x1)) H := hP
    have hD : va_D A (mW g0 pq cp v (upF fa 61 (x_3 : Int32).toNatClampNeg x1)) := hD
    obtain ⟨fz_4, efz_4⟩ : ∃ zq, zq = (upF fa 61 (x_3 : Int32).toNatClampNeg x1) := ⟨_, rfl⟩
    rw [← efz_4] at hP hD
    have hAfz_4 : mA fz_4 := by rw [efz_4]; exact mA_upF (lo := -2147483648) (hi := 2147483647) gA rfl rfl (iv_all _)
    refine lv_aload_n hx hb dX11_put_26 rfl (lv_at hl 0 rfl) ?_
    refine lv_dup hx hb dX11_put_27 rfl ?_
    refine va_get (D := (dC, dI)) (ci := 11) (v := .int (v 62)) (C := RX11) (T := TX11) (N := 63) hx hb hts in_wsX11_put_X11 hown hK hP 0 rfl rfl 62 (by decide) (hts (.fieldLink RX11 357 "ShipOfficeModel" "rowed" "I") (by decide +kernel)) (fun _ h9 => h9) rfl dX11_put_28 ?_
    refine lv_topi (fun x_5 ex_5 => ?_)
    have hx_5 : 0 ≤ x_5.toInt ∧ x_5.toInt ≤ 12 := iv_of ex_5 (gV 62)
    have gx_5 : x_5.toInt = (v 62).toInt := iv_to ex_5
    clear ex_5
    refine lv_iconst (v := 1) hx hb dX11_put_31 (by decide) ?_
    refine lv_iadd hx hb dX11_put_32 ?_
    refine lv_topi (fun x_6 ex_6 => ?_)
    have hx_6 : x_6.toInt = x_5.toInt + 1 := (iv_to ex_6).trans (ad_i rfl (by decide) (by omega) (by omega))
    clear ex_6
    refine va_put (D := (dC, dI)) (ci := 11) (v := .int x_6) (ty := .int) (C := RX11) (T := TX11) (N := 63) hx hb hts in_wsX11_put_X11 tyX11 tyX11_ok nmX11 hown hK hP hD hS 0 rfl rfl 62 (by decide) (hts (.fieldLink RX11 357 "ShipOfficeModel" "rowed" "I") (by decide +kernel)) (fun _ h9 => h9) rfl (by decide +kernel) rfl rfl (Nat.le_of_ble_eq_true rfl) dX11_put_33 (fun H locs hP hD hS => ?_)
    have hP : va_P (dC, dI) vwCl (mW g0 pq cp (upd v 62 x_6) fz_4) H := hP
    have hD : va_D A (mW g0 pq cp (upd v 62 x_6) fz_4) := hD
    obtain ⟨z_7, ez_7⟩ : ∃ zq, zq = (upd v 62 x_6) := ⟨_, rfl⟩
    rw [← ez_7] at hP hD
    have hVz_7 : mV z_7 := by rw [ez_7]; exact mV_upd (lo := 0) (hi := 12) gV rfl rfl (by omega)
    have hRz_7 : z_7 38 = v 38 := by rw [ez_7]; exact (if_neg (by decide)).trans rfl
    have g_8 : (z_7 62).toInt = x_6.toInt := by rw [ez_7, show upd v 62 x_6 62 = x_6 from if_pos rfl]
    refine lv_aload_n hx hb dX11_put_36 rfl (lv_at hl 0 rfl) ?_
    refine va_get (D := (dC, dI)) (ci := 11) (v := .int (z_7 62)) (C := RX11) (T := TX11) (N := 63) hx hb hts in_wsX11_put_X11 hown hK hP 0 rfl rfl 62 (by decide) (hts (.fieldLink RX11 357 "ShipOfficeModel" "rowed" "I") (by decide +kernel)) (fun _ h9 => h9) rfl dX11_put_37 ?_
    refine lv_topi (fun x_9 ex_9 => ?_)
    have hx_9 : 0 ≤ x_9.toInt ∧ x_9.toInt ≤ 12 := iv_of ex_9 (hVz_7 62)
    have gx_9 : x_9.toInt = (z_7 62).toInt := iv_to ex_9
    clear ex_9
    exact W.iret (v := x_9) hx hb hr (fun t ht hW => ⟨⟨x_9, (z_7, fz_4), rfl, ⟨hVz_7, hAfz_4, hRz_7⟩, ⟨by rw [ht]; exact hP, va_K.moved hW.alike hK, hD⟩⟩, hS.F ht⟩) hS.2.2 dX11_put_40
  · have dc_2 := c_eq (a := x_1.toInt) (b := 12) rfl (by decide) c_2
    refine lv_aload_n hx hb dX11_put_9 rfl (lv_at hl 0 rfl) ?_
    refine lv_bipush (v := (-6)) hx hb dX11_put_10 (by decide) ?_
    have hFc := va_free (wc := (mW g0 pq cp v fa)) hD hS hA (List.range 48) rfl
    refine va_calli (va_runV (As := [.int (-6)]) (rest := []) ⟨hx, hb, hml, hown, hts⟩ (c_X11_refuse l dC dI s.heap.size g0 pq cp v fa (-6) (by unfold vp_in; decide)) (cwV 1 hts gX11_put_X11_refuse rfl rfl rfl (by decide +kernel) ⟨(Nat.le_of_ble_eq_true rfl), (Nat.le_of_ble_eq_true rfl)⟩) (pr_V (r := (RX11, TX11, 63)) hP hK hD 0 11 rfl rfl) rfl rfl hl.1 rfl (lv_room (Nat.le_of_ble_eq_true rfl)) dX11_put_12 ⟨(Nat.le_of_ble_eq_true rfl), (Nat.le_of_ble_eq_true rfl)⟩) hS (fun q _ h => hFc q h) hFc (fun r_11 u t H locs ht hvm w_10 hB hz1 hk1 hS => ?_)
    obtain ⟨v_12, fa_13⟩ := u
    obtain ⟨hP1, hK1, hD1⟩ := hB
    rw [ht] at hP1
    have hP : va_P (dC, dI) vwCl (mW g0 pq cp v_12 fa_13) H := hP1
    have hD : va_D A (mW g0 pq cp v_12 fa_13) := hD1.weaken (fun _ _ _ h => hFc _ h)
    clear hP1 hK1 hD1 hk1 hz1 hvm ht hFc
    obtain ⟨rfl, w_10⟩ := w_10
    have hVv_12 : mV v_12 := sm0_V w_10 gV
    have hAv_12 : mA fa_13 := sm0_A w_10 gA
    have g_14 : (v_12 62).toInt = (v 62).toInt := congrArg Int32.toInt (congrFun w_10.1 62)
    have hRv_12 : v_12 38 = v 38 := (congrFun w_10.1 38).trans rfl
    exact W.iret (v := (-6)) hx hb hr (fun t ht hW => ⟨⟨(-6), (v_12, fa_13), rfl, ⟨hVv_12, hAv_12, hRv_12⟩, ⟨by rw [ht]; exact hP, va_K.moved hW.alike hK, hD⟩⟩, hS.F ht⟩) hS.2.2 dX11_put_15
set_option maxHeartbeats 4000000 in
set_option maxRecDepth 100000 in
theorem c_X11_man_b (l : Launch) (dC : Nat → ClassId) (dI : Nat → Nat → Nat) (sz : Nat) (g0 : Nat) (pq : Nat → Nat) (cp : Nat → ClassId) (v : Nat → Int32) (fa : Nat → Nat → Int32) (gV : mV v) (gA : mA fa) (x1 : Int32) (x2 : Int32) (x3 : Int32) : Met l yX11_man wsX11_man ({ frames := 1, cells := 0, slots := 0, locals := 21 }) (va_Pc [.ref g0, .int x1, .int x2, .int x3] (pcW (dC, dI) (mT cp) (mW g0 pq cp v fa) sz)) (va_Qi (fun (r : Int32) (u : (Nat → Int32) × (Nat → Nat → Int32)) => mV u.1 ∧ mA u.2 ∧ u.1 38 = v 38) (fun u t => va_P (dC, dI) vwCl (mW g0 pq cp u.1 u.2) t.heap ∧ va_K (dC, dI) vwCl (mT cp) t ∧ va_D (va_A (mW g0 pq cp v fa) sz) (mW g0 pq cp u.1 u.2)) (va_A (mW g0 pq cp v fa) sz)) 0 0 (va_A (mW g0 pq cp v fa) sz) := by
  refine Met.ofW (cc := cX11_man) (maxL := 4) (ret := (some .int)) (by decide) rfl ?_
  intro p e s m args below meth c s₁ B hml hv
  obtain ⟨rfl, hsz, hP, hK, hD0⟩ := hv
  have hx := B.exec
  have hb := B.bytes
  have hr := B.returns
  have hts := atoms_spec (ws := wsX11_man) B.pre
  have hown : s.vm.findClass RX11 = some m.cls := findClass_of_methodNamed B.named
  have hlocks := B.notSynchronized
  subst hsz
  have hD := hD0.self (sz := s.heap.size)
  generalize hAe : va_A (mW g0 pq cp v fa) s.heap.size = A at hD ⊢
  have hA : ∀ q : Nat, s.heap.size ≤ q → A q := fun q h => by rw [← hAe]; exact Or.inr h
  have hS : va_S A s.heap s.heap [] := va_S.rf
  have hP : va_P (dC, dI) vwCl (mW g0 pq cp v fa) s.heap := hP
  have hl := lv_entry ([.ref g0, .int x1, .int x2, .int x3]) (n := 4) (Nat.le_of_ble_eq_true rfl)
  rw [lg_entry_eq]
  generalize (lg_sl ([.ref g0, .int x1, .int x2, .int x3]) ++ List.replicate (4 - (lg_sl ([.ref g0, .int x1, .int x2, .int x3])).length) Slot.unset).toArray = ls at hl ⊢
  have hl : lv_has ls 4 [(0, .ref g0), (1, .int x1), (2, .int x2), (3, .int x3)] := hl
  refine lv_iload_n hx hb dX11_man_0 rfl (lv_at hl 1 rfl) ?_
  refine lv_if_lt (tgt := 15) hx hb dX11_man_1 (by decide) (fun c_1 => ?_) (fun c_1 => ?_)
  · have dc_1 := c_lt (a := x1.toInt) (b := 0) rfl (by decide) c_1
    refine lv_aload_n hx hb dX11_man_15 rfl (lv_at hl 0 rfl) ?_
    refine lv_bipush (v := (-4)) hx hb dX11_man_16 (by decide) ?_
    have hFc := va_free (wc := (mW g0 pq cp v fa)) hD hS hA (List.range 48) rfl
    refine va_calli (va_runV (As := [.int (-4)]) (rest := []) ⟨hx, hb, hml, hown, hts⟩ (c_X11_refuse l dC dI s.heap.size g0 pq cp v fa (-4) (by unfold vp_in; decide)) (cwV 1 hts gX11_man_X11_refuse rfl rfl rfl (by decide +kernel) ⟨(Nat.le_of_ble_eq_true rfl), (Nat.le_of_ble_eq_true rfl)⟩) (pr_V (r := (RX11, TX11, 63)) hP hK hD 0 11 rfl rfl) rfl rfl hl.1 rfl (lv_room (Nat.le_of_ble_eq_true rfl)) dX11_man_18 ⟨(Nat.le_of_ble_eq_true rfl), (Nat.le_of_ble_eq_true rfl)⟩) hS (fun q _ h => hFc q h) hFc (fun r_3 u t H locs ht hvm w_2 hB hz1 hk1 hS => ?_)
    obtain ⟨v_4, fa_5⟩ := u
    obtain ⟨hP1, hK1, hD1⟩ := hB
    rw [ht] at hP1
    have hP : va_P (dC, dI) vwCl (mW g0 pq cp v_4 fa_5) H := hP1
    have hD : va_D A (mW g0 pq cp v_4 fa_5) := hD1.weaken (fun _ _ _ h => hFc _ h)
    clear hP1 hK1 hD1 hk1 hz1 hvm ht hFc
    obtain ⟨rfl, w_2⟩ := w_2
    have hVv_4 : mV v_4 := sm0_V w_2 gV
    have hAv_4 : mA fa_5 := sm0_A w_2 gA
    have g_6 : (v_4 39).toInt = (v 39).toInt := congrArg Int32.toInt (congrFun w_2.1 39)
    have hRv_4 : v_4 38 = v 38 := (congrFun w_2.1 38).trans rfl
    exact W.iret (v := (-4)) hx hb hr (fun t ht hW => ⟨⟨(-4), (v_4, fa_5), rfl, ⟨hVv_4, hAv_4, hRv_4⟩, ⟨by rw [ht]; exact hP, va_K.moved hW.alike hK, hD⟩⟩, hS.F ht⟩) hS.2.2 dX11_man_21
  · have dc_1 := c_nlt (a := x1.toInt) (b := 0) rfl (by decide) c_1
    refine lv_iload_n hx hb dX11_man_4 rfl (lv_at hl 2 rfl) ?_
    refine lv_if_lt (tgt := 15) hx hb dX11_man_5 (by decide) (fun c_7 => ?_) (fun c_7 => ?_)
    · have dc_7 := c_lt (a := x2.toInt) (b := 0) rfl (by decide) c_7
      refine lv_aload_n hx hb dX11_man_15 rfl (lv_at hl 0 rfl) ?_
      refine lv_bipush (v := (-4)) hx hb dX11_man_16 (by decide) ?_
      have hFc := va_free (wc := (mW g0 pq cp v fa)) hD hS hA (List.range 48) rfl
      refine va_calli (va_runV (As := [.int (-4)]) (rest := []) ⟨hx, hb, hml, hown, hts⟩ (c_X11_refuse l dC dI s.heap.size g0 pq cp v fa (-4) (by unfold vp_in; decide)) (cwV 1 hts gX11_man_X11_refuse rfl rfl rfl (by decide +kernel) ⟨(Nat.le_of_ble_eq_true rfl), (Nat.le_of_ble_eq_true rfl)⟩) (pr_V (r := (RX11, TX11, 63)) hP hK hD 0 11 rfl rfl) rfl rfl hl.1 rfl (lv_room (Nat.le_of_ble_eq_true rfl)) dX11_man_18 ⟨(Nat.le_of_ble_eq_true rfl), (Nat.le_of_ble_eq_true rfl)⟩) hS (fun q _ h => hFc q h) hFc (fun r_9 u t H locs ht hvm w_8 hB hz1 hk1 hS => ?_)
      obtain ⟨v_10, fa_11⟩ := u
      obtain ⟨hP1, hK1, hD1⟩ := hB
      rw [ht] at hP1
      have hP : va_P (dC, dI) vwCl (mW g0 pq cp v_10 fa_11) H := hP1
      have hD : va_D A (mW g0 pq cp v_10 fa_11) := hD1.weaken (fun _ _ _ h => hFc _ h)
      clear hP1 hK1 hD1 hk1 hz1 hvm ht hFc
      obtain ⟨rfl, w_8⟩ := w_8
      have hVv_10 : mV v_10 := sm0_V w_8 gV
      have hAv_10 : mA fa_11 := sm0_A w_8 gA
      have g_12 : (v_10 39).toInt = (v 39).toInt := congrArg Int32.toInt (congrFun w_8.1 39)
      have hRv_10 : v_10 38 = v 38 := (congrFun w_8.1 38).trans rfl
      exact W.iret (v := (-4)) hx hb hr (fun t ht hW => ⟨⟨(-4), (v_10, fa_11), rfl, ⟨hVv_10, hAv_10, hRv_10⟩, ⟨by rw [ht]; exact hP, va_K.moved hW.alike hK, hD⟩⟩, hS.F ht⟩) hS.2.2 dX11_man_21
    · have dc_7 := c_nlt (a := x2.toInt) (b := 0) rfl (by decide) c_7
      refine lv_iload_n hx hb dX11_man_8 rfl (lv_at hl 3 rfl) ?_
      refine lv_sipush (v := (-30000)) hx hb dX11_man_9 (by decide) ?_
      refine lv_icmp_ge (tgt := 22) hx hb dX11_man_12 (by decide) (fun c_13 => ?_) (fun c_13 => ?_)
      · have dc_13 := c_le (a := (-30000)) (b := x3.toInt) (by decide) rfl c_13
        refine lv_iload_n hx hb dX11_man_22 rfl (lv_at hl 1 rfl) ?_
        refine lv_sipush (v := 9999) hx hb dX11_man_23 (by decide) ?_
        refine lv_icmp_gt (tgt := 52) hx hb dX11_man_26 (by decide) (fun c_14 => ?_) (fun c_14 => ?_)
        · have dc_14 := c_lt (a := 9999) (b := x1.toInt) (by decide) rfl c_14
          refine lv_aload_n hx hb dX11_man_52 rfl (lv_at hl 0 rfl) ?_
          refine lv_bipush (v := (-6)) hx hb dX11_man_53 (by decide) ?_
          have hFc := va_free (wc := (mW g0 pq cp v fa)) hD hS hA (List.range 48) rfl
          refine va_calli (va_runV (As := [.int (-6)]) (rest := []) ⟨hx, hb, hml, hown, hts⟩ (c_X11_refuse l dC dI s.heap.size g0 pq cp v fa (-6) (by unfold vp_in; decide)) (cwV 1 hts gX11_man_X11_refuse rfl rfl rfl (by decide +kernel) ⟨(Nat.le_of_ble_eq_true rfl), (Nat.le_of_ble_eq_true rfl)⟩) (pr_V (r := (RX11, TX11, 63)) hP hK hD 0 11 rfl rfl) rfl rfl hl.1 rfl (lv_room (Nat.le_of_ble_eq_true rfl)) dX11_man_55 ⟨(Nat.le_of_ble_eq_true rfl), (Nat.le_of_ble_eq_true rfl)⟩) hS (fun q _ h => hFc q h) hFc (fun r_16 u t H locs ht hvm w_15 hB hz1 hk1 hS => ?_)
          obtain ⟨v_17, fa_18⟩ := u
          obtain ⟨hP1, hK1, hD1⟩ := hB
          rw [ht] at hP1
          have hP : va_P (dC, dI) vwCl (mW g0 pq cp v_17 fa_18) H := hP1
          have hD : va_D A (mW g0 pq cp v_17 fa_18) := hD1.weaken (fun _ _ _ h => hFc _ h)
          clear hP1 hK1 hD1 hk1 hz1 hvm ht hFc
          obtain ⟨rfl, w_15⟩ := w_15
          have hVv_17 : mV v_17 := sm0_V w_15 gV
          have hAv_17 : mA fa_18 := sm0_A w_15 gA
          have g_19 : (v_17 39).toInt = (v 39).toInt := congrArg Int32.toInt (congrFun w_15.1 39)
          have hRv_17 : v_17 38 = v 38 := (congrFun w_15.1 38).trans rfl
          exact W.iret (v := (-6)) hx hb hr (fun t ht hW => ⟨⟨(-6), (v_17, fa_18), rfl, ⟨hVv_17, hAv_17, hRv_17⟩, ⟨by rw [ht]; exact hP, va_K.moved hW.alike hK, hD⟩⟩, hS.F ht⟩) hS.2.2 dX11_man_58
        · have dc_14 := c_nlt (a := 9999) (b := x1.toInt) (by decide) rfl c_14
          refine lv_iload_n hx hb dX11_man_29 rfl (lv_at hl 2 rfl) ?_
          refine lv_ldc (v := 99999) hx hb hown (hts (.constant RX11 178 (99999)) (by decide +kernel)) dX11_man_30 ?_
          refine lv_icmp_gt (tgt := 52) hx hb dX11_man_32 (by decide) (fun c_20 => ?_) (fun c_20 => ?_)
          · have dc_20 := c_lt (a := 99999) (b := x2.toInt) (by decide) rfl c_20
            refine lv_aload_n hx hb dX11_man_52 rfl (lv_at hl 0 rfl) ?_
            refine lv_bipush (v := (-6)) hx hb dX11_man_53 (by decide) ?_
            have hFc := va_free (wc := (mW g0 pq cp v fa)) hD hS hA (List.range 48) rfl
            refine va_calli (va_runV (As := [.int (-6)]) (rest := []) ⟨hx, hb, hml, hown, hts⟩ (c_X11_refuse l dC dI s.heap.size g0 pq cp v fa (-6) (by unfold vp_in; decide)) (cwV 1 hts gX11_man_X11_refuse rfl rfl rfl (by decide +kernel) ⟨(Nat.le_of_ble_eq_true rfl), (Nat.le_of_ble_eq_true rfl)⟩) (pr_V (r := (RX11, TX11, 63)) hP hK hD 0 11 rfl rfl) rfl rfl hl.1 rfl (lv_room (Nat.le_of_ble_eq_true rfl)) dX11_man_55 ⟨(Nat.le_of_ble_eq_true rfl), (Nat.le_of_ble_eq_true rfl)⟩) hS (fun q _ h => hFc q h) hFc (fun r_22 u t H locs ht hvm w_21 hB hz1 hk1 hS => ?_)
            obtain ⟨v_23, fa_24⟩ := u
            obtain ⟨hP1, hK1, hD1⟩ := hB
            rw [ht] at hP1
            have hP : va_P (dC, dI) vwCl (mW g0 pq cp v_23 fa_24) H := hP1
            have hD : va_D A (mW g0 pq cp v_23 fa_24) := hD1.weaken (fun _ _ _ h => hFc _ h)
            clear hP1 hK1 hD1 hk1 hz1 hvm ht hFc
            obtain ⟨rfl, w_21⟩ := w_21
            have hVv_23 : mV v_23 := sm0_V w_21 gV
            have hAv_23 : mA fa_24 := sm0_A w_21 gA
            have g_25 : (v_23 39).toInt = (v 39).toInt := congrArg Int32.toInt (congrFun w_21.1 39)
            have hRv_23 : v_23 38 = v 38 := (congrFun w_21.1 38).trans rfl
            exact W.iret (v := (-6)) hx hb hr (fun t ht hW => ⟨⟨(-6), (v_23, fa_24), rfl, ⟨hVv_23, hAv_23, hRv_23⟩, ⟨by rw [ht]; exact hP, va_K.moved hW.alike hK, hD⟩⟩, hS.F ht⟩) hS.2.2 dX11_man_58
          · have dc_20 := c_nlt (a := 99999) (b := x2.toInt) (by decide) rfl c_20
            refine lv_iload_n hx hb dX11_man_35 rfl (lv_at hl 3 rfl) ?_
            refine lv_aload_n hx hb dX11_man_36 rfl (lv_at hl 0 rfl) ?_
            refine va_get (D := (dC, dI)) (ci := 11) (v := .int (v 38)) (C := RX11) (T := TX11) (N := 63) hx hb hts in_wsX11_man_X11 hown hK hP 0 rfl rfl 38 (by decide) (hts (.fieldLink RX11 171 "ShipOfficeModel" "now" "I") (by decide +kernel)) (fun _ h9 => h9) rfl dX11_man_37 ?_
            refine lv_topi (fun x_26 ex_26 => ?_)
            have hx_26 : 0 ≤ x_26.toInt ∧ x_26.toInt ≤ 3000 := iv_of ex_26 (gV 38)
            clear ex_26
            refine lv_icmp_gt (tgt := 52) hx hb dX11_man_40 (by decide) (fun c_27 => ?_) (fun c_27 => ?_)
            · have dc_27 := c_lt (a := x_26.toInt) (b := x3.toInt) rfl rfl c_27
              refine lv_aload_n hx hb dX11_man_52 rfl (lv_at hl 0 rfl) ?_
              refine lv_bipush (v := (-6)) hx hb dX11_man_53 (by decide) ?_
              have hFc := va_free (wc := (mW g0 pq cp v fa)) hD hS hA (List.range 48) rfl
              refine va_calli (va_runV (As := [.int (-6)]) (rest := []) ⟨hx, hb, hml, hown, hts⟩ (c_X11_refuse l dC dI s.heap.size g0 pq cp v fa (-6) (by unfold vp_in; decide)) (cwV 1 hts gX11_man_X11_refuse rfl rfl rfl (by decide +kernel) ⟨(Nat.le_of_ble_eq_true rfl), (Nat.le_of_ble_eq_true rfl)⟩) (pr_V (r := (RX11, TX11, 63)) hP hK hD 0 11 rfl rfl) rfl rfl hl.1 rfl (lv_room (Nat.le_of_ble_eq_true rfl)) dX11_man_55 ⟨(Nat.le_of_ble_eq_true rfl), (Nat.le_of_ble_eq_true rfl)⟩) hS (fun q _ h => hFc q h) hFc (fun r_29 u t H locs ht hvm w_28 hB hz1 hk1 hS => ?_)
              obtain ⟨v_30, fa_31⟩ := u
              obtain ⟨hP1, hK1, hD1⟩ := hB
              rw [ht] at hP1
              have hP : va_P (dC, dI) vwCl (mW g0 pq cp v_30 fa_31) H := hP1
              have hD : va_D A (mW g0 pq cp v_30 fa_31) := hD1.weaken (fun _ _ _ h => hFc _ h)
              clear hP1 hK1 hD1 hk1 hz1 hvm ht hFc
              obtain ⟨rfl, w_28⟩ := w_28
              have hVv_30 : mV v_30 := sm0_V w_28 gV
              have hAv_30 : mA fa_31 := sm0_A w_28 gA
              have g_32 : (v_30 39).toInt = (v 39).toInt := congrArg Int32.toInt (congrFun w_28.1 39)
              have hRv_30 : v_30 38 = v 38 := (congrFun w_28.1 38).trans rfl
              exact W.iret (v := (-6)) hx hb hr (fun t ht hW => ⟨⟨(-6), (v_30, fa_31), rfl, ⟨hVv_30, hAv_30, hRv_30⟩, ⟨by rw [ht]; exact hP, va_K.moved hW.alike hK, hD⟩⟩, hS.F ht⟩) hS.2.2 dX11_man_58
            · have dc_27 := c_nlt (a := x_26.toInt) (b := x3.toInt) rfl rfl c_27
              refine lv_aload_n hx hb dX11_man_43 rfl (lv_at hl 0 rfl) ?_
              refine va_get (D := (dC, dI)) (ci := 11) (v := .int (v 39)) (C := RX11) (T := TX11) (N := 63) hx hb hts in_wsX11_man_X11 hown hK hP 0 rfl rfl 39 (by decide) (hts (.fieldLink RX11 157 "ShipOfficeModel" "men" "I") (by decide +kernel)) (fun _ h9 => h9) rfl dX11_man_44 ?_
              refine lv_topi (fun x_33 ex_33 => ?_)
              have hx_33 : 0 ≤ x_33.toInt ∧ x_33.toInt ≤ 40 := iv_of ex_33 (gV 39)
              have gx_33 : x_33.toInt = (v 39).toInt := iv_to ex_33
              clear ex_33
              refine lv_bipush (v := 40) hx hb dX11_man_47 (by decide) ?_
              refine lv_icmp_ne (tgt := 59) hx hb dX11_man_49 (by decide) (fun c_34 => ?_) (fun c_34 => ?_)
              · have dc_34 := c_ne (a := x_33.toInt) (b := 40) rfl (by decide) c_34
                refine lv_aload_n hx hb dX11_man_59 rfl (lv_at hl 0 rfl) ?_
                refine va_get (D := (dC, dI)) (ci := 11) (v := .ref (pq 2)) (C := RX11) (T := TX11) (N := 63) hx hb hts in_wsX11_man_X11 hown hK hP 0 rfl rfl 2 (by decide) (hts (.fieldLink RX11 16 "ShipOfficeModel" "name" "[I") (by decide +kernel)) (fun _ h9 => h9) rfl dX11_man_60 ?_
                refine lv_aload_n hx hb dX11_man_63 rfl (lv_at hl 0 rfl) ?_
                refine va_get (D := (dC, dI)) (ci := 11) (v := .int (v 39)) (C := RX11) (T := TX11) (N := 63) hx hb hts in_wsX11_man_X11 hown hK hP 0 rfl rfl 39 (by decide) (hts (.fieldLink RX11 157 "ShipOfficeModel" "men" "I") (by decide +kernel)) (fun _ h9 => h9) rfl dX11_man_64 ?_
                refine lv_topi (fun x_35 ex_35 => ?_)
                have hx_35 : 0 ≤ x_35.toInt ∧ x_35.toInt ≤ 40 := iv_of ex_35 (gV 39)
                have gx_35 : x_35.toInt = (v 39).toInt := iv_to ex_35
                clear ex_35
                refine lv_iload_n hx hb dX11_man_67 rfl (lv_at hl 1 rfl) ?_
                refine va_iast hx hb hK hP hD hS 3 2 rfl rfl (vp_in_iff.mpr (by omega)) dX11_man_68 (fun H locs hP hD hS => ?_)
                have hP : va_P (dC, dI) vwCl (mW g0 pq cp v (upF fa 2 (x_35 : Int32).toNatClampNeg x1)) H := hP
                have hD : va_D A (mW g0 pq cp v (upF fa 2 (x_35 : Int32).toNatClampNeg x1)) := hD
                obtain ⟨fz_36, efz_36⟩ : ∃ zq, zq = (upF fa 2 (x_35 : Int32).toNatClampNeg x1) := ⟨_, rfl⟩
                rw [← efz_36] at hP hD
                have hAfz_36 : mA fz_36 := by rw [efz_36]; exact mA_upF (lo := -2147483648) (hi := 2147483647) gA rfl rfl (iv_all _)
                refine lv_aload_n hx hb dX11_man_69 rfl (lv_at hl 0 rfl) ?_
                refine va_get (D := (dC, dI)) (ci := 11) (v := .ref (pq 3)) (C := RX11) (T := TX11) (N := 63) hx hb hts in_wsX11_man_X11 hown hK hP 0 rfl rfl 3 (by decide) (hts (.fieldLink RX11 19 "ShipOfficeModel" "marks" "[I") (by decide +kernel)) (fun _ h9 => h9) rfl dX11_man_70 ?_
                refine lv_aload_n hx hb dX11_man_73 rfl (lv_at hl 0 rfl) ?_
                refine va_get (D := (dC, dI)) (ci := 11) (v := .int (v 39)) (C := RX11) (T := TX11) (N := 63) hx hb hts in_wsX11_man_X11 hown hK hP 0 rfl rfl 39 (by decide) (hts (.fieldLink RX11 157 "ShipOfficeModel" "men" "I") (by decide +kernel)) (fun _ h9 => h9) rfl dX11_man_74 ?_
                refine lv_topi (fun x_37 ex_37 => ?_)
                have hx_37 : 0 ≤ x_37.toInt ∧ x_37.toInt ≤ 40 := iv_of ex_37 (gV 39)
                have gx_37 : x_37.toInt = (v 39).toInt := iv_to ex_37
                clear ex_37
                refine lv_iload_n hx hb dX11_man_77 rfl (lv_at hl 2 rfl) ?_
                refine va_iast hx hb hK hP hD hS 4 3 rfl rfl (vp_in_iff.mpr (by omega)) dX11_man_78 (fun H locs hP hD hS => ?_)
                have hP : va_P (dC, dI) vwCl (mW g0 pq cp v (upF fz_36 3 (x_37 : Int32).toNatClampNeg x2)) H := hP
                have hD : va_D A (mW g0 pq cp v (upF fz_36 3 (x_37 : Int32).toNatClampNeg x2)) := hD
                obtain ⟨fz_38, efz_38⟩ : ∃ zq, zq = (upF fz_36 3 (x_37 : Int32).toNatClampNeg x2) := ⟨_, rfl⟩
                rw [← efz_38] at hP hD
                have hAfz_38 : mA fz_38 := by rw [efz_38]; exact mA_upF (lo := -2147483648) (hi := 2147483647) hAfz_36 rfl rfl (iv_all _)
                refine lv_aload_n hx hb dX11_man_79 rfl (lv_at hl 0 rfl) ?_
                refine va_get (D := (dC, dI)) (ci := 11) (v := .ref (pq 4)) (C := RX11) (T := TX11) (N := 63) hx hb hts in_wsX11_man_X11 hown hK hP 0 rfl rfl 4 (by decide) (hts (.fieldLink RX11 22 "ShipOfficeModel" "born" "[I") (by decide +kernel)) (fun _ h9 => h9) rfl dX11_man_80 ?_
                refine lv_aload_n hx hb dX11_man_83 rfl (lv_at hl 0 rfl) ?_
                refine va_get (D := (dC, dI)) (ci := 11) (v := .int (v 39)) (C := RX11) (T := TX11) (N := 63) hx hb hts in_wsX11_man_X11 hown hK hP 0 rfl rfl 39 (by decide) (hts (.fieldLink RX11 157 "ShipOfficeModel" "men" "I") (by decide +kernel)) (fun _ h9 => h9) rfl dX11_man_84 ?_
                refine lv_topi (fun x_39 ex_39 => ?_)
                have hx_39 : 0 ≤ x_39.toInt ∧ x_39.toInt ≤ 40 := iv_of ex_39 (gV 39)
                have gx_39 : x_39.toInt = (v 39).toInt := iv_to ex_39
                clear ex_39
                refine lv_iload_n hx hb dX11_man_87 rfl (lv_at hl 3 rfl) ?_
                refine va_iast hx hb hK hP hD hS 5 4 rfl rfl (vp_in_iff.mpr (by omega)) dX11_man_88 (fun H locs hP hD hS => ?_)
                have hP : va_P (dC, dI) vwCl (mW g0 pq cp v (upF fz_38 4 (x_39 : Int32).toNatClampNeg x3)) H := hP
                have hD : va_D A (mW g0 pq cp v (upF fz_38 4 (x_39 : Int32).toNatClampNeg x3)) := hD
                obtain ⟨fz_40, efz_40⟩ : ∃ zq, zq = (upF fz_38 4 (x_39 : Int32).toNatClampNeg x3) := ⟨_, rfl⟩
                rw [← efz_40] at hP hD
                have hAfz_40 : mA fz_40 := by rw [efz_40]; exact mA_upF (lo := -2147483648) (hi := 2147483647) hAfz_38 rfl rfl (iv_all _)
                refine lv_aload_n hx hb dX11_man_89 rfl (lv_at hl 0 rfl) ?_
                refine lv_dup hx hb dX11_man_90 rfl ?_
                refine va_get (D := (dC, dI)) (ci := 11) (v := .int (v 39)) (C := RX11) (T := TX11) (N := 63) hx hb hts in_wsX11_man_X11 hown hK hP 0 rfl rfl 39 (by decide) (hts (.fieldLink RX11 157 "ShipOfficeModel" "men" "I") (by decide +kernel)) (fun _ h9 => h9) rfl dX11_man_91 ?_
                refine lv_topi (fun x_41 ex_41 => ?_)
                have hx_41 : 0 ≤ x_41.toInt ∧ x_41.toInt ≤ 40 := iv_of ex_41 (gV 39)
                have gx_41 : x_41.toInt = (v 39).toInt := iv_to ex_41
                clear ex_41
                refine lv_iconst (v := 1) hx hb dX11_man_94 (by decide) ?_
                refine lv_iadd hx hb dX11_man_95 ?_
                refine lv_topi (fun x_42 ex_42 => ?_)
                have hx_42 : x_42.toInt = x_41.toInt + 1 := (iv_to ex_42).trans (ad_i rfl (by decide) (by omega) (by omega))
                clear ex_42
                refine va_put (D := (dC, dI)) (ci := 11) (v := .int x_42) (ty := .int) (C := RX11) (T := TX11) (N := 63) hx hb hts in_wsX11_man_X11 tyX11 tyX11_ok nmX11 hown hK hP hD hS 0 rfl rfl 39 (by decide) (hts (.fieldLink RX11 157 "ShipOfficeModel" "men" "I") (by decide +kernel)) (fun _ h9 => h9) rfl (by decide +kernel) rfl rfl (Nat.le_of_ble_eq_true rfl) dX11_man_96 (fun H locs hP hD hS => ?_)
                have hP : va_P (dC, dI) vwCl (mW g0 pq cp (upd v 39 x_42) fz_40) H := hP
                have hD : va_D A (mW g0 pq cp (upd v 39 x_42) fz_40) := hD
                obtain ⟨z_43, ez_43⟩ : ∃ zq, zq = (upd v 39 x_42) := ⟨_, rfl⟩
                rw [← ez_43] at hP hD
                have hVz_43 : mV z_43 := by rw [ez_43]; exact mV_upd (lo := 0) (hi := 40) gV rfl rfl (by omega)
                have hRz_43 : z_43 38 = v 38 := by rw [ez_43]; exact (if_neg (by decide)).trans rfl
                have g_44 : (z_43 39).toInt = x_42.toInt := by rw [ez_43, show upd v 39 x_42 39 = x_42 from if_pos rfl]
                refine lv_aload_n hx hb dX11_man_99 rfl (lv_at hl 0 rfl) ?_
                refine va_get (D := (dC, dI)) (ci := 11) (v := .int (z_43 39)) (C := RX11) (T := TX11) (N := 63) hx hb hts in_wsX11_man_X11 hown hK hP 0 rfl rfl 39 (by decide) (hts (.fieldLink RX11 157 "ShipOfficeModel" "men" "I") (by decide +kernel)) (fun _ h9 => h9) rfl dX11_man_100 ?_
                refine lv_topi (fun x_45 ex_45 => ?_)
                have hx_45 : 0 ≤ x_45.toInt ∧ x_45.toInt ≤ 40 := iv_of ex_45 (hVz_43 39)
                have gx_45 : x_45.toInt = (z_43 39).toInt := iv_to ex_45
                clear ex_45
                refine lv_iconst (v := 1) hx hb dX11_man_103 (by decide) ?_
                refine lv_isub hx hb dX11_man_104 ?_
                refine lv_topi (fun x_46 ex_46 => ?_)
                have hx_46 : x_46.toInt = x_45.toInt - 1 := (iv_to ex_46).trans (sb_i rfl (by decide) (by omega) (by omega))
                clear ex_46
                exact W.iret (v := x_46) hx hb hr (fun t ht hW => ⟨⟨x_46, (z_43, fz_40), rfl, ⟨hVz_43, hAfz_40, hRz_43⟩, ⟨by rw [ht]; exact hP, va_K.moved hW.alike hK, hD⟩⟩, hS.F ht⟩) hS.2.2 dX11_man_105
              · have dc_34 := c_eq (a := x_33.toInt) (b := 40) rfl (by decide) c_34
                refine lv_aload_n hx hb dX11_man_52 rfl (lv_at hl 0 rfl) ?_
                refine lv_bipush (v := (-6)) hx hb dX11_man_53 (by decide) ?_
                have hFc := va_free (wc := (mW g0 pq cp v fa)) hD hS hA (List.range 48) rfl
                refine va_calli (va_runV (As := [.int (-6)]) (rest := []) ⟨hx, hb, hml, hown, hts⟩ (c_X11_refuse l dC dI s.heap.size g0 pq cp v fa (-6) (by unfold vp_in; decide)) (cwV 1 hts gX11_man_X11_refuse rfl rfl rfl (by decide +kernel) ⟨(Nat.le_of_ble_eq_true rfl), (Nat.le_of_ble_eq_true rfl)⟩) (pr_V (r := (RX11, TX11, 63)) hP hK hD 0 11 rfl rfl) rfl rfl hl.1 rfl (lv_room (Nat.le_of_ble_eq_true rfl)) dX11_man_55 ⟨(Nat.le_of_ble_eq_true rfl), (Nat.le_of_ble_eq_true rfl)⟩) hS (fun q _ h => hFc q h) hFc (fun r_48 u t H locs ht hvm w_47 hB hz1 hk1 hS => ?_)
                obtain ⟨v_49, fa_50⟩ := u
                obtain ⟨hP1, hK1, hD1⟩ := hB
                rw [ht] at hP1
                have hP : va_P (dC, dI) vwCl (mW g0 pq cp v_49 fa_50) H := hP1
                have hD : va_D A (mW g0 pq cp v_49 fa_50) := hD1.weaken (fun _ _ _ h => hFc _ h)
                clear hP1 hK1 hD1 hk1 hz1 hvm ht hFc
                obtain ⟨rfl, w_47⟩ := w_47
                have hVv_49 : mV v_49 := sm0_V w_47 gV
                have hAv_49 : mA fa_50 := sm0_A w_47 gA
                have g_51 : (v_49 39).toInt = (v 39).toInt := congrArg Int32.toInt (congrFun w_47.1 39)
                have hRv_49 : v_49 38 = v 38 := (congrFun w_47.1 38).trans rfl
                exact W.iret (v := (-6)) hx hb hr (fun t ht hW => ⟨⟨(-6), (v_49, fa_50), rfl, ⟨hVv_49, hAv_49, hRv_49⟩, ⟨by rw [ht]; exact hP, va_K.moved hW.alike hK, hD⟩⟩, hS.F ht⟩) hS.2.2 dX11_man_58
      · have dc_13 := c_nle (a := (-30000)) (b := x3.toInt) (by decide) rfl c_13
        refine lv_aload_n hx hb dX11_man_15 rfl (lv_at hl 0 rfl) ?_
        refine lv_bipush (v := (-4)) hx hb dX11_man_16 (by decide) ?_
        have hFc := va_free (wc := (mW g0 pq cp v fa)) hD hS hA (List.range 48) rfl
        refine va_calli (va_runV (As := [.int (-4)]) (rest := []) ⟨hx, hb, hml, hown, hts⟩ (c_X11_refuse l dC dI s.heap.size g0 pq cp v fa (-4) (by unfold vp_in; decide)) (cwV 1 hts gX11_man_X11_refuse rfl rfl rfl (by decide +kernel) ⟨(Nat.le_of_ble_eq_true rfl), (Nat.le_of_ble_eq_true rfl)⟩) (pr_V (r := (RX11, TX11, 63)) hP hK hD 0 11 rfl rfl) rfl rfl hl.1 rfl (lv_room (Nat.le_of_ble_eq_true rfl)) dX11_man_18 ⟨(Nat.le_of_ble_eq_true rfl), (Nat.le_of_ble_eq_true rfl)⟩) hS (fun q _ h => hFc q h) hFc (fun r_53 u t H locs ht hvm w_52 hB hz1 hk1 hS => ?_)
        obtain ⟨v_54, fa_55⟩ := u
        obtain ⟨hP1, hK1, hD1⟩ := hB
        rw [ht] at hP1
        have hP : va_P (dC, dI) vwCl (mW g0 pq cp v_54 fa_55) H := hP1
        have hD : va_D A (mW g0 pq cp v_54 fa_55) := hD1.weaken (fun _ _ _ h => hFc _ h)
        clear hP1 hK1 hD1 hk1 hz1 hvm ht hFc
        obtain ⟨rfl, w_52⟩ := w_52
        have hVv_54 : mV v_54 := sm0_V w_52 gV
        have hAv_54 : mA fa_55 := sm0_A w_52 gA
        have g_56 : (v_54 39).toInt = (v 39).toInt := congrArg Int32.toInt (congrFun w_52.1 39)
        have hRv_54 : v_54 38 = v 38 := (congrFun w_52.1 38).trans rfl
        exact W.iret (v := (-4)) hx hb hr (fun t ht hW => ⟨⟨(-4), (v_54, fa_55), rfl, ⟨hVv_54, hAv_54, hRv_54⟩, ⟨by rw [ht]; exact hP, va_K.moved hW.alike hK, hD⟩⟩, hS.F ht⟩) hS.2.2 dX11_man_21
