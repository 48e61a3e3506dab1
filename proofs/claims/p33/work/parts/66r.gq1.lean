


set_option maxHeartbeats 4000000 in
set_option maxRecDepth 100000 in
theorem c_X11_days_f (l : Launch) (dC : Nat → ClassId) (dI : Nat → Nat → Nat) (sz : Nat) (g0 : Nat) (pq : Nat → Nat) (cp : Nat → ClassId) (v : Nat → Int32) (fa : Nat → Nat → Int32) (gV : mV v) (gA : mA fa) (x1 : Int32) : Met l yX11_days wsX11_days ({ frames := 1, cells := 0, slots := 0, locals := 21 }) (va_Pc [.ref g0, .int x1] (pcW (dC, dI) (mT cp) (mW g0 pq cp v fa) sz)) (va_Qi (fun (r : Int32) (u : (Nat → Int32) × (Nat → Nat → Int32)) => mV u.1 ∧ mA u.2 ∧ mX [0, 38] v fa u.1 u.2 ∧ (odays (v 38).toInt x1.toInt r.toInt (u.1 38).toInt ∧ rZr v fa u r (r.toInt < 0))) (fun u t => va_P (dC, dI) vwCl (mW g0 pq cp u.1 u.2) t.heap ∧ va_K (dC, dI) vwCl (mT cp) t ∧ va_D (va_A (mW g0 pq cp v fa) sz) (mW g0 pq cp u.1 u.2)) (va_A (mW g0 pq cp v fa) sz)) 0 0 (va_A (mW g0 pq cp v fa) sz) := by
  refine Met.ofW (cc := cX11_days) (maxL := 2) (ret := (some .int)) (by decide) rfl ?_
  intro p e s m args below meth c s₁ B hml hv
  obtain ⟨rfl, hsz, hP, hK, hD0⟩ := hv
  have hx := B.exec
  have hb := B.bytes
  have hr := B.returns
  have hts := atoms_spec (ws := wsX11_days) B.pre
  have hown : s.vm.findClass RX11 = some m.cls := findClass_of_methodNamed B.named
  have hlocks := B.notSynchronized
  subst hsz
  have hD := hD0.self (sz := s.heap.size)
  generalize hAe : va_A (mW g0 pq cp v fa) s.heap.size = A at hD ⊢
  have hA : ∀ q : Nat, s.heap.size ≤ q → A q := fun q h => by rw [← hAe]; exact Or.inr h
  have hS : va_S A s.heap s.heap [] := va_S.rf
  have hP : va_P (dC, dI) vwCl (mW g0 pq cp v fa) s.heap := hP
  have hl := lv_entry ([.ref g0, .int x1]) (n := 2) (Nat.le_of_ble_eq_true rfl)
  rw [lg_entry_eq]
  generalize (lg_sl ([.ref g0, .int x1]) ++ List.replicate (2 - (lg_sl ([.ref g0, .int x1])).length) Slot.unset).toArray = ls at hl ⊢
  have hl : lv_has ls 2 [(0, .ref g0), (1, .int x1)] := hl
  have iv_1 : 0 ≤ (v 38).toInt ∧ (v 38).toInt ≤ 3000 := gV 38
  refine lv_iload_n hx hb dX11_days_0 rfl (lv_at hl 1 rfl) ?_
  refine lv_iconst (v := 1) hx hb dX11_days_1 (by decide) ?_
  refine lv_icmp_ge (tgt := 12) hx hb dX11_days_2 (by decide) (fun c_2 => ?_) (fun c_2 => ?_)
  · have dc_2 := c_le (a := 1) (b := x1.toInt) (by decide) rfl c_2
    refine lv_iload_n hx hb dX11_days_12 rfl (lv_at hl 1 rfl) ?_
    refine lv_sipush (v := 3000) hx hb dX11_days_13 (by decide) ?_
    refine lv_aload_n hx hb dX11_days_16 rfl (lv_at hl 0 rfl) ?_
    refine va_get (D := (dC, dI)) (ci := 11) (v := .int (v 38)) (C := RX11) (T := TX11) (N := 63) hx hb hts in_wsX11_days_X11 hown hK hP 0 rfl rfl 38 (by decide) (hts (.fieldLink RX11 171 "ShipOfficeModel" "now" "I") iw_X11_days_1) (fun _ h9 => h9) rfl dX11_days_17 ?_
    refine lv_topi (fun x_3 ex_3 => ?_)
    have hx_3 : 0 ≤ x_3.toInt ∧ x_3.toInt ≤ 3000 := iv_of ex_3 (gV 38)
    have gx_3 : x_3.toInt = (v 38).toInt := iv_to ex_3
    clear ex_3
    refine lv_isub hx hb dX11_days_20 ?_
    refine lv_topi (fun x_4 ex_4 => ?_)
    have hx_4 : x_4.toInt = 3000 - x_3.toInt := (iv_to ex_4).trans (sb_i (by decide) rfl (by omega) (by omega))
    refine lv_icmp_le (tgt := 31) hx hb dX11_days_21 (by decide) (fun c_5 => ?_) (fun c_5 => ?_)
    · have dc_5 := c_le (a := x1.toInt) (b := x_4.toInt) rfl rfl c_5
      refine lv_aload_n hx hb dX11_days_31 rfl (lv_at hl 0 rfl) ?_
      refine lv_dup hx hb dX11_days_32 rfl ?_
      refine va_get (D := (dC, dI)) (ci := 11) (v := .int (v 38)) (C := RX11) (T := TX11) (N := 63) hx hb hts in_wsX11_days_X11 hown hK hP 0 rfl rfl 38 (by decide) (hts (.fieldLink RX11 171 "ShipOfficeModel" "now" "I") iw_X11_days_1) (fun _ h9 => h9) rfl dX11_days_33 ?_
      refine lv_topi (fun x_6 ex_6 => ?_)
      have hx_6 : 0 ≤ x_6.toInt ∧ x_6.toInt ≤ 3000 := iv_of ex_6 (gV 38)
      have gx_6 : x_6.toInt = (v 38).toInt := iv_to ex_6
      clear ex_6
      refine lv_iload_n hx hb dX11_days_36 rfl (lv_at hl 1 rfl) ?_
      refine lv_iadd hx hb dX11_days_37 ?_
      refine lv_topi (fun x_7 ex_7 => ?_)
      have hx_7 : x_7.toInt = x_6.toInt + x1.toInt := (iv_to ex_7).trans (ad_i rfl rfl (by omega) (by omega))
      refine va_put (D := (dC, dI)) (ci := 11) (v := .int x_7) (ty := .int) (C := RX11) (T := TX11) (N := 63) hx hb hts in_wsX11_days_X11 tyX11 tyX11_ok nmX11 hown hK hP hD hS 0 rfl rfl 38 (by decide) (hts (.fieldLink RX11 171 "ShipOfficeModel" "now" "I") iw_X11_days_1) (fun _ h9 => h9) rfl (by decide +kernel) rfl rfl (Nat.le_of_ble_eq_true rfl) dX11_days_38 (fun H locs hP hD hS => ?_)
      have hP : va_P (dC, dI) vwCl (mW g0 pq cp (upd v 38 x_7) fa) H := hP
      have hD : va_D A (mW g0 pq cp (upd v 38 x_7) fa) := hD
      obtain ⟨z_8, ez_8⟩ : ∃ zq, zq = (upd v 38 x_7) := ⟨_, rfl⟩
      rw [← ez_8] at hP hD
      have hVz_8 : mV z_8 := by rw [ez_8]; exact mV_upd (lo := 0) (hi := 3000) gV rfl rfl (by omega)
      have hRz_8 : mX [0, 38] v fa z_8 fa := by rw [ez_8]; exact mX.up mX.rf (by decide)
      have g_9 : (z_8 38).toInt = x_7.toInt := by rw [ez_8, show upd v 38 x_7 38 = x_7 from if_pos rfl]
      refine lv_aload_n hx hb dX11_days_41 rfl (lv_at hl 0 rfl) ?_
      refine va_get (D := (dC, dI)) (ci := 11) (v := .int (z_8 38)) (C := RX11) (T := TX11) (N := 63) hx hb hts in_wsX11_days_X11 hown hK hP 0 rfl rfl 38 (by decide) (hts (.fieldLink RX11 171 "ShipOfficeModel" "now" "I") iw_X11_days_1) (fun _ h9 => h9) rfl dX11_days_42 ?_
      refine lv_topi (fun x_10 ex_10 => ?_)
      have hx_10 : 0 ≤ x_10.toInt ∧ x_10.toInt ≤ 3000 := iv_of ex_10 (hVz_8 38)
      have gx_10 : x_10.toInt = (z_8 38).toInt := iv_to ex_10
      clear ex_10
      exact W.iret (v := x_10) hx hb hr (fun t ht hW => ⟨⟨x_10, (z_8, fa), rfl, ⟨hVz_8, gA, hRz_8, ⟨(by unfold odays; dsimp only; omega), (Or.inr ⟨by omega, (by first | exact rfl | (dsimp only; exact rfl))⟩)⟩⟩, ⟨by rw [ht]; exact hP, va_K.moved hW.alike hK, hD⟩⟩, hS.F ht⟩) hS.2.2 dX11_days_45
    · have dc_5 := c_nle (a := x1.toInt) (b := x_4.toInt) rfl rfl c_5
      refine lv_aload_n hx hb dX11_days_24 rfl (lv_at hl 0 rfl) ?_
      refine lv_bipush (v := (-6)) hx hb dX11_days_25 (by decide) ?_
      have hFc := va_free (wc := (mW g0 pq cp v fa)) hD hS hA (List.range 48) rfl
      refine va_calli (va_runV (As := [.int (-6)]) (rest := []) ⟨hx, hb, hml, hown, hts⟩ (c_X11_refuse_f l dC dI s.heap.size g0 pq cp v fa (-6) (by unfold vp_in; decide)) (cwV 1 hts gX11_days_X11_refuse rfl rfl rfl (by decide +kernel) ⟨(Nat.le_of_ble_eq_true rfl), (Nat.le_of_ble_eq_true rfl)⟩) (pr_V (r := (RX11, TX11, 63)) hP hK hD 0 11 rfl rfl) rfl rfl hl.1 rfl (lv_room (Nat.le_of_ble_eq_true rfl)) dX11_days_27 ⟨(Nat.le_of_ble_eq_true rfl), (Nat.le_of_ble_eq_true rfl)⟩) hS (fun q _ h => hFc q h) hFc (fun r_12 u t H locs ht hvm w_11 hB hz1 hk1 hS => ?_)
      obtain ⟨v_13, fa_14⟩ := u
      obtain ⟨hP1, hK1, hD1⟩ := hB
      rw [ht] at hP1
      have hP : va_P (dC, dI) vwCl (mW g0 pq cp v_13 fa_14) H := hP1
      have hD : va_D A (mW g0 pq cp v_13 fa_14) := hD1.weaken (fun _ _ _ h => hFc _ h)
      clear hP1 hK1 hD1 hk1 hz1 hvm ht hFc
      obtain ⟨rfl, hs1_15⟩ := w_11
      have hVv_13 : mV v_13 := sm0_V (sm1_0 hs1_15) gV
      have hAv_13 : mA fa_14 := sm0_A (sm1_0 hs1_15) gA
      have g_16 : (v_13 38).toInt = (v 38).toInt := congrArg Int32.toInt (congrFun hs1_15.1 38)
      have hRv_13 : mX [0, 38] v fa v_13 fa_14 := mX.st mX.rf (mX.s0 (sm1_0 hs1_15)) (by decide)
      exact W.iret (v := (-6)) hx hb hr (fun t ht hW => ⟨⟨(-6), (v_13, fa_14), rfl, ⟨hVv_13, hAv_13, hRv_13, ⟨(by unfold odays; dsimp only; have rc : ((-6) : Int32).toInt = -6 := (by decide); omega), (Or.inl ⟨by have rc : ((-6) : Int32).toInt = -6 := (by decide); omega, sm2_1 hs1_15⟩)⟩⟩, ⟨by rw [ht]; exact hP, va_K.moved hW.alike hK, hD⟩⟩, hS.F ht⟩) hS.2.2 dX11_days_30
  · have dc_2 := c_nle (a := 1) (b := x1.toInt) (by decide) rfl c_2
    refine lv_aload_n hx hb dX11_days_5 rfl (lv_at hl 0 rfl) ?_
    refine lv_bipush (v := (-4)) hx hb dX11_days_6 (by decide) ?_
    have hFc := va_free (wc := (mW g0 pq cp v fa)) hD hS hA (List.range 48) rfl
    refine va_calli (va_runV (As := [.int (-4)]) (rest := []) ⟨hx, hb, hml, hown, hts⟩ (c_X11_refuse_f l dC dI s.heap.size g0 pq cp v fa (-4) (by unfold vp_in; decide)) (cwV 1 hts gX11_days_X11_refuse rfl rfl rfl (by decide +kernel) ⟨(Nat.le_of_ble_eq_true rfl), (Nat.le_of_ble_eq_true rfl)⟩) (pr_V (r := (RX11, TX11, 63)) hP hK hD 0 11 rfl rfl) rfl rfl hl.1 rfl (lv_room (Nat.le_of_ble_eq_true rfl)) dX11_days_8 ⟨(Nat.le_of_ble_eq_true rfl), (Nat.le_of_ble_eq_true rfl)⟩) hS (fun q _ h => hFc q h) hFc (fun r_18 u t H locs ht hvm w_17 hB hz1 hk1 hS => ?_)
    obtain ⟨v_19, fa_20⟩ := u
    obtain ⟨hP1, hK1, hD1⟩ := hB
    rw [ht] at hP1
    have hP : va_P (dC, dI) vwCl (mW g0 pq cp v_19 fa_20) H := hP1
    have hD : va_D A (mW g0 pq cp v_19 fa_20) := hD1.weaken (fun _ _ _ h => hFc _ h)
    clear hP1 hK1 hD1 hk1 hz1 hvm ht hFc
    obtain ⟨rfl, hs1_21⟩ := w_17
    have hVv_19 : mV v_19 := sm0_V (sm1_0 hs1_21) gV
    have hAv_19 : mA fa_20 := sm0_A (sm1_0 hs1_21) gA
    have g_22 : (v_19 38).toInt = (v 38).toInt := congrArg Int32.toInt (congrFun hs1_21.1 38)
    have hRv_19 : mX [0, 38] v fa v_19 fa_20 := mX.st mX.rf (mX.s0 (sm1_0 hs1_21)) (by decide)
    exact W.iret (v := (-4)) hx hb hr (fun t ht hW => ⟨⟨(-4), (v_19, fa_20), rfl, ⟨hVv_19, hAv_19, hRv_19, ⟨(by unfold odays; dsimp only; have rc : ((-4) : Int32).toInt = -4 := (by decide); omega), (Or.inl ⟨by have rc : ((-4) : Int32).toInt = -4 := (by decide); omega, sm2_1 hs1_21⟩)⟩⟩, ⟨by rw [ht]; exact hP, va_K.moved hW.alike hK, hD⟩⟩, hS.F ht⟩) hS.2.2 dX11_days_11
set_option maxHeartbeats 4000000 in
set_option maxRecDepth 100000 in
theorem c_X11_miles_f (l : Launch) (dC : Nat → ClassId) (dI : Nat → Nat → Nat) (sz : Nat) (g0 : Nat) (pq : Nat → Nat) (cp : Nat → ClassId) (v : Nat → Int32) (fa : Nat → Nat → Int32) (gV : mV v) (gA : mA fa) (x1 : Int32) (x2 : Int32) (x3 : Int32) : Met l yX11_miles wsX11_miles ({ frames := 2, cells := 0, slots := 0, locals := 41 }) (va_Pc [.ref g0, .int x1, .int x2, .int x3] (pcW (dC, dI) (mT cp) (mW g0 pq cp v fa) sz)) (va_Qi (fun (r : Int32) (u : (Nat → Int32) × (Nat → Nat → Int32)) => mV u.1 ∧ mA u.2 ∧ mX [0, 1] v fa u.1 u.2 ∧ (gml (fa 1) x1 x2 x3 r (u.2 1) ∧ rZr v fa u r (¬ (gok x1.toInt x2.toInt ∧ 0 ≤ x3.toInt ∧ x3.toInt ≤ 9999)))) (fun u t => va_P (dC, dI) vwCl (mW g0 pq cp u.1 u.2) t.heap ∧ va_K (dC, dI) vwCl (mT cp) t ∧ va_D (va_A (mW g0 pq cp v fa) sz) (mW g0 pq cp u.1 u.2)) (va_A (mW g0 pq cp v fa) sz)) 0 0 (va_A (mW g0 pq cp v fa) sz) := by
  refine Met.ofW (cc := cX11_miles) (maxL := 5) (ret := (some .int)) (by decide) rfl ?_
  intro p e s m args below meth c s₁ B hml hv
  obtain ⟨rfl, hsz, hP, hK, hD0⟩ := hv
  have hx := B.exec
  have hb := B.bytes
  have hr := B.returns
  have hts := atoms_spec (ws := wsX11_miles) B.pre
  have hown : s.vm.findClass RX11 = some m.cls := findClass_of_methodNamed B.named
  have hlocks := B.notSynchronized
  subst hsz
  have hD := hD0.self (sz := s.heap.size)
  generalize hAe : va_A (mW g0 pq cp v fa) s.heap.size = A at hD ⊢
  have hA : ∀ q : Nat, s.heap.size ≤ q → A q := fun q h => by rw [← hAe]; exact Or.inr h
  have hS : va_S A s.heap s.heap [] := va_S.rf
  have hP : va_P (dC, dI) vwCl (mW g0 pq cp v fa) s.heap := hP
  have hl := lv_entry ([.ref g0, .int x1, .int x2, .int x3]) (n := 5) (Nat.le_of_ble_eq_true rfl)
  rw [lg_entry_eq]
  generalize (lg_sl ([.ref g0, .int x1, .int x2, .int x3]) ++ List.replicate (5 - (lg_sl ([.ref g0, .int x1, .int x2, .int x3])).length) Slot.unset).toArray = ls at hl ⊢
  have hl : lv_has ls 5 [(0, .ref g0), (1, .int x1), (2, .int x2), (3, .int x3)] := hl
  refine lv_iload_n hx hb dX11_miles_0 rfl (lv_at hl 1 rfl) ?_
  have hFc : ∀ q, va_A [] s.heap.size q → A q := pu_free hS hA
  have hPc := hP.sub (ws' := []) [] rfl
  have hDc := hD.sub (ws' := []) [] (by decide) rfl
  have hKc := hK.sub (tys' := []) [] rfl
  refine va_calli (va_runS (As := [.int x1]) (rest := []) ⟨hx, hb, hml, hown, hts⟩ (c_X11_isPort l dC dI s.heap.size x1) (va_cwS 1 hts gX11_miles_X11_isPort rfl rfl rfl (by decide +kernel) ⟨(Nat.le_of_ble_eq_true rfl), (Nat.le_of_ble_eq_true rfl)⟩) (pr_S hPc hKc hDc) rfl rfl hl.1 rfl (lv_room (Nat.le_of_ble_eq_true rfl)) dX11_miles_1 ⟨(Nat.le_of_ble_eq_true rfl), (Nat.le_of_ble_eq_true rfl)⟩) hS (fun q _ h => hFc q h) hFc (fun r_2 u t H locs ht hvm w_1 hB hz1 hk1 hS => ?_)
  have hP := pu_keep hP hk1
  clear hk1 hz1 hvm hB ht hFc hPc hDc hKc
  have hbr_2 : 0 ≤ r_2.toInt ∧ r_2.toInt ≤ 1 := iv_of w_1 (isI_i _ _)
  refine lv_if_eq (tgt := 19) hx hb dX11_miles_4 (by decide) (fun c_3 => ?_) (fun c_3 => ?_)
  · have dc_3 := c_eq (a := r_2.toInt) (b := 0) rfl (by decide) c_3
    have hz_4 := isI_0 (w_1.symm.trans c_3)
    have kc_5 : (10 : Int32).toInt = 10 := by decide
    refine lv_aload_n hx hb dX11_miles_19 rfl (lv_at hl 0 rfl) ?_
    refine lv_iconst (v := (-1)) hx hb dX11_miles_20 (by decide) ?_
    have hFc := va_free (wc := (mW g0 pq cp v fa)) hD hS hA (List.range 48) rfl
    refine va_calli (va_runV (As := [.int (-1)]) (rest := []) ⟨hx, hb, hml, hown, hts⟩ (c_X11_refuse_f l dC dI H.size g0 pq cp v fa (-1) (by unfold vp_in; decide)) (cwV 1 hts gX11_miles_X11_refuse rfl rfl rfl (by decide +kernel) ⟨(Nat.le_of_ble_eq_true rfl), (Nat.le_of_ble_eq_true rfl)⟩) (pr_V (r := (RX11, TX11, 63)) hP hK hD 0 11 rfl rfl) rfl rfl hl.1 rfl (lv_room (Nat.le_of_ble_eq_true rfl)) dX11_miles_21 ⟨(Nat.le_of_ble_eq_true rfl), (Nat.le_of_ble_eq_true rfl)⟩) hS (fun q _ h => hFc q h) hFc (fun r_7 u t H locs ht hvm w_6 hB hz1 hk1 hS => ?_)
    obtain ⟨v_8, fa_9⟩ := u
    obtain ⟨hP1, hK1, hD1⟩ := hB
    rw [ht] at hP1
    have hP : va_P (dC, dI) vwCl (mW g0 pq cp v_8 fa_9) H := hP1
    have hD : va_D A (mW g0 pq cp v_8 fa_9) := hD1.weaken (fun _ _ _ h => hFc _ h)
    clear hP1 hK1 hD1 hk1 hz1 hvm ht hFc
    obtain ⟨rfl, hs1_10⟩ := w_6
    have hVv_8 : mV v_8 := sm0_V (sm1_0 hs1_10) gV
    have hAv_8 : mA fa_9 := sm0_A (sm1_0 hs1_10) gA
    have hRv_8 : mX [0, 1] v fa v_8 fa_9 := mX.st mX.rf (mX.s0 (sm1_0 hs1_10)) (by decide)
    exact W.iret (v := (-1)) hx hb hr (fun t ht hW => ⟨⟨(-1), (v_8, fa_9), rfl, ⟨hVv_8, hAv_8, hRv_8, ⟨Or.inl ⟨by have rc : ((-1) : Int32).toInt = -1 := (by decide); unfold gmo gok; omega, (sm1_0 hs1_10).2 1 (by decide)⟩, (Or.inl ⟨by have rc : ((-1) : Int32).toInt = -1 := (by decide); unfold gok; omega, sm2_1 hs1_10⟩)⟩⟩, ⟨by rw [ht]; exact hP, va_K.moved hW.alike hK, hD⟩⟩, hS.F ht⟩) hS.2.2 dX11_miles_24
  · have dc_3 := c_ne (a := r_2.toInt) (b := 0) rfl (by decide) c_3
    have hi_11 := isI_t w_1 (fun q => c_3 (Int32.toInt_inj.mp q))
    have khi_11 : (10 : Int32).toInt = 10 := by decide
    refine lv_iload_n hx hb dX11_miles_7 rfl (lv_at hl 2 rfl) ?_
    have hFc : ∀ q, va_A [] H.size q → A q := pu_free hS hA
    have hPc := hP.sub (ws' := []) [] rfl
    have hDc := hD.sub (ws' := []) [] (by decide) rfl
    have hKc := hK.sub (tys' := []) [] rfl
    refine va_calli (va_runS (As := [.int x2]) (rest := []) ⟨hx, hb, hml, hown, hts⟩ (c_X11_isPort l dC dI H.size x2) (va_cwS 1 hts gX11_miles_X11_isPort rfl rfl rfl (by decide +kernel) ⟨(Nat.le_of_ble_eq_true rfl), (Nat.le_of_ble_eq_true rfl)⟩) (pr_S hPc hKc hDc) rfl rfl hl.1 rfl (lv_room (Nat.le_of_ble_eq_true rfl)) dX11_miles_8 ⟨(Nat.le_of_ble_eq_true rfl), (Nat.le_of_ble_eq_true rfl)⟩) hS (fun q _ h => hFc q h) hFc (fun r_13 u t H locs ht hvm w_12 hB hz1 hk1 hS => ?_)
    have hP := pu_keep hP hk1
    clear hk1 hz1 hvm hB ht hFc hPc hDc hKc
    have hbr_13 : 0 ≤ r_13.toInt ∧ r_13.toInt ≤ 1 := iv_of w_12 (isI_i _ _)
    refine lv_if_eq (tgt := 19) hx hb dX11_miles_11 (by decide) (fun c_14 => ?_) (fun c_14 => ?_)
    · have dc_14 := c_eq (a := r_13.toInt) (b := 0) rfl (by decide) c_14
      have hz_15 := isI_0 (w_12.symm.trans c_14)
      have kc_16 : (10 : Int32).toInt = 10 := by decide
      refine lv_aload_n hx hb dX11_miles_19 rfl (lv_at hl 0 rfl) ?_
      refine lv_iconst (v := (-1)) hx hb dX11_miles_20 (by decide) ?_
      have hFc := va_free (wc := (mW g0 pq cp v fa)) hD hS hA (List.range 48) rfl
      refine va_calli (va_runV (As := [.int (-1)]) (rest := []) ⟨hx, hb, hml, hown, hts⟩ (c_X11_refuse_f l dC dI H.size g0 pq cp v fa (-1) (by unfold vp_in; decide)) (cwV 1 hts gX11_miles_X11_refuse rfl rfl rfl (by decide +kernel) ⟨(Nat.le_of_ble_eq_true rfl), (Nat.le_of_ble_eq_true rfl)⟩) (pr_V (r := (RX11, TX11, 63)) hP hK hD 0 11 rfl rfl) rfl rfl hl.1 rfl (lv_room (Nat.le_of_ble_eq_true rfl)) dX11_miles_21 ⟨(Nat.le_of_ble_eq_true rfl), (Nat.le_of_ble_eq_true rfl)⟩) hS (fun q _ h => hFc q h) hFc (fun r_18 u t H locs ht hvm w_17 hB hz1 hk1 hS => ?_)
      obtain ⟨v_19, fa_20⟩ := u
      obtain ⟨hP1, hK1, hD1⟩ := hB
      rw [ht] at hP1
      have hP : va_P (dC, dI) vwCl (mW g0 pq cp v_19 fa_20) H := hP1
      have hD : va_D A (mW g0 pq cp v_19 fa_20) := hD1.weaken (fun _ _ _ h => hFc _ h)
      clear hP1 hK1 hD1 hk1 hz1 hvm ht hFc
      obtain ⟨rfl, hs1_21⟩ := w_17
      have hVv_19 : mV v_19 := sm0_V (sm1_0 hs1_21) gV
      have hAv_19 : mA fa_20 := sm0_A (sm1_0 hs1_21) gA
      have hRv_19 : mX [0, 1] v fa v_19 fa_20 := mX.st mX.rf (mX.s0 (sm1_0 hs1_21)) (by decide)
      exact W.iret (v := (-1)) hx hb hr (fun t ht hW => ⟨⟨(-1), (v_19, fa_20), rfl, ⟨hVv_19, hAv_19, hRv_19, ⟨Or.inl ⟨by have rc : ((-1) : Int32).toInt = -1 := (by decide); unfold gmo gok; omega, (sm1_0 hs1_21).2 1 (by decide)⟩, (Or.inl ⟨by have rc : ((-1) : Int32).toInt = -1 := (by decide); unfold gok; omega, sm2_1 hs1_21⟩)⟩⟩, ⟨by rw [ht]; exact hP, va_K.moved hW.alike hK, hD⟩⟩, hS.F ht⟩) hS.2.2 dX11_miles_24
    · have dc_14 := c_ne (a := r_13.toInt) (b := 0) rfl (by decide) c_14
      have hi_22 := isI_t w_12 (fun q => c_14 (Int32.toInt_inj.mp q))
      have khi_22 : (10 : Int32).toInt = 10 := by decide
      refine lv_iload_n hx hb dX11_miles_14 rfl (lv_at hl 1 rfl) ?_
      refine lv_iload_n hx hb dX11_miles_15 rfl (lv_at hl 2 rfl) ?_
      refine lv_icmp_ne (tgt := 25) hx hb dX11_miles_16 (by decide) (fun c_23 => ?_) (fun c_23 => ?_)
      · have dc_23 := c_ne (a := x1.toInt) (b := x2.toInt) rfl rfl c_23
        refine lv_iload_n hx hb dX11_miles_25 rfl (lv_at hl 3 rfl) ?_
        refine lv_if_ge (tgt := 36) hx hb dX11_miles_26 (by decide) (fun c_24 => ?_) (fun c_24 => ?_)
        · have dc_24 := c_le (a := 0) (b := x3.toInt) (by decide) rfl c_24
          refine lv_iload_n hx hb dX11_miles_36 rfl (lv_at hl 3 rfl) ?_
          refine lv_sipush (v := 9999) hx hb dX11_miles_37 (by decide) ?_
          refine lv_icmp_le (tgt := 50) hx hb dX11_miles_40 (by decide) (fun c_25 => ?_) (fun c_25 => ?_)
          · have dc_25 := c_le (a := x3.toInt) (b := 9999) rfl (by decide) c_25
            refine lv_aload_n hx hb dX11_miles_50 rfl (lv_at hl 0 rfl) ?_
            refine va_get (D := (dC, dI)) (ci := 11) (v := .ref (pq 1)) (C := RX11) (T := TX11) (N := 63) hx hb hts in_wsX11_miles_X11 hown hK hP 0 rfl rfl 1 (by decide) (hts (.fieldLink RX11 13 "ShipOfficeModel" "mile" "[I") iw_X11_miles_1) (fun _ h9 => h9) rfl dX11_miles_51 ?_
            refine lv_bipush (v := 10) hx hb dX11_miles_54 (by decide) ?_
            refine lv_iload_n hx hb dX11_miles_56 rfl (lv_at hl 1 rfl) ?_
            refine lv_imul hx hb dX11_miles_57 ?_
            refine lv_topi (fun x_26 ex_26 => ?_)
            have hx_26 : x_26.toInt = 10 * x1.toInt := (iv_to ex_26).trans (mu_i (by decide) rfl (by omega) (by omega))
            refine lv_iload_n hx hb dX11_miles_58 rfl (lv_at hl 2 rfl) ?_
            refine lv_iadd hx hb dX11_miles_59 ?_
            refine lv_topi (fun x_27 ex_27 => ?_)
            have hx_27 : x_27.toInt = x_26.toInt + x2.toInt := (iv_to ex_27).trans (ad_i rfl rfl (by omega) (by omega))
            refine va_iald hx hb hK hP 2 1 rfl rfl (vp_in_iff.mpr (by omega)) dX11_miles_60 ?_
            refine lv_topi (fun x_28 ex_28 => ?_)
            have gx_28 : x_28.toInt = (fa 1 (x_27 : Int32).toNatClampNeg).toInt := iv_to ex_28
            clear ex_28
            refine lv_istore (lv' := [(4, .int x_28), (0, .ref g0), (1, .int x1), (2, .int x2), (3, .int x3)]) hx hb dX11_miles_61 hl (by decide) rfl (fun ls hl => ?_)
            refine lv_aload_n hx hb dX11_miles_63 rfl (lv_at hl 1 rfl) ?_
            refine va_get (D := (dC, dI)) (ci := 11) (v := .ref (pq 1)) (C := RX11) (T := TX11) (N := 63) hx hb hts in_wsX11_miles_X11 hown hK hP 0 rfl rfl 1 (by decide) (hts (.fieldLink RX11 13 "ShipOfficeModel" "mile" "[I") iw_X11_miles_1) (fun _ h9 => h9) rfl dX11_miles_64 ?_
            refine lv_bipush (v := 10) hx hb dX11_miles_67 (by decide) ?_
            refine lv_iload_n hx hb dX11_miles_69 rfl (lv_at hl 2 rfl) ?_
            refine lv_imul hx hb dX11_miles_70 ?_
            refine lv_topi (fun x_29 ex_29 => ?_)
            have hx_29 : x_29.toInt = 10 * x1.toInt := (iv_to ex_29).trans (mu_i (by decide) rfl (by omega) (by omega))
            refine lv_iload_n hx hb dX11_miles_71 rfl (lv_at hl 3 rfl) ?_
            refine lv_iadd hx hb dX11_miles_72 ?_
            refine lv_topi (fun x_30 ex_30 => ?_)
            have hx_30 : x_30.toInt = x_29.toInt + x2.toInt := (iv_to ex_30).trans (ad_i rfl rfl (by omega) (by omega))
            refine lv_iload_n hx hb dX11_miles_73 rfl (lv_at hl 4 rfl) ?_
            refine va_iast hx hb hK hP hD hS 2 1 rfl rfl (vp_in_iff.mpr (by omega)) dX11_miles_74 (fun H locs hP hD hS => ?_)
            have hP : va_P (dC, dI) vwCl (mW g0 pq cp v (upF fa 1 (x_30 : Int32).toNatClampNeg x3)) H := hP
            have hD : va_D A (mW g0 pq cp v (upF fa 1 (x_30 : Int32).toNatClampNeg x3)) := hD
            obtain ⟨fz_31, efz_31⟩ : ∃ zq, zq = (upF fa 1 (x_30 : Int32).toNatClampNeg x3) := ⟨_, rfl⟩
            rw [← efz_31] at hP hD
            have hAfz_31 : mA fz_31 := by rw [efz_31]; exact mA_upF (lo := -2147483648) (hi := 2147483647) gA rfl rfl (iv_all _)
            have hRfz_31 : mX [0, 1] v fa v fz_31 := by rw [efz_31]; exact mX.uF mX.rf (by decide)
            have q0_32 : fz_31 0 = fa 0 := by rw [efz_31]; exact (if_neg (by decide)).trans rfl
            refine lv_aload_n hx hb dX11_miles_75 rfl (lv_at hl 1 rfl) ?_
            refine va_get (D := (dC, dI)) (ci := 11) (v := .ref (pq 1)) (C := RX11) (T := TX11) (N := 63) hx hb hts in_wsX11_miles_X11 hown hK hP 0 rfl rfl 1 (by decide) (hts (.fieldLink RX11 13 "ShipOfficeModel" "mile" "[I") iw_X11_miles_1) (fun _ h9 => h9) rfl dX11_miles_76 ?_
            refine lv_bipush (v := 10) hx hb dX11_miles_79 (by decide) ?_
            refine lv_iload_n hx hb dX11_miles_81 rfl (lv_at hl 3 rfl) ?_
            refine lv_imul hx hb dX11_miles_82 ?_
            refine lv_topi (fun x_33 ex_33 => ?_)
            have hx_33 : x_33.toInt = 10 * x2.toInt := (iv_to ex_33).trans (mu_i (by decide) rfl (by omega) (by omega))
            refine lv_iload_n hx hb dX11_miles_83 rfl (lv_at hl 2 rfl) ?_
            refine lv_iadd hx hb dX11_miles_84 ?_
            refine lv_topi (fun x_34 ex_34 => ?_)
            have hx_34 : x_34.toInt = x_33.toInt + x1.toInt := (iv_to ex_34).trans (ad_i rfl rfl (by omega) (by omega))
            refine lv_iload_n hx hb dX11_miles_85 rfl (lv_at hl 4 rfl) ?_
            refine va_iast hx hb hK hP hD hS 2 1 rfl rfl (vp_in_iff.mpr (by omega)) dX11_miles_86 (fun H locs hP hD hS => ?_)
            have hP : va_P (dC, dI) vwCl (mW g0 pq cp v (upF fz_31 1 (x_34 : Int32).toNatClampNeg x3)) H := hP
            have hD : va_D A (mW g0 pq cp v (upF fz_31 1 (x_34 : Int32).toNatClampNeg x3)) := hD
            obtain ⟨fz_35, efz_35⟩ : ∃ zq, zq = (upF fz_31 1 (x_34 : Int32).toNatClampNeg x3) := ⟨_, rfl⟩
            rw [← efz_35] at hP hD
            have hAfz_35 : mA fz_35 := by rw [efz_35]; exact mA_upF (lo := -2147483648) (hi := 2147483647) hAfz_31 rfl rfl (iv_all _)
            have hRfz_35 : mX [0, 1] v fa v fz_35 := by rw [efz_35]; exact mX.uF hRfz_31 (by decide)
            have q0_36 : fz_35 0 = fa 0 := by rw [efz_35]; exact (if_neg (by decide)).trans q0_32
            refine lv_iload hx hb dX11_miles_87 (lv_at hl 0 rfl) ?_
            exact W.iret (v := x_28) hx hb hr (fun t ht hW => ⟨⟨x_28, (v, fz_35), rfl, ⟨gV, hAfz_35, hRfz_35, ⟨Or.inr ⟨by unfold gok; omega, by omega, by omega, x_30, x_34, by omega, by omega, Int32.toInt_inj.mp (by rw [show x_30 = x_27 from Int32.toInt_inj.mp (by omega)]; exact gx_28), by dsimp only; rw [efz_35, efz_31]; rfl⟩, (Or.inr ⟨by unfold gok; omega, (by first | exact q0_36 | (dsimp only; exact q0_36))⟩)⟩⟩, ⟨by rw [ht]; exact hP, va_K.moved hW.alike hK, hD⟩⟩, hS.F ht⟩) hS.2.2 dX11_miles_89
          · have dc_25 := c_nle (a := x3.toInt) (b := 9999) rfl (by decide) c_25
            refine lv_aload_n hx hb dX11_miles_43 rfl (lv_at hl 0 rfl) ?_
            refine lv_bipush (v := (-6)) hx hb dX11_miles_44 (by decide) ?_
            have hFc := va_free (wc := (mW g0 pq cp v fa)) hD hS hA (List.range 48) rfl
            refine va_calli (va_runV (As := [.int (-6)]) (rest := []) ⟨hx, hb, hml, hown, hts⟩ (c_X11_refuse_f l dC dI H.size g0 pq cp v fa (-6) (by unfold vp_in; decide)) (cwV 1 hts gX11_miles_X11_refuse rfl rfl rfl (by decide +kernel) ⟨(Nat.le_of_ble_eq_true rfl), (Nat.le_of_ble_eq_true rfl)⟩) (pr_V (r := (RX11, TX11, 63)) hP hK hD 0 11 rfl rfl) rfl rfl hl.1 rfl (lv_room (Nat.le_of_ble_eq_true rfl)) dX11_miles_46 ⟨(Nat.le_of_ble_eq_true rfl), (Nat.le_of_ble_eq_true rfl)⟩) hS (fun q _ h => hFc q h) hFc (fun r_38 u t H locs ht hvm w_37 hB hz1 hk1 hS => ?_)
            obtain ⟨v_39, fa_40⟩ := u
            obtain ⟨hP1, hK1, hD1⟩ := hB
            rw [ht] at hP1
            have hP : va_P (dC, dI) vwCl (mW g0 pq cp v_39 fa_40) H := hP1
            have hD : va_D A (mW g0 pq cp v_39 fa_40) := hD1.weaken (fun _ _ _ h => hFc _ h)
            clear hP1 hK1 hD1 hk1 hz1 hvm ht hFc
            obtain ⟨rfl, hs1_41⟩ := w_37
            have hVv_39 : mV v_39 := sm0_V (sm1_0 hs1_41) gV
            have hAv_39 : mA fa_40 := sm0_A (sm1_0 hs1_41) gA
            have hRv_39 : mX [0, 1] v fa v_39 fa_40 := mX.st mX.rf (mX.s0 (sm1_0 hs1_41)) (by decide)
            exact W.iret (v := (-6)) hx hb hr (fun t ht hW => ⟨⟨(-6), (v_39, fa_40), rfl, ⟨hVv_39, hAv_39, hRv_39, ⟨Or.inl ⟨by have rc : ((-6) : Int32).toInt = -6 := (by decide); unfold gmo gok; omega, (sm1_0 hs1_41).2 1 (by decide)⟩, (Or.inl ⟨by have rc : ((-6) : Int32).toInt = -6 := (by decide); unfold gok; omega, sm2_1 hs1_41⟩)⟩⟩, ⟨by rw [ht]; exact hP, va_K.moved hW.alike hK, hD⟩⟩, hS.F ht⟩) hS.2.2 dX11_miles_49
        · have dc_24 := c_nle (a := 0) (b := x3.toInt) (by decide) rfl c_24
          refine lv_aload_n hx hb dX11_miles_29 rfl (lv_at hl 0 rfl) ?_
          refine lv_bipush (v := (-4)) hx hb dX11_miles_30 (by decide) ?_
          have hFc := va_free (wc := (mW g0 pq cp v fa)) hD hS hA (List.range 48) rfl
          refine va_calli (va_runV (As := [.int (-4)]) (rest := []) ⟨hx, hb, hml, hown, hts⟩ (c_X11_refuse_f l dC dI H.size g0 pq cp v fa (-4) (by unfold vp_in; decide)) (cwV 1 hts gX11_miles_X11_refuse rfl rfl rfl (by decide +kernel) ⟨(Nat.le_of_ble_eq_true rfl), (Nat.le_of_ble_eq_true rfl)⟩) (pr_V (r := (RX11, TX11, 63)) hP hK hD 0 11 rfl rfl) rfl rfl hl.1 rfl (lv_room (Nat.le_of_ble_eq_true rfl)) dX11_miles_32 ⟨(Nat.le_of_ble_eq_true rfl), (Nat.le_of_ble_eq_true rfl)⟩) hS (fun q _ h => hFc q h) hFc (fun r_43 u t H locs ht hvm w_42 hB hz1 hk1 hS => ?_)
          obtain ⟨v_44, fa_45⟩ := u
          obtain ⟨hP1, hK1, hD1⟩ := hB
          rw [ht] at hP1
          have hP : va_P (dC, dI) vwCl (mW g0 pq cp v_44 fa_45) H := hP1
          have hD : va_D A (mW g0 pq cp v_44 fa_45) := hD1.weaken (fun _ _ _ h => hFc _ h)
          clear hP1 hK1 hD1 hk1 hz1 hvm ht hFc
          obtain ⟨rfl, hs1_46⟩ := w_42
          have hVv_44 : mV v_44 := sm0_V (sm1_0 hs1_46) gV
          have hAv_44 : mA fa_45 := sm0_A (sm1_0 hs1_46) gA
          have hRv_44 : mX [0, 1] v fa v_44 fa_45 := mX.st mX.rf (mX.s0 (sm1_0 hs1_46)) (by decide)
          exact W.iret (v := (-4)) hx hb hr (fun t ht hW => ⟨⟨(-4), (v_44, fa_45), rfl, ⟨hVv_44, hAv_44, hRv_44, ⟨Or.inl ⟨by have rc : ((-4) : Int32).toInt = -4 := (by decide); unfold gmo gok; omega, (sm1_0 hs1_46).2 1 (by decide)⟩, (Or.inl ⟨by have rc : ((-4) : Int32).toInt = -4 := (by decide); unfold gok; omega, sm2_1 hs1_46⟩)⟩⟩, ⟨by rw [ht]; exact hP, va_K.moved hW.alike hK, hD⟩⟩, hS.F ht⟩) hS.2.2 dX11_miles_35
      · have dc_23 := c_eq (a := x1.toInt) (b := x2.toInt) rfl rfl c_23
        refine lv_aload_n hx hb dX11_miles_19 rfl (lv_at hl 0 rfl) ?_
        refine lv_iconst (v := (-1)) hx hb dX11_miles_20 (by decide) ?_
        have hFc := va_free (wc := (mW g0 pq cp v fa)) hD hS hA (List.range 48) rfl
        refine va_calli (va_runV (As := [.int (-1)]) (rest := []) ⟨hx, hb, hml, hown, hts⟩ (c_X11_refuse_f l dC dI H.size g0 pq cp v fa (-1) (by unfold vp_in; decide)) (cwV 1 hts gX11_miles_X11_refuse rfl rfl rfl (by decide +kernel) ⟨(Nat.le_of_ble_eq_true rfl), (Nat.le_of_ble_eq_true rfl)⟩) (pr_V (r := (RX11, TX11, 63)) hP hK hD 0 11 rfl rfl) rfl rfl hl.1 rfl (lv_room (Nat.le_of_ble_eq_true rfl)) dX11_miles_21 ⟨(Nat.le_of_ble_eq_true rfl), (Nat.le_of_ble_eq_true rfl)⟩) hS (fun q _ h => hFc q h) hFc (fun r_48 u t H locs ht hvm w_47 hB hz1 hk1 hS => ?_)
        obtain ⟨v_49, fa_50⟩ := u
        obtain ⟨hP1, hK1, hD1⟩ := hB
        rw [ht] at hP1
        have hP : va_P (dC, dI) vwCl (mW g0 pq cp v_49 fa_50) H := hP1
        have hD : va_D A (mW g0 pq cp v_49 fa_50) := hD1.weaken (fun _ _ _ h => hFc _ h)
        clear hP1 hK1 hD1 hk1 hz1 hvm ht hFc
        obtain ⟨rfl, hs1_51⟩ := w_47
        have hVv_49 : mV v_49 := sm0_V (sm1_0 hs1_51) gV
        have hAv_49 : mA fa_50 := sm0_A (sm1_0 hs1_51) gA
        have hRv_49 : mX [0, 1] v fa v_49 fa_50 := mX.st mX.rf (mX.s0 (sm1_0 hs1_51)) (by decide)
        exact W.iret (v := (-1)) hx hb hr (fun t ht hW => ⟨⟨(-1), (v_49, fa_50), rfl, ⟨hVv_49, hAv_49, hRv_49, ⟨Or.inl ⟨by have rc : ((-1) : Int32).toInt = -1 := (by decide); unfold gmo gok; omega, (sm1_0 hs1_51).2 1 (by decide)⟩, (Or.inl ⟨by have rc : ((-1) : Int32).toInt = -1 := (by decide); unfold gok; omega, sm2_1 hs1_51⟩)⟩⟩, ⟨by rw [ht]; exact hP, va_K.moved hW.alike hK, hD⟩⟩, hS.F ht⟩) hS.2.2 dX11_miles_24
set_option maxHeartbeats 4000000 in
set_option maxRecDepth 100000 in
theorem c_X11_man_f (l : Launch) (dC : Nat → ClassId) (dI : Nat → Nat → Nat) (sz : Nat) (g0 : Nat) (pq : Nat → Nat) (cp : Nat → ClassId) (v : Nat → Int32) (fa : Nat → Nat → Int32) (gV : mV v) (gA : mA fa) (x1 : Int32) (x2 : Int32) (x3 : Int32) : Met l yX11_man wsX11_man ({ frames := 1, cells := 0, slots := 0, locals := 21 }) (va_Pc [.ref g0, .int x1, .int x2, .int x3] (pcW (dC, dI) (mT cp) (mW g0 pq cp v fa) sz)) (va_Qi (fun (r : Int32) (u : (Nat → Int32) × (Nat → Nat → Int32)) => mV u.1 ∧ mA u.2 ∧ mX [0, 2, 3, 4, 39] v fa u.1 u.2 ∧ ((gmn (v 38).toInt (v 39).toInt x1.toInt x2.toInt x3.toInt r.toInt (u.1 39).toInt ∧ (0 ≤ r.toInt → mnN v fa x1 x2 x3 u) ∧ (r.toInt < 0 → sm0 v fa u)) ∧ rZr v fa u r (r.toInt < 0))) (fun u t => va_P (dC, dI) vwCl (mW g0 pq cp u.1 u.2) t.heap ∧ va_K (dC, dI) vwCl (mT cp) t ∧ va_D (va_A (mW g0 pq cp v fa) sz) (mW g0 pq cp u.1 u.2)) (va_A (mW g0 pq cp v fa) sz)) 0 0 (va_A (mW g0 pq cp v fa) sz) := by
  refine Met.ofW (cc := cX11_man) (maxL := 4) (ret := (some .int)) (by decide) rfl ?_
  intro p e s m args below meth c s₁ B hml hv
  obtain ⟨rfl, hsz, hP, hK, hD0⟩ := hv
  have hx := B.exec
  have hb := B.bytes
  have hr := B.returns
  have hts := atoms_spec (ws := wsX11_man) B.pre
  have hown : s.vm.findClass RX11 = some m.cls := findClass_of_methodNamed B.named
  have hlocks := B.notSynchronized
  subst hsz
  have hD := hD0.self (sz := s.heap.size)
  generalize hAe : va_A (mW g0 pq cp v fa) s.heap.size = A at hD ⊢
  have hA : ∀ q : Nat, s.heap.size ≤ q → A q := fun q h => by rw [← hAe]; exact Or.inr h
  have hS : va_S A s.heap s.heap [] := va_S.rf
  have hP : va_P (dC, dI) vwCl (mW g0 pq cp v fa) s.heap := hP
  have hl := lv_entry ([.ref g0, .int x1, .int x2, .int x3]) (n := 4) (Nat.le_of_ble_eq_true rfl)
  rw [lg_entry_eq]
  generalize (lg_sl ([.ref g0, .int x1, .int x2, .int x3]) ++ List.replicate (4 - (lg_sl ([.ref g0, .int x1, .int x2, .int x3])).length) Slot.unset).toArray = ls at hl ⊢
  have hl : lv_has ls 4 [(0, .ref g0), (1, .int x1), (2, .int x2), (3, .int x3)] := hl
  have iv_1 : 0 ≤ (v 38).toInt ∧ (v 38).toInt ≤ 3000 := gV 38
  have iv_2 : 0 ≤ (v 39).toInt ∧ (v 39).toInt ≤ 40 := gV 39
  refine lv_iload_n hx hb dX11_man_0 rfl (lv_at hl 1 rfl) ?_
  refine lv_if_lt (tgt := 15) hx hb dX11_man_1 (by decide) (fun c_3 => ?_) (fun c_3 => ?_)
  · have dc_3 := c_lt (a := x1.toInt) (b := 0) rfl (by decide) c_3
    refine lv_aload_n hx hb dX11_man_15 rfl (lv_at hl 0 rfl) ?_
    refine lv_bipush (v := (-4)) hx hb dX11_man_16 (by decide) ?_
    have hFc := va_free (wc := (mW g0 pq cp v fa)) hD hS hA (List.range 48) rfl
    refine va_calli (va_runV (As := [.int (-4)]) (rest := []) ⟨hx, hb, hml, hown, hts⟩ (c_X11_refuse_f l dC dI s.heap.size g0 pq cp v fa (-4) (by unfold vp_in; decide)) (cwV 1 hts gX11_man_X11_refuse rfl rfl rfl (by decide +kernel) ⟨(Nat.le_of_ble_eq_true rfl), (Nat.le_of_ble_eq_true rfl)⟩) (pr_V (r := (RX11, TX11, 63)) hP hK hD 0 11 rfl rfl) rfl rfl hl.1 rfl (lv_room (Nat.le_of_ble_eq_true rfl)) dX11_man_18 ⟨(Nat.le_of_ble_eq_true rfl), (Nat.le_of_ble_eq_true rfl)⟩) hS (fun q _ h => hFc q h) hFc (fun r_5 u t H locs ht hvm w_4 hB hz1 hk1 hS => ?_)
    obtain ⟨v_6, fa_7⟩ := u
    obtain ⟨hP1, hK1, hD1⟩ := hB
    rw [ht] at hP1
    have hP : va_P (dC, dI) vwCl (mW g0 pq cp v_6 fa_7) H := hP1
    have hD : va_D A (mW g0 pq cp v_6 fa_7) := hD1.weaken (fun _ _ _ h => hFc _ h)
    clear hP1 hK1 hD1 hk1 hz1 hvm ht hFc
    obtain ⟨rfl, hs1_8⟩ := w_4
    have hVv_6 : mV v_6 := sm0_V (sm1_0 hs1_8) gV
    have hAv_6 : mA fa_7 := sm0_A (sm1_0 hs1_8) gA
    have g_9 : (v_6 38).toInt = (v 38).toInt := congrArg Int32.toInt (congrFun hs1_8.1 38)
    have g_10 : (v_6 39).toInt = (v 39).toInt := congrArg Int32.toInt (congrFun hs1_8.1 39)
    have hRv_6 : mX [0, 2, 3, 4, 39] v fa v_6 fa_7 := mX.st mX.rf (mX.s0 (sm1_0 hs1_8)) (by decide)
    exact W.iret (v := (-4)) hx hb hr (fun t ht hW => ⟨⟨(-4), (v_6, fa_7), rfl, ⟨hVv_6, hAv_6, hRv_6, ⟨⟨by have rc : ((-4) : Int32).toInt = -4 := (by decide); unfold gmn; dsimp only; omega, fun h => by have rc : ((-4) : Int32).toInt = -4 := (by decide); exfalso; omega, fun _ => (sm1_0 hs1_8)⟩, (Or.inl ⟨by have rc : ((-4) : Int32).toInt = -4 := (by decide); omega, sm2_1 hs1_8⟩)⟩⟩, ⟨by rw [ht]; exact hP, va_K.moved hW.alike hK, hD⟩⟩, hS.F ht⟩) hS.2.2 dX11_man_21
  · have dc_3 := c_nlt (a := x1.toInt) (b := 0) rfl (by decide) c_3
    refine lv_iload_n hx hb dX11_man_4 rfl (lv_at hl 2 rfl) ?_
    refine lv_if_lt (tgt := 15) hx hb dX11_man_5 (by decide) (fun c_11 => ?_) (fun c_11 => ?_)
    · have dc_11 := c_lt (a := x2.toInt) (b := 0) rfl (by decide) c_11
      refine lv_aload_n hx hb dX11_man_15 rfl (lv_at hl 0 rfl) ?_
      refine lv_bipush (v := (-4)) hx hb dX11_man_16 (by decide) ?_
      have hFc := va_free (wc := (mW g0 pq cp v fa)) hD hS hA (List.range 48) rfl
      refine va_calli (va_runV (As := [.int (-4)]) (rest := []) ⟨hx, hb, hml, hown, hts⟩ (c_X11_refuse_f l dC dI s.heap.size g0 pq cp v fa (-4) (by unfold vp_in; decide)) (cwV 1 hts gX11_man_X11_refuse rfl rfl rfl (by decide +kernel) ⟨(Nat.le_of_ble_eq_true rfl), (Nat.le_of_ble_eq_true rfl)⟩) (pr_V (r := (RX11, TX11, 63)) hP hK hD 0 11 rfl rfl) rfl rfl hl.1 rfl (lv_room (Nat.le_of_ble_eq_true rfl)) dX11_man_18 ⟨(Nat.le_of_ble_eq_true rfl), (Nat.le_of_ble_eq_true rfl)⟩) hS (fun q _ h => hFc q h) hFc (fun r_13 u t H locs ht hvm w_12 hB hz1 hk1 hS => ?_)
      obtain ⟨v_14, fa_15⟩ := u
      obtain ⟨hP1, hK1, hD1⟩ := hB
      rw [ht] at hP1
      have hP : va_P (dC, dI) vwCl (mW g0 pq cp v_14 fa_15) H := hP1
      have hD : va_D A (mW g0 pq cp v_14 fa_15) := hD1.weaken (fun _ _ _ h => hFc _ h)
      clear hP1 hK1 hD1 hk1 hz1 hvm ht hFc
      obtain ⟨rfl, hs1_16⟩ := w_12
      have hVv_14 : mV v_14 := sm0_V (sm1_0 hs1_16) gV
      have hAv_14 : mA fa_15 := sm0_A (sm1_0 hs1_16) gA
      have g_17 : (v_14 38).toInt = (v 38).toInt := congrArg Int32.toInt (congrFun hs1_16.1 38)
      have g_18 : (v_14 39).toInt = (v 39).toInt := congrArg Int32.toInt (congrFun hs1_16.1 39)
      have hRv_14 : mX [0, 2, 3, 4, 39] v fa v_14 fa_15 := mX.st mX.rf (mX.s0 (sm1_0 hs1_16)) (by decide)
      exact W.iret (v := (-4)) hx hb hr (fun t ht hW => ⟨⟨(-4), (v_14, fa_15), rfl, ⟨hVv_14, hAv_14, hRv_14, ⟨⟨by have rc : ((-4) : Int32).toInt = -4 := (by decide); unfold gmn; dsimp only; omega, fun h => by have rc : ((-4) : Int32).toInt = -4 := (by decide); exfalso; omega, fun _ => (sm1_0 hs1_16)⟩, (Or.inl ⟨by have rc : ((-4) : Int32).toInt = -4 := (by decide); omega, sm2_1 hs1_16⟩)⟩⟩, ⟨by rw [ht]; exact hP, va_K.moved hW.alike hK, hD⟩⟩, hS.F ht⟩) hS.2.2 dX11_man_21
    · have dc_11 := c_nlt (a := x2.toInt) (b := 0) rfl (by decide) c_11
      refine lv_iload_n hx hb dX11_man_8 rfl (lv_at hl 3 rfl) ?_
      refine lv_sipush (v := (-30000)) hx hb dX11_man_9 (by decide) ?_
      refine lv_icmp_ge (tgt := 22) hx hb dX11_man_12 (by decide) (fun c_19 => ?_) (fun c_19 => ?_)
      · have dc_19 := c_le (a := (-30000)) (b := x3.toInt) (by decide) rfl c_19
        refine lv_iload_n hx hb dX11_man_22 rfl (lv_at hl 1 rfl) ?_
        refine lv_sipush (v := 9999) hx hb dX11_man_23 (by decide) ?_
        refine lv_icmp_gt (tgt := 52) hx hb dX11_man_26 (by decide) (fun c_20 => ?_) (fun c_20 => ?_)
        · have dc_20 := c_lt (a := 9999) (b := x1.toInt) (by decide) rfl c_20
          refine lv_aload_n hx hb dX11_man_52 rfl (lv_at hl 0 rfl) ?_
          refine lv_bipush (v := (-6)) hx hb dX11_man_53 (by decide) ?_
          have hFc := va_free (wc := (mW g0 pq cp v fa)) hD hS hA (List.range 48) rfl
          refine va_calli (va_runV (As := [.int (-6)]) (rest := []) ⟨hx, hb, hml, hown, hts⟩ (c_X11_refuse_f l dC dI s.heap.size g0 pq cp v fa (-6) (by unfold vp_in; decide)) (cwV 1 hts gX11_man_X11_refuse rfl rfl rfl (by decide +kernel) ⟨(Nat.le_of_ble_eq_true rfl), (Nat.le_of_ble_eq_true rfl)⟩) (pr_V (r := (RX11, TX11, 63)) hP hK hD 0 11 rfl rfl) rfl rfl hl.1 rfl (lv_room (Nat.le_of_ble_eq_true rfl)) dX11_man_55 ⟨(Nat.le_of_ble_eq_true rfl), (Nat.le_of_ble_eq_true rfl)⟩) hS (fun q _ h => hFc q h) hFc (fun r_22 u t H locs ht hvm w_21 hB hz1 hk1 hS => ?_)
          obtain ⟨v_23, fa_24⟩ := u
          obtain ⟨hP1, hK1, hD1⟩ := hB
          rw [ht] at hP1
          have hP : va_P (dC, dI) vwCl (mW g0 pq cp v_23 fa_24) H := hP1
          have hD : va_D A (mW g0 pq cp v_23 fa_24) := hD1.weaken (fun _ _ _ h => hFc _ h)
          clear hP1 hK1 hD1 hk1 hz1 hvm ht hFc
          obtain ⟨rfl, hs1_25⟩ := w_21
          have hVv_23 : mV v_23 := sm0_V (sm1_0 hs1_25) gV
          have hAv_23 : mA fa_24 := sm0_A (sm1_0 hs1_25) gA
          have g_26 : (v_23 38).toInt = (v 38).toInt := congrArg Int32.toInt (congrFun hs1_25.1 38)
          have g_27 : (v_23 39).toInt = (v 39).toInt := congrArg Int32.toInt (congrFun hs1_25.1 39)
          have hRv_23 : mX [0, 2, 3, 4, 39] v fa v_23 fa_24 := mX.st mX.rf (mX.s0 (sm1_0 hs1_25)) (by decide)
          exact W.iret (v := (-6)) hx hb hr (fun t ht hW => ⟨⟨(-6), (v_23, fa_24), rfl, ⟨hVv_23, hAv_23, hRv_23, ⟨⟨by have rc : ((-6) : Int32).toInt = -6 := (by decide); unfold gmn; dsimp only; omega, fun h => by have rc : ((-6) : Int32).toInt = -6 := (by decide); exfalso; omega, fun _ => (sm1_0 hs1_25)⟩, (Or.inl ⟨by have rc : ((-6) : Int32).toInt = -6 := (by decide); omega, sm2_1 hs1_25⟩)⟩⟩, ⟨by rw [ht]; exact hP, va_K.moved hW.alike hK, hD⟩⟩, hS.F ht⟩) hS.2.2 dX11_man_58
        · have dc_20 := c_nlt (a := 9999) (b := x1.toInt) (by decide) rfl c_20
          refine lv_iload_n hx hb dX11_man_29 rfl (lv_at hl 2 rfl) ?_
          refine lv_ldc (v := 99999) hx hb hown (hts (.constant RX11 178 (99999)) (by decide +kernel)) dX11_man_30 ?_
          refine lv_icmp_gt (tgt := 52) hx hb dX11_man_32 (by decide) (fun c_28 => ?_) (fun c_28 => ?_)
          · have dc_28 := c_lt (a := 99999) (b := x2.toInt) (by decide) rfl c_28
            refine lv_aload_n hx hb dX11_man_52 rfl (lv_at hl 0 rfl) ?_
            refine lv_bipush (v := (-6)) hx hb dX11_man_53 (by decide) ?_
            have hFc := va_free (wc := (mW g0 pq cp v fa)) hD hS hA (List.range 48) rfl
            refine va_calli (va_runV (As := [.int (-6)]) (rest := []) ⟨hx, hb, hml, hown, hts⟩ (c_X11_refuse_f l dC dI s.heap.size g0 pq cp v fa (-6) (by unfold vp_in; decide)) (cwV 1 hts gX11_man_X11_refuse rfl rfl rfl (by decide +kernel) ⟨(Nat.le_of_ble_eq_true rfl), (Nat.le_of_ble_eq_true rfl)⟩) (pr_V (r := (RX11, TX11, 63)) hP hK hD 0 11 rfl rfl) rfl rfl hl.1 rfl (lv_room (Nat.le_of_ble_eq_true rfl)) dX11_man_55 ⟨(Nat.le_of_ble_eq_true rfl), (Nat.le_of_ble_eq_true rfl)⟩) hS (fun q _ h => hFc q h) hFc (fun r_30 u t H locs ht hvm w_29 hB hz1 hk1 hS => ?_)
            obtain ⟨v_31, fa_32⟩ := u
            obtain ⟨hP1, hK1, hD1⟩ := hB
            rw [ht] at hP1
            have hP : va_P (dC, dI) vwCl (mW g0 pq cp v_31 fa_32) H := hP1
            have hD : va_D A (mW g0 pq cp v_31 fa_32) := hD1.weaken (fun _ _ _ h => hFc _ h)
            clear hP1 hK1 hD1 hk1 hz1 hvm ht hFc
            obtain ⟨rfl, hs1_33⟩ := w_29
            have hVv_31 : mV v_31 := sm0_V (sm1_0 hs1_33) gV
            have hAv_31 : mA fa_32 := sm0_A (sm1_0 hs1_33) gA
            have g_34 : (v_31 38).toInt = (v 38).toInt := congrArg Int32.toInt (congrFun hs1_33.1 38)
            have g_35 : (v_31 39).toInt = (v 39).toInt := congrArg Int32.toInt (congrFun hs1_33.1 39)
            have hRv_31 : mX [0, 2, 3, 4, 39] v fa v_31 fa_32 := mX.st mX.rf (mX.s0 (sm1_0 hs1_33)) (by decide)
            exact W.iret (v := (-6)) hx hb hr (fun t ht hW => ⟨⟨(-6), (v_31, fa_32), rfl, ⟨hVv_31, hAv_31, hRv_31, ⟨⟨by have rc : ((-6) : Int32).toInt = -6 := (by decide); unfold gmn; dsimp only; omega, fun h => by have rc : ((-6) : Int32).toInt = -6 := (by decide); exfalso; omega, fun _ => (sm1_0 hs1_33)⟩, (Or.inl ⟨by have rc : ((-6) : Int32).toInt = -6 := (by decide); omega, sm2_1 hs1_33⟩)⟩⟩, ⟨by rw [ht]; exact hP, va_K.moved hW.alike hK, hD⟩⟩, hS.F ht⟩) hS.2.2 dX11_man_58
          · have dc_28 := c_nlt (a := 99999) (b := x2.toInt) (by decide) rfl c_28
            refine lv_iload_n hx hb dX11_man_35 rfl (lv_at hl 3 rfl) ?_
            refine lv_aload_n hx hb dX11_man_36 rfl (lv_at hl 0 rfl) ?_
            refine va_get (D := (dC, dI)) (ci := 11) (v := .int (v 38)) (C := RX11) (T := TX11) (N := 63) hx hb hts in_wsX11_man_X11 hown hK hP 0 rfl rfl 38 (by decide) (hts (.fieldLink RX11 171 "ShipOfficeModel" "now" "I") iw_X11_man_1) (fun _ h9 => h9) rfl dX11_man_37 ?_
            refine lv_topi (fun x_36 ex_36 => ?_)
            have hx_36 : 0 ≤ x_36.toInt ∧ x_36.toInt ≤ 3000 := iv_of ex_36 (gV 38)
            have gx_36 : x_36.toInt = (v 38).toInt := iv_to ex_36
            clear ex_36
            refine lv_icmp_gt (tgt := 52) hx hb dX11_man_40 (by decide) (fun c_37 => ?_) (fun c_37 => ?_)
            · have dc_37 := c_lt (a := x_36.toInt) (b := x3.toInt) rfl rfl c_37
              refine lv_aload_n hx hb dX11_man_52 rfl (lv_at hl 0 rfl) ?_
              refine lv_bipush (v := (-6)) hx hb dX11_man_53 (by decide) ?_
              have hFc := va_free (wc := (mW g0 pq cp v fa)) hD hS hA (List.range 48) rfl
              refine va_calli (va_runV (As := [.int (-6)]) (rest := []) ⟨hx, hb, hml, hown, hts⟩ (c_X11_refuse_f l dC dI s.heap.size g0 pq cp v fa (-6) (by unfold vp_in; decide)) (cwV 1 hts gX11_man_X11_refuse rfl rfl rfl (by decide +kernel) ⟨(Nat.le_of_ble_eq_true rfl), (Nat.le_of_ble_eq_true rfl)⟩) (pr_V (r := (RX11, TX11, 63)) hP hK hD 0 11 rfl rfl) rfl rfl hl.1 rfl (lv_room (Nat.le_of_ble_eq_true rfl)) dX11_man_55 ⟨(Nat.le_of_ble_eq_true rfl), (Nat.le_of_ble_eq_true rfl)⟩) hS (fun q _ h => hFc q h) hFc (fun r_39 u t H locs ht hvm w_38 hB hz1 hk1 hS => ?_)
              obtain ⟨v_40, fa_41⟩ := u
              obtain ⟨hP1, hK1, hD1⟩ := hB
              rw [ht] at hP1
              have hP : va_P (dC, dI) vwCl (mW g0 pq cp v_40 fa_41) H := hP1
              have hD : va_D A (mW g0 pq cp v_40 fa_41) := hD1.weaken (fun _ _ _ h => hFc _ h)
              clear hP1 hK1 hD1 hk1 hz1 hvm ht hFc
              obtain ⟨rfl, hs1_42⟩ := w_38
              have hVv_40 : mV v_40 := sm0_V (sm1_0 hs1_42) gV
              have hAv_40 : mA fa_41 := sm0_A (sm1_0 hs1_42) gA
              have g_43 : (v_40 38).toInt = (v 38).toInt := congrArg Int32.toInt (congrFun hs1_42.1 38)
              have g_44 : (v_40 39).toInt = (v 39).toInt := congrArg Int32.toInt (congrFun hs1_42.1 39)
              have hRv_40 : mX [0, 2, 3, 4, 39] v fa v_40 fa_41 := mX.st mX.rf (mX.s0 (sm1_0 hs1_42)) (by decide)
              exact W.iret (v := (-6)) hx hb hr (fun t ht hW => ⟨⟨(-6), (v_40, fa_41), rfl, ⟨hVv_40, hAv_40, hRv_40, ⟨⟨by have rc : ((-6) : Int32).toInt = -6 := (by decide); unfold gmn; dsimp only; omega, fun h => by have rc : ((-6) : Int32).toInt = -6 := (by decide); exfalso; omega, fun _ => (sm1_0 hs1_42)⟩, (Or.inl ⟨by have rc : ((-6) : Int32).toInt = -6 := (by decide); omega, sm2_1 hs1_42⟩)⟩⟩, ⟨by rw [ht]; exact hP, va_K.moved hW.alike hK, hD⟩⟩, hS.F ht⟩) hS.2.2 dX11_man_58
            · have dc_37 := c_nlt (a := x_36.toInt) (b := x3.toInt) rfl rfl c_37
              refine lv_aload_n hx hb dX11_man_43 rfl (lv_at hl 0 rfl) ?_
              refine va_get (D := (dC, dI)) (ci := 11) (v := .int (v 39)) (C := RX11) (T := TX11) (N := 63) hx hb hts in_wsX11_man_X11 hown hK hP 0 rfl rfl 39 (by decide) (hts (.fieldLink RX11 157 "ShipOfficeModel" "men" "I") iw_X11_man_2) (fun _ h9 => h9) rfl dX11_man_44 ?_
              refine lv_topi (fun x_45 ex_45 => ?_)
              have hx_45 : 0 ≤ x_45.toInt ∧ x_45.toInt ≤ 40 := iv_of ex_45 (gV 39)
              have gx_45 : x_45.toInt = (v 39).toInt := iv_to ex_45
              clear ex_45
              refine lv_bipush (v := 40) hx hb dX11_man_47 (by decide) ?_
              refine lv_icmp_ne (tgt := 59) hx hb dX11_man_49 (by decide) (fun c_46 => ?_) (fun c_46 => ?_)
              · have dc_46 := c_ne (a := x_45.toInt) (b := 40) rfl (by decide) c_46
                refine lv_aload_n hx hb dX11_man_59 rfl (lv_at hl 0 rfl) ?_
                refine va_get (D := (dC, dI)) (ci := 11) (v := .ref (pq 2)) (C := RX11) (T := TX11) (N := 63) hx hb hts in_wsX11_man_X11 hown hK hP 0 rfl rfl 2 (by decide) (hts (.fieldLink RX11 16 "ShipOfficeModel" "name" "[I") iw_X11_man_3) (fun _ h9 => h9) rfl dX11_man_60 ?_
                refine lv_aload_n hx hb dX11_man_63 rfl (lv_at hl 0 rfl) ?_
                refine va_get (D := (dC, dI)) (ci := 11) (v := .int (v 39)) (C := RX11) (T := TX11) (N := 63) hx hb hts in_wsX11_man_X11 hown hK hP 0 rfl rfl 39 (by decide) (hts (.fieldLink RX11 157 "ShipOfficeModel" "men" "I") iw_X11_man_2) (fun _ h9 => h9) rfl dX11_man_64 ?_
                refine lv_topi (fun x_47 ex_47 => ?_)
                have hx_47 : 0 ≤ x_47.toInt ∧ x_47.toInt ≤ 40 := iv_of ex_47 (gV 39)
                have gx_47 : x_47.toInt = (v 39).toInt := iv_to ex_47
                clear ex_47
                refine lv_iload_n hx hb dX11_man_67 rfl (lv_at hl 1 rfl) ?_
                refine va_iast hx hb hK hP hD hS 3 2 rfl rfl (vp_in_iff.mpr (by omega)) dX11_man_68 (fun H locs hP hD hS => ?_)
                have hP : va_P (dC, dI) vwCl (mW g0 pq cp v (upF fa 2 (x_47 : Int32).toNatClampNeg x1)) H := hP
                have hD : va_D A (mW g0 pq cp v (upF fa 2 (x_47 : Int32).toNatClampNeg x1)) := hD
                obtain ⟨fz_48, efz_48⟩ : ∃ zq, zq = (upF fa 2 (x_47 : Int32).toNatClampNeg x1) := ⟨_, rfl⟩
                rw [← efz_48] at hP hD
                have hAfz_48 : mA fz_48 := by rw [efz_48]; exact mA_upF (lo := -2147483648) (hi := 2147483647) gA rfl rfl (iv_all _)
                have hRfz_48 : mX [0, 2, 3, 4, 39] v fa v fz_48 := by rw [efz_48]; exact mX.uF mX.rf (by decide)
                have q0_49 : fz_48 0 = fa 0 := by rw [efz_48]; exact (if_neg (by decide)).trans rfl
                refine lv_aload_n hx hb dX11_man_69 rfl (lv_at hl 0 rfl) ?_
                refine va_get (D := (dC, dI)) (ci := 11) (v := .ref (pq 3)) (C := RX11) (T := TX11) (N := 63) hx hb hts in_wsX11_man_X11 hown hK hP 0 rfl rfl 3 (by decide) (hts (.fieldLink RX11 19 "ShipOfficeModel" "marks" "[I") iw_X11_man_4) (fun _ h9 => h9) rfl dX11_man_70 ?_
                refine lv_aload_n hx hb dX11_man_73 rfl (lv_at hl 0 rfl) ?_
                refine va_get (D := (dC, dI)) (ci := 11) (v := .int (v 39)) (C := RX11) (T := TX11) (N := 63) hx hb hts in_wsX11_man_X11 hown hK hP 0 rfl rfl 39 (by decide) (hts (.fieldLink RX11 157 "ShipOfficeModel" "men" "I") iw_X11_man_2) (fun _ h9 => h9) rfl dX11_man_74 ?_
                refine lv_topi (fun x_50 ex_50 => ?_)
                have hx_50 : 0 ≤ x_50.toInt ∧ x_50.toInt ≤ 40 := iv_of ex_50 (gV 39)
                have gx_50 : x_50.toInt = (v 39).toInt := iv_to ex_50
                clear ex_50
                refine lv_iload_n hx hb dX11_man_77 rfl (lv_at hl 2 rfl) ?_
                refine va_iast hx hb hK hP hD hS 4 3 rfl rfl (vp_in_iff.mpr (by omega)) dX11_man_78 (fun H locs hP hD hS => ?_)
                have hP : va_P (dC, dI) vwCl (mW g0 pq cp v (upF fz_48 3 (x_50 : Int32).toNatClampNeg x2)) H := hP
                have hD : va_D A (mW g0 pq cp v (upF fz_48 3 (x_50 : Int32).toNatClampNeg x2)) := hD
                obtain ⟨fz_51, efz_51⟩ : ∃ zq, zq = (upF fz_48 3 (x_50 : Int32).toNatClampNeg x2) := ⟨_, rfl⟩
                rw [← efz_51] at hP hD
                have hAfz_51 : mA fz_51 := by rw [efz_51]; exact mA_upF (lo := -2147483648) (hi := 2147483647) hAfz_48 rfl rfl (iv_all _)
                have hRfz_51 : mX [0, 2, 3, 4, 39] v fa v fz_51 := by rw [efz_51]; exact mX.uF hRfz_48 (by decide)
                have q0_52 : fz_51 0 = fa 0 := by rw [efz_51]; exact (if_neg (by decide)).trans q0_49
                refine lv_aload_n hx hb dX11_man_79 rfl (lv_at hl 0 rfl) ?_
                refine va_get (D := (dC, dI)) (ci := 11) (v := .ref (pq 4)) (C := RX11) (T := TX11) (N := 63) hx hb hts in_wsX11_man_X11 hown hK hP 0 rfl rfl 4 (by decide) (hts (.fieldLink RX11 22 "ShipOfficeModel" "born" "[I") iw_X11_man_5) (fun _ h9 => h9) rfl dX11_man_80 ?_
                refine lv_aload_n hx hb dX11_man_83 rfl (lv_at hl 0 rfl) ?_
                refine va_get (D := (dC, dI)) (ci := 11) (v := .int (v 39)) (C := RX11) (T := TX11) (N := 63) hx hb hts in_wsX11_man_X11 hown hK hP 0 rfl rfl 39 (by decide) (hts (.fieldLink RX11 157 "ShipOfficeModel" "men" "I") iw_X11_man_2) (fun _ h9 => h9) rfl dX11_man_84 ?_
                refine lv_topi (fun x_53 ex_53 => ?_)
                have hx_53 : 0 ≤ x_53.toInt ∧ x_53.toInt ≤ 40 := iv_of ex_53 (gV 39)
                have gx_53 : x_53.toInt = (v 39).toInt := iv_to ex_53
                clear ex_53
                refine lv_iload_n hx hb dX11_man_87 rfl (lv_at hl 3 rfl) ?_
                refine va_iast hx hb hK hP hD hS 5 4 rfl rfl (vp_in_iff.mpr (by omega)) dX11_man_88 (fun H locs hP hD hS => ?_)
                have hP : va_P (dC, dI) vwCl (mW g0 pq cp v (upF fz_51 4 (x_53 : Int32).toNatClampNeg x3)) H := hP
                have hD : va_D A (mW g0 pq cp v (upF fz_51 4 (x_53 : Int32).toNatClampNeg x3)) := hD
                obtain ⟨fz_54, efz_54⟩ : ∃ zq, zq = (upF fz_51 4 (x_53 : Int32).toNatClampNeg x3) := ⟨_, rfl⟩
                rw [← efz_54] at hP hD
                have hAfz_54 : mA fz_54 := by rw [efz_54]; exact mA_upF (lo := -2147483648) (hi := 2147483647) hAfz_51 rfl rfl (iv_all _)
                have hRfz_54 : mX [0, 2, 3, 4, 39] v fa v fz_54 := by rw [efz_54]; exact mX.uF hRfz_51 (by decide)
                have q0_55 : fz_54 0 = fa 0 := by rw [efz_54]; exact (if_neg (by decide)).trans q0_52
                refine lv_aload_n hx hb dX11_man_89 rfl (lv_at hl 0 rfl) ?_
                refine lv_dup hx hb dX11_man_90 rfl ?_
                refine va_get (D := (dC, dI)) (ci := 11) (v := .int (v 39)) (C := RX11) (T := TX11) (N := 63) hx hb hts in_wsX11_man_X11 hown hK hP 0 rfl rfl 39 (by decide) (hts (.fieldLink RX11 157 "ShipOfficeModel" "men" "I") iw_X11_man_2) (fun _ h9 => h9) rfl dX11_man_91 ?_
                refine lv_topi (fun x_56 ex_56 => ?_)
                have hx_56 : 0 ≤ x_56.toInt ∧ x_56.toInt ≤ 40 := iv_of ex_56 (gV 39)
                have gx_56 : x_56.toInt = (v 39).toInt := iv_to ex_56
                clear ex_56
                refine lv_iconst (v := 1) hx hb dX11_man_94 (by decide) ?_
                refine lv_iadd hx hb dX11_man_95 ?_
                refine lv_topi (fun x_57 ex_57 => ?_)
                have hx_57 : x_57.toInt = x_56.toInt + 1 := (iv_to ex_57).trans (ad_i rfl (by decide) (by omega) (by omega))
                refine va_put (D := (dC, dI)) (ci := 11) (v := .int x_57) (ty := .int) (C := RX11) (T := TX11) (N := 63) hx hb hts in_wsX11_man_X11 tyX11 tyX11_ok nmX11 hown hK hP hD hS 0 rfl rfl 39 (by decide) (hts (.fieldLink RX11 157 "ShipOfficeModel" "men" "I") iw_X11_man_2) (fun _ h9 => h9) rfl (by decide +kernel) rfl rfl (Nat.le_of_ble_eq_true rfl) dX11_man_96 (fun H locs hP hD hS => ?_)
                have hP : va_P (dC, dI) vwCl (mW g0 pq cp (upd v 39 x_57) fz_54) H := hP
                have hD : va_D A (mW g0 pq cp (upd v 39 x_57) fz_54) := hD
                obtain ⟨z_58, ez_58⟩ : ∃ zq, zq = (upd v 39 x_57) := ⟨_, rfl⟩
                rw [← ez_58] at hP hD
                have hVz_58 : mV z_58 := by rw [ez_58]; exact mV_upd (lo := 0) (hi := 40) gV rfl rfl (by omega)
                have hRz_58 : mX [0, 2, 3, 4, 39] v fa z_58 fz_54 := by rw [ez_58]; exact mX.up hRfz_54 (by decide)
                have g_59 : (z_58 38).toInt = (v 38).toInt := by rw [ez_58]; exact congrArg Int32.toInt (if_neg (by decide))
                have g_60 : (z_58 39).toInt = x_57.toInt := by rw [ez_58, show upd v 39 x_57 39 = x_57 from if_pos rfl]
                refine lv_aload_n hx hb dX11_man_99 rfl (lv_at hl 0 rfl) ?_
                refine va_get (D := (dC, dI)) (ci := 11) (v := .int (z_58 39)) (C := RX11) (T := TX11) (N := 63) hx hb hts in_wsX11_man_X11 hown hK hP 0 rfl rfl 39 (by decide) (hts (.fieldLink RX11 157 "ShipOfficeModel" "men" "I") iw_X11_man_2) (fun _ h9 => h9) rfl dX11_man_100 ?_
                refine lv_topi (fun x_61 ex_61 => ?_)
                have hx_61 : 0 ≤ x_61.toInt ∧ x_61.toInt ≤ 40 := iv_of ex_61 (hVz_58 39)
                have gx_61 : x_61.toInt = (z_58 39).toInt := iv_to ex_61
                clear ex_61
                refine lv_iconst (v := 1) hx hb dX11_man_103 (by decide) ?_
                refine lv_isub hx hb dX11_man_104 ?_
                refine lv_topi (fun x_62 ex_62 => ?_)
                have hx_62 : x_62.toInt = x_61.toInt - 1 := (iv_to ex_62).trans (sb_i rfl (by decide) (by omega) (by omega))
                exact W.iret (v := x_62) hx hb hr (fun t ht hW => ⟨⟨x_62, (z_58, fz_54), rfl, ⟨hVz_58, hAfz_54, hRz_58, ⟨⟨by unfold gmn; dsimp only; omega, fun _ => ⟨(by dsimp only; rw [efz_54, efz_51, efz_48, show x_47 = v 39 from Int32.toInt_inj.mp (by omega)]; rfl), (by dsimp only; rw [efz_54, efz_51, efz_48, show x_50 = v 39 from Int32.toInt_inj.mp (by omega)]; rfl), (by dsimp only; rw [efz_54, efz_51, efz_48, show x_53 = v 39 from Int32.toInt_inj.mp (by omega)]; rfl)⟩, fun h => by exfalso; omega⟩, (Or.inr ⟨by omega, (by first | exact q0_55 | (dsimp only; exact q0_55))⟩)⟩⟩, ⟨by rw [ht]; exact hP, va_K.moved hW.alike hK, hD⟩⟩, hS.F ht⟩) hS.2.2 dX11_man_105
              · have dc_46 := c_eq (a := x_45.toInt) (b := 40) rfl (by decide) c_46
                refine lv_aload_n hx hb dX11_man_52 rfl (lv_at hl 0 rfl) ?_
                refine lv_bipush (v := (-6)) hx hb dX11_man_53 (by decide) ?_
                have hFc := va_free (wc := (mW g0 pq cp v fa)) hD hS hA (List.range 48) rfl
                refine va_calli (va_runV (As := [.int (-6)]) (rest := []) ⟨hx, hb, hml, hown, hts⟩ (c_X11_refuse_f l dC dI s.heap.size g0 pq cp v fa (-6) (by unfold vp_in; decide)) (cwV 1 hts gX11_man_X11_refuse rfl rfl rfl (by decide +kernel) ⟨(Nat.le_of_ble_eq_true rfl), (Nat.le_of_ble_eq_true rfl)⟩) (pr_V (r := (RX11, TX11, 63)) hP hK hD 0 11 rfl rfl) rfl rfl hl.1 rfl (lv_room (Nat.le_of_ble_eq_true rfl)) dX11_man_55 ⟨(Nat.le_of_ble_eq_true rfl), (Nat.le_of_ble_eq_true rfl)⟩) hS (fun q _ h => hFc q h) hFc (fun r_64 u t H locs ht hvm w_63 hB hz1 hk1 hS => ?_)
                obtain ⟨v_65, fa_66⟩ := u
                obtain ⟨hP1, hK1, hD1⟩ := hB
                rw [ht] at hP1
                have hP : va_P (dC, dI) vwCl (mW g0 pq cp v_65 fa_66) H := hP1
                have hD : va_D A (mW g0 pq cp v_65 fa_66) := hD1.weaken (fun _ _ _ h => hFc _ h)
                clear hP1 hK1 hD1 hk1 hz1 hvm ht hFc
                obtain ⟨rfl, hs1_67⟩ := w_63
                have hVv_65 : mV v_65 := sm0_V (sm1_0 hs1_67) gV
                have hAv_65 : mA fa_66 := sm0_A (sm1_0 hs1_67) gA
                have g_68 : (v_65 38).toInt = (v 38).toInt := congrArg Int32.toInt (congrFun hs1_67.1 38)
                have g_69 : (v_65 39).toInt = (v 39).toInt := congrArg Int32.toInt (congrFun hs1_67.1 39)
                have hRv_65 : mX [0, 2, 3, 4, 39] v fa v_65 fa_66 := mX.st mX.rf (mX.s0 (sm1_0 hs1_67)) (by decide)
                exact W.iret (v := (-6)) hx hb hr (fun t ht hW => ⟨⟨(-6), (v_65, fa_66), rfl, ⟨hVv_65, hAv_65, hRv_65, ⟨⟨by have rc : ((-6) : Int32).toInt = -6 := (by decide); unfold gmn; dsimp only; omega, fun h => by have rc : ((-6) : Int32).toInt = -6 := (by decide); exfalso; omega, fun _ => (sm1_0 hs1_67)⟩, (Or.inl ⟨by have rc : ((-6) : Int32).toInt = -6 := (by decide); omega, sm2_1 hs1_67⟩)⟩⟩, ⟨by rw [ht]; exact hP, va_K.moved hW.alike hK, hD⟩⟩, hS.F ht⟩) hS.2.2 dX11_man_58
      · have dc_19 := c_nle (a := (-30000)) (b := x3.toInt) (by decide) rfl c_19
        refine lv_aload_n hx hb dX11_man_15 rfl (lv_at hl 0 rfl) ?_
        refine lv_bipush (v := (-4)) hx hb dX11_man_16 (by decide) ?_
        have hFc := va_free (wc := (mW g0 pq cp v fa)) hD hS hA (List.range 48) rfl
        refine va_calli (va_runV (As := [.int (-4)]) (rest := []) ⟨hx, hb, hml, hown, hts⟩ (c_X11_refuse_f l dC dI s.heap.size g0 pq cp v fa (-4) (by unfold vp_in; decide)) (cwV 1 hts gX11_man_X11_refuse rfl rfl rfl (by decide +kernel) ⟨(Nat.le_of_ble_eq_true rfl), (Nat.le_of_ble_eq_true rfl)⟩) (pr_V (r := (RX11, TX11, 63)) hP hK hD 0 11 rfl rfl) rfl rfl hl.1 rfl (lv_room (Nat.le_of_ble_eq_true rfl)) dX11_man_18 ⟨(Nat.le_of_ble_eq_true rfl), (Nat.le_of_ble_eq_true rfl)⟩) hS (fun q _ h => hFc q h) hFc (fun r_71 u t H locs ht hvm w_70 hB hz1 hk1 hS => ?_)
        obtain ⟨v_72, fa_73⟩ := u
        obtain ⟨hP1, hK1, hD1⟩ := hB
        rw [ht] at hP1
        have hP : va_P (dC, dI) vwCl (mW g0 pq cp v_72 fa_73) H := hP1
        have hD : va_D A (mW g0 pq cp v_72 fa_73) := hD1.weaken (fun _ _ _ h => hFc _ h)
        clear hP1 hK1 hD1 hk1 hz1 hvm ht hFc
        obtain ⟨rfl, hs1_74⟩ := w_70
        have hVv_72 : mV v_72 := sm0_V (sm1_0 hs1_74) gV
        have hAv_72 : mA fa_73 := sm0_A (sm1_0 hs1_74) gA
        have g_75 : (v_72 38).toInt = (v 38).toInt := congrArg Int32.toInt (congrFun hs1_74.1 38)
        have g_76 : (v_72 39).toInt = (v 39).toInt := congrArg Int32.toInt (congrFun hs1_74.1 39)
        have hRv_72 : mX [0, 2, 3, 4, 39] v fa v_72 fa_73 := mX.st mX.rf (mX.s0 (sm1_0 hs1_74)) (by decide)
        exact W.iret (v := (-4)) hx hb hr (fun t ht hW => ⟨⟨(-4), (v_72, fa_73), rfl, ⟨hVv_72, hAv_72, hRv_72, ⟨⟨by have rc : ((-4) : Int32).toInt = -4 := (by decide); unfold gmn; dsimp only; omega, fun h => by have rc : ((-4) : Int32).toInt = -4 := (by decide); exfalso; omega, fun _ => (sm1_0 hs1_74)⟩, (Or.inl ⟨by have rc : ((-4) : Int32).toInt = -4 := (by decide); omega, sm2_1 hs1_74⟩)⟩⟩, ⟨by rw [ht]; exact hP, va_K.moved hW.alike hK, hD⟩⟩, hS.F ht⟩) hS.2.2 dX11_man_21
