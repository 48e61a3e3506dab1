


set_option maxHeartbeats 4000000 in
set_option maxRecDepth 100000 in
theorem c_X11_owed_f (l : Launch) (dC : Nat → ClassId) (dI : Nat → Nat → Nat) (sz : Nat) (g0 : Nat) (pq : Nat → Nat) (cp : Nat → ClassId) (v : Nat → Int32) (fa : Nat → Nat → Int32) (gV : mV v) (gA : mA fa) (x1 : Int32) (x2 : Int32) (x3 : Int32) (hWl : wlA v fa) (hOB : ∀ a, a < (v 43).toNatClampNeg → owB fa a) : Met l yX11_owed wsX11_owed ({ frames := 27, cells := 0, slots := 0, locals := 638 }) (va_Pc [.ref g0, .int x1, .int x2, .int x3] (pcW (dC, dI) (mT cp) (mW g0 pq cp v fa) sz)) (va_Qi (fun (r : Int32) (u : (Nat → Int32) × (Nat → Nat → Int32)) => mV u.1 ∧ mA u.2 ∧ mX [0, 45, 47, 48, 49, 50, 51, 52, 53, 54, 55, 56, 57, 58, 59, 60] v fa u.1 u.2 ∧ (aOw (v 43).toInt (v 38).toInt x1.toInt x2.toInt x3.toInt (owF v fa x1.toNatClampNeg x2 x3.toInt) r.toInt ∧ rFr v fa u r (bSt (v 43).toInt (v 38).toInt x1.toInt x2.toInt x3.toInt))) (fun u t => va_P (dC, dI) vwCl (mW g0 pq cp u.1 u.2) t.heap ∧ va_K (dC, dI) vwCl (mT cp) t ∧ va_D (va_A (mW g0 pq cp v fa) sz) (mW g0 pq cp u.1 u.2)) (va_A (mW g0 pq cp v fa) sz)) 0 0 (va_A (mW g0 pq cp v fa) sz) := by
  refine Met.ofW (cc := cX11_owed) (maxL := 5) (ret := (some .int)) (by decide) rfl ?_
  intro p e s m args below meth c s₁ B hml hv
  obtain ⟨rfl, hsz, hP, hK, hD0⟩ := hv
  have hx := B.exec
  have hb := B.bytes
  have hr := B.returns
  have hts := atoms_spec (ws := wsX11_owed) B.pre
  have hown : s.vm.findClass RX11 = some m.cls := findClass_of_methodNamed B.named
  have hlocks := B.notSynchronized
  subst hsz
  have hD := hD0.self (sz := s.heap.size)
  generalize hAe : va_A (mW g0 pq cp v fa) s.heap.size = A at hD ⊢
  have hA : ∀ q : Nat, s.heap.size ≤ q → A q := fun q h => by rw [← hAe]; exact Or.inr h
  have hS : va_S A s.heap s.heap [] := va_S.rf
  have hP : va_P (dC, dI) vwCl (mW g0 pq cp v fa) s.heap := hP
  have hl := lv_entry ([.ref g0, .int x1, .int x2, .int x3]) (n := 5) (Nat.le_of_ble_eq_true rfl)
  rw [lg_entry_eq]
  generalize (lg_sl ([.ref g0, .int x1, .int x2, .int x3]) ++ List.replicate (5 - (lg_sl ([.ref g0, .int x1, .int x2, .int x3])).length) Slot.unset).toArray = ls at hl ⊢
  have hl : lv_has ls 5 [(0, .ref g0), (1, .int x1), (2, .int x2), (3, .int x3)] := hl
  have iv_1 : 0 ≤ (v 38).toInt ∧ (v 38).toInt ≤ 3000 := gV 38
  have iv_2 : 0 ≤ (v 43).toInt ∧ (v 43).toInt ≤ 60 := gV 43
  refine lv_aload_n hx hb dX11_owed_0 rfl (lv_at hl 0 rfl) ?_
  refine lv_iload_n hx hb dX11_owed_1 rfl (lv_at hl 1 rfl) ?_
  have hFc : ∀ q, va_A [] s.heap.size q → A q := pu_free hS hA
  refine va_calli (va_runV (As := [.int x1]) (rest := []) ⟨hx, hb, hml, hown, hts⟩ (c_X11_isAgreement l dC dI s.heap.size g0 pq cp v fa x1) (cwV 1 hts gX11_owed_X11_isAgreement rfl rfl rfl (by decide +kernel) ⟨(Nat.le_of_ble_eq_true rfl), (Nat.le_of_ble_eq_true rfl)⟩) (pr_V (r := (RX11, TX11, 63)) hP hK hD 0 11 rfl rfl) rfl rfl hl.1 rfl (lv_room (Nat.le_of_ble_eq_true rfl)) dX11_owed_2 ⟨(Nat.le_of_ble_eq_true rfl), (Nat.le_of_ble_eq_true rfl)⟩) hS (fun q _ h => hFc q h) hFc (fun r_4 u t H locs ht hvm w_3 hB hz1 hk1 hS => ?_)
  have hP := pu_keep hP hk1
  clear hk1 hz1 hvm hB ht hFc
  have hbr_4 : 0 ≤ r_4.toInt ∧ r_4.toInt ≤ 1 := iv_of w_3 (isI_i _ _)
  refine lv_if_eq (tgt := 17) hx hb dX11_owed_5 (by decide) (fun c_5 => ?_) (fun c_5 => ?_)
  · have dc_5 := c_eq (a := r_4.toInt) (b := 0) rfl (by decide) c_5
    have hz_6 := isI_0 (w_3.symm.trans c_5)
    refine lv_iconst (v := (-1)) hx hb dX11_owed_17 (by decide) ?_
    refine lv_istore (lv' := [(4, .int (-1)), (0, .ref g0), (1, .int x1), (2, .int x2), (3, .int x3)]) hx hb dX11_owed_18 hl (by decide) rfl (fun ls hl => ?_)
    refine lv_iload hx hb dX11_owed_20 (lv_at hl 0 rfl) ?_
    refine lv_if_eq (tgt := 34) hx hb dX11_owed_22 (by decide) (fun c_7 => absurd c_7 (by decide)) (fun _ => ?_)
    refine lv_aload_n hx hb dX11_owed_25 rfl (lv_at hl 1 rfl) ?_
    refine lv_iload hx hb dX11_owed_26 (lv_at hl 0 rfl) ?_
    have hFc := va_free (wc := (mW g0 pq cp v fa)) hD hS hA (List.range 48) rfl
    refine va_calli (va_runV (As := [.int (-1)]) (rest := []) ⟨hx, hb, hml, hown, hts⟩ (c_X11_refuseFar_f l dC dI H.size g0 pq cp v fa gV gA (-1) (by decide)) (cwV 1 hts gX11_owed_X11_refuseFar rfl rfl rfl (by decide +kernel) ⟨(Nat.le_of_ble_eq_true rfl), (Nat.le_of_ble_eq_true rfl)⟩) (pr_V (r := (RX11, TX11, 63)) hP hK hD 0 11 rfl rfl) rfl rfl hl.1 rfl (lv_room (Nat.le_of_ble_eq_true rfl)) dX11_owed_28 ⟨(Nat.le_of_ble_eq_true rfl), (Nat.le_of_ble_eq_true rfl)⟩) hS (fun q _ h => hFc q h) hFc (fun r_9 u t H locs ht hvm w_8 hB hz1 hk1 hS => ?_)
    obtain ⟨v_10, fa_11⟩ := u
    obtain ⟨hP1, hK1, hD1⟩ := hB
    rw [ht] at hP1
    have hP : va_P (dC, dI) vwCl (mW g0 pq cp v_10 fa_11) H := hP1
    have hD : va_D A (mW g0 pq cp v_10 fa_11) := hD1.weaken (fun _ _ _ h => hFc _ h)
    clear hP1 hK1 hD1 hk1 hz1 hvm ht hFc
    obtain ⟨hV_12, hA_13, hR_14, hx_15⟩ := w_8
    dsimp only at hV_12 hA_13 hR_14 hx_15
    have g_16 : (v_10 38).toInt = (v 38).toInt := congrArg Int32.toInt (hR_14.1 38 (by decide))
    have g_17 : (v_10 43).toInt = (v 43).toInt := congrArg Int32.toInt (hR_14.1 43 (by decide))
    have R_18 : mX [0, 45, 47, 48, 49, 50, 51, 52, 53, 54, 55, 56, 57, 58, 59, 60] v fa v_10 fa_11 := mX.st mX.rf hR_14 (by decide)
    try rw [show ((-1) : Int32).toInt = -1 from (by decide)] at hx_15
    refine lv_goto (tgt := 41) hx hb dX11_owed_31 (by decide) ?_
    exact W.iret (v := r_9) hx hb hr (fun t ht hW => ⟨⟨r_9, (v_10, fa_11), rfl, ⟨hV_12, hA_13, R_18, ⟨by have e9 := hx_15.1; unfold aOw; omega, Or.inl ⟨by unfold bSt; omega, _, by have e9 := hx_15.1; have rc : ((-1) : Int32).toInt = -1 := (by decide); omega, hx_15.2⟩⟩⟩, ⟨by rw [ht]; exact hP, va_K.moved hW.alike hK, hD⟩⟩, hS.F ht⟩) hS.2.2 dX11_owed_41
  · have dc_5 := c_ne (a := r_4.toInt) (b := 0) rfl (by decide) c_5
    have hi_19 := isI_t w_3 (fun q => c_5 (Int32.toInt_inj.mp q))
    have khi_19 : (v 43).toInt ≤ 60 := (gV 43).2
    refine lv_aload_n hx hb dX11_owed_8 rfl (lv_at hl 0 rfl) ?_
    refine lv_iload_n hx hb dX11_owed_9 rfl (lv_at hl 2 rfl) ?_
    refine lv_iload_n hx hb dX11_owed_10 rfl (lv_at hl 3 rfl) ?_
    have hFc : ∀ q, va_A [] H.size q → A q := pu_free hS hA
    refine va_calli (va_runV (As := [.int x2, .int x3]) (rest := []) ⟨hx, hb, hml, hown, hts⟩ (c_X11_wrongTimes_f l dC dI H.size g0 pq cp v fa gV gA x2 x3) (cwV 2 hts gX11_owed_X11_wrongTimes rfl rfl rfl (by decide +kernel) ⟨(Nat.le_of_ble_eq_true rfl), (Nat.le_of_ble_eq_true rfl)⟩) (pr_V (r := (RX11, TX11, 63)) hP hK hD 0 11 rfl rfl) rfl rfl hl.1 rfl (lv_room (Nat.le_of_ble_eq_true rfl)) dX11_owed_11 ⟨(Nat.le_of_ble_eq_true rfl), (Nat.le_of_ble_eq_true rfl)⟩) hS (fun q _ h => hFc q h) hFc (fun r_21 u t H locs ht hvm w_20 hB hz1 hk1 hS => ?_)
    have hP := pu_keep hP hk1
    clear hk1 hz1 hvm hB ht hFc
    obtain ⟨hb_22, hx_23⟩ := w_20
    refine lv_goto (tgt := 18) hx hb dX11_owed_14 (by decide) ?_
    refine lv_istore (lv' := [(4, .int r_21), (0, .ref g0), (1, .int x1), (2, .int x2), (3, .int x3)]) hx hb dX11_owed_18 hl (by decide) rfl (fun ls hl => ?_)
    refine lv_iload hx hb dX11_owed_20 (lv_at hl 0 rfl) ?_
    refine lv_if_eq (tgt := 34) hx hb dX11_owed_22 (by decide) (fun c_24 => ?_) (fun c_24 => ?_)
    · have dc_24 := c_eq (a := r_21.toInt) (b := 0) rfl (by decide) c_24
      refine lv_aload_n hx hb dX11_owed_34 rfl (lv_at hl 1 rfl) ?_
      refine lv_iload_n hx hb dX11_owed_35 rfl (lv_at hl 2 rfl) ?_
      refine lv_iload_n hx hb dX11_owed_36 rfl (lv_at hl 3 rfl) ?_
      refine lv_iload_n hx hb dX11_owed_37 rfl (lv_at hl 4 rfl) ?_
      have hFc := va_free (wc := (mW g0 pq cp v fa)) hD hS hA (List.range 48) rfl
      refine va_calli (va_runV (As := [.int x1, .int x2, .int x3]) (rest := []) ⟨hx, hb, hml, hown, hts⟩ (c_X11_owedOf_f l dC dI H.size g0 pq cp v fa gV gA x1 (by omega) x2 (by omega) x3 hWl (hOB x1.toNatClampNeg (ni_lt (by omega) (by omega)))) (cwV 3 hts gX11_owed_X11_owedOf rfl rfl rfl (by decide +kernel) ⟨(Nat.le_of_ble_eq_true rfl), (Nat.le_of_ble_eq_true rfl)⟩) (pr_V (r := (RX11, TX11, 63)) hP hK hD 0 11 rfl rfl) rfl rfl hl.1 rfl (lv_room (Nat.le_of_ble_eq_true rfl)) dX11_owed_38 ⟨(Nat.le_of_ble_eq_true rfl), (Nat.le_of_ble_eq_true rfl)⟩) hS (fun q _ h => hFc q h) hFc (fun r_26 u t H locs ht hvm w_25 hB hz1 hk1 hS => ?_)
      obtain ⟨v_27, fa_28⟩ := u
      obtain ⟨hP1, hK1, hD1⟩ := hB
      rw [ht] at hP1
      have hP : va_P (dC, dI) vwCl (mW g0 pq cp v_27 fa_28) H := hP1
      have hD : va_D A (mW g0 pq cp v_27 fa_28) := hD1.weaken (fun _ _ _ h => hFc _ h)
      clear hP1 hK1 hD1 hk1 hz1 hvm ht hFc
      obtain ⟨hV_29, hA_30, hR_31, hx_32⟩ := w_25
      dsimp only at hV_29 hA_30 hR_31 hx_32
      have g_33 : (v_27 38).toInt = (v 38).toInt := congrArg Int32.toInt (hR_31.1 38 rfl)
      have g_34 : (v_27 43).toInt = (v 43).toInt := congrArg Int32.toInt (hR_31.1 43 rfl)
      have R_35 : mX [0, 45, 47, 48, 49, 50, 51, 52, 53, 54, 55, 56, 57, 58, 59, 60] v fa v_27 fa_28 := mX.st mX.rf (mX.scr hR_31) (by decide)
      have sc_36 := scr.tr scr.rf hR_31
      have q0_37 : fa_28 0 = fa 0 := (hR_31.2 0 rfl).trans rfl
      exact W.iret (v := r_26) hx hb hr (fun t ht hW => ⟨⟨r_26, (v_27, fa_28), rfl, ⟨hV_29, hA_30, R_35, ⟨by unfold aOw; omega, Or.inr ⟨by unfold bSt; omega, (by dsimp only; exact q0_37)⟩⟩⟩, ⟨by rw [ht]; exact hP, va_K.moved hW.alike hK, hD⟩⟩, hS.F ht⟩) hS.2.2 dX11_owed_41
    · have dc_24 := c_ne (a := r_21.toInt) (b := 0) rfl (by decide) c_24
      refine lv_aload_n hx hb dX11_owed_25 rfl (lv_at hl 1 rfl) ?_
      refine lv_iload hx hb dX11_owed_26 (lv_at hl 0 rfl) ?_
      have hFc := va_free (wc := (mW g0 pq cp v fa)) hD hS hA (List.range 48) rfl
      refine va_calli (va_runV (As := [.int r_21]) (rest := []) ⟨hx, hb, hml, hown, hts⟩ (c_X11_refuseFar_f l dC dI H.size g0 pq cp v fa gV gA r_21 (by omega)) (cwV 1 hts gX11_owed_X11_refuseFar rfl rfl rfl (by decide +kernel) ⟨(Nat.le_of_ble_eq_true rfl), (Nat.le_of_ble_eq_true rfl)⟩) (pr_V (r := (RX11, TX11, 63)) hP hK hD 0 11 rfl rfl) rfl rfl hl.1 rfl (lv_room (Nat.le_of_ble_eq_true rfl)) dX11_owed_28 ⟨(Nat.le_of_ble_eq_true rfl), (Nat.le_of_ble_eq_true rfl)⟩) hS (fun q _ h => hFc q h) hFc (fun r_39 u t H locs ht hvm w_38 hB hz1 hk1 hS => ?_)
      obtain ⟨v_40, fa_41⟩ := u
      obtain ⟨hP1, hK1, hD1⟩ := hB
      rw [ht] at hP1
      have hP : va_P (dC, dI) vwCl (mW g0 pq cp v_40 fa_41) H := hP1
      have hD : va_D A (mW g0 pq cp v_40 fa_41) := hD1.weaken (fun _ _ _ h => hFc _ h)
      clear hP1 hK1 hD1 hk1 hz1 hvm ht hFc
      obtain ⟨hV_42, hA_43, hR_44, hx_45⟩ := w_38
      dsimp only at hV_42 hA_43 hR_44 hx_45
      have g_46 : (v_40 38).toInt = (v 38).toInt := congrArg Int32.toInt (hR_44.1 38 (by decide))
      have g_47 : (v_40 43).toInt = (v 43).toInt := congrArg Int32.toInt (hR_44.1 43 (by decide))
      have R_48 : mX [0, 45, 47, 48, 49, 50, 51, 52, 53, 54, 55, 56, 57, 58, 59, 60] v fa v_40 fa_41 := mX.st mX.rf hR_44 (by decide)
      refine lv_goto (tgt := 41) hx hb dX11_owed_31 (by decide) ?_
      exact W.iret (v := r_39) hx hb hr (fun t ht hW => ⟨⟨r_39, (v_40, fa_41), rfl, ⟨hV_42, hA_43, R_48, ⟨by have e9 := hx_45.1; unfold aOw; omega, Or.inl ⟨by unfold bSt; omega, _, by have e9 := hx_45.1; have rc : ((-1) : Int32).toInt = -1 := (by decide); omega, hx_45.2⟩⟩⟩, ⟨by rw [ht]; exact hP, va_K.moved hW.alike hK, hD⟩⟩, hS.F ht⟩) hS.2.2 dX11_owed_41
