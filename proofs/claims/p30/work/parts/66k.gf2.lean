


set_option maxHeartbeats 4000000 in
set_option maxRecDepth 100000 in
theorem c_X11_allot_f (l : Launch) (dC : Nat → ClassId) (dI : Nat → Nat → Nat) (sz : Nat) (g0 : Nat) (pq : Nat → Nat) (cp : Nat → ClassId) (v : Nat → Int32) (fa : Nat → Nat → Int32) (gV : mV v) (gA : mA fa) (x1 : Int32) (x2 : Int32) (hWl : wlA v fa) : Met l yX11_allot wsX11_allot ({ frames := 25, cells := 0, slots := 0, locals := 586 }) (va_Pc [.ref g0, .int x1, .int x2] (pcW (dC, dI) (mT cp) (mW g0 pq cp v fa) sz)) (va_Qi (fun (r : Int32) (u : (Nat → Int32) × (Nat → Nat → Int32)) => mV u.1 ∧ mA u.2 ∧ mX [0, 29, 45, 47, 48, 49, 50, 51, 52, 53, 54, 55, 56, 57, 58, 59, 60] v fa u.1 u.2 ∧ (aAl (v 43).toInt x1.toInt (fa 29 x1.toNatClampNeg).toInt (gonI v fa x1.toNatClampNeg) x2.toInt (alQ (fa 22 x1.toNatClampNeg).toInt (alW v fa x1.toNatClampNeg x2)) r.toInt ∧ rO2 v fa u r (u.2 29 = upd (fa 29) x1.toNatClampNeg x2))) (fun u t => va_P (dC, dI) vwCl (mW g0 pq cp u.1 u.2) t.heap ∧ va_K (dC, dI) vwCl (mT cp) t ∧ va_D (va_A (mW g0 pq cp v fa) sz) (mW g0 pq cp u.1 u.2)) (va_A (mW g0 pq cp v fa) sz)) 0 0 (va_A (mW g0 pq cp v fa) sz) := by
  refine Met.ofW (cc := cX11_allot) (maxL := 3) (ret := (some .int)) (by decide) rfl ?_
  intro p e s m args below meth c s₁ B hml hv
  obtain ⟨rfl, hsz, hP, hK, hD0⟩ := hv
  have hx := B.exec
  have hb := B.bytes
  have hr := B.returns
  have hts := atoms_spec (ws := wsX11_allot) B.pre
  have hown : s.vm.findClass RX11 = some m.cls := findClass_of_methodNamed B.named
  have hlocks := B.notSynchronized
  subst hsz
  have hD := hD0.self (sz := s.heap.size)
  generalize hAe : va_A (mW g0 pq cp v fa) s.heap.size = A at hD ⊢
  have hA : ∀ q : Nat, s.heap.size ≤ q → A q := fun q h => by rw [← hAe]; exact Or.inr h
  have hS : va_S A s.heap s.heap [] := va_S.rf
  have hP : va_P (dC, dI) vwCl (mW g0 pq cp v fa) s.heap := hP
  have hl := lv_entry ([.ref g0, .int x1, .int x2]) (n := 3) (Nat.le_of_ble_eq_true rfl)
  rw [lg_entry_eq]
  generalize (lg_sl ([.ref g0, .int x1, .int x2]) ++ List.replicate (3 - (lg_sl ([.ref g0, .int x1, .int x2])).length) Slot.unset).toArray = ls at hl ⊢
  have hl : lv_has ls 3 [(0, .ref g0), (1, .int x1), (2, .int x2)] := hl
  have iv_1 : 0 ≤ (v 38).toInt ∧ (v 38).toInt ≤ 3000 := gV 38
  have iv_2 : 0 ≤ (v 43).toInt ∧ (v 43).toInt ≤ 60 := gV 43
  refine lv_aload_n hx hb dX11_allot_0 rfl (lv_at hl 0 rfl) ?_
  refine lv_iload_n hx hb dX11_allot_1 rfl (lv_at hl 1 rfl) ?_
  have hFc : ∀ q, va_A [] s.heap.size q → A q := pu_free hS hA
  refine va_calli (va_runV (As := [.int x1]) (rest := []) ⟨hx, hb, hml, hown, hts⟩ (c_X11_isAgreement l dC dI s.heap.size g0 pq cp v fa x1) (cwV 1 hts gX11_allot_X11_isAgreement rfl rfl rfl (by decide +kernel) ⟨(Nat.le_of_ble_eq_true rfl), (Nat.le_of_ble_eq_true rfl)⟩) (pr_V (r := (RX11, TX11, 63)) hP hK hD 0 11 rfl rfl) rfl rfl hl.1 rfl (lv_room (Nat.le_of_ble_eq_true rfl)) dX11_allot_2 ⟨(Nat.le_of_ble_eq_true rfl), (Nat.le_of_ble_eq_true rfl)⟩) hS (fun q _ h => hFc q h) hFc (fun r_4 u t H locs ht hvm w_3 hB hz1 hk1 hS => ?_)
  have hP := pu_keep hP hk1
  clear hk1 hz1 hvm hB ht hFc
  have hbr_4 : 0 ≤ r_4.toInt ∧ r_4.toInt ≤ 1 := iv_of w_3 (isI_i _ _)
  refine lv_if_ne (tgt := 14) hx hb dX11_allot_5 (by decide) (fun c_5 => ?_) (fun c_5 => ?_)
  · have dc_5 := c_ne (a := r_4.toInt) (b := 0) rfl (by decide) c_5
    have hi_6 := isI_t w_3 (fun q => c_5 (Int32.toInt_inj.mp q))
    have khi_6 : (v 43).toInt ≤ 60 := (gV 43).2
    refine lv_aload_n hx hb dX11_allot_14 rfl (lv_at hl 0 rfl) ?_
    refine va_get (D := (dC, dI)) (ci := 11) (v := .ref (pq 29)) (C := RX11) (T := TX11) (N := 63) hx hb hts in_wsX11_allot_X11 hown hK hP 0 rfl rfl 29 (by decide) (hts (.fieldLink RX11 97 "ShipOfficeModel" "allotted" "[I") iw_X11_allot_1) (fun _ h9 => h9) rfl dX11_allot_15 ?_
    refine lv_iload_n hx hb dX11_allot_18 rfl (lv_at hl 1 rfl) ?_
    refine va_iald hx hb hK hP 30 29 rfl rfl (vp_in_iff.mpr (by omega)) dX11_allot_19 ?_
    refine lv_topi (fun x_7 ex_7 => ?_)
    have gx_7 : x_7.toInt = (fa 29 (x1 : Int32).toNatClampNeg).toInt := iv_to ex_7
    clear ex_7
    refine lv_if_gt (tgt := 31) hx hb dX11_allot_20 (by decide) (fun c_8 => ?_) (fun c_8 => ?_)
    · have dc_8 := c_lt (a := 0) (b := x_7.toInt) (by decide) rfl c_8
      refine lv_aload_n hx hb dX11_allot_31 rfl (lv_at hl 0 rfl) ?_
      refine lv_bipush (v := (-3)) hx hb dX11_allot_32 (by decide) ?_
      have hFc := va_free (wc := (mW g0 pq cp v fa)) hD hS hA (List.range 48) rfl
      refine va_calli (va_runV (As := [.int (-3)]) (rest := []) ⟨hx, hb, hml, hown, hts⟩ (c_X11_refuse_f l dC dI H.size g0 pq cp v fa (-3) (by unfold vp_in; decide)) (cwV 1 hts gX11_allot_X11_refuse rfl rfl rfl (by decide +kernel) ⟨(Nat.le_of_ble_eq_true rfl), (Nat.le_of_ble_eq_true rfl)⟩) (pr_V (r := (RX11, TX11, 63)) hP hK hD 0 11 rfl rfl) rfl rfl hl.1 rfl (lv_room (Nat.le_of_ble_eq_true rfl)) dX11_allot_34 ⟨(Nat.le_of_ble_eq_true rfl), (Nat.le_of_ble_eq_true rfl)⟩) hS (fun q _ h => hFc q h) hFc (fun r_10 u t H locs ht hvm w_9 hB hz1 hk1 hS => ?_)
      obtain ⟨v_11, fa_12⟩ := u
      obtain ⟨hP1, hK1, hD1⟩ := hB
      rw [ht] at hP1
      have hP : va_P (dC, dI) vwCl (mW g0 pq cp v_11 fa_12) H := hP1
      have hD : va_D A (mW g0 pq cp v_11 fa_12) := hD1.weaken (fun _ _ _ h => hFc _ h)
      clear hP1 hK1 hD1 hk1 hz1 hvm ht hFc
      obtain ⟨rfl, hs1_13⟩ := w_9
      have hVv_11 : mV v_11 := sm0_V (sm1_0 hs1_13) gV
      have hAv_11 : mA fa_12 := sm0_A (sm1_0 hs1_13) gA
      have g_14 : (v_11 38).toInt = (v 38).toInt := congrArg Int32.toInt (congrFun hs1_13.1 38)
      have g_15 : (v_11 43).toInt = (v 43).toInt := congrArg Int32.toInt (congrFun hs1_13.1 43)
      have hRv_11 : mX [0, 29, 45, 47, 48, 49, 50, 51, 52, 53, 54, 55, 56, 57, 58, 59, 60] v fa v_11 fa_12 := mX.st mX.rf (mX.s0 (sm1_0 hs1_13)) (by decide)
      exact W.iret (v := (-3)) hx hb hr (fun t ht hW => ⟨⟨(-3), (v_11, fa_12), rfl, ⟨hVv_11, hAv_11, hRv_11, ⟨by have rc : ((-3) : Int32).toInt = -3 := (by decide); unfold aAl; omega, Or.inl ⟨by decide, sm2_1 hs1_13⟩⟩⟩, ⟨by rw [ht]; exact hP, va_K.moved hW.alike hK, hD⟩⟩, hS.F ht⟩) hS.2.2 dX11_allot_37
    · have dc_8 := c_nlt (a := 0) (b := x_7.toInt) (by decide) rfl c_8
      refine lv_aload_n hx hb dX11_allot_23 rfl (lv_at hl 0 rfl) ?_
      refine lv_iload_n hx hb dX11_allot_24 rfl (lv_at hl 1 rfl) ?_
      have hFc : ∀ q, va_A [] H.size q → A q := pu_free hS hA
      refine va_calli (va_runV (As := [.int x1]) (rest := []) ⟨hx, hb, hml, hown, hts⟩ (c_X11_goesOn_f l dC dI H.size g0 pq cp v fa gV gA x1 (by omega)) (cwV 1 hts gX11_allot_X11_goesOn rfl rfl rfl (by decide +kernel) ⟨(Nat.le_of_ble_eq_true rfl), (Nat.le_of_ble_eq_true rfl)⟩) (pr_V (r := (RX11, TX11, 63)) hP hK hD 0 11 rfl rfl) rfl rfl hl.1 rfl (lv_room (Nat.le_of_ble_eq_true rfl)) dX11_allot_25 ⟨(Nat.le_of_ble_eq_true rfl), (Nat.le_of_ble_eq_true rfl)⟩) hS (fun q _ h => hFc q h) hFc (fun r_17 u t H locs ht hvm w_16 hB hz1 hk1 hS => ?_)
      have hP := pu_keep hP hk1
      clear hk1 hz1 hvm hB ht hFc
      obtain ⟨hb_18, hx_19⟩ := w_16
      refine lv_if_ne (tgt := 38) hx hb dX11_allot_28 (by decide) (fun c_20 => ?_) (fun c_20 => ?_)
      · have dc_20 := c_ne (a := r_17.toInt) (b := 0) rfl (by decide) c_20
        refine lv_iload_n hx hb dX11_allot_38 rfl (lv_at hl 2 rfl) ?_
        refine lv_iconst (v := 1) hx hb dX11_allot_39 (by decide) ?_
        refine lv_icmp_ge (tgt := 50) hx hb dX11_allot_40 (by decide) (fun c_21 => ?_) (fun c_21 => ?_)
        · have dc_21 := c_le (a := 1) (b := x2.toInt) (by decide) rfl c_21
          refine lv_iload_n hx hb dX11_allot_50 rfl (lv_at hl 2 rfl) ?_
          refine lv_sipush (v := 9999) hx hb dX11_allot_51 (by decide) ?_
          refine lv_icmp_le (tgt := 64) hx hb dX11_allot_54 (by decide) (fun c_22 => ?_) (fun c_22 => ?_)
          · have dc_22 := c_le (a := x2.toInt) (b := 9999) rfl (by decide) c_22
            refine lv_aload_n hx hb dX11_allot_64 rfl (lv_at hl 0 rfl) ?_
            refine lv_iload_n hx hb dX11_allot_65 rfl (lv_at hl 1 rfl) ?_
            refine lv_aload_n hx hb dX11_allot_66 rfl (lv_at hl 0 rfl) ?_
            refine va_get (D := (dC, dI)) (ci := 11) (v := .int (v 38)) (C := RX11) (T := TX11) (N := 63) hx hb hts in_wsX11_allot_X11 hown hK hP 0 rfl rfl 38 (by decide) (hts (.fieldLink RX11 171 "ShipOfficeModel" "now" "I") iw_X11_allot_2) (fun _ h9 => h9) rfl dX11_allot_67 ?_
            refine lv_topi (fun x_23 ex_23 => ?_)
            have hx_23 : 0 ≤ x_23.toInt ∧ x_23.toInt ≤ 3000 := iv_of ex_23 (gV 38)
            have gx_23 : x_23.toInt = (v 38).toInt := iv_to ex_23
            clear ex_23
            refine lv_aload_n hx hb dX11_allot_70 rfl (lv_at hl 0 rfl) ?_
            refine va_get (D := (dC, dI)) (ci := 11) (v := .int (v 38)) (C := RX11) (T := TX11) (N := 63) hx hb hts in_wsX11_allot_X11 hown hK hP 0 rfl rfl 38 (by decide) (hts (.fieldLink RX11 171 "ShipOfficeModel" "now" "I") iw_X11_allot_2) (fun _ h9 => h9) rfl dX11_allot_71 ?_
            refine lv_topi (fun x_24 ex_24 => ?_)
            have hx_24 : 0 ≤ x_24.toInt ∧ x_24.toInt ≤ 3000 := iv_of ex_24 (gV 38)
            have gx_24 : x_24.toInt = (v 38).toInt := iv_to ex_24
            clear ex_24
            refine lv_iload_n hx hb dX11_allot_74 rfl (lv_at hl 2 rfl) ?_
            refine lv_iconst (v := 0) hx hb dX11_allot_75 (by decide) ?_
            have hFc := va_free (wc := (mW g0 pq cp v fa)) hD hS hA (List.range 48) rfl
            refine va_callv (va_runV (As := [.int x1, .int x_23, .int x_24, .int x2, .int 0]) (rest := []) ⟨hx, hb, hml, hown, hts⟩ (c_X11_puts_f l dC dI H.size g0 pq cp v fa gV gA x1 (by omega) x_23 (by omega) x_24 x2 0 hWl) (cwV 5 hts gX11_allot_X11_puts rfl rfl rfl (by decide +kernel) ⟨(Nat.le_of_ble_eq_true rfl), (Nat.le_of_ble_eq_true rfl)⟩) (pr_V (r := (RX11, TX11, 63)) hP hK hD 0 11 rfl rfl) rfl rfl hl.1 rfl (lv_room (Nat.le_of_ble_eq_true rfl)) dX11_allot_76 ⟨(Nat.le_of_ble_eq_true rfl), (Nat.le_of_ble_eq_true rfl)⟩) hS (fun q _ h => hFc q h) hFc (fun u t H locs ht hvm w_25 hB hz1 hk1 hS => ?_)
            obtain ⟨v_27, fa_28⟩ := u
            obtain ⟨hP1, hK1, hD1⟩ := hB
            rw [ht] at hP1
            have hP : va_P (dC, dI) vwCl (mW g0 pq cp v_27 fa_28) H := hP1
            have hD : va_D A (mW g0 pq cp v_27 fa_28) := hD1.weaken (fun _ _ _ h => hFc _ h)
            clear hP1 hK1 hD1 hk1 hz1 hvm ht hFc
            obtain ⟨hV_29, hA_30, hR_31, hx_32⟩ := w_25
            dsimp only at hV_29 hA_30 hR_31 hx_32
            have g_33 : (v_27 38).toInt = (v 38).toInt := congrArg Int32.toInt (hR_31.1 38 rfl)
            have g_34 : (v_27 43).toInt = (v 43).toInt := congrArg Int32.toInt (hR_31.1 43 rfl)
            have g_35 : (fa_28 29 (x1 : Int32).toNatClampNeg).toInt = (fa 29 (x1 : Int32).toNatClampNeg).toInt := congrArg (fun h : Nat → Int32 => Int32.toInt (h (x1 : Int32).toNatClampNeg)) (hR_31.2 29 rfl)
            have R_36 : mX [0, 29, 45, 47, 48, 49, 50, 51, 52, 53, 54, 55, 56, 57, 58, 59, 60] v fa v_27 fa_28 := mX.st mX.rf (mX.scr hR_31) (by decide)
            try rw [gx_23] at hx_32
            try rw [gx_24] at hx_32
            try rw [show (0 : Int32).toInt = 0 from (by decide)] at hx_32
            have sc_37 := scr.tr scr.rf hR_31
            have q0_38 : fa_28 0 = fa 0 := (hR_31.2 0 rfl).trans rfl
            refine lv_iload_n hx hb dX11_allot_79 rfl (lv_at hl 2 rfl) ?_
            refine lv_i2l (v := (x2 : Int32).toInt64) hx hb dX11_allot_80 rfl ?_
            refine lv_aload_n hx hb dX11_allot_81 rfl (lv_at hl 0 rfl) ?_
            refine va_get (D := (dC, dI)) (ci := 11) (v := .ref (pq 22)) (C := RX11) (T := TX11) (N := 63) hx hb hts in_wsX11_allot_X11 hown hK hP 0 rfl rfl 22 (by decide) (hts (.fieldLink RX11 76 "ShipOfficeModel" "wage" "[I") iw_X11_allot_3) (fun _ h9 => h9) rfl dX11_allot_82 ?_
            refine lv_iload_n hx hb dX11_allot_85 rfl (lv_at hl 1 rfl) ?_
            refine va_iald hx hb hK hP 23 22 rfl rfl (vp_in_iff.mpr (by omega)) dX11_allot_86 ?_
            refine lv_topi (fun x_39 ex_39 => ?_)
            have gx_39 : x_39.toInt = (fa_28 22 (x1 : Int32).toNatClampNeg).toInt := iv_to ex_39
            clear ex_39
            rw [show fa_28 22 = fa 22 from sc_37.2 22 rfl] at gx_39
            refine lv_i2l (v := (x_39 : Int32).toInt64) hx hb dX11_allot_87 rfl ?_
            refine lv_aload_n hx hb dX11_allot_88 rfl (lv_at hl 0 rfl) ?_
            refine lv_iconst (v := 3) hx hb dX11_allot_89 (by decide) ?_
            refine lv_aload_n hx hb dX11_allot_90 rfl (lv_at hl 0 rfl) ?_
            refine va_get (D := (dC, dI)) (ci := 11) (v := .int (v_27 38)) (C := RX11) (T := TX11) (N := 63) hx hb hts in_wsX11_allot_X11 hown hK hP 0 rfl rfl 38 (by decide) (hts (.fieldLink RX11 171 "ShipOfficeModel" "now" "I") iw_X11_allot_2) (fun _ h9 => h9) rfl dX11_allot_91 ?_
            refine lv_topi (fun x_40 ex_40 => ?_)
            have hx_40 : 0 ≤ x_40.toInt ∧ x_40.toInt ≤ 3000 := iv_of ex_40 (hV_29 38)
            have gx_40 : x_40.toInt = (v_27 38).toInt := iv_to ex_40
            clear ex_40
            rw [show v_27 38 = v 38 from sc_37.1 38 rfl] at gx_40
            have hFc := va_free (wc := (mW g0 pq cp v_27 fa_28)) hD hS hA (List.range 48) rfl
            refine va_calli (va_runV (As := [.int 3, .int x_40]) (rest := [.long ((x_39 : Int32).toInt64), .long ((x2 : Int32).toInt64)]) ⟨hx, hb, hml, hown, hts⟩ (c_X11_worth_f l dC dI H.size g0 pq cp v_27 fa_28 hV_29 hA_30 3 x_40 (wlA_fr hWl (sc_37.1 42 rfl) (sc_37.2 19 rfl) (sc_37.2 16 rfl))) (cwV 2 hts gX11_allot_X11_worth rfl rfl rfl (by decide +kernel) ⟨(Nat.le_of_ble_eq_true rfl), (Nat.le_of_ble_eq_true rfl)⟩) (pr_V (r := (RX11, TX11, 63)) hP hK hD 0 11 rfl rfl) rfl rfl hl.1 rfl (lv_room (Nat.le_of_ble_eq_true rfl)) dX11_allot_94 ⟨(Nat.le_of_ble_eq_true rfl), (Nat.le_of_ble_eq_true rfl)⟩) hS (fun q _ h => hFc q h) hFc (fun r_42 u t H locs ht hvm w_41 hB hz1 hk1 hS => ?_)
            obtain ⟨v_43, fa_44⟩ := u
            obtain ⟨hP1, hK1, hD1⟩ := hB
            rw [ht] at hP1
            have hP : va_P (dC, dI) vwCl (mW g0 pq cp v_43 fa_44) H := hP1
            have hD : va_D A (mW g0 pq cp v_43 fa_44) := hD1.weaken (fun _ _ _ h => hFc _ h)
            clear hP1 hK1 hD1 hk1 hz1 hvm ht hFc
            obtain ⟨hV_45, hA_46, hR_47, hx_48⟩ := w_41
            dsimp only at hV_45 hA_46 hR_47 hx_48
            have g_49 : (v_43 38).toInt = (v_27 38).toInt := congrArg Int32.toInt (hR_47.1 38 rfl)
            have g_50 : (v_43 43).toInt = (v_27 43).toInt := congrArg Int32.toInt (hR_47.1 43 rfl)
            have g_51 : (fa_44 22 (x1 : Int32).toNatClampNeg).toInt = (fa_28 22 (x1 : Int32).toNatClampNeg).toInt := congrArg (fun h : Nat → Int32 => Int32.toInt (h (x1 : Int32).toNatClampNeg)) (hR_47.2 22 rfl)
            have g_52 : (fa_44 29 (x1 : Int32).toNatClampNeg).toInt = (fa_28 29 (x1 : Int32).toNatClampNeg).toInt := congrArg (fun h : Nat → Int32 => Int32.toInt (h (x1 : Int32).toNatClampNeg)) (hR_47.2 29 rfl)
            have R_53 : mX [0, 29, 45, 47, 48, 49, 50, 51, 52, 53, 54, 55, 56, 57, 58, 59, 60] v fa v_43 fa_44 := mX.st R_36 (mX.scr hR_47) (by decide)
            try rw [show (3 : Int32).toInt = 3 from (by decide)] at hx_48
            try rw [gx_40] at hx_48
            have sc_54 := scr.tr sc_37 hR_47
            have q0_55 : fa_44 0 = fa 0 := (hR_47.2 0 rfl).trans q0_38
            refine lv_i2l (v := (r_42 : Int32).toInt64) hx hb dX11_allot_97 rfl ?_
            refine lv_lmul hx hb dX11_allot_98 ?_
            refine lv_ldc2 (v := 100) hx hb hown (hts (.constantLong RX11 310 (100)) (by decide +kernel)) dX11_allot_99 ?_
            refine lv_ldiv hx hb dX11_allot_102 (by decide) ?_
            refine W.lcmp hx hb dX11_allot_103 ?_
            refine lv_topi (fun x_56 ex_56 => ?_)
            have hal9 := lg_al ex_56
            refine lv_if_le (tgt := 114) hx hb dX11_allot_104 (by decide) (fun c_57 => ?_) (fun c_57 => ?_)
            · have dc_57 := c_le (a := x_56.toInt) (b := 0) rfl (by decide) c_57
              refine lv_aload_n hx hb dX11_allot_114 rfl (lv_at hl 0 rfl) ?_
              refine va_get (D := (dC, dI)) (ci := 11) (v := .ref (pq 29)) (C := RX11) (T := TX11) (N := 63) hx hb hts in_wsX11_allot_X11 hown hK hP 0 rfl rfl 29 (by decide) (hts (.fieldLink RX11 97 "ShipOfficeModel" "allotted" "[I") iw_X11_allot_1) (fun _ h9 => h9) rfl dX11_allot_115 ?_
              refine lv_iload_n hx hb dX11_allot_118 rfl (lv_at hl 1 rfl) ?_
              refine lv_iload_n hx hb dX11_allot_119 rfl (lv_at hl 2 rfl) ?_
              refine va_iast hx hb hK hP hD hS 30 29 rfl rfl (vp_in_iff.mpr (by omega)) dX11_allot_120 (fun H locs hP hD hS => ?_)
              have hP : va_P (dC, dI) vwCl (mW g0 pq cp v_43 (upF fa_44 29 (x1 : Int32).toNatClampNeg x2)) H := hP
              have hD : va_D A (mW g0 pq cp v_43 (upF fa_44 29 (x1 : Int32).toNatClampNeg x2)) := hD
              obtain ⟨fz_58, efz_58⟩ : ∃ zq, zq = (upF fa_44 29 (x1 : Int32).toNatClampNeg x2) := ⟨_, rfl⟩
              rw [← efz_58] at hP hD
              have hAfz_58 : mA fz_58 := by rw [efz_58]; exact mA_upF (lo := -2147483648) (hi := 2147483647) hA_46 rfl rfl (iv_all _)
              have hRfz_58 : mX [0, 29, 45, 47, 48, 49, 50, 51, 52, 53, 54, 55, 56, 57, 58, 59, 60] v fa v_43 fz_58 := by rw [efz_58]; exact mX.uF R_53 (by decide)
              have g_59 : (fz_58 22 (x1 : Int32).toNatClampNeg).toInt = (fa_44 22 (x1 : Int32).toNatClampNeg).toInt := by rw [efz_58]; exact uF_ne (by decide)
              have q0_60 : fz_58 0 = fa 0 := by rw [efz_58]; exact (if_neg (by decide)).trans q0_55
              have g_61 : (fz_58 29 (x1 : Int32).toNatClampNeg).toInt = x2.toInt := by rw [efz_58]; exact uF_eq
              refine lv_iconst (v := 1) hx hb dX11_allot_121 (by decide) ?_
              exact W.iret (v := 1) hx hb hr (fun t ht hW => ⟨⟨1, (v_43, fz_58), rfl, ⟨hV_45, hAfz_58, hRfz_58, ⟨by have rc : (1 : Int32).toInt = 1 := (by decide); have eD : x_23 = (v 38) := Int32.toInt_inj.mp (by omega); have hL9 := hx_32; rw [eD] at hL9; (try rw [show x_24.toInt = (v 38).toInt from (by omega)] at hL9); (try rw [if_pos rfl] at hL9); have hw9 : r_42 = wrt v fa 3 (v 38).toInt (lP v fa x1.toNatClampNeg (v 38) (v 38).toInt x2 0) := (by rw [hx_48]; (try rw [show (3 : Int32).toInt = 3 from (by decide)]); (try rw [show x_40.toInt = (v 38).toInt from (by omega)]); (try rw [show (v_27 38).toInt = (v 38).toInt from (by omega)]); exact wrt_c hWl (sc_37.1 42 rfl) (sc_37.2 19 rfl) (sc_37.2 16 rfl) (sc_37.2 17 rfl) (sc_37.2 18 rfl) hL9); have hi9 : r_42.toInt = alW v fa x1.toNatClampNeg x2 := congrArg Int32.toInt hw9; rw [hi9] at hal9; have hwg9 : x_39.toInt = (fa 22 x1.toNatClampNeg).toInt := (by omega); rw [hwg9] at hal9; unfold aAl; omega, Or.inr ⟨by have rc : (1 : Int32).toInt = 1 := (by decide); omega, (by dsimp only; exact q0_60), (by dsimp only; rw [efz_58]; exact congrArg (fun f => upd f _ _) (sc_54.2 29 rfl))⟩⟩⟩, ⟨by rw [ht]; exact hP, va_K.moved hW.alike hK, hD⟩⟩, hS.F ht⟩) hS.2.2 dX11_allot_122
            · have dc_57 := c_nle (a := x_56.toInt) (b := 0) rfl (by decide) c_57
              refine lv_aload_n hx hb dX11_allot_107 rfl (lv_at hl 0 rfl) ?_
              refine lv_bipush (v := (-6)) hx hb dX11_allot_108 (by decide) ?_
              have hFc := va_free (wc := (mW g0 pq cp v_43 fa_44)) hD hS hA (List.range 48) rfl
              refine va_calli (va_runV (As := [.int (-6)]) (rest := []) ⟨hx, hb, hml, hown, hts⟩ (c_X11_refuse_f l dC dI H.size g0 pq cp v_43 fa_44 (-6) (by unfold vp_in; decide)) (cwV 1 hts gX11_allot_X11_refuse rfl rfl rfl (by decide +kernel) ⟨(Nat.le_of_ble_eq_true rfl), (Nat.le_of_ble_eq_true rfl)⟩) (pr_V (r := (RX11, TX11, 63)) hP hK hD 0 11 rfl rfl) rfl rfl hl.1 rfl (lv_room (Nat.le_of_ble_eq_true rfl)) dX11_allot_110 ⟨(Nat.le_of_ble_eq_true rfl), (Nat.le_of_ble_eq_true rfl)⟩) hS (fun q _ h => hFc q h) hFc (fun r_63 u t H locs ht hvm w_62 hB hz1 hk1 hS => ?_)
              obtain ⟨v_64, fa_65⟩ := u
              obtain ⟨hP1, hK1, hD1⟩ := hB
              rw [ht] at hP1
              have hP : va_P (dC, dI) vwCl (mW g0 pq cp v_64 fa_65) H := hP1
              have hD : va_D A (mW g0 pq cp v_64 fa_65) := hD1.weaken (fun _ _ _ h => hFc _ h)
              clear hP1 hK1 hD1 hk1 hz1 hvm ht hFc
              obtain ⟨rfl, hs1_66⟩ := w_62
              have hVv_64 : mV v_64 := sm0_V (sm1_0 hs1_66) hV_45
              have hAv_64 : mA fa_65 := sm0_A (sm1_0 hs1_66) hA_46
              have g_67 : (v_64 38).toInt = (v_43 38).toInt := congrArg Int32.toInt (congrFun hs1_66.1 38)
              have g_68 : (v_64 43).toInt = (v_43 43).toInt := congrArg Int32.toInt (congrFun hs1_66.1 43)
              have hRv_64 : mX [0, 29, 45, 47, 48, 49, 50, 51, 52, 53, 54, 55, 56, 57, 58, 59, 60] v fa v_64 fa_65 := mX.st R_53 (mX.s0 (sm1_0 hs1_66)) (by decide)
              exact W.iret (v := (-6)) hx hb hr (fun t ht hW => ⟨⟨(-6), (v_64, fa_65), rfl, ⟨hVv_64, hAv_64, hRv_64, ⟨by have rc : ((-6) : Int32).toInt = -6 := (by decide); have eD : x_23 = (v 38) := Int32.toInt_inj.mp (by omega); have hL9 := hx_32; rw [eD] at hL9; (try rw [show x_24.toInt = (v 38).toInt from (by omega)] at hL9); (try rw [if_pos rfl] at hL9); have hw9 : r_42 = wrt v fa 3 (v 38).toInt (lP v fa x1.toNatClampNeg (v 38) (v 38).toInt x2 0) := (by rw [hx_48]; (try rw [show (3 : Int32).toInt = 3 from (by decide)]); (try rw [show x_40.toInt = (v 38).toInt from (by omega)]); (try rw [show (v_27 38).toInt = (v 38).toInt from (by omega)]); exact wrt_c hWl (sc_37.1 42 rfl) (sc_37.2 19 rfl) (sc_37.2 16 rfl) (sc_37.2 17 rfl) (sc_37.2 18 rfl) hL9); have hi9 : r_42.toInt = alW v fa x1.toNatClampNeg x2 := congrArg Int32.toInt hw9; rw [hi9] at hal9; have hwg9 : x_39.toInt = (fa 22 x1.toNatClampNeg).toInt := (by omega); rw [hwg9] at hal9; unfold aAl; omega, Or.inl ⟨by decide, sm2_s sc_54 hs1_66⟩⟩⟩, ⟨by rw [ht]; exact hP, va_K.moved hW.alike hK, hD⟩⟩, hS.F ht⟩) hS.2.2 dX11_allot_113
          · have dc_22 := c_nle (a := x2.toInt) (b := 9999) rfl (by decide) c_22
            refine lv_aload_n hx hb dX11_allot_57 rfl (lv_at hl 0 rfl) ?_
            refine lv_bipush (v := (-6)) hx hb dX11_allot_58 (by decide) ?_
            have hFc := va_free (wc := (mW g0 pq cp v fa)) hD hS hA (List.range 48) rfl
            refine va_calli (va_runV (As := [.int (-6)]) (rest := []) ⟨hx, hb, hml, hown, hts⟩ (c_X11_refuse_f l dC dI H.size g0 pq cp v fa (-6) (by unfold vp_in; decide)) (cwV 1 hts gX11_allot_X11_refuse rfl rfl rfl (by decide +kernel) ⟨(Nat.le_of_ble_eq_true rfl), (Nat.le_of_ble_eq_true rfl)⟩) (pr_V (r := (RX11, TX11, 63)) hP hK hD 0 11 rfl rfl) rfl rfl hl.1 rfl (lv_room (Nat.le_of_ble_eq_true rfl)) dX11_allot_60 ⟨(Nat.le_of_ble_eq_true rfl), (Nat.le_of_ble_eq_true rfl)⟩) hS (fun q _ h => hFc q h) hFc (fun r_70 u t H locs ht hvm w_69 hB hz1 hk1 hS => ?_)
            obtain ⟨v_71, fa_72⟩ := u
            obtain ⟨hP1, hK1, hD1⟩ := hB
            rw [ht] at hP1
            have hP : va_P (dC, dI) vwCl (mW g0 pq cp v_71 fa_72) H := hP1
            have hD : va_D A (mW g0 pq cp v_71 fa_72) := hD1.weaken (fun _ _ _ h => hFc _ h)
            clear hP1 hK1 hD1 hk1 hz1 hvm ht hFc
            obtain ⟨rfl, hs1_73⟩ := w_69
            have hVv_71 : mV v_71 := sm0_V (sm1_0 hs1_73) gV
            have hAv_71 : mA fa_72 := sm0_A (sm1_0 hs1_73) gA
            have g_74 : (v_71 38).toInt = (v 38).toInt := congrArg Int32.toInt (congrFun hs1_73.1 38)
            have g_75 : (v_71 43).toInt = (v 43).toInt := congrArg Int32.toInt (congrFun hs1_73.1 43)
            have hRv_71 : mX [0, 29, 45, 47, 48, 49, 50, 51, 52, 53, 54, 55, 56, 57, 58, 59, 60] v fa v_71 fa_72 := mX.st mX.rf (mX.s0 (sm1_0 hs1_73)) (by decide)
            exact W.iret (v := (-6)) hx hb hr (fun t ht hW => ⟨⟨(-6), (v_71, fa_72), rfl, ⟨hVv_71, hAv_71, hRv_71, ⟨by have rc : ((-6) : Int32).toInt = -6 := (by decide); unfold aAl; omega, Or.inl ⟨by decide, sm2_1 hs1_73⟩⟩⟩, ⟨by rw [ht]; exact hP, va_K.moved hW.alike hK, hD⟩⟩, hS.F ht⟩) hS.2.2 dX11_allot_63
        · have dc_21 := c_nle (a := 1) (b := x2.toInt) (by decide) rfl c_21
          refine lv_aload_n hx hb dX11_allot_43 rfl (lv_at hl 0 rfl) ?_
          refine lv_bipush (v := (-4)) hx hb dX11_allot_44 (by decide) ?_
          have hFc := va_free (wc := (mW g0 pq cp v fa)) hD hS hA (List.range 48) rfl
          refine va_calli (va_runV (As := [.int (-4)]) (rest := []) ⟨hx, hb, hml, hown, hts⟩ (c_X11_refuse_f l dC dI H.size g0 pq cp v fa (-4) (by unfold vp_in; decide)) (cwV 1 hts gX11_allot_X11_refuse rfl rfl rfl (by decide +kernel) ⟨(Nat.le_of_ble_eq_true rfl), (Nat.le_of_ble_eq_true rfl)⟩) (pr_V (r := (RX11, TX11, 63)) hP hK hD 0 11 rfl rfl) rfl rfl hl.1 rfl (lv_room (Nat.le_of_ble_eq_true rfl)) dX11_allot_46 ⟨(Nat.le_of_ble_eq_true rfl), (Nat.le_of_ble_eq_true rfl)⟩) hS (fun q _ h => hFc q h) hFc (fun r_77 u t H locs ht hvm w_76 hB hz1 hk1 hS => ?_)
          obtain ⟨v_78, fa_79⟩ := u
          obtain ⟨hP1, hK1, hD1⟩ := hB
          rw [ht] at hP1
          have hP : va_P (dC, dI) vwCl (mW g0 pq cp v_78 fa_79) H := hP1
          have hD : va_D A (mW g0 pq cp v_78 fa_79) := hD1.weaken (fun _ _ _ h => hFc _ h)
          clear hP1 hK1 hD1 hk1 hz1 hvm ht hFc
          obtain ⟨rfl, hs1_80⟩ := w_76
          have hVv_78 : mV v_78 := sm0_V (sm1_0 hs1_80) gV
          have hAv_78 : mA fa_79 := sm0_A (sm1_0 hs1_80) gA
          have g_81 : (v_78 38).toInt = (v 38).toInt := congrArg Int32.toInt (congrFun hs1_80.1 38)
          have g_82 : (v_78 43).toInt = (v 43).toInt := congrArg Int32.toInt (congrFun hs1_80.1 43)
          have hRv_78 : mX [0, 29, 45, 47, 48, 49, 50, 51, 52, 53, 54, 55, 56, 57, 58, 59, 60] v fa v_78 fa_79 := mX.st mX.rf (mX.s0 (sm1_0 hs1_80)) (by decide)
          exact W.iret (v := (-4)) hx hb hr (fun t ht hW => ⟨⟨(-4), (v_78, fa_79), rfl, ⟨hVv_78, hAv_78, hRv_78, ⟨by have rc : ((-4) : Int32).toInt = -4 := (by decide); unfold aAl; omega, Or.inl ⟨by decide, sm2_1 hs1_80⟩⟩⟩, ⟨by rw [ht]; exact hP, va_K.moved hW.alike hK, hD⟩⟩, hS.F ht⟩) hS.2.2 dX11_allot_49
      · have dc_20 := c_eq (a := r_17.toInt) (b := 0) rfl (by decide) c_20
        refine lv_aload_n hx hb dX11_allot_31 rfl (lv_at hl 0 rfl) ?_
        refine lv_bipush (v := (-3)) hx hb dX11_allot_32 (by decide) ?_
        have hFc := va_free (wc := (mW g0 pq cp v fa)) hD hS hA (List.range 48) rfl
        refine va_calli (va_runV (As := [.int (-3)]) (rest := []) ⟨hx, hb, hml, hown, hts⟩ (c_X11_refuse_f l dC dI H.size g0 pq cp v fa (-3) (by unfold vp_in; decide)) (cwV 1 hts gX11_allot_X11_refuse rfl rfl rfl (by decide +kernel) ⟨(Nat.le_of_ble_eq_true rfl), (Nat.le_of_ble_eq_true rfl)⟩) (pr_V (r := (RX11, TX11, 63)) hP hK hD 0 11 rfl rfl) rfl rfl hl.1 rfl (lv_room (Nat.le_of_ble_eq_true rfl)) dX11_allot_34 ⟨(Nat.le_of_ble_eq_true rfl), (Nat.le_of_ble_eq_true rfl)⟩) hS (fun q _ h => hFc q h) hFc (fun r_84 u t H locs ht hvm w_83 hB hz1 hk1 hS => ?_)
        obtain ⟨v_85, fa_86⟩ := u
        obtain ⟨hP1, hK1, hD1⟩ := hB
        rw [ht] at hP1
        have hP : va_P (dC, dI) vwCl (mW g0 pq cp v_85 fa_86) H := hP1
        have hD : va_D A (mW g0 pq cp v_85 fa_86) := hD1.weaken (fun _ _ _ h => hFc _ h)
        clear hP1 hK1 hD1 hk1 hz1 hvm ht hFc
        obtain ⟨rfl, hs1_87⟩ := w_83
        have hVv_85 : mV v_85 := sm0_V (sm1_0 hs1_87) gV
        have hAv_85 : mA fa_86 := sm0_A (sm1_0 hs1_87) gA
        have g_88 : (v_85 38).toInt = (v 38).toInt := congrArg Int32.toInt (congrFun hs1_87.1 38)
        have g_89 : (v_85 43).toInt = (v 43).toInt := congrArg Int32.toInt (congrFun hs1_87.1 43)
        have hRv_85 : mX [0, 29, 45, 47, 48, 49, 50, 51, 52, 53, 54, 55, 56, 57, 58, 59, 60] v fa v_85 fa_86 := mX.st mX.rf (mX.s0 (sm1_0 hs1_87)) (by decide)
        exact W.iret (v := (-3)) hx hb hr (fun t ht hW => ⟨⟨(-3), (v_85, fa_86), rfl, ⟨hVv_85, hAv_85, hRv_85, ⟨by have rc : ((-3) : Int32).toInt = -3 := (by decide); unfold aAl; omega, Or.inl ⟨by decide, sm2_1 hs1_87⟩⟩⟩, ⟨by rw [ht]; exact hP, va_K.moved hW.alike hK, hD⟩⟩, hS.F ht⟩) hS.2.2 dX11_allot_37
  · have dc_5 := c_eq (a := r_4.toInt) (b := 0) rfl (by decide) c_5
    have hz_90 := isI_0 (w_3.symm.trans c_5)
    refine lv_aload_n hx hb dX11_allot_8 rfl (lv_at hl 0 rfl) ?_
    refine lv_iconst (v := (-1)) hx hb dX11_allot_9 (by decide) ?_
    have hFc := va_free (wc := (mW g0 pq cp v fa)) hD hS hA (List.range 48) rfl
    refine va_calli (va_runV (As := [.int (-1)]) (rest := []) ⟨hx, hb, hml, hown, hts⟩ (c_X11_refuse_f l dC dI H.size g0 pq cp v fa (-1) (by unfold vp_in; decide)) (cwV 1 hts gX11_allot_X11_refuse rfl rfl rfl (by decide +kernel) ⟨(Nat.le_of_ble_eq_true rfl), (Nat.le_of_ble_eq_true rfl)⟩) (pr_V (r := (RX11, TX11, 63)) hP hK hD 0 11 rfl rfl) rfl rfl hl.1 rfl (lv_room (Nat.le_of_ble_eq_true rfl)) dX11_allot_10 ⟨(Nat.le_of_ble_eq_true rfl), (Nat.le_of_ble_eq_true rfl)⟩) hS (fun q _ h => hFc q h) hFc (fun r_92 u t H locs ht hvm w_91 hB hz1 hk1 hS => ?_)
    obtain ⟨v_93, fa_94⟩ := u
    obtain ⟨hP1, hK1, hD1⟩ := hB
    rw [ht] at hP1
    have hP : va_P (dC, dI) vwCl (mW g0 pq cp v_93 fa_94) H := hP1
    have hD : va_D A (mW g0 pq cp v_93 fa_94) := hD1.weaken (fun _ _ _ h => hFc _ h)
    clear hP1 hK1 hD1 hk1 hz1 hvm ht hFc
    obtain ⟨rfl, hs1_95⟩ := w_91
    have hVv_93 : mV v_93 := sm0_V (sm1_0 hs1_95) gV
    have hAv_93 : mA fa_94 := sm0_A (sm1_0 hs1_95) gA
    have g_96 : (v_93 38).toInt = (v 38).toInt := congrArg Int32.toInt (congrFun hs1_95.1 38)
    have g_97 : (v_93 43).toInt = (v 43).toInt := congrArg Int32.toInt (congrFun hs1_95.1 43)
    have hRv_93 : mX [0, 29, 45, 47, 48, 49, 50, 51, 52, 53, 54, 55, 56, 57, 58, 59, 60] v fa v_93 fa_94 := mX.st mX.rf (mX.s0 (sm1_0 hs1_95)) (by decide)
    exact W.iret (v := (-1)) hx hb hr (fun t ht hW => ⟨⟨(-1), (v_93, fa_94), rfl, ⟨hVv_93, hAv_93, hRv_93, ⟨by have rc : ((-1) : Int32).toInt = -1 := (by decide); unfold aAl; omega, Or.inl ⟨by decide, sm2_1 hs1_95⟩⟩⟩, ⟨by rw [ht]; exact hP, va_K.moved hW.alike hK, hD⟩⟩, hS.F ht⟩) hS.2.2 dX11_allot_13
