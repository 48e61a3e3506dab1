


theorem zn_01 {x : Int32} (h : 0 ≤ x.toInt ∧ x.toInt ≤ 1) : vp_nar .boolean x = x := by
  have key : x = 0 ∨ x = 1 := by
    have : x.toInt = 0 ∨ x.toInt = 1 := by omega
    rcases this with g | g
    · exact Or.inl (Int32.toInt_inj.mp (g.trans (by decide)))
    · exact Or.inr (Int32.toInt_inj.mp (g.trans (by decide)))
  rcases key with rfl | rfl <;> rfl
set_option maxHeartbeats 4000000 in
set_option maxRecDepth 100000 in
theorem c_X11_fine_f (l : Launch) (dC : Nat → ClassId) (dI : Nat → Nat → Nat) (sz : Nat) (g0 : Nat) (pq : Nat → Nat) (cp : Nat → ClassId) (v : Nat → Int32) (fa : Nat → Nat → Int32) (gV : mV v) (gA : mA fa) (x1 : Int32) (x2 : Int32) (x3 : Int32) (x4 : Int32) (hx4 : 0 ≤ x4.toInt ∧ x4.toInt ≤ 1) : Met l yX11_fine wsX11_fine ({ frames := 2, cells := 0, slots := 0, locals := 42 }) (va_Pc [.ref g0, .int x1, .int x2, .int x3, .int x4] (pcW (dC, dI) (mT cp) (mW g0 pq cp v fa) sz)) (va_Qi (fun (r : Int32) (u : (Nat → Int32) × (Nat → Nat → Int32)) => mV u.1 ∧ mA u.2 ∧ mX [0, 30, 33, 34, 37] v fa u.1 u.2 ∧ (aFi (v 43).toInt x1.toInt (fa 26 x1.toNatClampNeg).toInt (fa 25 x1.toNatClampNeg).toInt x2.toInt x3.toInt (v 38).toInt (fa 30 x1.toNatClampNeg).toInt r.toInt ∧ rO2 v fa u r (fiN v fa x1.toNatClampNeg x2 x3 x4 u))) (fun u t => va_P (dC, dI) vwCl (mW g0 pq cp u.1 u.2) t.heap ∧ va_K (dC, dI) vwCl (mT cp) t ∧ va_D (va_A (mW g0 pq cp v fa) sz) (mW g0 pq cp u.1 u.2)) (va_A (mW g0 pq cp v fa) sz)) 0 0 (va_A (mW g0 pq cp v fa) sz) := by
  refine Met.ofW (cc := cX11_fine) (maxL := 6) (ret := (some .int)) (by decide) rfl ?_
  intro p e s m args below meth c s₁ B hml hv
  obtain ⟨rfl, hsz, hP, hK, hD0⟩ := hv
  have hx := B.exec
  have hb := B.bytes
  have hr := B.returns
  have hts := atoms_spec (ws := wsX11_fine) B.pre
  have hown : s.vm.findClass RX11 = some m.cls := findClass_of_methodNamed B.named
  have hlocks := B.notSynchronized
  subst hsz
  have hD := hD0.self (sz := s.heap.size)
  generalize hAe : va_A (mW g0 pq cp v fa) s.heap.size = A at hD ⊢
  have hA : ∀ q : Nat, s.heap.size ≤ q → A q := fun q h => by rw [← hAe]; exact Or.inr h
  have hS : va_S A s.heap s.heap [] := va_S.rf
  have hP : va_P (dC, dI) vwCl (mW g0 pq cp v fa) s.heap := hP
  have hl := lv_entry ([.ref g0, .int x1, .int x2, .int x3, .int x4]) (n := 6) (Nat.le_of_ble_eq_true rfl)
  rw [lg_entry_eq]
  generalize (lg_sl ([.ref g0, .int x1, .int x2, .int x3, .int x4]) ++ List.replicate (6 - (lg_sl ([.ref g0, .int x1, .int x2, .int x3, .int x4])).length) Slot.unset).toArray = ls at hl ⊢
  have hl : lv_has ls 6 [(0, .ref g0), (1, .int x1), (2, .int x2), (3, .int x3), (4, .int x4)] := hl
  have iv_1 : 0 ≤ (v 38).toInt ∧ (v 38).toInt ≤ 3000 := gV 38
  have iv_2 : 0 ≤ (v 43).toInt ∧ (v 43).toInt ≤ 60 := gV 43
  refine lv_aload_n hx hb dX11_fine_0 rfl (lv_at hl 0 rfl) ?_
  refine lv_iload_n hx hb dX11_fine_1 rfl (lv_at hl 1 rfl) ?_
  have hFc : ∀ q, va_A [] s.heap.size q → A q := pu_free hS hA
  refine va_calli (va_runV (As := [.int x1]) (rest := []) ⟨hx, hb, hml, hown, hts⟩ (c_X11_isAgreement l dC dI s.heap.size g0 pq cp v fa x1) (cwV 1 hts gX11_fine_X11_isAgreement rfl rfl rfl (by decide +kernel) ⟨(Nat.le_of_ble_eq_true rfl), (Nat.le_of_ble_eq_true rfl)⟩) (pr_V (r := (RX11, TX11, 63)) hP hK hD 0 11 rfl rfl) rfl rfl hl.1 rfl (lv_room (Nat.le_of_ble_eq_true rfl)) dX11_fine_2 ⟨(Nat.le_of_ble_eq_true rfl), (Nat.le_of_ble_eq_true rfl)⟩) hS (fun q _ h => hFc q h) hFc (fun r_4 u t H locs ht hvm w_3 hB hz1 hk1 hS => ?_)
  have hP := pu_keep hP hk1
  clear hk1 hz1 hvm hB ht hFc
  have hbr_4 : 0 ≤ r_4.toInt ∧ r_4.toInt ≤ 1 := iv_of w_3 (isI_i _ _)
  refine lv_if_ne (tgt := 14) hx hb dX11_fine_5 (by decide) (fun c_5 => ?_) (fun c_5 => ?_)
  · have dc_5 := c_ne (a := r_4.toInt) (b := 0) rfl (by decide) c_5
    have hi_6 := isI_t w_3 (fun q => c_5 (Int32.toInt_inj.mp q))
    have khi_6 : (v 43).toInt ≤ 60 := (gV 43).2
    refine lv_aload_n hx hb dX11_fine_14 rfl (lv_at hl 0 rfl) ?_
    refine va_get (D := (dC, dI)) (ci := 11) (v := .ref (pq 26)) (C := RX11) (T := TX11) (N := 63) hx hb hts in_wsX11_fine_X11 hown hK hP 0 rfl rfl 26 (by decide) (hts (.fieldLink RX11 88 "ShipOfficeModel" "offOn" "[I") iw_X11_fine_1) (fun _ h9 => h9) rfl dX11_fine_15 ?_
    refine lv_iload_n hx hb dX11_fine_18 rfl (lv_at hl 1 rfl) ?_
    refine va_iald hx hb hK hP 27 26 rfl rfl (vp_in_iff.mpr (by omega)) dX11_fine_19 ?_
    refine lv_topi (fun x_7 ex_7 => ?_)
    have gx_7 : x_7.toInt = (fa 26 (x1 : Int32).toNatClampNeg).toInt := iv_to ex_7
    clear ex_7
    refine lv_if_lt (tgt := 30) hx hb dX11_fine_20 (by decide) (fun c_8 => ?_) (fun c_8 => ?_)
    · have dc_8 := c_lt (a := x_7.toInt) (b := 0) rfl (by decide) c_8
      refine lv_iload_n hx hb dX11_fine_30 rfl (lv_at hl 2 rfl) ?_
      refine lv_aload_n hx hb dX11_fine_31 rfl (lv_at hl 0 rfl) ?_
      refine va_get (D := (dC, dI)) (ci := 11) (v := .ref (pq 25)) (C := RX11) (T := TX11) (N := 63) hx hb hts in_wsX11_fine_X11 hown hK hP 0 rfl rfl 25 (by decide) (hts (.fieldLink RX11 85 "ShipOfficeModel" "signed" "[I") iw_X11_fine_2) (fun _ h9 => h9) rfl dX11_fine_32 ?_
      refine lv_iload_n hx hb dX11_fine_35 rfl (lv_at hl 1 rfl) ?_
      refine va_iald hx hb hK hP 26 25 rfl rfl (vp_in_iff.mpr (by omega)) dX11_fine_36 ?_
      refine lv_topi (fun x_9 ex_9 => ?_)
      have hx_9 : 0 ≤ x_9.toInt ∧ x_9.toInt ≤ 3000 := iv_of ex_9 (gA 25 _)
      have gx_9 : x_9.toInt = (fa 25 (x1 : Int32).toNatClampNeg).toInt := iv_to ex_9
      clear ex_9
      refine lv_icmp_lt (tgt := 45) hx hb dX11_fine_37 (by decide) (fun c_10 => ?_) (fun c_10 => ?_)
      · have dc_10 := c_lt (a := x2.toInt) (b := x_9.toInt) rfl rfl c_10
        refine lv_aload_n hx hb dX11_fine_45 rfl (lv_at hl 0 rfl) ?_
        refine lv_bipush (v := (-4)) hx hb dX11_fine_46 (by decide) ?_
        have hFc := va_free (wc := (mW g0 pq cp v fa)) hD hS hA (List.range 48) rfl
        refine va_calli (va_runV (As := [.int (-4)]) (rest := []) ⟨hx, hb, hml, hown, hts⟩ (c_X11_refuse_f l dC dI H.size g0 pq cp v fa (-4) (by unfold vp_in; decide)) (cwV 1 hts gX11_fine_X11_refuse rfl rfl rfl (by decide +kernel) ⟨(Nat.le_of_ble_eq_true rfl), (Nat.le_of_ble_eq_true rfl)⟩) (pr_V (r := (RX11, TX11, 63)) hP hK hD 0 11 rfl rfl) rfl rfl hl.1 rfl (lv_room (Nat.le_of_ble_eq_true rfl)) dX11_fine_48 ⟨(Nat.le_of_ble_eq_true rfl), (Nat.le_of_ble_eq_true rfl)⟩) hS (fun q _ h => hFc q h) hFc (fun r_12 u t H locs ht hvm w_11 hB hz1 hk1 hS => ?_)
        obtain ⟨v_13, fa_14⟩ := u
        obtain ⟨hP1, hK1, hD1⟩ := hB
        rw [ht] at hP1
        have hP : va_P (dC, dI) vwCl (mW g0 pq cp v_13 fa_14) H := hP1
        have hD : va_D A (mW g0 pq cp v_13 fa_14) := hD1.weaken (fun _ _ _ h => hFc _ h)
        clear hP1 hK1 hD1 hk1 hz1 hvm ht hFc
        obtain ⟨rfl, hs1_15⟩ := w_11
        have hVv_13 : mV v_13 := sm0_V (sm1_0 hs1_15) gV
        have hAv_13 : mA fa_14 := sm0_A (sm1_0 hs1_15) gA
        have g_16 : (v_13 38).toInt = (v 38).toInt := congrArg Int32.toInt (congrFun hs1_15.1 38)
        have g_17 : (v_13 43).toInt = (v 43).toInt := congrArg Int32.toInt (congrFun hs1_15.1 43)
        have hRv_13 : mX [0, 30, 33, 34, 37] v fa v_13 fa_14 := mX.st mX.rf (mX.s0 (sm1_0 hs1_15)) (by decide)
        exact W.iret (v := (-4)) hx hb hr (fun t ht hW => ⟨⟨(-4), (v_13, fa_14), rfl, ⟨hVv_13, hAv_13, hRv_13, ⟨by have rc : ((-4) : Int32).toInt = -4 := (by decide); unfold aFi; omega, Or.inl ⟨by decide, sm2_1 hs1_15⟩⟩⟩, ⟨by rw [ht]; exact hP, va_K.moved hW.alike hK, hD⟩⟩, hS.F ht⟩) hS.2.2 dX11_fine_51
      · have dc_10 := c_nlt (a := x2.toInt) (b := x_9.toInt) rfl rfl c_10
        refine lv_iload_n hx hb dX11_fine_40 rfl (lv_at hl 3 rfl) ?_
        refine lv_iconst (v := 1) hx hb dX11_fine_41 (by decide) ?_
        refine lv_icmp_ge (tgt := 52) hx hb dX11_fine_42 (by decide) (fun c_18 => ?_) (fun c_18 => ?_)
        · have dc_18 := c_le (a := 1) (b := x3.toInt) (by decide) rfl c_18
          refine lv_iload_n hx hb dX11_fine_52 rfl (lv_at hl 2 rfl) ?_
          refine lv_aload_n hx hb dX11_fine_53 rfl (lv_at hl 0 rfl) ?_
          refine va_get (D := (dC, dI)) (ci := 11) (v := .int (v 38)) (C := RX11) (T := TX11) (N := 63) hx hb hts in_wsX11_fine_X11 hown hK hP 0 rfl rfl 38 (by decide) (hts (.fieldLink RX11 171 "ShipOfficeModel" "now" "I") iw_X11_fine_3) (fun _ h9 => h9) rfl dX11_fine_54 ?_
          refine lv_topi (fun x_19 ex_19 => ?_)
          have hx_19 : 0 ≤ x_19.toInt ∧ x_19.toInt ≤ 3000 := iv_of ex_19 (gV 38)
          have gx_19 : x_19.toInt = (v 38).toInt := iv_to ex_19
          clear ex_19
          refine lv_icmp_gt (tgt := 78) hx hb dX11_fine_57 (by decide) (fun c_20 => ?_) (fun c_20 => ?_)
          · have dc_20 := c_lt (a := x_19.toInt) (b := x2.toInt) rfl rfl c_20
            refine lv_aload_n hx hb dX11_fine_78 rfl (lv_at hl 0 rfl) ?_
            refine lv_bipush (v := (-6)) hx hb dX11_fine_79 (by decide) ?_
            have hFc := va_free (wc := (mW g0 pq cp v fa)) hD hS hA (List.range 48) rfl
            refine va_calli (va_runV (As := [.int (-6)]) (rest := []) ⟨hx, hb, hml, hown, hts⟩ (c_X11_refuse_f l dC dI H.size g0 pq cp v fa (-6) (by unfold vp_in; decide)) (cwV 1 hts gX11_fine_X11_refuse rfl rfl rfl (by decide +kernel) ⟨(Nat.le_of_ble_eq_true rfl), (Nat.le_of_ble_eq_true rfl)⟩) (pr_V (r := (RX11, TX11, 63)) hP hK hD 0 11 rfl rfl) rfl rfl hl.1 rfl (lv_room (Nat.le_of_ble_eq_true rfl)) dX11_fine_81 ⟨(Nat.le_of_ble_eq_true rfl), (Nat.le_of_ble_eq_true rfl)⟩) hS (fun q _ h => hFc q h) hFc (fun r_22 u t H locs ht hvm w_21 hB hz1 hk1 hS => ?_)
            obtain ⟨v_23, fa_24⟩ := u
            obtain ⟨hP1, hK1, hD1⟩ := hB
            rw [ht] at hP1
            have hP : va_P (dC, dI) vwCl (mW g0 pq cp v_23 fa_24) H := hP1
            have hD : va_D A (mW g0 pq cp v_23 fa_24) := hD1.weaken (fun _ _ _ h => hFc _ h)
            clear hP1 hK1 hD1 hk1 hz1 hvm ht hFc
            obtain ⟨rfl, hs1_25⟩ := w_21
            have hVv_23 : mV v_23 := sm0_V (sm1_0 hs1_25) gV
            have hAv_23 : mA fa_24 := sm0_A (sm1_0 hs1_25) gA
            have g_26 : (v_23 38).toInt = (v 38).toInt := congrArg Int32.toInt (congrFun hs1_25.1 38)
            have g_27 : (v_23 43).toInt = (v 43).toInt := congrArg Int32.toInt (congrFun hs1_25.1 43)
            have hRv_23 : mX [0, 30, 33, 34, 37] v fa v_23 fa_24 := mX.st mX.rf (mX.s0 (sm1_0 hs1_25)) (by decide)
            exact W.iret (v := (-6)) hx hb hr (fun t ht hW => ⟨⟨(-6), (v_23, fa_24), rfl, ⟨hVv_23, hAv_23, hRv_23, ⟨by have rc : ((-6) : Int32).toInt = -6 := (by decide); unfold aFi; omega, Or.inl ⟨by decide, sm2_1 hs1_25⟩⟩⟩, ⟨by rw [ht]; exact hP, va_K.moved hW.alike hK, hD⟩⟩, hS.F ht⟩) hS.2.2 dX11_fine_84
          · have dc_20 := c_nlt (a := x_19.toInt) (b := x2.toInt) rfl rfl c_20
            refine lv_iload_n hx hb dX11_fine_60 rfl (lv_at hl 3 rfl) ?_
            refine lv_sipush (v := 9999) hx hb dX11_fine_61 (by decide) ?_
            refine lv_icmp_gt (tgt := 78) hx hb dX11_fine_64 (by decide) (fun c_28 => ?_) (fun c_28 => ?_)
            · have dc_28 := c_lt (a := 9999) (b := x3.toInt) (by decide) rfl c_28
              refine lv_aload_n hx hb dX11_fine_78 rfl (lv_at hl 0 rfl) ?_
              refine lv_bipush (v := (-6)) hx hb dX11_fine_79 (by decide) ?_
              have hFc := va_free (wc := (mW g0 pq cp v fa)) hD hS hA (List.range 48) rfl
              refine va_calli (va_runV (As := [.int (-6)]) (rest := []) ⟨hx, hb, hml, hown, hts⟩ (c_X11_refuse_f l dC dI H.size g0 pq cp v fa (-6) (by unfold vp_in; decide)) (cwV 1 hts gX11_fine_X11_refuse rfl rfl rfl (by decide +kernel) ⟨(Nat.le_of_ble_eq_true rfl), (Nat.le_of_ble_eq_true rfl)⟩) (pr_V (r := (RX11, TX11, 63)) hP hK hD 0 11 rfl rfl) rfl rfl hl.1 rfl (lv_room (Nat.le_of_ble_eq_true rfl)) dX11_fine_81 ⟨(Nat.le_of_ble_eq_true rfl), (Nat.le_of_ble_eq_true rfl)⟩) hS (fun q _ h => hFc q h) hFc (fun r_30 u t H locs ht hvm w_29 hB hz1 hk1 hS => ?_)
              obtain ⟨v_31, fa_32⟩ := u
              obtain ⟨hP1, hK1, hD1⟩ := hB
              rw [ht] at hP1
              have hP : va_P (dC, dI) vwCl (mW g0 pq cp v_31 fa_32) H := hP1
              have hD : va_D A (mW g0 pq cp v_31 fa_32) := hD1.weaken (fun _ _ _ h => hFc _ h)
              clear hP1 hK1 hD1 hk1 hz1 hvm ht hFc
              obtain ⟨rfl, hs1_33⟩ := w_29
              have hVv_31 : mV v_31 := sm0_V (sm1_0 hs1_33) gV
              have hAv_31 : mA fa_32 := sm0_A (sm1_0 hs1_33) gA
              have g_34 : (v_31 38).toInt = (v 38).toInt := congrArg Int32.toInt (congrFun hs1_33.1 38)
              have g_35 : (v_31 43).toInt = (v 43).toInt := congrArg Int32.toInt (congrFun hs1_33.1 43)
              have hRv_31 : mX [0, 30, 33, 34, 37] v fa v_31 fa_32 := mX.st mX.rf (mX.s0 (sm1_0 hs1_33)) (by decide)
              exact W.iret (v := (-6)) hx hb hr (fun t ht hW => ⟨⟨(-6), (v_31, fa_32), rfl, ⟨hVv_31, hAv_31, hRv_31, ⟨by have rc : ((-6) : Int32).toInt = -6 := (by decide); unfold aFi; omega, Or.inl ⟨by decide, sm2_1 hs1_33⟩⟩⟩, ⟨by rw [ht]; exact hP, va_K.moved hW.alike hK, hD⟩⟩, hS.F ht⟩) hS.2.2 dX11_fine_84
            · have dc_28 := c_nlt (a := 9999) (b := x3.toInt) (by decide) rfl c_28
              refine lv_aload_n hx hb dX11_fine_67 rfl (lv_at hl 0 rfl) ?_
              refine va_get (D := (dC, dI)) (ci := 11) (v := .ref (pq 30)) (C := RX11) (T := TX11) (N := 63) hx hb hts in_wsX11_fine_X11 hown hK hP 0 rfl rfl 30 (by decide) (hts (.fieldLink RX11 100 "ShipOfficeModel" "fines" "[I") iw_X11_fine_4) (fun _ h9 => h9) rfl dX11_fine_68 ?_
              refine lv_iload_n hx hb dX11_fine_71 rfl (lv_at hl 1 rfl) ?_
              refine va_iald hx hb hK hP 31 30 rfl rfl (vp_in_iff.mpr (by omega)) dX11_fine_72 ?_
              refine lv_topi (fun x_36 ex_36 => ?_)
              have hx_36 : 0 ≤ x_36.toInt ∧ x_36.toInt ≤ 6 := iv_of ex_36 (gA 30 _)
              have gx_36 : x_36.toInt = (fa 30 (x1 : Int32).toNatClampNeg).toInt := iv_to ex_36
              clear ex_36
              refine lv_bipush (v := 6) hx hb dX11_fine_73 (by decide) ?_
              refine lv_icmp_ne (tgt := 85) hx hb dX11_fine_75 (by decide) (fun c_37 => ?_) (fun c_37 => ?_)
              · have dc_37 := c_ne (a := x_36.toInt) (b := 6) rfl (by decide) c_37
                refine lv_bipush (v := 6) hx hb dX11_fine_85 (by decide) ?_
                refine lv_iload_n hx hb dX11_fine_87 rfl (lv_at hl 1 rfl) ?_
                refine lv_imul hx hb dX11_fine_88 ?_
                refine lv_topi (fun x_38 ex_38 => ?_)
                have hx_38 : x_38.toInt = 6 * x1.toInt := (iv_to ex_38).trans (mu_i (by decide) rfl (by omega) (by omega))
                refine lv_aload_n hx hb dX11_fine_89 rfl (lv_at hl 0 rfl) ?_
                refine va_get (D := (dC, dI)) (ci := 11) (v := .ref (pq 30)) (C := RX11) (T := TX11) (N := 63) hx hb hts in_wsX11_fine_X11 hown hK hP 0 rfl rfl 30 (by decide) (hts (.fieldLink RX11 100 "ShipOfficeModel" "fines" "[I") iw_X11_fine_4) (fun _ h9 => h9) rfl dX11_fine_90 ?_
                refine lv_iload_n hx hb dX11_fine_93 rfl (lv_at hl 1 rfl) ?_
                refine va_iald hx hb hK hP 31 30 rfl rfl (vp_in_iff.mpr (by omega)) dX11_fine_94 ?_
                refine lv_topi (fun x_39 ex_39 => ?_)
                have hx_39 : 0 ≤ x_39.toInt ∧ x_39.toInt ≤ 6 := iv_of ex_39 (gA 30 _)
                have gx_39 : x_39.toInt = (fa 30 (x1 : Int32).toNatClampNeg).toInt := iv_to ex_39
                clear ex_39
                refine lv_iadd hx hb dX11_fine_95 ?_
                refine lv_topi (fun x_40 ex_40 => ?_)
                have hx_40 : x_40.toInt = x_38.toInt + x_39.toInt := (iv_to ex_40).trans (ad_i rfl rfl (by omega) (by omega))
                refine lv_istore (lv' := [(5, .int x_40), (0, .ref g0), (1, .int x1), (2, .int x2), (3, .int x3), (4, .int x4)]) hx hb dX11_fine_96 hl (by decide) rfl (fun ls hl => ?_)
                refine lv_aload_n hx hb dX11_fine_98 rfl (lv_at hl 1 rfl) ?_
                refine va_get (D := (dC, dI)) (ci := 11) (v := .ref (pq 33)) (C := RX11) (T := TX11) (N := 63) hx hb hts in_wsX11_fine_X11 hown hK hP 0 rfl rfl 33 (by decide) (hts (.fieldLink RX11 109 "ShipOfficeModel" "fineDay" "[I") iw_X11_fine_5) (fun _ h9 => h9) rfl dX11_fine_99 ?_
                refine lv_iload hx hb dX11_fine_102 (lv_at hl 0 rfl) ?_
                refine lv_iload_n hx hb dX11_fine_104 rfl (lv_at hl 3 rfl) ?_
                refine va_iast hx hb hK hP hD hS 34 33 rfl rfl (vp_in_iff.mpr (by omega)) dX11_fine_105 (fun H locs hP hD hS => ?_)
                have hP : va_P (dC, dI) vwCl (mW g0 pq cp v (upF fa 33 (x_40 : Int32).toNatClampNeg x2)) H := hP
                have hD : va_D A (mW g0 pq cp v (upF fa 33 (x_40 : Int32).toNatClampNeg x2)) := hD
                obtain ⟨fz_41, efz_41⟩ : ∃ zq, zq = (upF fa 33 (x_40 : Int32).toNatClampNeg x2) := ⟨_, rfl⟩
                rw [← efz_41] at hP hD
                have hAfz_41 : mA fz_41 := by rw [efz_41]; exact mA_upF (lo := 0) (hi := 3000) gA rfl rfl (by omega)
                have hRfz_41 : mX [0, 30, 33, 34, 37] v fa v fz_41 := by rw [efz_41]; exact mX.uF mX.rf (by decide)
                have g_42 : (fz_41 25 (x1 : Int32).toNatClampNeg).toInt = (fa 25 (x1 : Int32).toNatClampNeg).toInt := by rw [efz_41]; exact uF_ne (by decide)
                have g_43 : (fz_41 26 (x1 : Int32).toNatClampNeg).toInt = (fa 26 (x1 : Int32).toNatClampNeg).toInt := by rw [efz_41]; exact uF_ne (by decide)
                have g_44 : (fz_41 30 (x1 : Int32).toNatClampNeg).toInt = (fa 30 (x1 : Int32).toNatClampNeg).toInt := by rw [efz_41]; exact uF_ne (by decide)
                have q0_45 : fz_41 0 = fa 0 := by rw [efz_41]; exact (if_neg (by decide)).trans rfl
                refine lv_aload_n hx hb dX11_fine_106 rfl (lv_at hl 1 rfl) ?_
                refine va_get (D := (dC, dI)) (ci := 11) (v := .ref (pq 34)) (C := RX11) (T := TX11) (N := 63) hx hb hts in_wsX11_fine_X11 hown hK hP 0 rfl rfl 34 (by decide) (hts (.fieldLink RX11 112 "ShipOfficeModel" "fineSum" "[I") iw_X11_fine_6) (fun _ h9 => h9) rfl dX11_fine_107 ?_
                refine lv_iload hx hb dX11_fine_110 (lv_at hl 0 rfl) ?_
                refine lv_iload_n hx hb dX11_fine_112 rfl (lv_at hl 4 rfl) ?_
                refine va_iast hx hb hK hP hD hS 35 34 rfl rfl (vp_in_iff.mpr (by omega)) dX11_fine_113 (fun H locs hP hD hS => ?_)
                have hP : va_P (dC, dI) vwCl (mW g0 pq cp v (upF fz_41 34 (x_40 : Int32).toNatClampNeg x3)) H := hP
                have hD : va_D A (mW g0 pq cp v (upF fz_41 34 (x_40 : Int32).toNatClampNeg x3)) := hD
                obtain ⟨fz_46, efz_46⟩ : ∃ zq, zq = (upF fz_41 34 (x_40 : Int32).toNatClampNeg x3) := ⟨_, rfl⟩
                rw [← efz_46] at hP hD
                have hAfz_46 : mA fz_46 := by rw [efz_46]; exact mA_upF (lo := -2147483648) (hi := 2147483647) hAfz_41 rfl rfl (iv_all _)
                have hRfz_46 : mX [0, 30, 33, 34, 37] v fa v fz_46 := by rw [efz_46]; exact mX.uF hRfz_41 (by decide)
                have g_47 : (fz_46 25 (x1 : Int32).toNatClampNeg).toInt = (fz_41 25 (x1 : Int32).toNatClampNeg).toInt := by rw [efz_46]; exact uF_ne (by decide)
                have g_48 : (fz_46 26 (x1 : Int32).toNatClampNeg).toInt = (fz_41 26 (x1 : Int32).toNatClampNeg).toInt := by rw [efz_46]; exact uF_ne (by decide)
                have g_49 : (fz_46 30 (x1 : Int32).toNatClampNeg).toInt = (fz_41 30 (x1 : Int32).toNatClampNeg).toInt := by rw [efz_46]; exact uF_ne (by decide)
                have q0_50 : fz_46 0 = fa 0 := by rw [efz_46]; exact (if_neg (by decide)).trans q0_45
                refine lv_aload_n hx hb dX11_fine_114 rfl (lv_at hl 1 rfl) ?_
                refine va_get (D := (dC, dI)) (ci := 11) (v := .ref (pq 37)) (C := RX11) (T := TX11) (N := 63) hx hb hts in_wsX11_fine_X11 hown hK hP 0 rfl rfl 37 (by decide) (hts (.fieldLink RX11 121 "ShipOfficeModel" "isRead" "[Z") iw_X11_fine_7) (fun _ h9 => h9) rfl dX11_fine_115 ?_
                refine lv_iload hx hb dX11_fine_118 (lv_at hl 0 rfl) ?_
                refine lv_iload hx hb dX11_fine_120 (lv_at hl 5 rfl) ?_
                refine va_zast hx hb hK hP hD hS 38 37 rfl rfl (vp_in_iff.mpr (by omega)) dX11_fine_122 (fun H locs hP hD hS => ?_)
                have hP : va_P (dC, dI) vwCl (mW g0 pq cp v (upF fz_46 37 (x_40 : Int32).toNatClampNeg (vp_nar .boolean x4))) H := hP
                have hD : va_D A (mW g0 pq cp v (upF fz_46 37 (x_40 : Int32).toNatClampNeg (vp_nar .boolean x4))) := hD
                obtain ⟨fz_51, efz_51⟩ : ∃ zq, zq = (upF fz_46 37 (x_40 : Int32).toNatClampNeg (vp_nar .boolean x4)) := ⟨_, rfl⟩
                rw [← efz_51] at hP hD
                have hAfz_51 : mA fz_51 := by rw [efz_51]; exact mA_upF (lo := -2147483648) (hi := 2147483647) hAfz_46 rfl rfl (iv_all _)
                have hRfz_51 : mX [0, 30, 33, 34, 37] v fa v fz_51 := by rw [efz_51]; exact mX.uF hRfz_46 (by decide)
                have g_52 : (fz_51 25 (x1 : Int32).toNatClampNeg).toInt = (fz_46 25 (x1 : Int32).toNatClampNeg).toInt := by rw [efz_51]; exact uF_ne (by decide)
                have g_53 : (fz_51 26 (x1 : Int32).toNatClampNeg).toInt = (fz_46 26 (x1 : Int32).toNatClampNeg).toInt := by rw [efz_51]; exact uF_ne (by decide)
                have g_54 : (fz_51 30 (x1 : Int32).toNatClampNeg).toInt = (fz_46 30 (x1 : Int32).toNatClampNeg).toInt := by rw [efz_51]; exact uF_ne (by decide)
                have q0_55 : fz_51 0 = fa 0 := by rw [efz_51]; exact (if_neg (by decide)).trans q0_50
                refine lv_aload_n hx hb dX11_fine_123 rfl (lv_at hl 1 rfl) ?_
                refine va_get (D := (dC, dI)) (ci := 11) (v := .ref (pq 30)) (C := RX11) (T := TX11) (N := 63) hx hb hts in_wsX11_fine_X11 hown hK hP 0 rfl rfl 30 (by decide) (hts (.fieldLink RX11 100 "ShipOfficeModel" "fines" "[I") iw_X11_fine_4) (fun _ h9 => h9) rfl dX11_fine_124 ?_
                refine lv_iload_n hx hb dX11_fine_127 rfl (lv_at hl 2 rfl) ?_
                refine lv_dup2_11 hx hb dX11_fine_128 rfl rfl ?_
                refine va_iald hx hb hK hP 31 30 rfl rfl (vp_in_iff.mpr (by omega)) dX11_fine_129 ?_
                refine lv_topi (fun x_56 ex_56 => ?_)
                have hx_56 : 0 ≤ x_56.toInt ∧ x_56.toInt ≤ 6 := iv_of ex_56 (hAfz_51 30 _)
                have gx_56 : x_56.toInt = (fz_51 30 (x1 : Int32).toNatClampNeg).toInt := iv_to ex_56
                clear ex_56
                refine lv_iconst (v := 1) hx hb dX11_fine_130 (by decide) ?_
                refine lv_iadd hx hb dX11_fine_131 ?_
                refine lv_topi (fun x_57 ex_57 => ?_)
                have hx_57 : x_57.toInt = x_56.toInt + 1 := (iv_to ex_57).trans (ad_i rfl (by decide) (by omega) (by omega))
                refine va_iast hx hb hK hP hD hS 31 30 rfl rfl (vp_in_iff.mpr (by omega)) dX11_fine_132 (fun H locs hP hD hS => ?_)
                have hP : va_P (dC, dI) vwCl (mW g0 pq cp v (upF fz_51 30 (x1 : Int32).toNatClampNeg x_57)) H := hP
                have hD : va_D A (mW g0 pq cp v (upF fz_51 30 (x1 : Int32).toNatClampNeg x_57)) := hD
                obtain ⟨fz_58, efz_58⟩ : ∃ zq, zq = (upF fz_51 30 (x1 : Int32).toNatClampNeg x_57) := ⟨_, rfl⟩
                rw [← efz_58] at hP hD
                have hAfz_58 : mA fz_58 := by rw [efz_58]; exact mA_upF (lo := 0) (hi := 6) hAfz_51 rfl rfl (by omega)
                have hRfz_58 : mX [0, 30, 33, 34, 37] v fa v fz_58 := by rw [efz_58]; exact mX.uF hRfz_51 (by decide)
                have g_59 : (fz_58 25 (x1 : Int32).toNatClampNeg).toInt = (fz_51 25 (x1 : Int32).toNatClampNeg).toInt := by rw [efz_58]; exact uF_ne (by decide)
                have g_60 : (fz_58 26 (x1 : Int32).toNatClampNeg).toInt = (fz_51 26 (x1 : Int32).toNatClampNeg).toInt := by rw [efz_58]; exact uF_ne (by decide)
                have q0_61 : fz_58 0 = fa 0 := by rw [efz_58]; exact (if_neg (by decide)).trans q0_55
                have g_62 : (fz_58 30 (x1 : Int32).toNatClampNeg).toInt = x_57.toInt := by rw [efz_58]; exact uF_eq
                refine lv_aload_n hx hb dX11_fine_133 rfl (lv_at hl 1 rfl) ?_
                refine va_get (D := (dC, dI)) (ci := 11) (v := .ref (pq 30)) (C := RX11) (T := TX11) (N := 63) hx hb hts in_wsX11_fine_X11 hown hK hP 0 rfl rfl 30 (by decide) (hts (.fieldLink RX11 100 "ShipOfficeModel" "fines" "[I") iw_X11_fine_4) (fun _ h9 => h9) rfl dX11_fine_134 ?_
                refine lv_iload_n hx hb dX11_fine_137 rfl (lv_at hl 2 rfl) ?_
                refine va_iald hx hb hK hP 31 30 rfl rfl (vp_in_iff.mpr (by omega)) dX11_fine_138 ?_
                refine lv_topi (fun x_63 ex_63 => ?_)
                have hx_63 : 0 ≤ x_63.toInt ∧ x_63.toInt ≤ 6 := iv_of ex_63 (hAfz_58 30 _)
                have gx_63 : x_63.toInt = (fz_58 30 (x1 : Int32).toNatClampNeg).toInt := iv_to ex_63
                clear ex_63
                exact W.iret (v := x_63) hx hb hr (fun t ht hW => ⟨⟨x_63, (v, fz_58), rfl, ⟨gV, hAfz_58, hRfz_58, ⟨by unfold aFi; omega, Or.inr ⟨by omega, (by dsimp only; exact q0_61), ⟨x_57, by omega, (by dsimp only; rw [efz_58, efz_51, efz_46, efz_41, show (x_40 : Int32).toNatClampNeg = 6 * x1.toNatClampNeg + (fa 30 x1.toNatClampNeg).toNatClampNeg from (show x_40.toInt.toNat = 6 * x1.toInt.toNat + (fa 30 x1.toNatClampNeg).toInt.toNat by omega)]; rfl), (by dsimp only; rw [efz_58, efz_51, efz_46, efz_41, show (x_40 : Int32).toNatClampNeg = 6 * x1.toNatClampNeg + (fa 30 x1.toNatClampNeg).toNatClampNeg from (show x_40.toInt.toNat = 6 * x1.toInt.toNat + (fa 30 x1.toNatClampNeg).toInt.toNat by omega)]; rfl), (by dsimp only; rw [efz_58, efz_51, efz_46, efz_41, show (x_40 : Int32).toNatClampNeg = 6 * x1.toNatClampNeg + (fa 30 x1.toNatClampNeg).toNatClampNeg from (show x_40.toInt.toNat = 6 * x1.toInt.toNat + (fa 30 x1.toNatClampNeg).toInt.toNat by omega)]; exact congrArg (upd (fa 37) _) (zn_01 hx4)), (by dsimp only; rw [efz_58, efz_51, efz_46, efz_41]; rfl)⟩⟩⟩⟩, ⟨by rw [ht]; exact hP, va_K.moved hW.alike hK, hD⟩⟩, hS.F ht⟩) hS.2.2 dX11_fine_139
              · have dc_37 := c_eq (a := x_36.toInt) (b := 6) rfl (by decide) c_37
                refine lv_aload_n hx hb dX11_fine_78 rfl (lv_at hl 0 rfl) ?_
                refine lv_bipush (v := (-6)) hx hb dX11_fine_79 (by decide) ?_
                have hFc := va_free (wc := (mW g0 pq cp v fa)) hD hS hA (List.range 48) rfl
                refine va_calli (va_runV (As := [.int (-6)]) (rest := []) ⟨hx, hb, hml, hown, hts⟩ (c_X11_refuse_f l dC dI H.size g0 pq cp v fa (-6) (by unfold vp_in; decide)) (cwV 1 hts gX11_fine_X11_refuse rfl rfl rfl (by decide +kernel) ⟨(Nat.le_of_ble_eq_true rfl), (Nat.le_of_ble_eq_true rfl)⟩) (pr_V (r := (RX11, TX11, 63)) hP hK hD 0 11 rfl rfl) rfl rfl hl.1 rfl (lv_room (Nat.le_of_ble_eq_true rfl)) dX11_fine_81 ⟨(Nat.le_of_ble_eq_true rfl), (Nat.le_of_ble_eq_true rfl)⟩) hS (fun q _ h => hFc q h) hFc (fun r_65 u t H locs ht hvm w_64 hB hz1 hk1 hS => ?_)
                obtain ⟨v_66, fa_67⟩ := u
                obtain ⟨hP1, hK1, hD1⟩ := hB
                rw [ht] at hP1
                have hP : va_P (dC, dI) vwCl (mW g0 pq cp v_66 fa_67) H := hP1
                have hD : va_D A (mW g0 pq cp v_66 fa_67) := hD1.weaken (fun _ _ _ h => hFc _ h)
                clear hP1 hK1 hD1 hk1 hz1 hvm ht hFc
                obtain ⟨rfl, hs1_68⟩ := w_64
                have hVv_66 : mV v_66 := sm0_V (sm1_0 hs1_68) gV
                have hAv_66 : mA fa_67 := sm0_A (sm1_0 hs1_68) gA
                have g_69 : (v_66 38).toInt = (v 38).toInt := congrArg Int32.toInt (congrFun hs1_68.1 38)
                have g_70 : (v_66 43).toInt = (v 43).toInt := congrArg Int32.toInt (congrFun hs1_68.1 43)
                have hRv_66 : mX [0, 30, 33, 34, 37] v fa v_66 fa_67 := mX.st mX.rf (mX.s0 (sm1_0 hs1_68)) (by decide)
                exact W.iret (v := (-6)) hx hb hr (fun t ht hW => ⟨⟨(-6), (v_66, fa_67), rfl, ⟨hVv_66, hAv_66, hRv_66, ⟨by have rc : ((-6) : Int32).toInt = -6 := (by decide); unfold aFi; omega, Or.inl ⟨by decide, sm2_1 hs1_68⟩⟩⟩, ⟨by rw [ht]; exact hP, va_K.moved hW.alike hK, hD⟩⟩, hS.F ht⟩) hS.2.2 dX11_fine_84
        · have dc_18 := c_nle (a := 1) (b := x3.toInt) (by decide) rfl c_18
          refine lv_aload_n hx hb dX11_fine_45 rfl (lv_at hl 0 rfl) ?_
          refine lv_bipush (v := (-4)) hx hb dX11_fine_46 (by decide) ?_
          have hFc := va_free (wc := (mW g0 pq cp v fa)) hD hS hA (List.range 48) rfl
          refine va_calli (va_runV (As := [.int (-4)]) (rest := []) ⟨hx, hb, hml, hown, hts⟩ (c_X11_refuse_f l dC dI H.size g0 pq cp v fa (-4) (by unfold vp_in; decide)) (cwV 1 hts gX11_fine_X11_refuse rfl rfl rfl (by decide +kernel) ⟨(Nat.le_of_ble_eq_true rfl), (Nat.le_of_ble_eq_true rfl)⟩) (pr_V (r := (RX11, TX11, 63)) hP hK hD 0 11 rfl rfl) rfl rfl hl.1 rfl (lv_room (Nat.le_of_ble_eq_true rfl)) dX11_fine_48 ⟨(Nat.le_of_ble_eq_true rfl), (Nat.le_of_ble_eq_true rfl)⟩) hS (fun q _ h => hFc q h) hFc (fun r_72 u t H locs ht hvm w_71 hB hz1 hk1 hS => ?_)
          obtain ⟨v_73, fa_74⟩ := u
          obtain ⟨hP1, hK1, hD1⟩ := hB
          rw [ht] at hP1
          have hP : va_P (dC, dI) vwCl (mW g0 pq cp v_73 fa_74) H := hP1
          have hD : va_D A (mW g0 pq cp v_73 fa_74) := hD1.weaken (fun _ _ _ h => hFc _ h)
          clear hP1 hK1 hD1 hk1 hz1 hvm ht hFc
          obtain ⟨rfl, hs1_75⟩ := w_71
          have hVv_73 : mV v_73 := sm0_V (sm1_0 hs1_75) gV
          have hAv_73 : mA fa_74 := sm0_A (sm1_0 hs1_75) gA
          have g_76 : (v_73 38).toInt = (v 38).toInt := congrArg Int32.toInt (congrFun hs1_75.1 38)
          have g_77 : (v_73 43).toInt = (v 43).toInt := congrArg Int32.toInt (congrFun hs1_75.1 43)
          have hRv_73 : mX [0, 30, 33, 34, 37] v fa v_73 fa_74 := mX.st mX.rf (mX.s0 (sm1_0 hs1_75)) (by decide)
          exact W.iret (v := (-4)) hx hb hr (fun t ht hW => ⟨⟨(-4), (v_73, fa_74), rfl, ⟨hVv_73, hAv_73, hRv_73, ⟨by have rc : ((-4) : Int32).toInt = -4 := (by decide); unfold aFi; omega, Or.inl ⟨by decide, sm2_1 hs1_75⟩⟩⟩, ⟨by rw [ht]; exact hP, va_K.moved hW.alike hK, hD⟩⟩, hS.F ht⟩) hS.2.2 dX11_fine_51
    · have dc_8 := c_nlt (a := x_7.toInt) (b := 0) rfl (by decide) c_8
      refine lv_aload_n hx hb dX11_fine_23 rfl (lv_at hl 0 rfl) ?_
      refine lv_bipush (v := (-3)) hx hb dX11_fine_24 (by decide) ?_
      have hFc := va_free (wc := (mW g0 pq cp v fa)) hD hS hA (List.range 48) rfl
      refine va_calli (va_runV (As := [.int (-3)]) (rest := []) ⟨hx, hb, hml, hown, hts⟩ (c_X11_refuse_f l dC dI H.size g0 pq cp v fa (-3) (by unfold vp_in; decide)) (cwV 1 hts gX11_fine_X11_refuse rfl rfl rfl (by decide +kernel) ⟨(Nat.le_of_ble_eq_true rfl), (Nat.le_of_ble_eq_true rfl)⟩) (pr_V (r := (RX11, TX11, 63)) hP hK hD 0 11 rfl rfl) rfl rfl hl.1 rfl (lv_room (Nat.le_of_ble_eq_true rfl)) dX11_fine_26 ⟨(Nat.le_of_ble_eq_true rfl), (Nat.le_of_ble_eq_true rfl)⟩) hS (fun q _ h => hFc q h) hFc (fun r_79 u t H locs ht hvm w_78 hB hz1 hk1 hS => ?_)
      obtain ⟨v_80, fa_81⟩ := u
      obtain ⟨hP1, hK1, hD1⟩ := hB
      rw [ht] at hP1
      have hP : va_P (dC, dI) vwCl (mW g0 pq cp v_80 fa_81) H := hP1
      have hD : va_D A (mW g0 pq cp v_80 fa_81) := hD1.weaken (fun _ _ _ h => hFc _ h)
      clear hP1 hK1 hD1 hk1 hz1 hvm ht hFc
      obtain ⟨rfl, hs1_82⟩ := w_78
      have hVv_80 : mV v_80 := sm0_V (sm1_0 hs1_82) gV
      have hAv_80 : mA fa_81 := sm0_A (sm1_0 hs1_82) gA
      have g_83 : (v_80 38).toInt = (v 38).toInt := congrArg Int32.toInt (congrFun hs1_82.1 38)
      have g_84 : (v_80 43).toInt = (v 43).toInt := congrArg Int32.toInt (congrFun hs1_82.1 43)
      have hRv_80 : mX [0, 30, 33, 34, 37] v fa v_80 fa_81 := mX.st mX.rf (mX.s0 (sm1_0 hs1_82)) (by decide)
      exact W.iret (v := (-3)) hx hb hr (fun t ht hW => ⟨⟨(-3), (v_80, fa_81), rfl, ⟨hVv_80, hAv_80, hRv_80, ⟨by have rc : ((-3) : Int32).toInt = -3 := (by decide); unfold aFi; omega, Or.inl ⟨by decide, sm2_1 hs1_82⟩⟩⟩, ⟨by rw [ht]; exact hP, va_K.moved hW.alike hK, hD⟩⟩, hS.F ht⟩) hS.2.2 dX11_fine_29
  · have dc_5 := c_eq (a := r_4.toInt) (b := 0) rfl (by decide) c_5
    have hz_85 := isI_0 (w_3.symm.trans c_5)
    refine lv_aload_n hx hb dX11_fine_8 rfl (lv_at hl 0 rfl) ?_
    refine lv_iconst (v := (-1)) hx hb dX11_fine_9 (by decide) ?_
    have hFc := va_free (wc := (mW g0 pq cp v fa)) hD hS hA (List.range 48) rfl
    refine va_calli (va_runV (As := [.int (-1)]) (rest := []) ⟨hx, hb, hml, hown, hts⟩ (c_X11_refuse_f l dC dI H.size g0 pq cp v fa (-1) (by unfold vp_in; decide)) (cwV 1 hts gX11_fine_X11_refuse rfl rfl rfl (by decide +kernel) ⟨(Nat.le_of_ble_eq_true rfl), (Nat.le_of_ble_eq_true rfl)⟩) (pr_V (r := (RX11, TX11, 63)) hP hK hD 0 11 rfl rfl) rfl rfl hl.1 rfl (lv_room (Nat.le_of_ble_eq_true rfl)) dX11_fine_10 ⟨(Nat.le_of_ble_eq_true rfl), (Nat.le_of_ble_eq_true rfl)⟩) hS (fun q _ h => hFc q h) hFc (fun r_87 u t H locs ht hvm w_86 hB hz1 hk1 hS => ?_)
    obtain ⟨v_88, fa_89⟩ := u
    obtain ⟨hP1, hK1, hD1⟩ := hB
    rw [ht] at hP1
    have hP : va_P (dC, dI) vwCl (mW g0 pq cp v_88 fa_89) H := hP1
    have hD : va_D A (mW g0 pq cp v_88 fa_89) := hD1.weaken (fun _ _ _ h => hFc _ h)
    clear hP1 hK1 hD1 hk1 hz1 hvm ht hFc
    obtain ⟨rfl, hs1_90⟩ := w_86
    have hVv_88 : mV v_88 := sm0_V (sm1_0 hs1_90) gV
    have hAv_88 : mA fa_89 := sm0_A (sm1_0 hs1_90) gA
    have g_91 : (v_88 38).toInt = (v 38).toInt := congrArg Int32.toInt (congrFun hs1_90.1 38)
    have g_92 : (v_88 43).toInt = (v 43).toInt := congrArg Int32.toInt (congrFun hs1_90.1 43)
    have hRv_88 : mX [0, 30, 33, 34, 37] v fa v_88 fa_89 := mX.st mX.rf (mX.s0 (sm1_0 hs1_90)) (by decide)
    exact W.iret (v := (-1)) hx hb hr (fun t ht hW => ⟨⟨(-1), (v_88, fa_89), rfl, ⟨hVv_88, hAv_88, hRv_88, ⟨by have rc : ((-1) : Int32).toInt = -1 := (by decide); unfold aFi; omega, Or.inl ⟨by decide, sm2_1 hs1_90⟩⟩⟩, ⟨by rw [ht]; exact hP, va_K.moved hW.alike hK, hD⟩⟩, hS.F ht⟩) hS.2.2 dX11_fine_13
