


set_option maxHeartbeats 4000000 in
set_option maxRecDepth 100000 in
theorem c_X11_isFine_f (l : Launch) (dC : Nat → ClassId) (dI : Nat → Nat → Nat) (sz : Nat) (g0 : Nat) (pq : Nat → Nat) (cp : Nat → ClassId) (v : Nat → Int32) (fa : Nat → Nat → Int32) (gV : mV v) (gA : mA fa) (x1 : Int32) (x2 : Int32) : Met l yX11_isFine wsX11_isFine ({ frames := 2, cells := 0, slots := 0, locals := 42 }) (va_Pc [.ref g0, .int x1, .int x2] (pcW (dC, dI) (mT cp) (mW g0 pq cp v fa) sz)) (va_Qi (fun (r : Int32) (u : Unit) => (0 ≤ r.toInt ∧ r.toInt ≤ 1) ∧ ((r.toInt = 1 ∧ 0 ≤ x1.toInt ∧ x1.toInt < (v 43).toInt ∧ 0 ≤ x2.toInt ∧ x2.toInt < (fa 30 x1.toNatClampNeg).toInt) ∨ (r.toInt = 0 ∧ ¬ (0 ≤ x1.toInt ∧ x1.toInt < (v 43).toInt ∧ 0 ≤ x2.toInt ∧ x2.toInt < (fa 30 x1.toNatClampNeg).toInt)))) (fun _ _ => True) (va_A [] sz)) 0 0 (va_A [] sz) := by
  refine Met.ofW (cc := cX11_isFine) (maxL := 3) (ret := (some .boolean)) (by decide) rfl ?_
  intro p e s m args below meth c s₁ B hml hv
  obtain ⟨rfl, hsz, hP, hK, hD0⟩ := hv
  have hx := B.exec
  have hb := B.bytes
  have hr := B.returns
  have hts := atoms_spec (ws := wsX11_isFine) B.pre
  have hown : s.vm.findClass RX11 = some m.cls := findClass_of_methodNamed B.named
  have hlocks := B.notSynchronized
  subst hsz
  have hD := hD0
  generalize hAe : va_A [] s.heap.size = A at ⊢
  have hA : ∀ q : Nat, s.heap.size ≤ q → A q := fun q h => by rw [← hAe]; exact Or.inr h
  have hS : va_S A s.heap s.heap [] := va_S.rf
  have hP : va_P (dC, dI) vwCl (mW g0 pq cp v fa) s.heap := hP
  have hl := lv_entry ([.ref g0, .int x1, .int x2]) (n := 3) (Nat.le_of_ble_eq_true rfl)
  rw [lg_entry_eq]
  generalize (lg_sl ([.ref g0, .int x1, .int x2]) ++ List.replicate (3 - (lg_sl ([.ref g0, .int x1, .int x2])).length) Slot.unset).toArray = ls at hl ⊢
  have hl : lv_has ls 3 [(0, .ref g0), (1, .int x1), (2, .int x2)] := hl
  have iv_1 : 0 ≤ (v 43).toInt ∧ (v 43).toInt ≤ 60 := gV 43
  refine lv_aload_n hx hb dX11_isFine_0 rfl (lv_at hl 0 rfl) ?_
  refine lv_iload_n hx hb dX11_isFine_1 rfl (lv_at hl 1 rfl) ?_
  have hFc : ∀ q, va_A [] s.heap.size q → A q := pu_free hS hA
  refine va_calli (va_runV (As := [.int x1]) (rest := []) ⟨hx, hb, hml, hown, hts⟩ (c_X11_isAgreement l dC dI s.heap.size g0 pq cp v fa x1) (cwV 1 hts gX11_isFine_X11_isAgreement rfl rfl rfl (by decide +kernel) ⟨(Nat.le_of_ble_eq_true rfl), (Nat.le_of_ble_eq_true rfl)⟩) (pr_V (r := (RX11, TX11, 63)) hP hK hD 0 11 rfl rfl) rfl rfl hl.1 rfl (lv_room (Nat.le_of_ble_eq_true rfl)) dX11_isFine_2 ⟨(Nat.le_of_ble_eq_true rfl), (Nat.le_of_ble_eq_true rfl)⟩) hS (fun q _ h => hFc q h) hFc (fun r_3 u t H locs ht hvm w_2 hB hz1 hk1 hS => ?_)
  have hP := pu_keep hP hk1
  clear hk1 hz1 hvm hB ht hFc
  have hbr_3 : 0 ≤ r_3.toInt ∧ r_3.toInt ≤ 1 := iv_of w_2 (isI_i _ _)
  refine lv_if_eq (tgt := 25) hx hb dX11_isFine_5 (by decide) (fun c_4 => ?_) (fun c_4 => ?_)
  · have dc_4 := c_eq (a := r_3.toInt) (b := 0) rfl (by decide) c_4
    have hz_5 := isI_0 (w_2.symm.trans c_4)
    refine lv_iconst (v := 0) hx hb dX11_isFine_25 (by decide) ?_
    exact W.zret (v := 0) hx hb hr rfl (fun t ht hW => ⟨⟨0, (), rfl, ⟨(by decide), (by have rc : (0 : Int32).toInt = 0 := (by decide); omega)⟩, trivial⟩, hS.F ht⟩) hS.2.2 dX11_isFine_26
  · have dc_4 := c_ne (a := r_3.toInt) (b := 0) rfl (by decide) c_4
    have hi_6 := isI_t w_2 (fun q => c_4 (Int32.toInt_inj.mp q))
    have khi_6 : (v 43).toInt ≤ 60 := (gV 43).2
    refine lv_iload_n hx hb dX11_isFine_8 rfl (lv_at hl 2 rfl) ?_
    refine lv_aload_n hx hb dX11_isFine_9 rfl (lv_at hl 0 rfl) ?_
    refine va_get (D := (dC, dI)) (ci := 11) (v := .ref (pq 30)) (C := RX11) (T := TX11) (N := 63) hx hb hts in_wsX11_isFine_X11 hown hK hP 0 rfl rfl 30 (by decide) (hts (.fieldLink RX11 100 "ShipOfficeModel" "fines" "[I") iw_X11_isFine_1) (fun _ h9 => h9) rfl dX11_isFine_10 ?_
    refine lv_iload_n hx hb dX11_isFine_13 rfl (lv_at hl 1 rfl) ?_
    refine va_iald hx hb hK hP 31 30 rfl rfl (vp_in_iff.mpr (by omega)) dX11_isFine_14 ?_
    refine lv_topi (fun x_7 ex_7 => ?_)
    have hx_7 : 0 ≤ x_7.toInt ∧ x_7.toInt ≤ 6 := iv_of ex_7 (gA 30 _)
    have gx_7 : x_7.toInt = (fa 30 (x1 : Int32).toNatClampNeg).toInt := iv_to ex_7
    clear ex_7
    have hFc : ∀ q, va_A [] H.size q → A q := pu_free hS hA
    have hPc := hP.sub (ws' := []) [] rfl
    have hDc := hD.sub (ws' := []) [] (by decide) rfl
    have hKc := hK.sub (tys' := []) [] rfl
    refine va_calli (va_runS (As := [.int x2, .int x_7]) (rest := []) ⟨hx, hb, hml, hown, hts⟩ (c_X11_isIn l dC dI H.size x2 x_7) (va_cwS 2 hts gX11_isFine_X11_isIn rfl rfl rfl (by decide +kernel) ⟨(Nat.le_of_ble_eq_true rfl), (Nat.le_of_ble_eq_true rfl)⟩) (pr_S hPc hKc hDc) rfl rfl hl.1 rfl (lv_room (Nat.le_of_ble_eq_true rfl)) dX11_isFine_15 ⟨(Nat.le_of_ble_eq_true rfl), (Nat.le_of_ble_eq_true rfl)⟩) hS (fun q _ h => hFc q h) hFc (fun r_9 u t H locs ht hvm w_8 hB hz1 hk1 hS => ?_)
    have hP := pu_keep hP hk1
    clear hk1 hz1 hvm hB ht hFc hPc hDc hKc
    have hbr_9 : 0 ≤ r_9.toInt ∧ r_9.toInt ≤ 1 := iv_of w_8 (isI_i _ _)
    refine lv_if_eq (tgt := 25) hx hb dX11_isFine_18 (by decide) (fun c_10 => ?_) (fun c_10 => ?_)
    · have dc_10 := c_eq (a := r_9.toInt) (b := 0) rfl (by decide) c_10
      have hz_11 := isI_0 (w_8.symm.trans c_10)
      refine lv_iconst (v := 0) hx hb dX11_isFine_25 (by decide) ?_
      exact W.zret (v := 0) hx hb hr rfl (fun t ht hW => ⟨⟨0, (), rfl, ⟨(by decide), (by have rc : (0 : Int32).toInt = 0 := (by decide); omega)⟩, trivial⟩, hS.F ht⟩) hS.2.2 dX11_isFine_26
    · have dc_10 := c_ne (a := r_9.toInt) (b := 0) rfl (by decide) c_10
      have hi_12 := isI_t w_8 (fun q => c_10 (Int32.toInt_inj.mp q))
      refine lv_iconst (v := 1) hx hb dX11_isFine_21 (by decide) ?_
      refine lv_goto (tgt := 26) hx hb dX11_isFine_22 (by decide) ?_
      exact W.zret (v := 1) hx hb hr rfl (fun t ht hW => ⟨⟨1, (), rfl, ⟨(by decide), (by have rc : (1 : Int32).toInt = 1 := (by decide); omega)⟩, trivial⟩, hS.F ht⟩) hS.2.2 dX11_isFine_26
set_option maxHeartbeats 4000000 in
set_option maxRecDepth 100000 in
theorem c_X11_read_f (l : Launch) (dC : Nat → ClassId) (dI : Nat → Nat → Nat) (sz : Nat) (g0 : Nat) (pq : Nat → Nat) (cp : Nat → ClassId) (v : Nat → Int32) (fa : Nat → Nat → Int32) (gV : mV v) (gA : mA fa) (x1 : Int32) (x2 : Int32) : Met l yX11_read wsX11_read ({ frames := 3, cells := 0, slots := 0, locals := 64 }) (va_Pc [.ref g0, .int x1, .int x2] (pcW (dC, dI) (mT cp) (mW g0 pq cp v fa) sz)) (va_Qi (fun (r : Int32) (u : (Nat → Int32) × (Nat → Nat → Int32)) => mV u.1 ∧ mA u.2 ∧ mX [0, 37] v fa u.1 u.2 ∧ (aRe (v 43).toInt x1.toInt (fa 30 x1.toNatClampNeg).toInt x2.toInt (fa 37 (6 * x1.toNatClampNeg + x2.toNatClampNeg)).toInt (fa 33 (6 * x1.toNatClampNeg + x2.toNatClampNeg)).toInt (v 38).toInt r.toInt ∧ rO2 v fa u r (u.2 37 = upd (fa 37) (6 * x1.toNatClampNeg + x2.toNatClampNeg) 1))) (fun u t => va_P (dC, dI) vwCl (mW g0 pq cp u.1 u.2) t.heap ∧ va_K (dC, dI) vwCl (mT cp) t ∧ va_D (va_A (mW g0 pq cp v fa) sz) (mW g0 pq cp u.1 u.2)) (va_A (mW g0 pq cp v fa) sz)) 0 0 (va_A (mW g0 pq cp v fa) sz) := by
  refine Met.ofW (cc := cX11_read) (maxL := 3) (ret := (some .int)) (by decide) rfl ?_
  intro p e s m args below meth c s₁ B hml hv
  obtain ⟨rfl, hsz, hP, hK, hD0⟩ := hv
  have hx := B.exec
  have hb := B.bytes
  have hr := B.returns
  have hts := atoms_spec (ws := wsX11_read) B.pre
  have hown : s.vm.findClass RX11 = some m.cls := findClass_of_methodNamed B.named
  have hlocks := B.notSynchronized
  subst hsz
  have hD := hD0.self (sz := s.heap.size)
  generalize hAe : va_A (mW g0 pq cp v fa) s.heap.size = A at hD ⊢
  have hA : ∀ q : Nat, s.heap.size ≤ q → A q := fun q h => by rw [← hAe]; exact Or.inr h
  have hS : va_S A s.heap s.heap [] := va_S.rf
  have hP : va_P (dC, dI) vwCl (mW g0 pq cp v fa) s.heap := hP
  have hl := lv_entry ([.ref g0, .int x1, .int x2]) (n := 3) (Nat.le_of_ble_eq_true rfl)
  rw [lg_entry_eq]
  generalize (lg_sl ([.ref g0, .int x1, .int x2]) ++ List.replicate (3 - (lg_sl ([.ref g0, .int x1, .int x2])).length) Slot.unset).toArray = ls at hl ⊢
  have hl : lv_has ls 3 [(0, .ref g0), (1, .int x1), (2, .int x2)] := hl
  have iv_1 : 0 ≤ (v 38).toInt ∧ (v 38).toInt ≤ 3000 := gV 38
  refine lv_aload_n hx hb dX11_read_0 rfl (lv_at hl 0 rfl) ?_
  refine lv_iload_n hx hb dX11_read_1 rfl (lv_at hl 1 rfl) ?_
  refine lv_iload_n hx hb dX11_read_2 rfl (lv_at hl 2 rfl) ?_
  have hFc : ∀ q, va_A [] s.heap.size q → A q := pu_free hS hA
  refine va_calli (va_runV (As := [.int x1, .int x2]) (rest := []) ⟨hx, hb, hml, hown, hts⟩ (c_X11_isFine_f l dC dI s.heap.size g0 pq cp v fa gV gA x1 x2) (cwV 2 hts gX11_read_X11_isFine rfl rfl rfl (by decide +kernel) ⟨(Nat.le_of_ble_eq_true rfl), (Nat.le_of_ble_eq_true rfl)⟩) (pr_V (r := (RX11, TX11, 63)) hP hK hD 0 11 rfl rfl) rfl rfl hl.1 rfl (lv_room (Nat.le_of_ble_eq_true rfl)) dX11_read_3 ⟨(Nat.le_of_ble_eq_true rfl), (Nat.le_of_ble_eq_true rfl)⟩) hS (fun q _ h => hFc q h) hFc (fun r_3 u t H locs ht hvm w_2 hB hz1 hk1 hS => ?_)
  have hP := pu_keep hP hk1
  clear hk1 hz1 hvm hB ht hFc
  obtain ⟨hb_4, hx_5⟩ := w_2
  refine lv_if_ne (tgt := 15) hx hb dX11_read_6 (by decide) (fun c_6 => ?_) (fun c_6 => ?_)
  · have dc_6 := c_ne (a := r_3.toInt) (b := 0) rfl (by decide) c_6
    have fbA : (v 43).toInt ≤ 60 := (gV 43).2
    have fbF : (fa 30 x1.toNatClampNeg).toInt ≤ 6 := (gA 30 _).2
    refine lv_aload_n hx hb dX11_read_15 rfl (lv_at hl 0 rfl) ?_
    refine va_get (D := (dC, dI)) (ci := 11) (v := .ref (pq 37)) (C := RX11) (T := TX11) (N := 63) hx hb hts in_wsX11_read_X11 hown hK hP 0 rfl rfl 37 (by decide) (hts (.fieldLink RX11 121 "ShipOfficeModel" "isRead" "[Z") iw_X11_read_1) (fun _ h9 => h9) rfl dX11_read_16 ?_
    refine lv_bipush (v := 6) hx hb dX11_read_19 (by decide) ?_
    refine lv_iload_n hx hb dX11_read_21 rfl (lv_at hl 1 rfl) ?_
    refine lv_imul hx hb dX11_read_22 ?_
    refine lv_topi (fun x_7 ex_7 => ?_)
    have hx_7 : x_7.toInt = 6 * x1.toInt := (iv_to ex_7).trans (mu_i (by decide) rfl (by omega) (by omega))
    refine lv_iload_n hx hb dX11_read_23 rfl (lv_at hl 2 rfl) ?_
    refine lv_iadd hx hb dX11_read_24 ?_
    refine lv_topi (fun x_8 ex_8 => ?_)
    have hx_8 : x_8.toInt = x_7.toInt + x2.toInt := (iv_to ex_8).trans (ad_i rfl rfl (by omega) (by omega))
    refine va_zald hx hb hK hP 38 37 rfl rfl (vp_in_iff.mpr (by omega)) dX11_read_25 ?_
    refine lv_topi (fun x_9 ex_9 => ?_)
    have gx_9 : x_9.toInt = (fa 37 (x_8 : Int32).toNatClampNeg).toInt := iv_to ex_9
    clear ex_9
    rw [show (x_8 : Int32).toNatClampNeg = 6 * x1.toNatClampNeg + x2.toNatClampNeg from (show x_8.toInt.toNat = 6 * x1.toInt.toNat + x2.toInt.toNat by omega)] at gx_9
    refine lv_if_ne (tgt := 47) hx hb dX11_read_26 (by decide) (fun c_10 => ?_) (fun c_10 => ?_)
    · have dc_10 := c_ne (a := x_9.toInt) (b := 0) rfl (by decide) c_10
      refine lv_aload_n hx hb dX11_read_47 rfl (lv_at hl 0 rfl) ?_
      refine lv_bipush (v := (-3)) hx hb dX11_read_48 (by decide) ?_
      have hFc := va_free (wc := (mW g0 pq cp v fa)) hD hS hA (List.range 48) rfl
      refine va_calli (va_runV (As := [.int (-3)]) (rest := []) ⟨hx, hb, hml, hown, hts⟩ (c_X11_refuse_f l dC dI H.size g0 pq cp v fa (-3) (by unfold vp_in; decide)) (cwV 1 hts gX11_read_X11_refuse rfl rfl rfl (by decide +kernel) ⟨(Nat.le_of_ble_eq_true rfl), (Nat.le_of_ble_eq_true rfl)⟩) (pr_V (r := (RX11, TX11, 63)) hP hK hD 0 11 rfl rfl) rfl rfl hl.1 rfl (lv_room (Nat.le_of_ble_eq_true rfl)) dX11_read_50 ⟨(Nat.le_of_ble_eq_true rfl), (Nat.le_of_ble_eq_true rfl)⟩) hS (fun q _ h => hFc q h) hFc (fun r_12 u t H locs ht hvm w_11 hB hz1 hk1 hS => ?_)
      obtain ⟨v_13, fa_14⟩ := u
      obtain ⟨hP1, hK1, hD1⟩ := hB
      rw [ht] at hP1
      have hP : va_P (dC, dI) vwCl (mW g0 pq cp v_13 fa_14) H := hP1
      have hD : va_D A (mW g0 pq cp v_13 fa_14) := hD1.weaken (fun _ _ _ h => hFc _ h)
      clear hP1 hK1 hD1 hk1 hz1 hvm ht hFc
      obtain ⟨rfl, hs1_15⟩ := w_11
      have hVv_13 : mV v_13 := sm0_V (sm1_0 hs1_15) gV
      have hAv_13 : mA fa_14 := sm0_A (sm1_0 hs1_15) gA
      have g_16 : (v_13 38).toInt = (v 38).toInt := congrArg Int32.toInt (congrFun hs1_15.1 38)
      have hRv_13 : mX [0, 37] v fa v_13 fa_14 := mX.st mX.rf (mX.s0 (sm1_0 hs1_15)) (by decide)
      exact W.iret (v := (-3)) hx hb hr (fun t ht hW => ⟨⟨(-3), (v_13, fa_14), rfl, ⟨hVv_13, hAv_13, hRv_13, ⟨by have rc : ((-3) : Int32).toInt = -3 := (by decide); unfold aRe; omega, Or.inl ⟨by decide, sm2_1 hs1_15⟩⟩⟩, ⟨by rw [ht]; exact hP, va_K.moved hW.alike hK, hD⟩⟩, hS.F ht⟩) hS.2.2 dX11_read_53
    · have dc_10 := c_eq (a := x_9.toInt) (b := 0) rfl (by decide) c_10
      refine lv_aload_n hx hb dX11_read_29 rfl (lv_at hl 0 rfl) ?_
      refine va_get (D := (dC, dI)) (ci := 11) (v := .ref (pq 33)) (C := RX11) (T := TX11) (N := 63) hx hb hts in_wsX11_read_X11 hown hK hP 0 rfl rfl 33 (by decide) (hts (.fieldLink RX11 109 "ShipOfficeModel" "fineDay" "[I") iw_X11_read_2) (fun _ h9 => h9) rfl dX11_read_30 ?_
      refine lv_bipush (v := 6) hx hb dX11_read_33 (by decide) ?_
      refine lv_iload_n hx hb dX11_read_35 rfl (lv_at hl 1 rfl) ?_
      refine lv_imul hx hb dX11_read_36 ?_
      refine lv_topi (fun x_17 ex_17 => ?_)
      have hx_17 : x_17.toInt = 6 * x1.toInt := (iv_to ex_17).trans (mu_i (by decide) rfl (by omega) (by omega))
      refine lv_iload_n hx hb dX11_read_37 rfl (lv_at hl 2 rfl) ?_
      refine lv_iadd hx hb dX11_read_38 ?_
      refine lv_topi (fun x_18 ex_18 => ?_)
      have hx_18 : x_18.toInt = x_17.toInt + x2.toInt := (iv_to ex_18).trans (ad_i rfl rfl (by omega) (by omega))
      refine va_iald hx hb hK hP 34 33 rfl rfl (vp_in_iff.mpr (by omega)) dX11_read_39 ?_
      refine lv_topi (fun x_19 ex_19 => ?_)
      have hx_19 : 0 ≤ x_19.toInt ∧ x_19.toInt ≤ 3000 := iv_of ex_19 (gA 33 _)
      have gx_19 : x_19.toInt = (fa 33 (x_18 : Int32).toNatClampNeg).toInt := iv_to ex_19
      clear ex_19
      rw [show (x_18 : Int32).toNatClampNeg = 6 * x1.toNatClampNeg + x2.toNatClampNeg from (show x_18.toInt.toNat = 6 * x1.toInt.toNat + x2.toInt.toNat by omega)] at gx_19
      refine lv_aload_n hx hb dX11_read_40 rfl (lv_at hl 0 rfl) ?_
      refine va_get (D := (dC, dI)) (ci := 11) (v := .int (v 38)) (C := RX11) (T := TX11) (N := 63) hx hb hts in_wsX11_read_X11 hown hK hP 0 rfl rfl 38 (by decide) (hts (.fieldLink RX11 171 "ShipOfficeModel" "now" "I") iw_X11_read_3) (fun _ h9 => h9) rfl dX11_read_41 ?_
      refine lv_topi (fun x_20 ex_20 => ?_)
      have hx_20 : 0 ≤ x_20.toInt ∧ x_20.toInt ≤ 3000 := iv_of ex_20 (gV 38)
      have gx_20 : x_20.toInt = (v 38).toInt := iv_to ex_20
      clear ex_20
      refine lv_icmp_eq (tgt := 54) hx hb dX11_read_44 (by decide) (fun c_21 => ?_) (fun c_21 => ?_)
      · have dc_21 := c_eq (a := x_19.toInt) (b := x_20.toInt) rfl rfl c_21
        refine lv_aload_n hx hb dX11_read_54 rfl (lv_at hl 0 rfl) ?_
        refine va_get (D := (dC, dI)) (ci := 11) (v := .ref (pq 37)) (C := RX11) (T := TX11) (N := 63) hx hb hts in_wsX11_read_X11 hown hK hP 0 rfl rfl 37 (by decide) (hts (.fieldLink RX11 121 "ShipOfficeModel" "isRead" "[Z") iw_X11_read_1) (fun _ h9 => h9) rfl dX11_read_55 ?_
        refine lv_bipush (v := 6) hx hb dX11_read_58 (by decide) ?_
        refine lv_iload_n hx hb dX11_read_60 rfl (lv_at hl 1 rfl) ?_
        refine lv_imul hx hb dX11_read_61 ?_
        refine lv_topi (fun x_22 ex_22 => ?_)
        have hx_22 : x_22.toInt = 6 * x1.toInt := (iv_to ex_22).trans (mu_i (by decide) rfl (by omega) (by omega))
        refine lv_iload_n hx hb dX11_read_62 rfl (lv_at hl 2 rfl) ?_
        refine lv_iadd hx hb dX11_read_63 ?_
        refine lv_topi (fun x_23 ex_23 => ?_)
        have hx_23 : x_23.toInt = x_22.toInt + x2.toInt := (iv_to ex_23).trans (ad_i rfl rfl (by omega) (by omega))
        refine lv_iconst (v := 1) hx hb dX11_read_64 (by decide) ?_
        refine va_zast hx hb hK hP hD hS 38 37 rfl rfl (vp_in_iff.mpr (by omega)) dX11_read_65 (fun H locs hP hD hS => ?_)
        have hP : va_P (dC, dI) vwCl (mW g0 pq cp v (upF fa 37 (x_23 : Int32).toNatClampNeg (vp_nar .boolean 1))) H := hP
        have hD : va_D A (mW g0 pq cp v (upF fa 37 (x_23 : Int32).toNatClampNeg (vp_nar .boolean 1))) := hD
        obtain ⟨fz_24, efz_24⟩ : ∃ zq, zq = (upF fa 37 (x_23 : Int32).toNatClampNeg (vp_nar .boolean 1)) := ⟨_, rfl⟩
        rw [← efz_24] at hP hD
        have hAfz_24 : mA fz_24 := by rw [efz_24]; exact mA_upF (lo := -2147483648) (hi := 2147483647) gA rfl rfl (iv_all _)
        have hRfz_24 : mX [0, 37] v fa v fz_24 := by rw [efz_24]; exact mX.uF mX.rf (by decide)
        have g_25 : (fz_24 33 (x_18 : Int32).toNatClampNeg).toInt = (fa 33 (x_18 : Int32).toNatClampNeg).toInt := by rw [efz_24]; exact uF_ne (by decide)
        have q0_26 : fz_24 0 = fa 0 := by rw [efz_24]; exact (if_neg (by decide)).trans rfl
        refine lv_iconst (v := 1) hx hb dX11_read_66 (by decide) ?_
        exact W.iret (v := 1) hx hb hr (fun t ht hW => ⟨⟨1, (v, fz_24), rfl, ⟨gV, hAfz_24, hRfz_24, ⟨by have rc : (1 : Int32).toInt = 1 := (by decide); unfold aRe; omega, Or.inr ⟨by have rc : (1 : Int32).toInt = 1 := (by decide); omega, (by dsimp only; exact q0_26), (by dsimp only; rw [efz_24, show (x_23 : Int32).toNatClampNeg = 6 * x1.toNatClampNeg + x2.toNatClampNeg from (show x_23.toInt.toNat = 6 * x1.toInt.toNat + x2.toInt.toNat by omega)]; rfl)⟩⟩⟩, ⟨by rw [ht]; exact hP, va_K.moved hW.alike hK, hD⟩⟩, hS.F ht⟩) hS.2.2 dX11_read_67
      · have dc_21 := c_ne (a := x_19.toInt) (b := x_20.toInt) rfl rfl c_21
        refine lv_aload_n hx hb dX11_read_47 rfl (lv_at hl 0 rfl) ?_
        refine lv_bipush (v := (-3)) hx hb dX11_read_48 (by decide) ?_
        have hFc := va_free (wc := (mW g0 pq cp v fa)) hD hS hA (List.range 48) rfl
        refine va_calli (va_runV (As := [.int (-3)]) (rest := []) ⟨hx, hb, hml, hown, hts⟩ (c_X11_refuse_f l dC dI H.size g0 pq cp v fa (-3) (by unfold vp_in; decide)) (cwV 1 hts gX11_read_X11_refuse rfl rfl rfl (by decide +kernel) ⟨(Nat.le_of_ble_eq_true rfl), (Nat.le_of_ble_eq_true rfl)⟩) (pr_V (r := (RX11, TX11, 63)) hP hK hD 0 11 rfl rfl) rfl rfl hl.1 rfl (lv_room (Nat.le_of_ble_eq_true rfl)) dX11_read_50 ⟨(Nat.le_of_ble_eq_true rfl), (Nat.le_of_ble_eq_true rfl)⟩) hS (fun q _ h => hFc q h) hFc (fun r_28 u t H locs ht hvm w_27 hB hz1 hk1 hS => ?_)
        obtain ⟨v_29, fa_30⟩ := u
        obtain ⟨hP1, hK1, hD1⟩ := hB
        rw [ht] at hP1
        have hP : va_P (dC, dI) vwCl (mW g0 pq cp v_29 fa_30) H := hP1
        have hD : va_D A (mW g0 pq cp v_29 fa_30) := hD1.weaken (fun _ _ _ h => hFc _ h)
        clear hP1 hK1 hD1 hk1 hz1 hvm ht hFc
        obtain ⟨rfl, hs1_31⟩ := w_27
        have hVv_29 : mV v_29 := sm0_V (sm1_0 hs1_31) gV
        have hAv_29 : mA fa_30 := sm0_A (sm1_0 hs1_31) gA
        have g_32 : (v_29 38).toInt = (v 38).toInt := congrArg Int32.toInt (congrFun hs1_31.1 38)
        have hRv_29 : mX [0, 37] v fa v_29 fa_30 := mX.st mX.rf (mX.s0 (sm1_0 hs1_31)) (by decide)
        exact W.iret (v := (-3)) hx hb hr (fun t ht hW => ⟨⟨(-3), (v_29, fa_30), rfl, ⟨hVv_29, hAv_29, hRv_29, ⟨by have rc : ((-3) : Int32).toInt = -3 := (by decide); unfold aRe; omega, Or.inl ⟨by decide, sm2_1 hs1_31⟩⟩⟩, ⟨by rw [ht]; exact hP, va_K.moved hW.alike hK, hD⟩⟩, hS.F ht⟩) hS.2.2 dX11_read_53
  · have dc_6 := c_eq (a := r_3.toInt) (b := 0) rfl (by decide) c_6
    refine lv_aload_n hx hb dX11_read_9 rfl (lv_at hl 0 rfl) ?_
    refine lv_iconst (v := (-1)) hx hb dX11_read_10 (by decide) ?_
    have hFc := va_free (wc := (mW g0 pq cp v fa)) hD hS hA (List.range 48) rfl
    refine va_calli (va_runV (As := [.int (-1)]) (rest := []) ⟨hx, hb, hml, hown, hts⟩ (c_X11_refuse_f l dC dI H.size g0 pq cp v fa (-1) (by unfold vp_in; decide)) (cwV 1 hts gX11_read_X11_refuse rfl rfl rfl (by decide +kernel) ⟨(Nat.le_of_ble_eq_true rfl), (Nat.le_of_ble_eq_true rfl)⟩) (pr_V (r := (RX11, TX11, 63)) hP hK hD 0 11 rfl rfl) rfl rfl hl.1 rfl (lv_room (Nat.le_of_ble_eq_true rfl)) dX11_read_11 ⟨(Nat.le_of_ble_eq_true rfl), (Nat.le_of_ble_eq_true rfl)⟩) hS (fun q _ h => hFc q h) hFc (fun r_34 u t H locs ht hvm w_33 hB hz1 hk1 hS => ?_)
    obtain ⟨v_35, fa_36⟩ := u
    obtain ⟨hP1, hK1, hD1⟩ := hB
    rw [ht] at hP1
    have hP : va_P (dC, dI) vwCl (mW g0 pq cp v_35 fa_36) H := hP1
    have hD : va_D A (mW g0 pq cp v_35 fa_36) := hD1.weaken (fun _ _ _ h => hFc _ h)
    clear hP1 hK1 hD1 hk1 hz1 hvm ht hFc
    obtain ⟨rfl, hs1_37⟩ := w_33
    have hVv_35 : mV v_35 := sm0_V (sm1_0 hs1_37) gV
    have hAv_35 : mA fa_36 := sm0_A (sm1_0 hs1_37) gA
    have g_38 : (v_35 38).toInt = (v 38).toInt := congrArg Int32.toInt (congrFun hs1_37.1 38)
    have hRv_35 : mX [0, 37] v fa v_35 fa_36 := mX.st mX.rf (mX.s0 (sm1_0 hs1_37)) (by decide)
    exact W.iret (v := (-1)) hx hb hr (fun t ht hW => ⟨⟨(-1), (v_35, fa_36), rfl, ⟨hVv_35, hAv_35, hRv_35, ⟨by have rc : ((-1) : Int32).toInt = -1 := (by decide); unfold aRe; omega, Or.inl ⟨by decide, sm2_1 hs1_37⟩⟩⟩, ⟨by rw [ht]; exact hP, va_K.moved hW.alike hK, hD⟩⟩, hS.F ht⟩) hS.2.2 dX11_read_14
set_option maxHeartbeats 4000000 in
set_option maxRecDepth 100000 in
theorem c_X11_rations_f (l : Launch) (dC : Nat → ClassId) (dI : Nat → Nat → Nat) (sz : Nat) (g0 : Nat) (pq : Nat → Nat) (cp : Nat → ClassId) (v : Nat → Int32) (fa : Nat → Nat → Int32) (gV : mV v) (gA : mA fa) (x1 : Int32) (x2 : Int32) (x3 : Int32) (hXb : xB fa) : Met l yX11_rations wsX11_rations ({ frames := 2, cells := 0, slots := 0, locals := 42 }) (va_Pc [.ref g0, .int x1, .int x2, .int x3] (pcW (dC, dI) (mT cp) (mW g0 pq cp v fa) sz)) (va_Qi (fun (r : Int32) (u : (Nat → Int32) × (Nat → Nat → Int32)) => mV u.1 ∧ mA u.2 ∧ mX [0, 31, 32, 35, 36] v fa u.1 u.2 ∧ (aRa (v 43).toInt x1.toInt x2.toInt x3.toInt (fa 32 x1.toNatClampNeg).toInt (fa 31 x1.toNatClampNeg).toInt r.toInt ∧ rO2 v fa u r (raN v fa x1.toNatClampNeg (x2 * x3) r u))) (fun u t => va_P (dC, dI) vwCl (mW g0 pq cp u.1 u.2) t.heap ∧ va_K (dC, dI) vwCl (mT cp) t ∧ va_D (va_A (mW g0 pq cp v fa) sz) (mW g0 pq cp u.1 u.2)) (va_A (mW g0 pq cp v fa) sz)) 0 0 (va_A (mW g0 pq cp v fa) sz) := by
  refine Met.ofW (cc := cX11_rations) (maxL := 5) (ret := (some .int)) (by decide) rfl ?_
  intro p e s m args below meth c s₁ B hml hv
  obtain ⟨rfl, hsz, hP, hK, hD0⟩ := hv
  have hx := B.exec
  have hb := B.bytes
  have hr := B.returns
  have hts := atoms_spec (ws := wsX11_rations) B.pre
  have hown : s.vm.findClass RX11 = some m.cls := findClass_of_methodNamed B.named
  have hlocks := B.notSynchronized
  subst hsz
  have hD := hD0.self (sz := s.heap.size)
  generalize hAe : va_A (mW g0 pq cp v fa) s.heap.size = A at hD ⊢
  have hA : ∀ q : Nat, s.heap.size ≤ q → A q := fun q h => by rw [← hAe]; exact Or.inr h
  have hS : va_S A s.heap s.heap [] := va_S.rf
  have hP : va_P (dC, dI) vwCl (mW g0 pq cp v fa) s.heap := hP
  have hl := lv_entry ([.ref g0, .int x1, .int x2, .int x3]) (n := 5) (Nat.le_of_ble_eq_true rfl)
  rw [lg_entry_eq]
  generalize (lg_sl ([.ref g0, .int x1, .int x2, .int x3]) ++ List.replicate (5 - (lg_sl ([.ref g0, .int x1, .int x2, .int x3])).length) Slot.unset).toArray = ls at hl ⊢
  have hl : lv_has ls 5 [(0, .ref g0), (1, .int x1), (2, .int x2), (3, .int x3)] := hl
  have iv_1 : 0 ≤ (v 38).toInt ∧ (v 38).toInt ≤ 3000 := gV 38
  have iv_2 : 0 ≤ (v 43).toInt ∧ (v 43).toInt ≤ 60 := gV 43
  refine lv_aload_n hx hb dX11_rations_0 rfl (lv_at hl 0 rfl) ?_
  refine lv_iload_n hx hb dX11_rations_1 rfl (lv_at hl 1 rfl) ?_
  have hFc : ∀ q, va_A [] s.heap.size q → A q := pu_free hS hA
  refine va_calli (va_runV (As := [.int x1]) (rest := []) ⟨hx, hb, hml, hown, hts⟩ (c_X11_isAgreement l dC dI s.heap.size g0 pq cp v fa x1) (cwV 1 hts gX11_rations_X11_isAgreement rfl rfl rfl (by decide +kernel) ⟨(Nat.le_of_ble_eq_true rfl), (Nat.le_of_ble_eq_true rfl)⟩) (pr_V (r := (RX11, TX11, 63)) hP hK hD 0 11 rfl rfl) rfl rfl hl.1 rfl (lv_room (Nat.le_of_ble_eq_true rfl)) dX11_rations_2 ⟨(Nat.le_of_ble_eq_true rfl), (Nat.le_of_ble_eq_true rfl)⟩) hS (fun q _ h => hFc q h) hFc (fun r_4 u t H locs ht hvm w_3 hB hz1 hk1 hS => ?_)
  have hP := pu_keep hP hk1
  clear hk1 hz1 hvm hB ht hFc
  have hbr_4 : 0 ≤ r_4.toInt ∧ r_4.toInt ≤ 1 := iv_of w_3 (isI_i _ _)
  refine lv_if_ne (tgt := 14) hx hb dX11_rations_5 (by decide) (fun c_5 => ?_) (fun c_5 => ?_)
  · have dc_5 := c_ne (a := r_4.toInt) (b := 0) rfl (by decide) c_5
    have hi_6 := isI_t w_3 (fun q => c_5 (Int32.toInt_inj.mp q))
    have khi_6 : (v 43).toInt ≤ 60 := (gV 43).2
    refine lv_iload_n hx hb dX11_rations_14 rfl (lv_at hl 2 rfl) ?_
    refine lv_iconst (v := 1) hx hb dX11_rations_15 (by decide) ?_
    refine lv_icmp_lt (tgt := 24) hx hb dX11_rations_16 (by decide) (fun c_7 => ?_) (fun c_7 => ?_)
    · have dc_7 := c_lt (a := x2.toInt) (b := 1) rfl (by decide) c_7
      refine lv_aload_n hx hb dX11_rations_24 rfl (lv_at hl 0 rfl) ?_
      refine lv_bipush (v := (-4)) hx hb dX11_rations_25 (by decide) ?_
      have hFc := va_free (wc := (mW g0 pq cp v fa)) hD hS hA (List.range 48) rfl
      refine va_calli (va_runV (As := [.int (-4)]) (rest := []) ⟨hx, hb, hml, hown, hts⟩ (c_X11_refuse_f l dC dI H.size g0 pq cp v fa (-4) (by unfold vp_in; decide)) (cwV 1 hts gX11_rations_X11_refuse rfl rfl rfl (by decide +kernel) ⟨(Nat.le_of_ble_eq_true rfl), (Nat.le_of_ble_eq_true rfl)⟩) (pr_V (r := (RX11, TX11, 63)) hP hK hD 0 11 rfl rfl) rfl rfl hl.1 rfl (lv_room (Nat.le_of_ble_eq_true rfl)) dX11_rations_27 ⟨(Nat.le_of_ble_eq_true rfl), (Nat.le_of_ble_eq_true rfl)⟩) hS (fun q _ h => hFc q h) hFc (fun r_9 u t H locs ht hvm w_8 hB hz1 hk1 hS => ?_)
      obtain ⟨v_10, fa_11⟩ := u
      obtain ⟨hP1, hK1, hD1⟩ := hB
      rw [ht] at hP1
      have hP : va_P (dC, dI) vwCl (mW g0 pq cp v_10 fa_11) H := hP1
      have hD : va_D A (mW g0 pq cp v_10 fa_11) := hD1.weaken (fun _ _ _ h => hFc _ h)
      clear hP1 hK1 hD1 hk1 hz1 hvm ht hFc
      obtain ⟨rfl, hs1_12⟩ := w_8
      have hVv_10 : mV v_10 := sm0_V (sm1_0 hs1_12) gV
      have hAv_10 : mA fa_11 := sm0_A (sm1_0 hs1_12) gA
      have g_13 : (v_10 38).toInt = (v 38).toInt := congrArg Int32.toInt (congrFun hs1_12.1 38)
      have g_14 : (v_10 43).toInt = (v 43).toInt := congrArg Int32.toInt (congrFun hs1_12.1 43)
      have hRv_10 : mX [0, 31, 32, 35, 36] v fa v_10 fa_11 := mX.st mX.rf (mX.s0 (sm1_0 hs1_12)) (by decide)
      exact W.iret (v := (-4)) hx hb hr (fun t ht hW => ⟨⟨(-4), (v_10, fa_11), rfl, ⟨hVv_10, hAv_10, hRv_10, ⟨by have rc : ((-4) : Int32).toInt = -4 := (by decide); unfold aRa; omega, Or.inl ⟨by decide, sm2_1 hs1_12⟩⟩⟩, ⟨by rw [ht]; exact hP, va_K.moved hW.alike hK, hD⟩⟩, hS.F ht⟩) hS.2.2 dX11_rations_30
    · have dc_7 := c_nlt (a := x2.toInt) (b := 1) rfl (by decide) c_7
      refine lv_iload_n hx hb dX11_rations_19 rfl (lv_at hl 3 rfl) ?_
      refine lv_iconst (v := 1) hx hb dX11_rations_20 (by decide) ?_
      refine lv_icmp_ge (tgt := 31) hx hb dX11_rations_21 (by decide) (fun c_15 => ?_) (fun c_15 => ?_)
      · have dc_15 := c_le (a := 1) (b := x3.toInt) (by decide) rfl c_15
        refine lv_iload_n hx hb dX11_rations_31 rfl (lv_at hl 2 rfl) ?_
        refine lv_sipush (v := 999) hx hb dX11_rations_32 (by decide) ?_
        refine lv_aload_n hx hb dX11_rations_35 rfl (lv_at hl 0 rfl) ?_
        refine va_get (D := (dC, dI)) (ci := 11) (v := .ref (pq 32)) (C := RX11) (T := TX11) (N := 63) hx hb hts in_wsX11_rations_X11 hown hK hP 0 rfl rfl 32 (by decide) (hts (.fieldLink RX11 106 "ShipOfficeModel" "shortDays" "[I") iw_X11_rations_1) (fun _ h9 => h9) rfl dX11_rations_36 ?_
        refine lv_iload_n hx hb dX11_rations_39 rfl (lv_at hl 1 rfl) ?_
        refine va_iald hx hb hK hP 33 32 rfl rfl (vp_in_iff.mpr (by omega)) dX11_rations_40 ?_
        refine lv_topi (fun x_16 ex_16 => ?_)
        have gx_16 : x_16.toInt = (fa 32 (x1 : Int32).toNatClampNeg).toInt := iv_to ex_16
        clear ex_16
        have xb_17 : 0 ≤ x_16.toInt ∧ x_16.toInt ≤ 999 := by rw [gx_16]; exact (hXb _).2.2
        refine lv_isub hx hb dX11_rations_41 ?_
        refine lv_topi (fun x_18 ex_18 => ?_)
        have hx_18 : x_18.toInt = 999 - x_16.toInt := (iv_to ex_18).trans (sb_i (by decide) rfl (by omega) (by omega))
        refine lv_icmp_gt (tgt := 62) hx hb dX11_rations_42 (by decide) (fun c_19 => ?_) (fun c_19 => ?_)
        · have dc_19 := c_lt (a := x_18.toInt) (b := x2.toInt) rfl rfl c_19
          refine lv_aload_n hx hb dX11_rations_62 rfl (lv_at hl 0 rfl) ?_
          refine lv_bipush (v := (-6)) hx hb dX11_rations_63 (by decide) ?_
          have hFc := va_free (wc := (mW g0 pq cp v fa)) hD hS hA (List.range 48) rfl
          refine va_calli (va_runV (As := [.int (-6)]) (rest := []) ⟨hx, hb, hml, hown, hts⟩ (c_X11_refuse_f l dC dI H.size g0 pq cp v fa (-6) (by unfold vp_in; decide)) (cwV 1 hts gX11_rations_X11_refuse rfl rfl rfl (by decide +kernel) ⟨(Nat.le_of_ble_eq_true rfl), (Nat.le_of_ble_eq_true rfl)⟩) (pr_V (r := (RX11, TX11, 63)) hP hK hD 0 11 rfl rfl) rfl rfl hl.1 rfl (lv_room (Nat.le_of_ble_eq_true rfl)) dX11_rations_65 ⟨(Nat.le_of_ble_eq_true rfl), (Nat.le_of_ble_eq_true rfl)⟩) hS (fun q _ h => hFc q h) hFc (fun r_21 u t H locs ht hvm w_20 hB hz1 hk1 hS => ?_)
          obtain ⟨v_22, fa_23⟩ := u
          obtain ⟨hP1, hK1, hD1⟩ := hB
          rw [ht] at hP1
          have hP : va_P (dC, dI) vwCl (mW g0 pq cp v_22 fa_23) H := hP1
          have hD : va_D A (mW g0 pq cp v_22 fa_23) := hD1.weaken (fun _ _ _ h => hFc _ h)
          clear hP1 hK1 hD1 hk1 hz1 hvm ht hFc
          obtain ⟨rfl, hs1_24⟩ := w_20
          have hVv_22 : mV v_22 := sm0_V (sm1_0 hs1_24) gV
          have hAv_22 : mA fa_23 := sm0_A (sm1_0 hs1_24) gA
          have g_25 : (v_22 38).toInt = (v 38).toInt := congrArg Int32.toInt (congrFun hs1_24.1 38)
          have g_26 : (v_22 43).toInt = (v 43).toInt := congrArg Int32.toInt (congrFun hs1_24.1 43)
          have hRv_22 : mX [0, 31, 32, 35, 36] v fa v_22 fa_23 := mX.st mX.rf (mX.s0 (sm1_0 hs1_24)) (by decide)
          exact W.iret (v := (-6)) hx hb hr (fun t ht hW => ⟨⟨(-6), (v_22, fa_23), rfl, ⟨hVv_22, hAv_22, hRv_22, ⟨by have rc : ((-6) : Int32).toInt = -6 := (by decide); unfold aRa; omega, Or.inl ⟨by decide, sm2_1 hs1_24⟩⟩⟩, ⟨by rw [ht]; exact hP, va_K.moved hW.alike hK, hD⟩⟩, hS.F ht⟩) hS.2.2 dX11_rations_68
        · have dc_19 := c_nlt (a := x_18.toInt) (b := x2.toInt) rfl rfl c_19
          refine lv_iload_n hx hb dX11_rations_45 rfl (lv_at hl 3 rfl) ?_
          refine lv_bipush (v := 99) hx hb dX11_rations_46 (by decide) ?_
          refine lv_icmp_gt (tgt := 62) hx hb dX11_rations_48 (by decide) (fun c_27 => ?_) (fun c_27 => ?_)
          · have dc_27 := c_lt (a := 99) (b := x3.toInt) (by decide) rfl c_27
            refine lv_aload_n hx hb dX11_rations_62 rfl (lv_at hl 0 rfl) ?_
            refine lv_bipush (v := (-6)) hx hb dX11_rations_63 (by decide) ?_
            have hFc := va_free (wc := (mW g0 pq cp v fa)) hD hS hA (List.range 48) rfl
            refine va_calli (va_runV (As := [.int (-6)]) (rest := []) ⟨hx, hb, hml, hown, hts⟩ (c_X11_refuse_f l dC dI H.size g0 pq cp v fa (-6) (by unfold vp_in; decide)) (cwV 1 hts gX11_rations_X11_refuse rfl rfl rfl (by decide +kernel) ⟨(Nat.le_of_ble_eq_true rfl), (Nat.le_of_ble_eq_true rfl)⟩) (pr_V (r := (RX11, TX11, 63)) hP hK hD 0 11 rfl rfl) rfl rfl hl.1 rfl (lv_room (Nat.le_of_ble_eq_true rfl)) dX11_rations_65 ⟨(Nat.le_of_ble_eq_true rfl), (Nat.le_of_ble_eq_true rfl)⟩) hS (fun q _ h => hFc q h) hFc (fun r_29 u t H locs ht hvm w_28 hB hz1 hk1 hS => ?_)
            obtain ⟨v_30, fa_31⟩ := u
            obtain ⟨hP1, hK1, hD1⟩ := hB
            rw [ht] at hP1
            have hP : va_P (dC, dI) vwCl (mW g0 pq cp v_30 fa_31) H := hP1
            have hD : va_D A (mW g0 pq cp v_30 fa_31) := hD1.weaken (fun _ _ _ h => hFc _ h)
            clear hP1 hK1 hD1 hk1 hz1 hvm ht hFc
            obtain ⟨rfl, hs1_32⟩ := w_28
            have hVv_30 : mV v_30 := sm0_V (sm1_0 hs1_32) gV
            have hAv_30 : mA fa_31 := sm0_A (sm1_0 hs1_32) gA
            have g_33 : (v_30 38).toInt = (v 38).toInt := congrArg Int32.toInt (congrFun hs1_32.1 38)
            have g_34 : (v_30 43).toInt = (v 43).toInt := congrArg Int32.toInt (congrFun hs1_32.1 43)
            have hRv_30 : mX [0, 31, 32, 35, 36] v fa v_30 fa_31 := mX.st mX.rf (mX.s0 (sm1_0 hs1_32)) (by decide)
            exact W.iret (v := (-6)) hx hb hr (fun t ht hW => ⟨⟨(-6), (v_30, fa_31), rfl, ⟨hVv_30, hAv_30, hRv_30, ⟨by have rc : ((-6) : Int32).toInt = -6 := (by decide); unfold aRa; omega, Or.inl ⟨by decide, sm2_1 hs1_32⟩⟩⟩, ⟨by rw [ht]; exact hP, va_K.moved hW.alike hK, hD⟩⟩, hS.F ht⟩) hS.2.2 dX11_rations_68
          · have dc_27 := c_nlt (a := 99) (b := x3.toInt) (by decide) rfl c_27
            refine lv_aload_n hx hb dX11_rations_51 rfl (lv_at hl 0 rfl) ?_
            refine va_get (D := (dC, dI)) (ci := 11) (v := .ref (pq 31)) (C := RX11) (T := TX11) (N := 63) hx hb hts in_wsX11_rations_X11 hown hK hP 0 rfl rfl 31 (by decide) (hts (.fieldLink RX11 103 "ShipOfficeModel" "shorts" "[I") iw_X11_rations_2) (fun _ h9 => h9) rfl dX11_rations_52 ?_
            refine lv_iload_n hx hb dX11_rations_55 rfl (lv_at hl 1 rfl) ?_
            refine va_iald hx hb hK hP 32 31 rfl rfl (vp_in_iff.mpr (by omega)) dX11_rations_56 ?_
            refine lv_topi (fun x_35 ex_35 => ?_)
            have hx_35 : 0 ≤ x_35.toInt ∧ x_35.toInt ≤ 20 := iv_of ex_35 (gA 31 _)
            have gx_35 : x_35.toInt = (fa 31 (x1 : Int32).toNatClampNeg).toInt := iv_to ex_35
            clear ex_35
            refine lv_bipush (v := 20) hx hb dX11_rations_57 (by decide) ?_
            refine lv_icmp_ne (tgt := 69) hx hb dX11_rations_59 (by decide) (fun c_36 => ?_) (fun c_36 => ?_)
            · have dc_36 := c_ne (a := x_35.toInt) (b := 20) rfl (by decide) c_36
              refine lv_bipush (v := 20) hx hb dX11_rations_69 (by decide) ?_
              refine lv_iload_n hx hb dX11_rations_71 rfl (lv_at hl 1 rfl) ?_
              refine lv_imul hx hb dX11_rations_72 ?_
              refine lv_topi (fun x_37 ex_37 => ?_)
              have hx_37 : x_37.toInt = 20 * x1.toInt := (iv_to ex_37).trans (mu_i (by decide) rfl (by omega) (by omega))
              refine lv_aload_n hx hb dX11_rations_73 rfl (lv_at hl 0 rfl) ?_
              refine va_get (D := (dC, dI)) (ci := 11) (v := .ref (pq 31)) (C := RX11) (T := TX11) (N := 63) hx hb hts in_wsX11_rations_X11 hown hK hP 0 rfl rfl 31 (by decide) (hts (.fieldLink RX11 103 "ShipOfficeModel" "shorts" "[I") iw_X11_rations_2) (fun _ h9 => h9) rfl dX11_rations_74 ?_
              refine lv_iload_n hx hb dX11_rations_77 rfl (lv_at hl 1 rfl) ?_
              refine va_iald hx hb hK hP 32 31 rfl rfl (vp_in_iff.mpr (by omega)) dX11_rations_78 ?_
              refine lv_topi (fun x_38 ex_38 => ?_)
              have hx_38 : 0 ≤ x_38.toInt ∧ x_38.toInt ≤ 20 := iv_of ex_38 (gA 31 _)
              have gx_38 : x_38.toInt = (fa 31 (x1 : Int32).toNatClampNeg).toInt := iv_to ex_38
              clear ex_38
              refine lv_iadd hx hb dX11_rations_79 ?_
              refine lv_topi (fun x_39 ex_39 => ?_)
              have hx_39 : x_39.toInt = x_37.toInt + x_38.toInt := (iv_to ex_39).trans (ad_i rfl rfl (by omega) (by omega))
              refine lv_istore (lv' := [(4, .int x_39), (0, .ref g0), (1, .int x1), (2, .int x2), (3, .int x3)]) hx hb dX11_rations_80 hl (by decide) rfl (fun ls hl => ?_)
              refine lv_aload_n hx hb dX11_rations_82 rfl (lv_at hl 1 rfl) ?_
              refine va_get (D := (dC, dI)) (ci := 11) (v := .ref (pq 35)) (C := RX11) (T := TX11) (N := 63) hx hb hts in_wsX11_rations_X11 hown hK hP 0 rfl rfl 35 (by decide) (hts (.fieldLink RX11 115 "ShipOfficeModel" "shortOn" "[I") iw_X11_rations_3) (fun _ h9 => h9) rfl dX11_rations_83 ?_
              refine lv_iload hx hb dX11_rations_86 (lv_at hl 0 rfl) ?_
              refine lv_aload_n hx hb dX11_rations_88 rfl (lv_at hl 1 rfl) ?_
              refine va_get (D := (dC, dI)) (ci := 11) (v := .int (v 38)) (C := RX11) (T := TX11) (N := 63) hx hb hts in_wsX11_rations_X11 hown hK hP 0 rfl rfl 38 (by decide) (hts (.fieldLink RX11 171 "ShipOfficeModel" "now" "I") iw_X11_rations_4) (fun _ h9 => h9) rfl dX11_rations_89 ?_
              refine lv_topi (fun x_40 ex_40 => ?_)
              have hx_40 : 0 ≤ x_40.toInt ∧ x_40.toInt ≤ 3000 := iv_of ex_40 (gV 38)
              have gx_40 : x_40.toInt = (v 38).toInt := iv_to ex_40
              clear ex_40
              refine va_iast hx hb hK hP hD hS 36 35 rfl rfl (vp_in_iff.mpr (by omega)) dX11_rations_92 (fun H locs hP hD hS => ?_)
              have hP : va_P (dC, dI) vwCl (mW g0 pq cp v (upF fa 35 (x_39 : Int32).toNatClampNeg x_40)) H := hP
              have hD : va_D A (mW g0 pq cp v (upF fa 35 (x_39 : Int32).toNatClampNeg x_40)) := hD
              obtain ⟨fz_41, efz_41⟩ : ∃ zq, zq = (upF fa 35 (x_39 : Int32).toNatClampNeg x_40) := ⟨_, rfl⟩
              rw [← efz_41] at hP hD
              have hAfz_41 : mA fz_41 := by rw [efz_41]; exact mA_upF (lo := -2147483648) (hi := 2147483647) gA rfl rfl (iv_all _)
              have hRfz_41 : mX [0, 31, 32, 35, 36] v fa v fz_41 := by rw [efz_41]; exact mX.uF mX.rf (by decide)
              have g_42 : (fz_41 31 (x1 : Int32).toNatClampNeg).toInt = (fa 31 (x1 : Int32).toNatClampNeg).toInt := by rw [efz_41]; exact uF_ne (by decide)
              have g_43 : (fz_41 32 (x1 : Int32).toNatClampNeg).toInt = (fa 32 (x1 : Int32).toNatClampNeg).toInt := by rw [efz_41]; exact uF_ne (by decide)
              have q0_44 : fz_41 0 = fa 0 := by rw [efz_41]; exact (if_neg (by decide)).trans rfl
              refine lv_aload_n hx hb dX11_rations_93 rfl (lv_at hl 1 rfl) ?_
              refine va_get (D := (dC, dI)) (ci := 11) (v := .ref (pq 36)) (C := RX11) (T := TX11) (N := 63) hx hb hts in_wsX11_rations_X11 hown hK hP 0 rfl rfl 36 (by decide) (hts (.fieldLink RX11 118 "ShipOfficeModel" "shortSum" "[I") iw_X11_rations_5) (fun _ h9 => h9) rfl dX11_rations_94 ?_
              refine lv_iload hx hb dX11_rations_97 (lv_at hl 0 rfl) ?_
              refine lv_iload_n hx hb dX11_rations_99 rfl (lv_at hl 3 rfl) ?_
              refine lv_iload_n hx hb dX11_rations_100 rfl (lv_at hl 4 rfl) ?_
              refine lv_imul hx hb dX11_rations_101 ?_
              refine lv_topi (fun x_45 ex_45 => ?_)
              refine va_iast hx hb hK hP hD hS 37 36 rfl rfl (vp_in_iff.mpr (by omega)) dX11_rations_102 (fun H locs hP hD hS => ?_)
              have hP : va_P (dC, dI) vwCl (mW g0 pq cp v (upF fz_41 36 (x_39 : Int32).toNatClampNeg x_45)) H := hP
              have hD : va_D A (mW g0 pq cp v (upF fz_41 36 (x_39 : Int32).toNatClampNeg x_45)) := hD
              obtain ⟨fz_46, efz_46⟩ : ∃ zq, zq = (upF fz_41 36 (x_39 : Int32).toNatClampNeg x_45) := ⟨_, rfl⟩
              rw [← efz_46] at hP hD
              have hAfz_46 : mA fz_46 := by rw [efz_46]; exact mA_upF (lo := -2147483648) (hi := 2147483647) hAfz_41 rfl rfl (iv_all _)
              have hRfz_46 : mX [0, 31, 32, 35, 36] v fa v fz_46 := by rw [efz_46]; exact mX.uF hRfz_41 (by decide)
              have g_47 : (fz_46 31 (x1 : Int32).toNatClampNeg).toInt = (fz_41 31 (x1 : Int32).toNatClampNeg).toInt := by rw [efz_46]; exact uF_ne (by decide)
              have g_48 : (fz_46 32 (x1 : Int32).toNatClampNeg).toInt = (fz_41 32 (x1 : Int32).toNatClampNeg).toInt := by rw [efz_46]; exact uF_ne (by decide)
              have q0_49 : fz_46 0 = fa 0 := by rw [efz_46]; exact (if_neg (by decide)).trans q0_44
              refine lv_aload_n hx hb dX11_rations_103 rfl (lv_at hl 1 rfl) ?_
              refine va_get (D := (dC, dI)) (ci := 11) (v := .ref (pq 31)) (C := RX11) (T := TX11) (N := 63) hx hb hts in_wsX11_rations_X11 hown hK hP 0 rfl rfl 31 (by decide) (hts (.fieldLink RX11 103 "ShipOfficeModel" "shorts" "[I") iw_X11_rations_2) (fun _ h9 => h9) rfl dX11_rations_104 ?_
              refine lv_iload_n hx hb dX11_rations_107 rfl (lv_at hl 2 rfl) ?_
              refine lv_dup2_11 hx hb dX11_rations_108 rfl rfl ?_
              refine va_iald hx hb hK hP 32 31 rfl rfl (vp_in_iff.mpr (by omega)) dX11_rations_109 ?_
              refine lv_topi (fun x_50 ex_50 => ?_)
              have hx_50 : 0 ≤ x_50.toInt ∧ x_50.toInt ≤ 20 := iv_of ex_50 (hAfz_46 31 _)
              have gx_50 : x_50.toInt = (fz_46 31 (x1 : Int32).toNatClampNeg).toInt := iv_to ex_50
              clear ex_50
              refine lv_iconst (v := 1) hx hb dX11_rations_110 (by decide) ?_
              refine lv_iadd hx hb dX11_rations_111 ?_
              refine lv_topi (fun x_51 ex_51 => ?_)
              have hx_51 : x_51.toInt = x_50.toInt + 1 := (iv_to ex_51).trans (ad_i rfl (by decide) (by omega) (by omega))
              refine va_iast hx hb hK hP hD hS 32 31 rfl rfl (vp_in_iff.mpr (by omega)) dX11_rations_112 (fun H locs hP hD hS => ?_)
              have hP : va_P (dC, dI) vwCl (mW g0 pq cp v (upF fz_46 31 (x1 : Int32).toNatClampNeg x_51)) H := hP
              have hD : va_D A (mW g0 pq cp v (upF fz_46 31 (x1 : Int32).toNatClampNeg x_51)) := hD
              obtain ⟨fz_52, efz_52⟩ : ∃ zq, zq = (upF fz_46 31 (x1 : Int32).toNatClampNeg x_51) := ⟨_, rfl⟩
              rw [← efz_52] at hP hD
              have hAfz_52 : mA fz_52 := by rw [efz_52]; exact mA_upF (lo := 0) (hi := 20) hAfz_46 rfl rfl (by omega)
              have hRfz_52 : mX [0, 31, 32, 35, 36] v fa v fz_52 := by rw [efz_52]; exact mX.uF hRfz_46 (by decide)
              have g_53 : (fz_52 32 (x1 : Int32).toNatClampNeg).toInt = (fz_46 32 (x1 : Int32).toNatClampNeg).toInt := by rw [efz_52]; exact uF_ne (by decide)
              have q0_54 : fz_52 0 = fa 0 := by rw [efz_52]; exact (if_neg (by decide)).trans q0_49
              have g_55 : (fz_52 31 (x1 : Int32).toNatClampNeg).toInt = x_51.toInt := by rw [efz_52]; exact uF_eq
              refine lv_aload_n hx hb dX11_rations_113 rfl (lv_at hl 1 rfl) ?_
              refine va_get (D := (dC, dI)) (ci := 11) (v := .ref (pq 32)) (C := RX11) (T := TX11) (N := 63) hx hb hts in_wsX11_rations_X11 hown hK hP 0 rfl rfl 32 (by decide) (hts (.fieldLink RX11 106 "ShipOfficeModel" "shortDays" "[I") iw_X11_rations_1) (fun _ h9 => h9) rfl dX11_rations_114 ?_
              refine lv_iload_n hx hb dX11_rations_117 rfl (lv_at hl 2 rfl) ?_
              refine lv_dup2_11 hx hb dX11_rations_118 rfl rfl ?_
              refine va_iald hx hb hK hP 33 32 rfl rfl (vp_in_iff.mpr (by omega)) dX11_rations_119 ?_
              refine lv_topi (fun x_56 ex_56 => ?_)
              have gx_56 : x_56.toInt = (fz_52 32 (x1 : Int32).toNatClampNeg).toInt := iv_to ex_56
              clear ex_56
              have xb_57 : 0 ≤ x_56.toInt ∧ x_56.toInt ≤ 999 := by omega
              refine lv_iload_n hx hb dX11_rations_120 rfl (lv_at hl 3 rfl) ?_
              refine lv_iadd hx hb dX11_rations_121 ?_
              refine lv_topi (fun x_58 ex_58 => ?_)
              have hx_58 : x_58.toInt = x_56.toInt + x2.toInt := (iv_to ex_58).trans (ad_i rfl rfl (by omega) (by omega))
              refine va_iast hx hb hK hP hD hS 33 32 rfl rfl (vp_in_iff.mpr (by omega)) dX11_rations_122 (fun H locs hP hD hS => ?_)
              have hP : va_P (dC, dI) vwCl (mW g0 pq cp v (upF fz_52 32 (x1 : Int32).toNatClampNeg x_58)) H := hP
              have hD : va_D A (mW g0 pq cp v (upF fz_52 32 (x1 : Int32).toNatClampNeg x_58)) := hD
              obtain ⟨fz_59, efz_59⟩ : ∃ zq, zq = (upF fz_52 32 (x1 : Int32).toNatClampNeg x_58) := ⟨_, rfl⟩
              rw [← efz_59] at hP hD
              have hAfz_59 : mA fz_59 := by rw [efz_59]; exact mA_upF (lo := -2147483648) (hi := 2147483647) hAfz_52 rfl rfl (iv_all _)
              have hRfz_59 : mX [0, 31, 32, 35, 36] v fa v fz_59 := by rw [efz_59]; exact mX.uF hRfz_52 (by decide)
              have g_60 : (fz_59 31 (x1 : Int32).toNatClampNeg).toInt = (fz_52 31 (x1 : Int32).toNatClampNeg).toInt := by rw [efz_59]; exact uF_ne (by decide)
              have q0_61 : fz_59 0 = fa 0 := by rw [efz_59]; exact (if_neg (by decide)).trans q0_54
              have g_62 : (fz_59 32 (x1 : Int32).toNatClampNeg).toInt = x_58.toInt := by rw [efz_59]; exact uF_eq
              refine lv_aload_n hx hb dX11_rations_123 rfl (lv_at hl 1 rfl) ?_
              refine va_get (D := (dC, dI)) (ci := 11) (v := .ref (pq 32)) (C := RX11) (T := TX11) (N := 63) hx hb hts in_wsX11_rations_X11 hown hK hP 0 rfl rfl 32 (by decide) (hts (.fieldLink RX11 106 "ShipOfficeModel" "shortDays" "[I") iw_X11_rations_1) (fun _ h9 => h9) rfl dX11_rations_124 ?_
              refine lv_iload_n hx hb dX11_rations_127 rfl (lv_at hl 2 rfl) ?_
              refine va_iald hx hb hK hP 33 32 rfl rfl (vp_in_iff.mpr (by omega)) dX11_rations_128 ?_
              refine lv_topi (fun x_63 ex_63 => ?_)
              have gx_63 : x_63.toInt = (fz_59 32 (x1 : Int32).toNatClampNeg).toInt := iv_to ex_63
              clear ex_63
              have xb_64 : 0 ≤ x_63.toInt ∧ x_63.toInt ≤ 999 := by omega
              exact W.iret (v := x_63) hx hb hr (fun t ht hW => ⟨⟨x_63, (v, fz_59), rfl, ⟨gV, hAfz_59, hRfz_59, ⟨by unfold aRa; omega, Or.inr ⟨by omega, (by dsimp only; exact q0_61), ⟨x_51, by omega, (by dsimp only; rw [efz_59, efz_52, efz_46, efz_41, show (x_39 : Int32).toNatClampNeg = 20 * x1.toNatClampNeg + (fa 31 x1.toNatClampNeg).toNatClampNeg from (show x_39.toInt.toNat = 20 * x1.toInt.toNat + (fa 31 x1.toNatClampNeg).toInt.toNat by omega), show x_40 = v 38 from Int32.toInt_inj.mp (by omega)]; rfl), (by dsimp only; rw [efz_59, efz_52, efz_46, efz_41, show (x_39 : Int32).toNatClampNeg = 20 * x1.toNatClampNeg + (fa 31 x1.toNatClampNeg).toNatClampNeg from (show x_39.toInt.toNat = 20 * x1.toInt.toNat + (fa 31 x1.toNatClampNeg).toInt.toNat by omega), ex_45]; rfl), (by dsimp only; rw [efz_59, efz_52, efz_46, efz_41]; rfl), (by dsimp only; rw [efz_59, efz_52, efz_46, efz_41, show x_58 = x_63 from Int32.toInt_inj.mp (by omega)]; rfl)⟩⟩⟩⟩, ⟨by rw [ht]; exact hP, va_K.moved hW.alike hK, hD⟩⟩, hS.F ht⟩) hS.2.2 dX11_rations_129
            · have dc_36 := c_eq (a := x_35.toInt) (b := 20) rfl (by decide) c_36
              refine lv_aload_n hx hb dX11_rations_62 rfl (lv_at hl 0 rfl) ?_
              refine lv_bipush (v := (-6)) hx hb dX11_rations_63 (by decide) ?_
              have hFc := va_free (wc := (mW g0 pq cp v fa)) hD hS hA (List.range 48) rfl
              refine va_calli (va_runV (As := [.int (-6)]) (rest := []) ⟨hx, hb, hml, hown, hts⟩ (c_X11_refuse_f l dC dI H.size g0 pq cp v fa (-6) (by unfold vp_in; decide)) (cwV 1 hts gX11_rations_X11_refuse rfl rfl rfl (by decide +kernel) ⟨(Nat.le_of_ble_eq_true rfl), (Nat.le_of_ble_eq_true rfl)⟩) (pr_V (r := (RX11, TX11, 63)) hP hK hD 0 11 rfl rfl) rfl rfl hl.1 rfl (lv_room (Nat.le_of_ble_eq_true rfl)) dX11_rations_65 ⟨(Nat.le_of_ble_eq_true rfl), (Nat.le_of_ble_eq_true rfl)⟩) hS (fun q _ h => hFc q h) hFc (fun r_66 u t H locs ht hvm w_65 hB hz1 hk1 hS => ?_)
              obtain ⟨v_67, fa_68⟩ := u
              obtain ⟨hP1, hK1, hD1⟩ := hB
              rw [ht] at hP1
              have hP : va_P (dC, dI) vwCl (mW g0 pq cp v_67 fa_68) H := hP1
              have hD : va_D A (mW g0 pq cp v_67 fa_68) := hD1.weaken (fun _ _ _ h => hFc _ h)
              clear hP1 hK1 hD1 hk1 hz1 hvm ht hFc
              obtain ⟨rfl, hs1_69⟩ := w_65
              have hVv_67 : mV v_67 := sm0_V (sm1_0 hs1_69) gV
              have hAv_67 : mA fa_68 := sm0_A (sm1_0 hs1_69) gA
              have g_70 : (v_67 38).toInt = (v 38).toInt := congrArg Int32.toInt (congrFun hs1_69.1 38)
              have g_71 : (v_67 43).toInt = (v 43).toInt := congrArg Int32.toInt (congrFun hs1_69.1 43)
              have hRv_67 : mX [0, 31, 32, 35, 36] v fa v_67 fa_68 := mX.st mX.rf (mX.s0 (sm1_0 hs1_69)) (by decide)
              exact W.iret (v := (-6)) hx hb hr (fun t ht hW => ⟨⟨(-6), (v_67, fa_68), rfl, ⟨hVv_67, hAv_67, hRv_67, ⟨by have rc : ((-6) : Int32).toInt = -6 := (by decide); unfold aRa; omega, Or.inl ⟨by decide, sm2_1 hs1_69⟩⟩⟩, ⟨by rw [ht]; exact hP, va_K.moved hW.alike hK, hD⟩⟩, hS.F ht⟩) hS.2.2 dX11_rations_68
      · have dc_15 := c_nle (a := 1) (b := x3.toInt) (by decide) rfl c_15
        refine lv_aload_n hx hb dX11_rations_24 rfl (lv_at hl 0 rfl) ?_
        refine lv_bipush (v := (-4)) hx hb dX11_rations_25 (by decide) ?_
        have hFc := va_free (wc := (mW g0 pq cp v fa)) hD hS hA (List.range 48) rfl
        refine va_calli (va_runV (As := [.int (-4)]) (rest := []) ⟨hx, hb, hml, hown, hts⟩ (c_X11_refuse_f l dC dI H.size g0 pq cp v fa (-4) (by unfold vp_in; decide)) (cwV 1 hts gX11_rations_X11_refuse rfl rfl rfl (by decide +kernel) ⟨(Nat.le_of_ble_eq_true rfl), (Nat.le_of_ble_eq_true rfl)⟩) (pr_V (r := (RX11, TX11, 63)) hP hK hD 0 11 rfl rfl) rfl rfl hl.1 rfl (lv_room (Nat.le_of_ble_eq_true rfl)) dX11_rations_27 ⟨(Nat.le_of_ble_eq_true rfl), (Nat.le_of_ble_eq_true rfl)⟩) hS (fun q _ h => hFc q h) hFc (fun r_73 u t H locs ht hvm w_72 hB hz1 hk1 hS => ?_)
        obtain ⟨v_74, fa_75⟩ := u
        obtain ⟨hP1, hK1, hD1⟩ := hB
        rw [ht] at hP1
        have hP : va_P (dC, dI) vwCl (mW g0 pq cp v_74 fa_75) H := hP1
        have hD : va_D A (mW g0 pq cp v_74 fa_75) := hD1.weaken (fun _ _ _ h => hFc _ h)
        clear hP1 hK1 hD1 hk1 hz1 hvm ht hFc
        obtain ⟨rfl, hs1_76⟩ := w_72
        have hVv_74 : mV v_74 := sm0_V (sm1_0 hs1_76) gV
        have hAv_74 : mA fa_75 := sm0_A (sm1_0 hs1_76) gA
        have g_77 : (v_74 38).toInt = (v 38).toInt := congrArg Int32.toInt (congrFun hs1_76.1 38)
        have g_78 : (v_74 43).toInt = (v 43).toInt := congrArg Int32.toInt (congrFun hs1_76.1 43)
        have hRv_74 : mX [0, 31, 32, 35, 36] v fa v_74 fa_75 := mX.st mX.rf (mX.s0 (sm1_0 hs1_76)) (by decide)
        exact W.iret (v := (-4)) hx hb hr (fun t ht hW => ⟨⟨(-4), (v_74, fa_75), rfl, ⟨hVv_74, hAv_74, hRv_74, ⟨by have rc : ((-4) : Int32).toInt = -4 := (by decide); unfold aRa; omega, Or.inl ⟨by decide, sm2_1 hs1_76⟩⟩⟩, ⟨by rw [ht]; exact hP, va_K.moved hW.alike hK, hD⟩⟩, hS.F ht⟩) hS.2.2 dX11_rations_30
  · have dc_5 := c_eq (a := r_4.toInt) (b := 0) rfl (by decide) c_5
    have hz_79 := isI_0 (w_3.symm.trans c_5)
    refine lv_aload_n hx hb dX11_rations_8 rfl (lv_at hl 0 rfl) ?_
    refine lv_iconst (v := (-1)) hx hb dX11_rations_9 (by decide) ?_
    have hFc := va_free (wc := (mW g0 pq cp v fa)) hD hS hA (List.range 48) rfl
    refine va_calli (va_runV (As := [.int (-1)]) (rest := []) ⟨hx, hb, hml, hown, hts⟩ (c_X11_refuse_f l dC dI H.size g0 pq cp v fa (-1) (by unfold vp_in; decide)) (cwV 1 hts gX11_rations_X11_refuse rfl rfl rfl (by decide +kernel) ⟨(Nat.le_of_ble_eq_true rfl), (Nat.le_of_ble_eq_true rfl)⟩) (pr_V (r := (RX11, TX11, 63)) hP hK hD 0 11 rfl rfl) rfl rfl hl.1 rfl (lv_room (Nat.le_of_ble_eq_true rfl)) dX11_rations_10 ⟨(Nat.le_of_ble_eq_true rfl), (Nat.le_of_ble_eq_true rfl)⟩) hS (fun q _ h => hFc q h) hFc (fun r_81 u t H locs ht hvm w_80 hB hz1 hk1 hS => ?_)
    obtain ⟨v_82, fa_83⟩ := u
    obtain ⟨hP1, hK1, hD1⟩ := hB
    rw [ht] at hP1
    have hP : va_P (dC, dI) vwCl (mW g0 pq cp v_82 fa_83) H := hP1
    have hD : va_D A (mW g0 pq cp v_82 fa_83) := hD1.weaken (fun _ _ _ h => hFc _ h)
    clear hP1 hK1 hD1 hk1 hz1 hvm ht hFc
    obtain ⟨rfl, hs1_84⟩ := w_80
    have hVv_82 : mV v_82 := sm0_V (sm1_0 hs1_84) gV
    have hAv_82 : mA fa_83 := sm0_A (sm1_0 hs1_84) gA
    have g_85 : (v_82 38).toInt = (v 38).toInt := congrArg Int32.toInt (congrFun hs1_84.1 38)
    have g_86 : (v_82 43).toInt = (v 43).toInt := congrArg Int32.toInt (congrFun hs1_84.1 43)
    have hRv_82 : mX [0, 31, 32, 35, 36] v fa v_82 fa_83 := mX.st mX.rf (mX.s0 (sm1_0 hs1_84)) (by decide)
    exact W.iret (v := (-1)) hx hb hr (fun t ht hW => ⟨⟨(-1), (v_82, fa_83), rfl, ⟨hVv_82, hAv_82, hRv_82, ⟨by have rc : ((-1) : Int32).toInt = -1 := (by decide); unfold aRa; omega, Or.inl ⟨by decide, sm2_1 hs1_84⟩⟩⟩, ⟨by rw [ht]; exact hP, va_K.moved hW.alike hK, hD⟩⟩, hS.F ht⟩) hS.2.2 dX11_rations_13
