


set_option maxHeartbeats 4000000 in
set_option maxRecDepth 100000 in
theorem c_X11_wrongTimes_f (l : Launch) (dC : Nat → ClassId) (dI : Nat → Nat → Nat) (sz : Nat) (g0 : Nat) (pq : Nat → Nat) (cp : Nat → ClassId) (v : Nat → Int32) (fa : Nat → Nat → Int32) (gV : mV v) (gA : mA fa) (x1 : Int32) (x2 : Int32) : Met l yX11_wrongTimes wsX11_wrongTimes ({ frames := 0, cells := 0, slots := 0, locals := 0 }) (va_Pc [.ref g0, .int x1, .int x2] (pcW (dC, dI) (mT cp) (mW g0 pq cp v fa) sz)) (va_Qi (fun (r : Int32) (u : Unit) => (-4 ≤ r.toInt ∧ r.toInt ≤ 0) ∧ (((x1.toInt < 0 ∨ x2.toInt < 0) ∧ r.toInt = -4) ∨ (0 ≤ x1.toInt ∧ 0 ≤ x2.toInt ∧ (x2.toInt < x1.toInt ∨ (v 38).toInt < x2.toInt) ∧ r.toInt = -3) ∨ (0 ≤ x1.toInt ∧ x1.toInt ≤ x2.toInt ∧ x2.toInt ≤ (v 38).toInt ∧ r.toInt = 0))) (fun _ _ => True) (va_A [] sz)) 0 0 (va_A [] sz) := by
  refine Met.ofW (cc := cX11_wrongTimes) (maxL := 3) (ret := (some .int)) (by decide) rfl ?_
  intro p e s m args below meth c s₁ B hml hv
  obtain ⟨rfl, hsz, hP, hK, hD0⟩ := hv
  have hx := B.exec
  have hb := B.bytes
  have hr := B.returns
  have hts := atoms_spec (ws := wsX11_wrongTimes) B.pre
  have hown : s.vm.findClass RX11 = some m.cls := findClass_of_methodNamed B.named
  have hlocks := B.notSynchronized
  subst hsz
  have hD := hD0
  generalize hAe : va_A [] s.heap.size = A at ⊢
  have hA : ∀ q : Nat, s.heap.size ≤ q → A q := fun q h => by rw [← hAe]; exact Or.inr h
  have hS : va_S A s.heap s.heap [] := va_S.rf
  have hP : va_P (dC, dI) vwCl (mW g0 pq cp v fa) s.heap := hP
  have hl := lv_entry ([.ref g0, .int x1, .int x2]) (n := 3) (Nat.le_of_ble_eq_true rfl)
  rw [lg_entry_eq]
  generalize (lg_sl ([.ref g0, .int x1, .int x2]) ++ List.replicate (3 - (lg_sl ([.ref g0, .int x1, .int x2])).length) Slot.unset).toArray = ls at hl ⊢
  have hl : lv_has ls 3 [(0, .ref g0), (1, .int x1), (2, .int x2)] := hl
  have iv_1 : 0 ≤ (v 38).toInt ∧ (v 38).toInt ≤ 3000 := gV 38
  refine lv_iload_n hx hb dX11_wrongTimes_0 rfl (lv_at hl 1 rfl) ?_
  refine lv_if_lt (tgt := 8) hx hb dX11_wrongTimes_1 (by decide) (fun c_2 => ?_) (fun c_2 => ?_)
  · have dc_2 := c_lt (a := x1.toInt) (b := 0) rfl (by decide) c_2
    refine lv_bipush (v := (-4)) hx hb dX11_wrongTimes_8 (by decide) ?_
    refine lv_goto (tgt := 32) hx hb dX11_wrongTimes_10 (by decide) ?_
    exact W.iret (v := (-4)) hx hb hr (fun t ht hW => ⟨⟨(-4), (), rfl, ⟨(by decide), (by have rc : ((-4) : Int32).toInt = -4 := (by decide); omega)⟩, trivial⟩, hS.F ht⟩) hS.2.2 dX11_wrongTimes_32
  · have dc_2 := c_nlt (a := x1.toInt) (b := 0) rfl (by decide) c_2
    refine lv_iload_n hx hb dX11_wrongTimes_4 rfl (lv_at hl 2 rfl) ?_
    refine lv_if_ge (tgt := 13) hx hb dX11_wrongTimes_5 (by decide) (fun c_3 => ?_) (fun c_3 => ?_)
    · have dc_3 := c_le (a := 0) (b := x2.toInt) (by decide) rfl c_3
      refine lv_iload_n hx hb dX11_wrongTimes_13 rfl (lv_at hl 1 rfl) ?_
      refine lv_iload_n hx hb dX11_wrongTimes_14 rfl (lv_at hl 2 rfl) ?_
      refine lv_icmp_gt (tgt := 26) hx hb dX11_wrongTimes_15 (by decide) (fun c_4 => ?_) (fun c_4 => ?_)
      · have dc_4 := c_lt (a := x2.toInt) (b := x1.toInt) rfl rfl c_4
        refine lv_bipush (v := (-3)) hx hb dX11_wrongTimes_26 (by decide) ?_
        refine lv_goto (tgt := 32) hx hb dX11_wrongTimes_28 (by decide) ?_
        exact W.iret (v := (-3)) hx hb hr (fun t ht hW => ⟨⟨(-3), (), rfl, ⟨(by decide), (by have rc : ((-3) : Int32).toInt = -3 := (by decide); omega)⟩, trivial⟩, hS.F ht⟩) hS.2.2 dX11_wrongTimes_32
      · have dc_4 := c_nlt (a := x2.toInt) (b := x1.toInt) rfl rfl c_4
        refine lv_iload_n hx hb dX11_wrongTimes_18 rfl (lv_at hl 2 rfl) ?_
        refine lv_aload_n hx hb dX11_wrongTimes_19 rfl (lv_at hl 0 rfl) ?_
        refine va_get (D := (dC, dI)) (ci := 11) (v := .int (v 38)) (C := RX11) (T := TX11) (N := 63) hx hb hts in_wsX11_wrongTimes_X11 hown hK hP 0 rfl rfl 38 (by decide) (hts (.fieldLink RX11 171 "ShipOfficeModel" "now" "I") iw_X11_wrongTimes_1) (fun _ h9 => h9) rfl dX11_wrongTimes_20 ?_
        refine lv_topi (fun x_5 ex_5 => ?_)
        have hx_5 : 0 ≤ x_5.toInt ∧ x_5.toInt ≤ 3000 := iv_of ex_5 (gV 38)
        have gx_5 : x_5.toInt = (v 38).toInt := iv_to ex_5
        clear ex_5
        refine lv_icmp_le (tgt := 31) hx hb dX11_wrongTimes_23 (by decide) (fun c_6 => ?_) (fun c_6 => ?_)
        · have dc_6 := c_le (a := x2.toInt) (b := x_5.toInt) rfl rfl c_6
          refine lv_iconst (v := 0) hx hb dX11_wrongTimes_31 (by decide) ?_
          exact W.iret (v := 0) hx hb hr (fun t ht hW => ⟨⟨0, (), rfl, ⟨(by decide), (by have rc : (0 : Int32).toInt = 0 := (by decide); omega)⟩, trivial⟩, hS.F ht⟩) hS.2.2 dX11_wrongTimes_32
        · have dc_6 := c_nle (a := x2.toInt) (b := x_5.toInt) rfl rfl c_6
          refine lv_bipush (v := (-3)) hx hb dX11_wrongTimes_26 (by decide) ?_
          refine lv_goto (tgt := 32) hx hb dX11_wrongTimes_28 (by decide) ?_
          exact W.iret (v := (-3)) hx hb hr (fun t ht hW => ⟨⟨(-3), (), rfl, ⟨(by decide), (by have rc : ((-3) : Int32).toInt = -3 := (by decide); omega)⟩, trivial⟩, hS.F ht⟩) hS.2.2 dX11_wrongTimes_32
    · have dc_3 := c_nle (a := 0) (b := x2.toInt) (by decide) rfl c_3
      refine lv_bipush (v := (-4)) hx hb dX11_wrongTimes_8 (by decide) ?_
      refine lv_goto (tgt := 32) hx hb dX11_wrongTimes_10 (by decide) ?_
      exact W.iret (v := (-4)) hx hb hr (fun t ht hW => ⟨⟨(-4), (), rfl, ⟨(by decide), (by have rc : ((-4) : Int32).toInt = -4 := (by decide); omega)⟩, trivial⟩, hS.F ht⟩) hS.2.2 dX11_wrongTimes_32
set_option maxHeartbeats 4000000 in
set_option maxRecDepth 100000 in
theorem c_X11_state_f (l : Launch) (dC : Nat → ClassId) (dI : Nat → Nat → Nat) (sz : Nat) (g0 : Nat) (pq : Nat → Nat) (cp : Nat → ClassId) (v : Nat → Int32) (fa : Nat → Nat → Int32) (gV : mV v) (gA : mA fa) (x1 : Int32) (x2 : Int32) (x3 : Int32) (hWl : wlA v fa) : Met l yX11_state wsX11_state ({ frames := 23, cells := 0, slots := 0, locals := 533 }) (va_Pc [.ref g0, .int x1, .int x2, .int x3] (pcW (dC, dI) (mT cp) (mW g0 pq cp v fa) sz)) (va_Qi (fun (r : Int32) (u : (Nat → Int32) × (Nat → Nat → Int32)) => mV u.1 ∧ mA u.2 ∧ mX [0, 45, 47, 48, 49, 50, 51, 52, 53, 54, 55, 56, 57, 58, 59, 60] v fa u.1 u.2 ∧ (aSt (v 43).toInt (v 38).toInt x1.toInt x2.toInt x3.toInt (stF v fa x1.toNatClampNeg x2.toInt x3.toInt) r.toInt ∧ rQr v fa u r (bSt (v 43).toInt (v 38).toInt x1.toInt x2.toInt x3.toInt))) (fun u t => va_P (dC, dI) vwCl (mW g0 pq cp u.1 u.2) t.heap ∧ va_K (dC, dI) vwCl (mT cp) t ∧ va_D (va_A (mW g0 pq cp v fa) sz) (mW g0 pq cp u.1 u.2)) (va_A (mW g0 pq cp v fa) sz)) 0 0 (va_A (mW g0 pq cp v fa) sz) := by
  refine Met.ofW (cc := cX11_state) (maxL := 5) (ret := (some .int)) (by decide) rfl ?_
  intro p e s m args below meth c s₁ B hml hv
  obtain ⟨rfl, hsz, hP, hK, hD0⟩ := hv
  have hx := B.exec
  have hb := B.bytes
  have hr := B.returns
  have hts := atoms_spec (ws := wsX11_state) B.pre
  have hown : s.vm.findClass RX11 = some m.cls := findClass_of_methodNamed B.named
  have hlocks := B.notSynchronized
  subst hsz
  have hD := hD0.self (sz := s.heap.size)
  generalize hAe : va_A (mW g0 pq cp v fa) s.heap.size = A at hD ⊢
  have hA : ∀ q : Nat, s.heap.size ≤ q → A q := fun q h => by rw [← hAe]; exact Or.inr h
  have hS : va_S A s.heap s.heap [] := va_S.rf
  have hP : va_P (dC, dI) vwCl (mW g0 pq cp v fa) s.heap := hP
  have hl := lv_entry ([.ref g0, .int x1, .int x2, .int x3]) (n := 5) (Nat.le_of_ble_eq_true rfl)
  rw [lg_entry_eq]
  generalize (lg_sl ([.ref g0, .int x1, .int x2, .int x3]) ++ List.replicate (5 - (lg_sl ([.ref g0, .int x1, .int x2, .int x3])).length) Slot.unset).toArray = ls at hl ⊢
  have hl : lv_has ls 5 [(0, .ref g0), (1, .int x1), (2, .int x2), (3, .int x3)] := hl
  have iv_1 : 0 ≤ (v 38).toInt ∧ (v 38).toInt ≤ 3000 := gV 38
  have iv_2 : 0 ≤ (v 43).toInt ∧ (v 43).toInt ≤ 60 := gV 43
  refine lv_aload_n hx hb dX11_state_0 rfl (lv_at hl 0 rfl) ?_
  refine lv_iload_n hx hb dX11_state_1 rfl (lv_at hl 1 rfl) ?_
  have hFc : ∀ q, va_A [] s.heap.size q → A q := pu_free hS hA
  refine va_calli (va_runV (As := [.int x1]) (rest := []) ⟨hx, hb, hml, hown, hts⟩ (c_X11_isAgreement l dC dI s.heap.size g0 pq cp v fa x1) (cwV 1 hts gX11_state_X11_isAgreement rfl rfl rfl (by decide +kernel) ⟨(Nat.le_of_ble_eq_true rfl), (Nat.le_of_ble_eq_true rfl)⟩) (pr_V (r := (RX11, TX11, 63)) hP hK hD 0 11 rfl rfl) rfl rfl hl.1 rfl (lv_room (Nat.le_of_ble_eq_true rfl)) dX11_state_2 ⟨(Nat.le_of_ble_eq_true rfl), (Nat.le_of_ble_eq_true rfl)⟩) hS (fun q _ h => hFc q h) hFc (fun r_4 u t H locs ht hvm w_3 hB hz1 hk1 hS => ?_)
  have hP := pu_keep hP hk1
  clear hk1 hz1 hvm hB ht hFc
  have hbr_4 : 0 ≤ r_4.toInt ∧ r_4.toInt ≤ 1 := iv_of w_3 (isI_i _ _)
  refine lv_if_eq (tgt := 17) hx hb dX11_state_5 (by decide) (fun c_5 => ?_) (fun c_5 => ?_)
  · have dc_5 := c_eq (a := r_4.toInt) (b := 0) rfl (by decide) c_5
    have hz_6 := isI_0 (w_3.symm.trans c_5)
    refine lv_iconst (v := (-1)) hx hb dX11_state_17 (by decide) ?_
    refine lv_istore (lv' := [(4, .int (-1)), (0, .ref g0), (1, .int x1), (2, .int x2), (3, .int x3)]) hx hb dX11_state_18 hl (by decide) rfl (fun ls hl => ?_)
    refine lv_iload hx hb dX11_state_20 (lv_at hl 0 rfl) ?_
    refine lv_if_eq (tgt := 34) hx hb dX11_state_22 (by decide) (fun c_7 => absurd c_7 (by decide)) (fun _ => ?_)
    refine lv_aload_n hx hb dX11_state_25 rfl (lv_at hl 1 rfl) ?_
    refine lv_iload hx hb dX11_state_26 (lv_at hl 0 rfl) ?_
    have hFc := va_free (wc := (mW g0 pq cp v fa)) hD hS hA (List.range 48) rfl
    refine va_calli (va_runV (As := [.int (-1)]) (rest := []) ⟨hx, hb, hml, hown, hts⟩ (c_X11_refuse_f l dC dI H.size g0 pq cp v fa (-1) (by unfold vp_in; decide)) (cwV 1 hts gX11_state_X11_refuse rfl rfl rfl (by decide +kernel) ⟨(Nat.le_of_ble_eq_true rfl), (Nat.le_of_ble_eq_true rfl)⟩) (pr_V (r := (RX11, TX11, 63)) hP hK hD 0 11 rfl rfl) rfl rfl hl.1 rfl (lv_room (Nat.le_of_ble_eq_true rfl)) dX11_state_28 ⟨(Nat.le_of_ble_eq_true rfl), (Nat.le_of_ble_eq_true rfl)⟩) hS (fun q _ h => hFc q h) hFc (fun r_9 u t H locs ht hvm w_8 hB hz1 hk1 hS => ?_)
    obtain ⟨v_10, fa_11⟩ := u
    obtain ⟨hP1, hK1, hD1⟩ := hB
    rw [ht] at hP1
    have hP : va_P (dC, dI) vwCl (mW g0 pq cp v_10 fa_11) H := hP1
    have hD : va_D A (mW g0 pq cp v_10 fa_11) := hD1.weaken (fun _ _ _ h => hFc _ h)
    clear hP1 hK1 hD1 hk1 hz1 hvm ht hFc
    obtain ⟨rfl, hs1_12⟩ := w_8
    have hVv_10 : mV v_10 := sm0_V (sm1_0 hs1_12) gV
    have hAv_10 : mA fa_11 := sm0_A (sm1_0 hs1_12) gA
    have g_13 : (v_10 38).toInt = (v 38).toInt := congrArg Int32.toInt (congrFun hs1_12.1 38)
    have g_14 : (v_10 43).toInt = (v 43).toInt := congrArg Int32.toInt (congrFun hs1_12.1 43)
    have hRv_10 : mX [0, 45, 47, 48, 49, 50, 51, 52, 53, 54, 55, 56, 57, 58, 59, 60] v fa v_10 fa_11 := mX.st mX.rf (mX.s0 (sm1_0 hs1_12)) (by decide)
    refine lv_goto (tgt := 41) hx hb dX11_state_31 (by decide) ?_
    exact W.iret (v := (-1)) hx hb hr (fun t ht hW => ⟨⟨(-1), (v_10, fa_11), rfl, ⟨hVv_10, hAv_10, hRv_10, ⟨by have rc : ((-1) : Int32).toInt = -1 := (by decide); unfold aSt; omega, Or.inl ⟨by unfold bSt; omega, hs1_12⟩⟩⟩, ⟨by rw [ht]; exact hP, va_K.moved hW.alike hK, hD⟩⟩, hS.F ht⟩) hS.2.2 dX11_state_41
  · have dc_5 := c_ne (a := r_4.toInt) (b := 0) rfl (by decide) c_5
    have hi_15 := isI_t w_3 (fun q => c_5 (Int32.toInt_inj.mp q))
    have khi_15 : (v 43).toInt ≤ 60 := (gV 43).2
    refine lv_aload_n hx hb dX11_state_8 rfl (lv_at hl 0 rfl) ?_
    refine lv_iload_n hx hb dX11_state_9 rfl (lv_at hl 2 rfl) ?_
    refine lv_iload_n hx hb dX11_state_10 rfl (lv_at hl 3 rfl) ?_
    have hFc : ∀ q, va_A [] H.size q → A q := pu_free hS hA
    refine va_calli (va_runV (As := [.int x2, .int x3]) (rest := []) ⟨hx, hb, hml, hown, hts⟩ (c_X11_wrongTimes_f l dC dI H.size g0 pq cp v fa gV gA x2 x3) (cwV 2 hts gX11_state_X11_wrongTimes rfl rfl rfl (by decide +kernel) ⟨(Nat.le_of_ble_eq_true rfl), (Nat.le_of_ble_eq_true rfl)⟩) (pr_V (r := (RX11, TX11, 63)) hP hK hD 0 11 rfl rfl) rfl rfl hl.1 rfl (lv_room (Nat.le_of_ble_eq_true rfl)) dX11_state_11 ⟨(Nat.le_of_ble_eq_true rfl), (Nat.le_of_ble_eq_true rfl)⟩) hS (fun q _ h => hFc q h) hFc (fun r_17 u t H locs ht hvm w_16 hB hz1 hk1 hS => ?_)
    have hP := pu_keep hP hk1
    clear hk1 hz1 hvm hB ht hFc
    obtain ⟨hb_18, hx_19⟩ := w_16
    refine lv_goto (tgt := 18) hx hb dX11_state_14 (by decide) ?_
    refine lv_istore (lv' := [(4, .int r_17), (0, .ref g0), (1, .int x1), (2, .int x2), (3, .int x3)]) hx hb dX11_state_18 hl (by decide) rfl (fun ls hl => ?_)
    refine lv_iload hx hb dX11_state_20 (lv_at hl 0 rfl) ?_
    refine lv_if_eq (tgt := 34) hx hb dX11_state_22 (by decide) (fun c_20 => ?_) (fun c_20 => ?_)
    · have dc_20 := c_eq (a := r_17.toInt) (b := 0) rfl (by decide) c_20
      refine lv_aload_n hx hb dX11_state_34 rfl (lv_at hl 1 rfl) ?_
      refine lv_iload_n hx hb dX11_state_35 rfl (lv_at hl 2 rfl) ?_
      refine lv_iload_n hx hb dX11_state_36 rfl (lv_at hl 3 rfl) ?_
      refine lv_iload_n hx hb dX11_state_37 rfl (lv_at hl 4 rfl) ?_
      have hFc := va_free (wc := (mW g0 pq cp v fa)) hD hS hA (List.range 48) rfl
      refine va_calli (va_runV (As := [.int x1, .int x2, .int x3]) (rest := []) ⟨hx, hb, hml, hown, hts⟩ (c_X11_stateOf_f l dC dI H.size g0 pq cp v fa gV gA x1 (by omega) x2 (by omega) x3 hWl) (cwV 3 hts gX11_state_X11_stateOf rfl rfl rfl (by decide +kernel) ⟨(Nat.le_of_ble_eq_true rfl), (Nat.le_of_ble_eq_true rfl)⟩) (pr_V (r := (RX11, TX11, 63)) hP hK hD 0 11 rfl rfl) rfl rfl hl.1 rfl (lv_room (Nat.le_of_ble_eq_true rfl)) dX11_state_38 ⟨(Nat.le_of_ble_eq_true rfl), (Nat.le_of_ble_eq_true rfl)⟩) hS (fun q _ h => hFc q h) hFc (fun r_22 u t H locs ht hvm w_21 hB hz1 hk1 hS => ?_)
      obtain ⟨v_23, fa_24⟩ := u
      obtain ⟨hP1, hK1, hD1⟩ := hB
      rw [ht] at hP1
      have hP : va_P (dC, dI) vwCl (mW g0 pq cp v_23 fa_24) H := hP1
      have hD : va_D A (mW g0 pq cp v_23 fa_24) := hD1.weaken (fun _ _ _ h => hFc _ h)
      clear hP1 hK1 hD1 hk1 hz1 hvm ht hFc
      obtain ⟨hV_25, hA_26, hR_27, hb_28, hx_29⟩ := w_21
      dsimp only at hV_25 hA_26 hR_27 hb_28 hx_29
      have g_30 : (v_23 38).toInt = (v 38).toInt := congrArg Int32.toInt (hR_27.1 38 rfl)
      have g_31 : (v_23 43).toInt = (v 43).toInt := congrArg Int32.toInt (hR_27.1 43 rfl)
      have R_32 : mX [0, 45, 47, 48, 49, 50, 51, 52, 53, 54, 55, 56, 57, 58, 59, 60] v fa v_23 fa_24 := mX.st mX.rf (mX.scr hR_27) (by decide)
      have sc_33 := scr.tr scr.rf hR_27
      have q0_34 : fa_24 0 = fa 0 := (hR_27.2 0 rfl).trans rfl
      exact W.iret (v := r_22) hx hb hr (fun t ht hW => ⟨⟨r_22, (v_23, fa_24), rfl, ⟨hV_25, hA_26, R_32, ⟨by unfold aSt; omega, Or.inr ⟨by unfold bSt; omega, (by dsimp only; exact q0_34)⟩⟩⟩, ⟨by rw [ht]; exact hP, va_K.moved hW.alike hK, hD⟩⟩, hS.F ht⟩) hS.2.2 dX11_state_41
    · have dc_20 := c_ne (a := r_17.toInt) (b := 0) rfl (by decide) c_20
      refine lv_aload_n hx hb dX11_state_25 rfl (lv_at hl 1 rfl) ?_
      refine lv_iload hx hb dX11_state_26 (lv_at hl 0 rfl) ?_
      have hFc := va_free (wc := (mW g0 pq cp v fa)) hD hS hA (List.range 48) rfl
      refine va_calli (va_runV (As := [.int r_17]) (rest := []) ⟨hx, hb, hml, hown, hts⟩ (c_X11_refuse_f l dC dI H.size g0 pq cp v fa r_17 (by apply vp_in_iff.mpr; rw [ng_i (x := r_17) rfl (by omega) (by omega)]; omega)) (cwV 1 hts gX11_state_X11_refuse rfl rfl rfl (by decide +kernel) ⟨(Nat.le_of_ble_eq_true rfl), (Nat.le_of_ble_eq_true rfl)⟩) (pr_V (r := (RX11, TX11, 63)) hP hK hD 0 11 rfl rfl) rfl rfl hl.1 rfl (lv_room (Nat.le_of_ble_eq_true rfl)) dX11_state_28 ⟨(Nat.le_of_ble_eq_true rfl), (Nat.le_of_ble_eq_true rfl)⟩) hS (fun q _ h => hFc q h) hFc (fun r_36 u t H locs ht hvm w_35 hB hz1 hk1 hS => ?_)
      obtain ⟨v_37, fa_38⟩ := u
      obtain ⟨hP1, hK1, hD1⟩ := hB
      rw [ht] at hP1
      have hP : va_P (dC, dI) vwCl (mW g0 pq cp v_37 fa_38) H := hP1
      have hD : va_D A (mW g0 pq cp v_37 fa_38) := hD1.weaken (fun _ _ _ h => hFc _ h)
      clear hP1 hK1 hD1 hk1 hz1 hvm ht hFc
      obtain ⟨err_36, hs1_39⟩ := w_35
      have hVv_37 : mV v_37 := sm0_V (sm1_0 hs1_39) gV
      have hAv_37 : mA fa_38 := sm0_A (sm1_0 hs1_39) gA
      have g_40 : (v_37 38).toInt = (v 38).toInt := congrArg Int32.toInt (congrFun hs1_39.1 38)
      have g_41 : (v_37 43).toInt = (v 43).toInt := congrArg Int32.toInt (congrFun hs1_39.1 43)
      have hRv_37 : mX [0, 45, 47, 48, 49, 50, 51, 52, 53, 54, 55, 56, 57, 58, 59, 60] v fa v_37 fa_38 := mX.st mX.rf (mX.s0 (sm1_0 hs1_39)) (by decide)
      refine lv_goto (tgt := 41) hx hb dX11_state_31 (by decide) ?_
      exact W.iret (v := r_36) hx hb hr (fun t ht hW => ⟨⟨r_36, (v_37, fa_38), rfl, ⟨hVv_37, hAv_37, hRv_37, ⟨by have e9 := congrArg Int32.toInt err_36; unfold aSt; omega, Or.inl ⟨by have e9 := congrArg Int32.toInt err_36; unfold bSt; omega, by rw [err_36]; exact hs1_39⟩⟩⟩, ⟨by rw [ht]; exact hP, va_K.moved hW.alike hK, hD⟩⟩, hS.F ht⟩) hS.2.2 dX11_state_41
set_option maxHeartbeats 4000000 in
set_option maxRecDepth 100000 in
theorem c_X11_aboard_f (l : Launch) (dC : Nat → ClassId) (dI : Nat → Nat → Nat) (sz : Nat) (g0 : Nat) (pq : Nat → Nat) (cp : Nat → ClassId) (v : Nat → Int32) (fa : Nat → Nat → Int32) (gV : mV v) (gA : mA fa) (x1 : Int32) (x2 : Int32) (x3 : Int32) (hWl : wlA v fa) : Met l yX11_aboard wsX11_aboard ({ frames := 24, cells := 0, slots := 0, locals := 558 }) (va_Pc [.ref g0, .int x1, .int x2, .int x3] (pcW (dC, dI) (mT cp) (mW g0 pq cp v fa) sz)) (va_Qi (fun (r : Int32) (u : (Nat → Int32) × (Nat → Nat → Int32)) => mV u.1 ∧ mA u.2 ∧ mX [0, 45, 47, 48, 49, 50, 51, 52, 53, 54, 55, 56, 57, 58, 59, 60] v fa u.1 u.2 ∧ (aSt (v 40).toInt (v 38).toInt x1.toInt x2.toInt x3.toInt (abF v fa x1.toInt x2.toInt x3.toInt) r.toInt ∧ rQr v fa u r (bSt (v 40).toInt (v 38).toInt x1.toInt x2.toInt x3.toInt))) (fun u t => va_P (dC, dI) vwCl (mW g0 pq cp u.1 u.2) t.heap ∧ va_K (dC, dI) vwCl (mT cp) t ∧ va_D (va_A (mW g0 pq cp v fa) sz) (mW g0 pq cp u.1 u.2)) (va_A (mW g0 pq cp v fa) sz)) 0 0 (va_A (mW g0 pq cp v fa) sz) := by
  refine Met.ofW (cc := cX11_aboard) (maxL := 5) (ret := (some .int)) (by decide) rfl ?_
  intro p e s m args below meth c s₁ B hml hv
  obtain ⟨rfl, hsz, hP, hK, hD0⟩ := hv
  have hx := B.exec
  have hb := B.bytes
  have hr := B.returns
  have hts := atoms_spec (ws := wsX11_aboard) B.pre
  have hown : s.vm.findClass RX11 = some m.cls := findClass_of_methodNamed B.named
  have hlocks := B.notSynchronized
  subst hsz
  have hD := hD0.self (sz := s.heap.size)
  generalize hAe : va_A (mW g0 pq cp v fa) s.heap.size = A at hD ⊢
  have hA : ∀ q : Nat, s.heap.size ≤ q → A q := fun q h => by rw [← hAe]; exact Or.inr h
  have hS : va_S A s.heap s.heap [] := va_S.rf
  have hP : va_P (dC, dI) vwCl (mW g0 pq cp v fa) s.heap := hP
  have hl := lv_entry ([.ref g0, .int x1, .int x2, .int x3]) (n := 5) (Nat.le_of_ble_eq_true rfl)
  rw [lg_entry_eq]
  generalize (lg_sl ([.ref g0, .int x1, .int x2, .int x3]) ++ List.replicate (5 - (lg_sl ([.ref g0, .int x1, .int x2, .int x3])).length) Slot.unset).toArray = ls at hl ⊢
  have hl : lv_has ls 5 [(0, .ref g0), (1, .int x1), (2, .int x2), (3, .int x3)] := hl
  have iv_1 : 0 ≤ (v 38).toInt ∧ (v 38).toInt ≤ 3000 := gV 38
  have iv_2 : 0 ≤ (v 40).toInt ∧ (v 40).toInt ≤ 20 := gV 40
  refine lv_aload_n hx hb dX11_aboard_0 rfl (lv_at hl 0 rfl) ?_
  refine lv_iload_n hx hb dX11_aboard_1 rfl (lv_at hl 1 rfl) ?_
  have hFc : ∀ q, va_A [] s.heap.size q → A q := pu_free hS hA
  refine va_calli (va_runV (As := [.int x1]) (rest := []) ⟨hx, hb, hml, hown, hts⟩ (c_X11_isVoyage l dC dI s.heap.size g0 pq cp v fa x1) (cwV 1 hts gX11_aboard_X11_isVoyage rfl rfl rfl (by decide +kernel) ⟨(Nat.le_of_ble_eq_true rfl), (Nat.le_of_ble_eq_true rfl)⟩) (pr_V (r := (RX11, TX11, 63)) hP hK hD 0 11 rfl rfl) rfl rfl hl.1 rfl (lv_room (Nat.le_of_ble_eq_true rfl)) dX11_aboard_2 ⟨(Nat.le_of_ble_eq_true rfl), (Nat.le_of_ble_eq_true rfl)⟩) hS (fun q _ h => hFc q h) hFc (fun r_4 u t H locs ht hvm w_3 hB hz1 hk1 hS => ?_)
  have hP := pu_keep hP hk1
  clear hk1 hz1 hvm hB ht hFc
  have hbr_4 : 0 ≤ r_4.toInt ∧ r_4.toInt ≤ 1 := iv_of w_3 (isI_i _ _)
  refine lv_if_eq (tgt := 17) hx hb dX11_aboard_5 (by decide) (fun c_5 => ?_) (fun c_5 => ?_)
  · have dc_5 := c_eq (a := r_4.toInt) (b := 0) rfl (by decide) c_5
    have hz_6 := isI_0 (w_3.symm.trans c_5)
    refine lv_iconst (v := (-1)) hx hb dX11_aboard_17 (by decide) ?_
    refine lv_istore (lv' := [(4, .int (-1)), (0, .ref g0), (1, .int x1), (2, .int x2), (3, .int x3)]) hx hb dX11_aboard_18 hl (by decide) rfl (fun ls hl => ?_)
    refine lv_iload hx hb dX11_aboard_20 (lv_at hl 0 rfl) ?_
    refine lv_if_eq (tgt := 34) hx hb dX11_aboard_22 (by decide) (fun c_7 => absurd c_7 (by decide)) (fun _ => ?_)
    refine lv_aload_n hx hb dX11_aboard_25 rfl (lv_at hl 1 rfl) ?_
    refine lv_iload hx hb dX11_aboard_26 (lv_at hl 0 rfl) ?_
    have hFc := va_free (wc := (mW g0 pq cp v fa)) hD hS hA (List.range 48) rfl
    refine va_calli (va_runV (As := [.int (-1)]) (rest := []) ⟨hx, hb, hml, hown, hts⟩ (c_X11_refuse_f l dC dI H.size g0 pq cp v fa (-1) (by unfold vp_in; decide)) (cwV 1 hts gX11_aboard_X11_refuse rfl rfl rfl (by decide +kernel) ⟨(Nat.le_of_ble_eq_true rfl), (Nat.le_of_ble_eq_true rfl)⟩) (pr_V (r := (RX11, TX11, 63)) hP hK hD 0 11 rfl rfl) rfl rfl hl.1 rfl (lv_room (Nat.le_of_ble_eq_true rfl)) dX11_aboard_28 ⟨(Nat.le_of_ble_eq_true rfl), (Nat.le_of_ble_eq_true rfl)⟩) hS (fun q _ h => hFc q h) hFc (fun r_9 u t H locs ht hvm w_8 hB hz1 hk1 hS => ?_)
    obtain ⟨v_10, fa_11⟩ := u
    obtain ⟨hP1, hK1, hD1⟩ := hB
    rw [ht] at hP1
    have hP : va_P (dC, dI) vwCl (mW g0 pq cp v_10 fa_11) H := hP1
    have hD : va_D A (mW g0 pq cp v_10 fa_11) := hD1.weaken (fun _ _ _ h => hFc _ h)
    clear hP1 hK1 hD1 hk1 hz1 hvm ht hFc
    obtain ⟨rfl, hs1_12⟩ := w_8
    have hVv_10 : mV v_10 := sm0_V (sm1_0 hs1_12) gV
    have hAv_10 : mA fa_11 := sm0_A (sm1_0 hs1_12) gA
    have g_13 : (v_10 38).toInt = (v 38).toInt := congrArg Int32.toInt (congrFun hs1_12.1 38)
    have g_14 : (v_10 40).toInt = (v 40).toInt := congrArg Int32.toInt (congrFun hs1_12.1 40)
    have hRv_10 : mX [0, 45, 47, 48, 49, 50, 51, 52, 53, 54, 55, 56, 57, 58, 59, 60] v fa v_10 fa_11 := mX.st mX.rf (mX.s0 (sm1_0 hs1_12)) (by decide)
    refine lv_goto (tgt := 41) hx hb dX11_aboard_31 (by decide) ?_
    exact W.iret (v := (-1)) hx hb hr (fun t ht hW => ⟨⟨(-1), (v_10, fa_11), rfl, ⟨hVv_10, hAv_10, hRv_10, ⟨by have rc : ((-1) : Int32).toInt = -1 := (by decide); unfold aSt; omega, Or.inl ⟨by unfold bSt; omega, hs1_12⟩⟩⟩, ⟨by rw [ht]; exact hP, va_K.moved hW.alike hK, hD⟩⟩, hS.F ht⟩) hS.2.2 dX11_aboard_41
  · have dc_5 := c_ne (a := r_4.toInt) (b := 0) rfl (by decide) c_5
    have hi_15 := isI_t w_3 (fun q => c_5 (Int32.toInt_inj.mp q))
    have khi_15 : (v 40).toInt ≤ 20 := (gV 40).2
    refine lv_aload_n hx hb dX11_aboard_8 rfl (lv_at hl 0 rfl) ?_
    refine lv_iload_n hx hb dX11_aboard_9 rfl (lv_at hl 2 rfl) ?_
    refine lv_iload_n hx hb dX11_aboard_10 rfl (lv_at hl 3 rfl) ?_
    have hFc : ∀ q, va_A [] H.size q → A q := pu_free hS hA
    refine va_calli (va_runV (As := [.int x2, .int x3]) (rest := []) ⟨hx, hb, hml, hown, hts⟩ (c_X11_wrongTimes_f l dC dI H.size g0 pq cp v fa gV gA x2 x3) (cwV 2 hts gX11_aboard_X11_wrongTimes rfl rfl rfl (by decide +kernel) ⟨(Nat.le_of_ble_eq_true rfl), (Nat.le_of_ble_eq_true rfl)⟩) (pr_V (r := (RX11, TX11, 63)) hP hK hD 0 11 rfl rfl) rfl rfl hl.1 rfl (lv_room (Nat.le_of_ble_eq_true rfl)) dX11_aboard_11 ⟨(Nat.le_of_ble_eq_true rfl), (Nat.le_of_ble_eq_true rfl)⟩) hS (fun q _ h => hFc q h) hFc (fun r_17 u t H locs ht hvm w_16 hB hz1 hk1 hS => ?_)
    have hP := pu_keep hP hk1
    clear hk1 hz1 hvm hB ht hFc
    obtain ⟨hb_18, hx_19⟩ := w_16
    refine lv_goto (tgt := 18) hx hb dX11_aboard_14 (by decide) ?_
    refine lv_istore (lv' := [(4, .int r_17), (0, .ref g0), (1, .int x1), (2, .int x2), (3, .int x3)]) hx hb dX11_aboard_18 hl (by decide) rfl (fun ls hl => ?_)
    refine lv_iload hx hb dX11_aboard_20 (lv_at hl 0 rfl) ?_
    refine lv_if_eq (tgt := 34) hx hb dX11_aboard_22 (by decide) (fun c_20 => ?_) (fun c_20 => ?_)
    · have dc_20 := c_eq (a := r_17.toInt) (b := 0) rfl (by decide) c_20
      refine lv_aload_n hx hb dX11_aboard_34 rfl (lv_at hl 1 rfl) ?_
      refine lv_iload_n hx hb dX11_aboard_35 rfl (lv_at hl 2 rfl) ?_
      refine lv_iload_n hx hb dX11_aboard_36 rfl (lv_at hl 3 rfl) ?_
      refine lv_iload_n hx hb dX11_aboard_37 rfl (lv_at hl 4 rfl) ?_
      have hFc := va_free (wc := (mW g0 pq cp v fa)) hD hS hA (List.range 48) rfl
      refine va_calli (va_runV (As := [.int x1, .int x2, .int x3]) (rest := []) ⟨hx, hb, hml, hown, hts⟩ (c_X11_aboardOf_f l dC dI H.size g0 pq cp v fa gV gA x1 x2 (by omega) x3 hWl) (cwV 3 hts gX11_aboard_X11_aboardOf rfl rfl rfl (by decide +kernel) ⟨(Nat.le_of_ble_eq_true rfl), (Nat.le_of_ble_eq_true rfl)⟩) (pr_V (r := (RX11, TX11, 63)) hP hK hD 0 11 rfl rfl) rfl rfl hl.1 rfl (lv_room (Nat.le_of_ble_eq_true rfl)) dX11_aboard_38 ⟨(Nat.le_of_ble_eq_true rfl), (Nat.le_of_ble_eq_true rfl)⟩) hS (fun q _ h => hFc q h) hFc (fun r_22 u t H locs ht hvm w_21 hB hz1 hk1 hS => ?_)
      obtain ⟨v_23, fa_24⟩ := u
      obtain ⟨hP1, hK1, hD1⟩ := hB
      rw [ht] at hP1
      have hP : va_P (dC, dI) vwCl (mW g0 pq cp v_23 fa_24) H := hP1
      have hD : va_D A (mW g0 pq cp v_23 fa_24) := hD1.weaken (fun _ _ _ h => hFc _ h)
      clear hP1 hK1 hD1 hk1 hz1 hvm ht hFc
      obtain ⟨hV_25, hA_26, hR_27, hb_28, hx_29⟩ := w_21
      dsimp only at hV_25 hA_26 hR_27 hb_28 hx_29
      have g_30 : (v_23 38).toInt = (v 38).toInt := congrArg Int32.toInt (hR_27.1 38 rfl)
      have g_31 : (v_23 40).toInt = (v 40).toInt := congrArg Int32.toInt (hR_27.1 40 rfl)
      have R_32 : mX [0, 45, 47, 48, 49, 50, 51, 52, 53, 54, 55, 56, 57, 58, 59, 60] v fa v_23 fa_24 := mX.st mX.rf (mX.scr hR_27) (by decide)
      have sc_33 := scr.tr scr.rf hR_27
      have q0_34 : fa_24 0 = fa 0 := (hR_27.2 0 rfl).trans rfl
      exact W.iret (v := r_22) hx hb hr (fun t ht hW => ⟨⟨r_22, (v_23, fa_24), rfl, ⟨hV_25, hA_26, R_32, ⟨by unfold aSt; omega, Or.inr ⟨by unfold bSt; omega, (by dsimp only; exact q0_34)⟩⟩⟩, ⟨by rw [ht]; exact hP, va_K.moved hW.alike hK, hD⟩⟩, hS.F ht⟩) hS.2.2 dX11_aboard_41
    · have dc_20 := c_ne (a := r_17.toInt) (b := 0) rfl (by decide) c_20
      refine lv_aload_n hx hb dX11_aboard_25 rfl (lv_at hl 1 rfl) ?_
      refine lv_iload hx hb dX11_aboard_26 (lv_at hl 0 rfl) ?_
      have hFc := va_free (wc := (mW g0 pq cp v fa)) hD hS hA (List.range 48) rfl
      refine va_calli (va_runV (As := [.int r_17]) (rest := []) ⟨hx, hb, hml, hown, hts⟩ (c_X11_refuse_f l dC dI H.size g0 pq cp v fa r_17 (by apply vp_in_iff.mpr; rw [ng_i (x := r_17) rfl (by omega) (by omega)]; omega)) (cwV 1 hts gX11_aboard_X11_refuse rfl rfl rfl (by decide +kernel) ⟨(Nat.le_of_ble_eq_true rfl), (Nat.le_of_ble_eq_true rfl)⟩) (pr_V (r := (RX11, TX11, 63)) hP hK hD 0 11 rfl rfl) rfl rfl hl.1 rfl (lv_room (Nat.le_of_ble_eq_true rfl)) dX11_aboard_28 ⟨(Nat.le_of_ble_eq_true rfl), (Nat.le_of_ble_eq_true rfl)⟩) hS (fun q _ h => hFc q h) hFc (fun r_36 u t H locs ht hvm w_35 hB hz1 hk1 hS => ?_)
      obtain ⟨v_37, fa_38⟩ := u
      obtain ⟨hP1, hK1, hD1⟩ := hB
      rw [ht] at hP1
      have hP : va_P (dC, dI) vwCl (mW g0 pq cp v_37 fa_38) H := hP1
      have hD : va_D A (mW g0 pq cp v_37 fa_38) := hD1.weaken (fun _ _ _ h => hFc _ h)
      clear hP1 hK1 hD1 hk1 hz1 hvm ht hFc
      obtain ⟨err_36, hs1_39⟩ := w_35
      have hVv_37 : mV v_37 := sm0_V (sm1_0 hs1_39) gV
      have hAv_37 : mA fa_38 := sm0_A (sm1_0 hs1_39) gA
      have g_40 : (v_37 38).toInt = (v 38).toInt := congrArg Int32.toInt (congrFun hs1_39.1 38)
      have g_41 : (v_37 40).toInt = (v 40).toInt := congrArg Int32.toInt (congrFun hs1_39.1 40)
      have hRv_37 : mX [0, 45, 47, 48, 49, 50, 51, 52, 53, 54, 55, 56, 57, 58, 59, 60] v fa v_37 fa_38 := mX.st mX.rf (mX.s0 (sm1_0 hs1_39)) (by decide)
      refine lv_goto (tgt := 41) hx hb dX11_aboard_31 (by decide) ?_
      exact W.iret (v := r_36) hx hb hr (fun t ht hW => ⟨⟨r_36, (v_37, fa_38), rfl, ⟨hVv_37, hAv_37, hRv_37, ⟨by have e9 := congrArg Int32.toInt err_36; unfold aSt; omega, Or.inl ⟨by have e9 := congrArg Int32.toInt err_36; unfold bSt; omega, by rw [err_36]; exact hs1_39⟩⟩⟩, ⟨by rw [ht]; exact hP, va_K.moved hW.alike hK, hD⟩⟩, hS.F ht⟩) hS.2.2 dX11_aboard_41
