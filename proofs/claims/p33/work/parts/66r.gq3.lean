


def sdA (ng a nf i k now r : Int) : Prop := (¬ (0 ≤ a ∧ a < ng ∧ 0 ≤ i ∧ i < nf) ∧ r = -1) ∨ ((0 ≤ a ∧ a < ng ∧ 0 ≤ i ∧ i < nf) ∧ k < 0 ∧ r = -4) ∨ ((0 ≤ a ∧ a < ng ∧ 0 ≤ i ∧ i < nf) ∧ 0 ≤ k ∧ now < k ∧ r = -6) ∨ ((0 ≤ a ∧ a < ng ∧ 0 ≤ i ∧ i < nf) ∧ 0 ≤ k ∧ k ≤ now)
def sdB (ng a nf i k now : Int) : Prop := ¬ (0 ≤ a ∧ a < ng ∧ 0 ≤ i ∧ i < nf) ∨ k < 0 ∨ now < k
def crA (n w r : Int) : Prop := (n < 0 ∧ r = -4) ∨ (80 < n ∧ r = -6) ∨ (0 ≤ n ∧ n ≤ 80 ∧ ¬ (0 ≤ w ∧ w < 9) ∧ r = -2) ∨ (0 ≤ n ∧ n ≤ 80 ∧ 0 ≤ w ∧ w < 9)
def crB (n w : Int) : Prop := n < 0 ∨ 80 < n ∨ ¬ (0 ≤ w ∧ w < 9)
set_option maxHeartbeats 4000000 in
set_option maxRecDepth 100000 in
theorem c_X11_stands_f (l : Launch) (dC : Nat → ClassId) (dI : Nat → Nat → Nat) (sz : Nat) (g0 : Nat) (pq : Nat → Nat) (cp : Nat → ClassId) (v : Nat → Int32) (fa : Nat → Nat → Int32) (gV : mV v) (gA : mA fa) (x1 : Int32) (x2 : Int32) (x3 : Int32) (hWl : wlA v fa) : Met l yX11_stands wsX11_stands ({ frames := 26, cells := 0, slots := 0, locals := 611 }) (va_Pc [.ref g0, .int x1, .int x2, .int x3] (pcW (dC, dI) (mT cp) (mW g0 pq cp v fa) sz)) (va_Qi (fun (r : Int32) (u : (Nat → Int32) × (Nat → Nat → Int32)) => mV u.1 ∧ mA u.2 ∧ mX [0, 45, 47, 48, 49, 50, 51, 52, 53, 54, 55, 56, 57, 58, 59, 60] v fa u.1 u.2 ∧ (sdA (v 43).toInt x1.toInt (fa 30 x1.toNatClampNeg).toInt x2.toInt x3.toInt (v 38).toInt r.toInt ∧ rZr v fa u r (sdB (v 43).toInt x1.toInt (fa 30 x1.toNatClampNeg).toInt x2.toInt x3.toInt (v 38).toInt))) (fun u t => va_P (dC, dI) vwCl (mW g0 pq cp u.1 u.2) t.heap ∧ va_K (dC, dI) vwCl (mT cp) t ∧ va_D (va_A (mW g0 pq cp v fa) sz) (mW g0 pq cp u.1 u.2)) (va_A (mW g0 pq cp v fa) sz)) 0 0 (va_A (mW g0 pq cp v fa) sz) := by
  refine Met.ofW (cc := cX11_stands) (maxL := 4) (ret := (some .int)) (by decide) rfl ?_
  intro p e s m args below meth c s₁ B hml hv
  obtain ⟨rfl, hsz, hP, hK, hD0⟩ := hv
  have hx := B.exec
  have hb := B.bytes
  have hr := B.returns
  have hts := atoms_spec (ws := wsX11_stands) B.pre
  have hown : s.vm.findClass RX11 = some m.cls := findClass_of_methodNamed B.named
  have hlocks := B.notSynchronized
  subst hsz
  have hD := hD0.self (sz := s.heap.size)
  generalize hAe : va_A (mW g0 pq cp v fa) s.heap.size = A at hD ⊢
  have hA : ∀ q : Nat, s.heap.size ≤ q → A q := fun q h => by rw [← hAe]; exact Or.inr h
  have hS : va_S A s.heap s.heap [] := va_S.rf
  have hP : va_P (dC, dI) vwCl (mW g0 pq cp v fa) s.heap := hP
  have hl := lv_entry ([.ref g0, .int x1, .int x2, .int x3]) (n := 4) (Nat.le_of_ble_eq_true rfl)
  rw [lg_entry_eq]
  generalize (lg_sl ([.ref g0, .int x1, .int x2, .int x3]) ++ List.replicate (4 - (lg_sl ([.ref g0, .int x1, .int x2, .int x3])).length) Slot.unset).toArray = ls at hl ⊢
  have hl : lv_has ls 4 [(0, .ref g0), (1, .int x1), (2, .int x2), (3, .int x3)] := hl
  have iv_1 : 0 ≤ (v 38).toInt ∧ (v 38).toInt ≤ 3000 := gV 38
  have iv_2 : 0 ≤ (v 43).toInt ∧ (v 43).toInt ≤ 60 := gV 43
  refine lv_aload_n hx hb dX11_stands_0 rfl (lv_at hl 0 rfl) ?_
  refine lv_iload_n hx hb dX11_stands_1 rfl (lv_at hl 1 rfl) ?_
  refine lv_iload_n hx hb dX11_stands_2 rfl (lv_at hl 2 rfl) ?_
  have hFc : ∀ q, va_A [] s.heap.size q → A q := pu_free hS hA
  refine va_calli (va_runV (As := [.int x1, .int x2]) (rest := []) ⟨hx, hb, hml, hown, hts⟩ (c_X11_isFine_f l dC dI s.heap.size g0 pq cp v fa gV gA x1 x2) (cwV 2 hts gX11_stands_X11_isFine rfl rfl rfl (by decide +kernel) ⟨(Nat.le_of_ble_eq_true rfl), (Nat.le_of_ble_eq_true rfl)⟩) (pr_V (r := (RX11, TX11, 63)) hP hK hD 0 11 rfl rfl) rfl rfl hl.1 rfl (lv_room (Nat.le_of_ble_eq_true rfl)) dX11_stands_3 ⟨(Nat.le_of_ble_eq_true rfl), (Nat.le_of_ble_eq_true rfl)⟩) hS (fun q _ h => hFc q h) hFc (fun r_4 u t H locs ht hvm w_3 hB hz1 hk1 hS => ?_)
  have hP := pu_keep hP hk1
  clear hk1 hz1 hvm hB ht hFc
  obtain ⟨hb_5, hx_6⟩ := w_3
  refine lv_if_ne (tgt := 15) hx hb dX11_stands_6 (by decide) (fun c_7 => ?_) (fun c_7 => ?_)
  · have dc_7 := c_ne (a := r_4.toInt) (b := 0) rfl (by decide) c_7
    have fbA : (v 43).toInt ≤ 60 := (gV 43).2
    have fbF : (fa 30 x1.toNatClampNeg).toInt ≤ 6 := (gA 30 _).2
    refine lv_iload_n hx hb dX11_stands_15 rfl (lv_at hl 3 rfl) ?_
    refine lv_if_ge (tgt := 26) hx hb dX11_stands_16 (by decide) (fun c_8 => ?_) (fun c_8 => ?_)
    · have dc_8 := c_le (a := 0) (b := x3.toInt) (by decide) rfl c_8
      refine lv_iload_n hx hb dX11_stands_26 rfl (lv_at hl 3 rfl) ?_
      refine lv_aload_n hx hb dX11_stands_27 rfl (lv_at hl 0 rfl) ?_
      refine va_get (D := (dC, dI)) (ci := 11) (v := .int (v 38)) (C := RX11) (T := TX11) (N := 63) hx hb hts in_wsX11_stands_X11 hown hK hP 0 rfl rfl 38 (by decide) (hts (.fieldLink RX11 171 "ShipOfficeModel" "now" "I") iw_X11_stands_1) (fun _ h9 => h9) rfl dX11_stands_28 ?_
      refine lv_topi (fun x_9 ex_9 => ?_)
      have hx_9 : 0 ≤ x_9.toInt ∧ x_9.toInt ≤ 3000 := iv_of ex_9 (gV 38)
      have gx_9 : x_9.toInt = (v 38).toInt := iv_to ex_9
      clear ex_9
      refine lv_icmp_le (tgt := 43) hx hb dX11_stands_31 (by decide) (fun c_10 => ?_) (fun c_10 => ?_)
      · have dc_10 := c_le (a := x3.toInt) (b := x_9.toInt) rfl rfl c_10
        refine lv_aload_n hx hb dX11_stands_43 rfl (lv_at hl 0 rfl) ?_
        refine lv_iload_n hx hb dX11_stands_44 rfl (lv_at hl 1 rfl) ?_
        refine lv_iload_n hx hb dX11_stands_45 rfl (lv_at hl 2 rfl) ?_
        refine lv_iload_n hx hb dX11_stands_46 rfl (lv_at hl 3 rfl) ?_
        have hFc := va_free (wc := (mW g0 pq cp v fa)) hD hS hA (List.range 48) rfl
        refine va_calli (va_runV (As := [.int x1, .int x2, .int x3]) (rest := []) ⟨hx, hb, hml, hown, hts⟩ (c_X11_standsOf_f l dC dI H.size g0 pq cp v fa gV gA x1 (by omega) x2 (by omega) x3 hWl) (cwV 3 hts gX11_stands_X11_standsOf rfl rfl rfl (by decide +kernel) ⟨(Nat.le_of_ble_eq_true rfl), (Nat.le_of_ble_eq_true rfl)⟩) (pr_V (r := (RX11, TX11, 63)) hP hK hD 0 11 rfl rfl) rfl rfl hl.1 rfl (lv_room (Nat.le_of_ble_eq_true rfl)) dX11_stands_47 ⟨(Nat.le_of_ble_eq_true rfl), (Nat.le_of_ble_eq_true rfl)⟩) hS (fun q _ h => hFc q h) hFc (fun r_12 u t H locs ht hvm w_11 hB hz1 hk1 hS => ?_)
        obtain ⟨v_13, fa_14⟩ := u
        obtain ⟨hP1, hK1, hD1⟩ := hB
        rw [ht] at hP1
        have hP : va_P (dC, dI) vwCl (mW g0 pq cp v_13 fa_14) H := hP1
        have hD : va_D A (mW g0 pq cp v_13 fa_14) := hD1.weaken (fun _ _ _ h => hFc _ h)
        clear hP1 hK1 hD1 hk1 hz1 hvm ht hFc
        obtain ⟨hV_15, hA_16, hR_17, hx_18⟩ := w_11
        dsimp only at hV_15 hA_16 hR_17 hx_18
        have g_19 : (v_13 38).toInt = (v 38).toInt := congrArg Int32.toInt (hR_17.1 38 rfl)
        have g_20 : (v_13 43).toInt = (v 43).toInt := congrArg Int32.toInt (hR_17.1 43 rfl)
        have R_21 : mX [0, 45, 47, 48, 49, 50, 51, 52, 53, 54, 55, 56, 57, 58, 59, 60] v fa v_13 fa_14 := mX.st mX.rf (mX.scr hR_17) (by decide)
        have sc_22 := scr.tr scr.rf hR_17
        have q0_23 : fa_14 0 = fa 0 := (hR_17.2 0 rfl).trans rfl
        exact W.iret (v := r_12) hx hb hr (fun t ht hW => ⟨⟨r_12, (v_13, fa_14), rfl, ⟨hV_15, hA_16, R_21, ⟨by unfold sdA; omega, (Or.inr ⟨by unfold sdB; omega, (by first | exact q0_23 | (dsimp only; exact q0_23))⟩)⟩⟩, ⟨by rw [ht]; exact hP, va_K.moved hW.alike hK, hD⟩⟩, hS.F ht⟩) hS.2.2 dX11_stands_50
      · have dc_10 := c_nle (a := x3.toInt) (b := x_9.toInt) rfl rfl c_10
        refine lv_aload_n hx hb dX11_stands_34 rfl (lv_at hl 0 rfl) ?_
        refine lv_bipush (v := (-6)) hx hb dX11_stands_35 (by decide) ?_
        have hFc := va_free (wc := (mW g0 pq cp v fa)) hD hS hA (List.range 48) rfl
        refine va_calli (va_runV (As := [.int (-6)]) (rest := []) ⟨hx, hb, hml, hown, hts⟩ (c_X11_refuse_f l dC dI H.size g0 pq cp v fa (-6) (by unfold vp_in; decide)) (cwV 1 hts gX11_stands_X11_refuse rfl rfl rfl (by decide +kernel) ⟨(Nat.le_of_ble_eq_true rfl), (Nat.le_of_ble_eq_true rfl)⟩) (pr_V (r := (RX11, TX11, 63)) hP hK hD 0 11 rfl rfl) rfl rfl hl.1 rfl (lv_room (Nat.le_of_ble_eq_true rfl)) dX11_stands_37 ⟨(Nat.le_of_ble_eq_true rfl), (Nat.le_of_ble_eq_true rfl)⟩) hS (fun q _ h => hFc q h) hFc (fun r_25 u t H locs ht hvm w_24 hB hz1 hk1 hS => ?_)
        obtain ⟨v_26, fa_27⟩ := u
        obtain ⟨hP1, hK1, hD1⟩ := hB
        rw [ht] at hP1
        have hP : va_P (dC, dI) vwCl (mW g0 pq cp v_26 fa_27) H := hP1
        have hD : va_D A (mW g0 pq cp v_26 fa_27) := hD1.weaken (fun _ _ _ h => hFc _ h)
        clear hP1 hK1 hD1 hk1 hz1 hvm ht hFc
        obtain ⟨rfl, hs1_28⟩ := w_24
        have hVv_26 : mV v_26 := sm0_V (sm1_0 hs1_28) gV
        have hAv_26 : mA fa_27 := sm0_A (sm1_0 hs1_28) gA
        have g_29 : (v_26 38).toInt = (v 38).toInt := congrArg Int32.toInt (congrFun hs1_28.1 38)
        have g_30 : (v_26 43).toInt = (v 43).toInt := congrArg Int32.toInt (congrFun hs1_28.1 43)
        have hRv_26 : mX [0, 45, 47, 48, 49, 50, 51, 52, 53, 54, 55, 56, 57, 58, 59, 60] v fa v_26 fa_27 := mX.st mX.rf (mX.s0 (sm1_0 hs1_28)) (by decide)
        refine lv_goto (tgt := 50) hx hb dX11_stands_40 (by decide) ?_
        exact W.iret (v := (-6)) hx hb hr (fun t ht hW => ⟨⟨(-6), (v_26, fa_27), rfl, ⟨hVv_26, hAv_26, hRv_26, ⟨by have rc : ((-6) : Int32).toInt = -6 := (by decide); unfold sdA; omega, (Or.inl ⟨by have rc : ((-6) : Int32).toInt = -6 := (by decide); unfold sdB; omega, sm2_1 hs1_28⟩)⟩⟩, ⟨by rw [ht]; exact hP, va_K.moved hW.alike hK, hD⟩⟩, hS.F ht⟩) hS.2.2 dX11_stands_50
    · have dc_8 := c_nle (a := 0) (b := x3.toInt) (by decide) rfl c_8
      refine lv_aload_n hx hb dX11_stands_19 rfl (lv_at hl 0 rfl) ?_
      refine lv_bipush (v := (-4)) hx hb dX11_stands_20 (by decide) ?_
      have hFc := va_free (wc := (mW g0 pq cp v fa)) hD hS hA (List.range 48) rfl
      refine va_calli (va_runV (As := [.int (-4)]) (rest := []) ⟨hx, hb, hml, hown, hts⟩ (c_X11_refuse_f l dC dI H.size g0 pq cp v fa (-4) (by unfold vp_in; decide)) (cwV 1 hts gX11_stands_X11_refuse rfl rfl rfl (by decide +kernel) ⟨(Nat.le_of_ble_eq_true rfl), (Nat.le_of_ble_eq_true rfl)⟩) (pr_V (r := (RX11, TX11, 63)) hP hK hD 0 11 rfl rfl) rfl rfl hl.1 rfl (lv_room (Nat.le_of_ble_eq_true rfl)) dX11_stands_22 ⟨(Nat.le_of_ble_eq_true rfl), (Nat.le_of_ble_eq_true rfl)⟩) hS (fun q _ h => hFc q h) hFc (fun r_32 u t H locs ht hvm w_31 hB hz1 hk1 hS => ?_)
      obtain ⟨v_33, fa_34⟩ := u
      obtain ⟨hP1, hK1, hD1⟩ := hB
      rw [ht] at hP1
      have hP : va_P (dC, dI) vwCl (mW g0 pq cp v_33 fa_34) H := hP1
      have hD : va_D A (mW g0 pq cp v_33 fa_34) := hD1.weaken (fun _ _ _ h => hFc _ h)
      clear hP1 hK1 hD1 hk1 hz1 hvm ht hFc
      obtain ⟨rfl, hs1_35⟩ := w_31
      have hVv_33 : mV v_33 := sm0_V (sm1_0 hs1_35) gV
      have hAv_33 : mA fa_34 := sm0_A (sm1_0 hs1_35) gA
      have g_36 : (v_33 38).toInt = (v 38).toInt := congrArg Int32.toInt (congrFun hs1_35.1 38)
      have g_37 : (v_33 43).toInt = (v 43).toInt := congrArg Int32.toInt (congrFun hs1_35.1 43)
      have hRv_33 : mX [0, 45, 47, 48, 49, 50, 51, 52, 53, 54, 55, 56, 57, 58, 59, 60] v fa v_33 fa_34 := mX.st mX.rf (mX.s0 (sm1_0 hs1_35)) (by decide)
      exact W.iret (v := (-4)) hx hb hr (fun t ht hW => ⟨⟨(-4), (v_33, fa_34), rfl, ⟨hVv_33, hAv_33, hRv_33, ⟨by have rc : ((-4) : Int32).toInt = -4 := (by decide); unfold sdA; omega, (Or.inl ⟨by have rc : ((-4) : Int32).toInt = -4 := (by decide); unfold sdB; omega, sm2_1 hs1_35⟩)⟩⟩, ⟨by rw [ht]; exact hP, va_K.moved hW.alike hK, hD⟩⟩, hS.F ht⟩) hS.2.2 dX11_stands_25
  · have dc_7 := c_eq (a := r_4.toInt) (b := 0) rfl (by decide) c_7
    refine lv_aload_n hx hb dX11_stands_9 rfl (lv_at hl 0 rfl) ?_
    refine lv_iconst (v := (-1)) hx hb dX11_stands_10 (by decide) ?_
    have hFc := va_free (wc := (mW g0 pq cp v fa)) hD hS hA (List.range 48) rfl
    refine va_calli (va_runV (As := [.int (-1)]) (rest := []) ⟨hx, hb, hml, hown, hts⟩ (c_X11_refuse_f l dC dI H.size g0 pq cp v fa (-1) (by unfold vp_in; decide)) (cwV 1 hts gX11_stands_X11_refuse rfl rfl rfl (by decide +kernel) ⟨(Nat.le_of_ble_eq_true rfl), (Nat.le_of_ble_eq_true rfl)⟩) (pr_V (r := (RX11, TX11, 63)) hP hK hD 0 11 rfl rfl) rfl rfl hl.1 rfl (lv_room (Nat.le_of_ble_eq_true rfl)) dX11_stands_11 ⟨(Nat.le_of_ble_eq_true rfl), (Nat.le_of_ble_eq_true rfl)⟩) hS (fun q _ h => hFc q h) hFc (fun r_39 u t H locs ht hvm w_38 hB hz1 hk1 hS => ?_)
    obtain ⟨v_40, fa_41⟩ := u
    obtain ⟨hP1, hK1, hD1⟩ := hB
    rw [ht] at hP1
    have hP : va_P (dC, dI) vwCl (mW g0 pq cp v_40 fa_41) H := hP1
    have hD : va_D A (mW g0 pq cp v_40 fa_41) := hD1.weaken (fun _ _ _ h => hFc _ h)
    clear hP1 hK1 hD1 hk1 hz1 hvm ht hFc
    obtain ⟨rfl, hs1_42⟩ := w_38
    have hVv_40 : mV v_40 := sm0_V (sm1_0 hs1_42) gV
    have hAv_40 : mA fa_41 := sm0_A (sm1_0 hs1_42) gA
    have g_43 : (v_40 38).toInt = (v 38).toInt := congrArg Int32.toInt (congrFun hs1_42.1 38)
    have g_44 : (v_40 43).toInt = (v 43).toInt := congrArg Int32.toInt (congrFun hs1_42.1 43)
    have hRv_40 : mX [0, 45, 47, 48, 49, 50, 51, 52, 53, 54, 55, 56, 57, 58, 59, 60] v fa v_40 fa_41 := mX.st mX.rf (mX.s0 (sm1_0 hs1_42)) (by decide)
    exact W.iret (v := (-1)) hx hb hr (fun t ht hW => ⟨⟨(-1), (v_40, fa_41), rfl, ⟨hVv_40, hAv_40, hRv_40, ⟨by have rc : ((-1) : Int32).toInt = -1 := (by decide); unfold sdA; omega, (Or.inl ⟨by have rc : ((-1) : Int32).toInt = -1 := (by decide); unfold sdB; omega, sm2_1 hs1_42⟩)⟩⟩, ⟨by rw [ht]; exact hP, va_K.moved hW.alike hK, hD⟩⟩, hS.F ht⟩) hS.2.2 dX11_stands_14
set_option maxHeartbeats 4000000 in
set_option maxRecDepth 100000 in
theorem c_X11_ask_r (l : Launch) (dC : Nat → ClassId) (dI : Nat → Nat → Nat) (sz : Nat) (g0 : Nat) (pq : Nat → Nat) (cp : Nat → ClassId) (v : Nat → Int32) (fa : Nat → Nat → Int32) (gV : mV v) (gA : mA fa) (x1 : Int32) (x2 : Int32) (x3 : Int32) : Met l yX11_ask wsX11_ask ({ frames := 2, cells := 0, slots := 0, locals := 42 }) (va_Pc [.ref g0, .int x1, .int x2, .int x3] (pcW (dC, dI) (mT cp) (mW g0 pq cp v fa) sz)) (va_Qi (fun (r : Int32) (u : (Nat → Int32) × (Nat → Nat → Int32)) => mV u.1 ∧ mA u.2 ∧ mX [0, 5] v fa u.1 u.2 ∧ (gar (v 39).toInt (fa 5) x1 x2 x3 r (u.2 5) ∧ rZr v fa u r (¬ gaok (v 39).toInt x1.toInt x2.toInt x3.toInt))) (fun u t => va_P (dC, dI) vwCl (mW g0 pq cp u.1 u.2) t.heap ∧ va_K (dC, dI) vwCl (mT cp) t ∧ va_D (va_A (mW g0 pq cp v fa) sz) (mW g0 pq cp u.1 u.2)) (va_A (mW g0 pq cp v fa) sz)) 0 0 (va_A (mW g0 pq cp v fa) sz) := by
  refine Met.ofW (cc := cX11_ask) (maxL := 5) (ret := (some .int)) (by decide) rfl ?_
  intro p e s m args below meth c s₁ B hml hv
  obtain ⟨rfl, hsz, hP, hK, hD0⟩ := hv
  have hx := B.exec
  have hb := B.bytes
  have hr := B.returns
  have hts := atoms_spec (ws := wsX11_ask) B.pre
  have hown : s.vm.findClass RX11 = some m.cls := findClass_of_methodNamed B.named
  have hlocks := B.notSynchronized
  subst hsz
  have hD := hD0.self (sz := s.heap.size)
  generalize hAe : va_A (mW g0 pq cp v fa) s.heap.size = A at hD ⊢
  have hA : ∀ q : Nat, s.heap.size ≤ q → A q := fun q h => by rw [← hAe]; exact Or.inr h
  have hS : va_S A s.heap s.heap [] := va_S.rf
  have hP : va_P (dC, dI) vwCl (mW g0 pq cp v fa) s.heap := hP
  have hl := lv_entry ([.ref g0, .int x1, .int x2, .int x3]) (n := 5) (Nat.le_of_ble_eq_true rfl)
  rw [lg_entry_eq]
  generalize (lg_sl ([.ref g0, .int x1, .int x2, .int x3]) ++ List.replicate (5 - (lg_sl ([.ref g0, .int x1, .int x2, .int x3])).length) Slot.unset).toArray = ls at hl ⊢
  have hl : lv_has ls 5 [(0, .ref g0), (1, .int x1), (2, .int x2), (3, .int x3)] := hl
  have iv_1 : 0 ≤ (v 39).toInt ∧ (v 39).toInt ≤ 40 := gV 39
  refine lv_aload_n hx hb dX11_ask_0 rfl (lv_at hl 0 rfl) ?_
  refine lv_iload_n hx hb dX11_ask_1 rfl (lv_at hl 1 rfl) ?_
  have hFc : ∀ q, va_A [] s.heap.size q → A q := pu_free hS hA
  refine va_calli (va_runV (As := [.int x1]) (rest := []) ⟨hx, hb, hml, hown, hts⟩ (c_X11_isMan l dC dI s.heap.size g0 pq cp v fa x1) (cwV 1 hts gX11_ask_X11_isMan rfl rfl rfl (by decide +kernel) ⟨(Nat.le_of_ble_eq_true rfl), (Nat.le_of_ble_eq_true rfl)⟩) (pr_V (r := (RX11, TX11, 63)) hP hK hD 0 11 rfl rfl) rfl rfl hl.1 rfl (lv_room (Nat.le_of_ble_eq_true rfl)) dX11_ask_2 ⟨(Nat.le_of_ble_eq_true rfl), (Nat.le_of_ble_eq_true rfl)⟩) hS (fun q _ h => hFc q h) hFc (fun r_3 u t H locs ht hvm w_2 hB hz1 hk1 hS => ?_)
  have hP := pu_keep hP hk1
  clear hk1 hz1 hvm hB ht hFc
  have hbr_3 : 0 ≤ r_3.toInt ∧ r_3.toInt ≤ 1 := iv_of w_2 (isI_i _ _)
  refine lv_if_ne (tgt := 14) hx hb dX11_ask_5 (by decide) (fun c_4 => ?_) (fun c_4 => ?_)
  · have dc_4 := c_ne (a := r_3.toInt) (b := 0) rfl (by decide) c_4
    have hi_5 := isI_t w_2 (fun q => c_4 (Int32.toInt_inj.mp q))
    have khi_5 : (v 39).toInt ≤ 40 := (gV 39).2
    refine lv_iload_n hx hb dX11_ask_14 rfl (lv_at hl 2 rfl) ?_
    refine lv_if_lt (tgt := 22) hx hb dX11_ask_15 (by decide) (fun c_6 => ?_) (fun c_6 => ?_)
    · have dc_6 := c_lt (a := x2.toInt) (b := 0) rfl (by decide) c_6
      refine lv_aload_n hx hb dX11_ask_22 rfl (lv_at hl 0 rfl) ?_
      refine lv_bipush (v := (-4)) hx hb dX11_ask_23 (by decide) ?_
      have hFc := va_free (wc := (mW g0 pq cp v fa)) hD hS hA (List.range 48) rfl
      refine va_calli (va_runV (As := [.int (-4)]) (rest := []) ⟨hx, hb, hml, hown, hts⟩ (c_X11_refuse_f l dC dI H.size g0 pq cp v fa (-4) (by unfold vp_in; decide)) (cwV 1 hts gX11_ask_X11_refuse rfl rfl rfl (by decide +kernel) ⟨(Nat.le_of_ble_eq_true rfl), (Nat.le_of_ble_eq_true rfl)⟩) (pr_V (r := (RX11, TX11, 63)) hP hK hD 0 11 rfl rfl) rfl rfl hl.1 rfl (lv_room (Nat.le_of_ble_eq_true rfl)) dX11_ask_25 ⟨(Nat.le_of_ble_eq_true rfl), (Nat.le_of_ble_eq_true rfl)⟩) hS (fun q _ h => hFc q h) hFc (fun r_8 u t H locs ht hvm w_7 hB hz1 hk1 hS => ?_)
      obtain ⟨v_9, fa_10⟩ := u
      obtain ⟨hP1, hK1, hD1⟩ := hB
      rw [ht] at hP1
      have hP : va_P (dC, dI) vwCl (mW g0 pq cp v_9 fa_10) H := hP1
      have hD : va_D A (mW g0 pq cp v_9 fa_10) := hD1.weaken (fun _ _ _ h => hFc _ h)
      clear hP1 hK1 hD1 hk1 hz1 hvm ht hFc
      obtain ⟨rfl, hs1_11⟩ := w_7
      have hVv_9 : mV v_9 := sm0_V (sm1_0 hs1_11) gV
      have hAv_9 : mA fa_10 := sm0_A (sm1_0 hs1_11) gA
      have g_12 : (v_9 39).toInt = (v 39).toInt := congrArg Int32.toInt (congrFun hs1_11.1 39)
      have hRv_9 : mX [0, 5] v fa v_9 fa_10 := mX.st mX.rf (mX.s0 (sm1_0 hs1_11)) (by decide)
      exact W.iret (v := (-4)) hx hb hr (fun t ht hW => ⟨⟨(-4), (v_9, fa_10), rfl, ⟨hVv_9, hAv_9, hRv_9, ⟨Or.inl ⟨by have rc : ((-4) : Int32).toInt = -4 := (by decide); unfold gao; omega, (sm1_0 hs1_11).2 5 (by decide)⟩, (Or.inl ⟨by have rc : ((-4) : Int32).toInt = -4 := (by decide); unfold gaok; omega, sm2_1 hs1_11⟩)⟩⟩, ⟨by rw [ht]; exact hP, va_K.moved hW.alike hK, hD⟩⟩, hS.F ht⟩) hS.2.2 dX11_ask_28
    · have dc_6 := c_nlt (a := x2.toInt) (b := 0) rfl (by decide) c_6
      refine lv_iload_n hx hb dX11_ask_18 rfl (lv_at hl 3 rfl) ?_
      refine lv_if_ge (tgt := 29) hx hb dX11_ask_19 (by decide) (fun c_13 => ?_) (fun c_13 => ?_)
      · have dc_13 := c_le (a := 0) (b := x3.toInt) (by decide) rfl c_13
        refine lv_iload_n hx hb dX11_ask_29 rfl (lv_at hl 2 rfl) ?_
        refine lv_iconst (v := 3) hx hb dX11_ask_30 (by decide) ?_
        refine lv_icmp_gt (tgt := 41) hx hb dX11_ask_31 (by decide) (fun c_14 => ?_) (fun c_14 => ?_)
        · have dc_14 := c_lt (a := 3) (b := x2.toInt) (by decide) rfl c_14
          refine lv_aload_n hx hb dX11_ask_41 rfl (lv_at hl 0 rfl) ?_
          refine lv_bipush (v := (-6)) hx hb dX11_ask_42 (by decide) ?_
          have hFc := va_free (wc := (mW g0 pq cp v fa)) hD hS hA (List.range 48) rfl
          refine va_calli (va_runV (As := [.int (-6)]) (rest := []) ⟨hx, hb, hml, hown, hts⟩ (c_X11_refuse_f l dC dI H.size g0 pq cp v fa (-6) (by unfold vp_in; decide)) (cwV 1 hts gX11_ask_X11_refuse rfl rfl rfl (by decide +kernel) ⟨(Nat.le_of_ble_eq_true rfl), (Nat.le_of_ble_eq_true rfl)⟩) (pr_V (r := (RX11, TX11, 63)) hP hK hD 0 11 rfl rfl) rfl rfl hl.1 rfl (lv_room (Nat.le_of_ble_eq_true rfl)) dX11_ask_44 ⟨(Nat.le_of_ble_eq_true rfl), (Nat.le_of_ble_eq_true rfl)⟩) hS (fun q _ h => hFc q h) hFc (fun r_16 u t H locs ht hvm w_15 hB hz1 hk1 hS => ?_)
          obtain ⟨v_17, fa_18⟩ := u
          obtain ⟨hP1, hK1, hD1⟩ := hB
          rw [ht] at hP1
          have hP : va_P (dC, dI) vwCl (mW g0 pq cp v_17 fa_18) H := hP1
          have hD : va_D A (mW g0 pq cp v_17 fa_18) := hD1.weaken (fun _ _ _ h => hFc _ h)
          clear hP1 hK1 hD1 hk1 hz1 hvm ht hFc
          obtain ⟨rfl, hs1_19⟩ := w_15
          have hVv_17 : mV v_17 := sm0_V (sm1_0 hs1_19) gV
          have hAv_17 : mA fa_18 := sm0_A (sm1_0 hs1_19) gA
          have g_20 : (v_17 39).toInt = (v 39).toInt := congrArg Int32.toInt (congrFun hs1_19.1 39)
          have hRv_17 : mX [0, 5] v fa v_17 fa_18 := mX.st mX.rf (mX.s0 (sm1_0 hs1_19)) (by decide)
          exact W.iret (v := (-6)) hx hb hr (fun t ht hW => ⟨⟨(-6), (v_17, fa_18), rfl, ⟨hVv_17, hAv_17, hRv_17, ⟨Or.inl ⟨by have rc : ((-6) : Int32).toInt = -6 := (by decide); unfold gao; omega, (sm1_0 hs1_19).2 5 (by decide)⟩, (Or.inl ⟨by have rc : ((-6) : Int32).toInt = -6 := (by decide); unfold gaok; omega, sm2_1 hs1_19⟩)⟩⟩, ⟨by rw [ht]; exact hP, va_K.moved hW.alike hK, hD⟩⟩, hS.F ht⟩) hS.2.2 dX11_ask_47
        · have dc_14 := c_nlt (a := 3) (b := x2.toInt) (by decide) rfl c_14
          refine lv_iload_n hx hb dX11_ask_34 rfl (lv_at hl 3 rfl) ?_
          refine lv_sipush (v := 9999) hx hb dX11_ask_35 (by decide) ?_
          refine lv_icmp_le (tgt := 48) hx hb dX11_ask_38 (by decide) (fun c_21 => ?_) (fun c_21 => ?_)
          · have dc_21 := c_le (a := x3.toInt) (b := 9999) rfl (by decide) c_21
            refine lv_aload_n hx hb dX11_ask_48 rfl (lv_at hl 0 rfl) ?_
            refine va_get (D := (dC, dI)) (ci := 11) (v := .ref (pq 5)) (C := RX11) (T := TX11) (N := 63) hx hb hts in_wsX11_ask_X11 hown hK hP 0 rfl rfl 5 (by decide) (hts (.fieldLink RX11 25 "ShipOfficeModel" "asks" "[I") iw_X11_ask_1) (fun _ h9 => h9) rfl dX11_ask_49 ?_
            refine lv_iconst (v := 4) hx hb dX11_ask_52 (by decide) ?_
            refine lv_iload_n hx hb dX11_ask_53 rfl (lv_at hl 1 rfl) ?_
            refine lv_imul hx hb dX11_ask_54 ?_
            refine lv_topi (fun x_22 ex_22 => ?_)
            have hx_22 : x_22.toInt = 4 * x1.toInt := (iv_to ex_22).trans (mu_i (by decide) rfl (by omega) (by omega))
            refine lv_iload_n hx hb dX11_ask_55 rfl (lv_at hl 2 rfl) ?_
            refine lv_iadd hx hb dX11_ask_56 ?_
            refine lv_topi (fun x_23 ex_23 => ?_)
            have hx_23 : x_23.toInt = x_22.toInt + x2.toInt := (iv_to ex_23).trans (ad_i rfl rfl (by omega) (by omega))
            refine va_iald hx hb hK hP 6 5 rfl rfl (vp_in_iff.mpr (by omega)) dX11_ask_57 ?_
            refine lv_topi (fun x_24 ex_24 => ?_)
            have gx_24 : x_24.toInt = (fa 5 (x_23 : Int32).toNatClampNeg).toInt := iv_to ex_24
            clear ex_24
            refine lv_istore (lv' := [(4, .int x_24), (0, .ref g0), (1, .int x1), (2, .int x2), (3, .int x3)]) hx hb dX11_ask_58 hl (by decide) rfl (fun ls hl => ?_)
            refine lv_aload_n hx hb dX11_ask_60 rfl (lv_at hl 1 rfl) ?_
            refine va_get (D := (dC, dI)) (ci := 11) (v := .ref (pq 5)) (C := RX11) (T := TX11) (N := 63) hx hb hts in_wsX11_ask_X11 hown hK hP 0 rfl rfl 5 (by decide) (hts (.fieldLink RX11 25 "ShipOfficeModel" "asks" "[I") iw_X11_ask_1) (fun _ h9 => h9) rfl dX11_ask_61 ?_
            refine lv_iconst (v := 4) hx hb dX11_ask_64 (by decide) ?_
            refine lv_iload_n hx hb dX11_ask_65 rfl (lv_at hl 2 rfl) ?_
            refine lv_imul hx hb dX11_ask_66 ?_
            refine lv_topi (fun x_25 ex_25 => ?_)
            have hx_25 : x_25.toInt = 4 * x1.toInt := (iv_to ex_25).trans (mu_i (by decide) rfl (by omega) (by omega))
            refine lv_iload_n hx hb dX11_ask_67 rfl (lv_at hl 3 rfl) ?_
            refine lv_iadd hx hb dX11_ask_68 ?_
            refine lv_topi (fun x_26 ex_26 => ?_)
            have hx_26 : x_26.toInt = x_25.toInt + x2.toInt := (iv_to ex_26).trans (ad_i rfl rfl (by omega) (by omega))
            refine lv_iload_n hx hb dX11_ask_69 rfl (lv_at hl 4 rfl) ?_
            refine va_iast hx hb hK hP hD hS 6 5 rfl rfl (vp_in_iff.mpr (by omega)) dX11_ask_70 (fun H locs hP hD hS => ?_)
            have hP : va_P (dC, dI) vwCl (mW g0 pq cp v (upF fa 5 (x_26 : Int32).toNatClampNeg x3)) H := hP
            have hD : va_D A (mW g0 pq cp v (upF fa 5 (x_26 : Int32).toNatClampNeg x3)) := hD
            obtain ⟨fz_27, efz_27⟩ : ∃ zq, zq = (upF fa 5 (x_26 : Int32).toNatClampNeg x3) := ⟨_, rfl⟩
            rw [← efz_27] at hP hD
            have hAfz_27 : mA fz_27 := by rw [efz_27]; exact mA_upF (lo := -2147483648) (hi := 2147483647) gA rfl rfl (iv_all _)
            have hRfz_27 : mX [0, 5] v fa v fz_27 := by rw [efz_27]; exact mX.uF mX.rf (by decide)
            have q0_28 : fz_27 0 = fa 0 := by rw [efz_27]; exact (if_neg (by decide)).trans rfl
            refine lv_iload hx hb dX11_ask_71 (lv_at hl 0 rfl) ?_
            exact W.iret (v := x_24) hx hb hr (fun t ht hW => ⟨⟨x_24, (v, fz_27), rfl, ⟨gV, hAfz_27, hRfz_27, ⟨Or.inr ⟨by unfold gaok; omega, x_23, by omega, Int32.toInt_inj.mp (by omega), by have eb : x_26 = x_23 := Int32.toInt_inj.mp (by omega); dsimp only; rw [efz_27, eb]; rfl⟩, (Or.inr ⟨by unfold gaok; omega, (by first | exact q0_28 | (dsimp only; exact q0_28))⟩)⟩⟩, ⟨by rw [ht]; exact hP, va_K.moved hW.alike hK, hD⟩⟩, hS.F ht⟩) hS.2.2 dX11_ask_73
          · have dc_21 := c_nle (a := x3.toInt) (b := 9999) rfl (by decide) c_21
            refine lv_aload_n hx hb dX11_ask_41 rfl (lv_at hl 0 rfl) ?_
            refine lv_bipush (v := (-6)) hx hb dX11_ask_42 (by decide) ?_
            have hFc := va_free (wc := (mW g0 pq cp v fa)) hD hS hA (List.range 48) rfl
            refine va_calli (va_runV (As := [.int (-6)]) (rest := []) ⟨hx, hb, hml, hown, hts⟩ (c_X11_refuse_f l dC dI H.size g0 pq cp v fa (-6) (by unfold vp_in; decide)) (cwV 1 hts gX11_ask_X11_refuse rfl rfl rfl (by decide +kernel) ⟨(Nat.le_of_ble_eq_true rfl), (Nat.le_of_ble_eq_true rfl)⟩) (pr_V (r := (RX11, TX11, 63)) hP hK hD 0 11 rfl rfl) rfl rfl hl.1 rfl (lv_room (Nat.le_of_ble_eq_true rfl)) dX11_ask_44 ⟨(Nat.le_of_ble_eq_true rfl), (Nat.le_of_ble_eq_true rfl)⟩) hS (fun q _ h => hFc q h) hFc (fun r_30 u t H locs ht hvm w_29 hB hz1 hk1 hS => ?_)
            obtain ⟨v_31, fa_32⟩ := u
            obtain ⟨hP1, hK1, hD1⟩ := hB
            rw [ht] at hP1
            have hP : va_P (dC, dI) vwCl (mW g0 pq cp v_31 fa_32) H := hP1
            have hD : va_D A (mW g0 pq cp v_31 fa_32) := hD1.weaken (fun _ _ _ h => hFc _ h)
            clear hP1 hK1 hD1 hk1 hz1 hvm ht hFc
            obtain ⟨rfl, hs1_33⟩ := w_29
            have hVv_31 : mV v_31 := sm0_V (sm1_0 hs1_33) gV
            have hAv_31 : mA fa_32 := sm0_A (sm1_0 hs1_33) gA
            have g_34 : (v_31 39).toInt = (v 39).toInt := congrArg Int32.toInt (congrFun hs1_33.1 39)
            have hRv_31 : mX [0, 5] v fa v_31 fa_32 := mX.st mX.rf (mX.s0 (sm1_0 hs1_33)) (by decide)
            exact W.iret (v := (-6)) hx hb hr (fun t ht hW => ⟨⟨(-6), (v_31, fa_32), rfl, ⟨hVv_31, hAv_31, hRv_31, ⟨Or.inl ⟨by have rc : ((-6) : Int32).toInt = -6 := (by decide); unfold gao; omega, (sm1_0 hs1_33).2 5 (by decide)⟩, (Or.inl ⟨by have rc : ((-6) : Int32).toInt = -6 := (by decide); unfold gaok; omega, sm2_1 hs1_33⟩)⟩⟩, ⟨by rw [ht]; exact hP, va_K.moved hW.alike hK, hD⟩⟩, hS.F ht⟩) hS.2.2 dX11_ask_47
      · have dc_13 := c_nle (a := 0) (b := x3.toInt) (by decide) rfl c_13
        refine lv_aload_n hx hb dX11_ask_22 rfl (lv_at hl 0 rfl) ?_
        refine lv_bipush (v := (-4)) hx hb dX11_ask_23 (by decide) ?_
        have hFc := va_free (wc := (mW g0 pq cp v fa)) hD hS hA (List.range 48) rfl
        refine va_calli (va_runV (As := [.int (-4)]) (rest := []) ⟨hx, hb, hml, hown, hts⟩ (c_X11_refuse_f l dC dI H.size g0 pq cp v fa (-4) (by unfold vp_in; decide)) (cwV 1 hts gX11_ask_X11_refuse rfl rfl rfl (by decide +kernel) ⟨(Nat.le_of_ble_eq_true rfl), (Nat.le_of_ble_eq_true rfl)⟩) (pr_V (r := (RX11, TX11, 63)) hP hK hD 0 11 rfl rfl) rfl rfl hl.1 rfl (lv_room (Nat.le_of_ble_eq_true rfl)) dX11_ask_25 ⟨(Nat.le_of_ble_eq_true rfl), (Nat.le_of_ble_eq_true rfl)⟩) hS (fun q _ h => hFc q h) hFc (fun r_36 u t H locs ht hvm w_35 hB hz1 hk1 hS => ?_)
        obtain ⟨v_37, fa_38⟩ := u
        obtain ⟨hP1, hK1, hD1⟩ := hB
        rw [ht] at hP1
        have hP : va_P (dC, dI) vwCl (mW g0 pq cp v_37 fa_38) H := hP1
        have hD : va_D A (mW g0 pq cp v_37 fa_38) := hD1.weaken (fun _ _ _ h => hFc _ h)
        clear hP1 hK1 hD1 hk1 hz1 hvm ht hFc
        obtain ⟨rfl, hs1_39⟩ := w_35
        have hVv_37 : mV v_37 := sm0_V (sm1_0 hs1_39) gV
        have hAv_37 : mA fa_38 := sm0_A (sm1_0 hs1_39) gA
        have g_40 : (v_37 39).toInt = (v 39).toInt := congrArg Int32.toInt (congrFun hs1_39.1 39)
        have hRv_37 : mX [0, 5] v fa v_37 fa_38 := mX.st mX.rf (mX.s0 (sm1_0 hs1_39)) (by decide)
        exact W.iret (v := (-4)) hx hb hr (fun t ht hW => ⟨⟨(-4), (v_37, fa_38), rfl, ⟨hVv_37, hAv_37, hRv_37, ⟨Or.inl ⟨by have rc : ((-4) : Int32).toInt = -4 := (by decide); unfold gao; omega, (sm1_0 hs1_39).2 5 (by decide)⟩, (Or.inl ⟨by have rc : ((-4) : Int32).toInt = -4 := (by decide); unfold gaok; omega, sm2_1 hs1_39⟩)⟩⟩, ⟨by rw [ht]; exact hP, va_K.moved hW.alike hK, hD⟩⟩, hS.F ht⟩) hS.2.2 dX11_ask_28
  · have dc_4 := c_eq (a := r_3.toInt) (b := 0) rfl (by decide) c_4
    have hz_41 := isI_0 (w_2.symm.trans c_4)
    refine lv_aload_n hx hb dX11_ask_8 rfl (lv_at hl 0 rfl) ?_
    refine lv_iconst (v := (-1)) hx hb dX11_ask_9 (by decide) ?_
    have hFc := va_free (wc := (mW g0 pq cp v fa)) hD hS hA (List.range 48) rfl
    refine va_calli (va_runV (As := [.int (-1)]) (rest := []) ⟨hx, hb, hml, hown, hts⟩ (c_X11_refuse_f l dC dI H.size g0 pq cp v fa (-1) (by unfold vp_in; decide)) (cwV 1 hts gX11_ask_X11_refuse rfl rfl rfl (by decide +kernel) ⟨(Nat.le_of_ble_eq_true rfl), (Nat.le_of_ble_eq_true rfl)⟩) (pr_V (r := (RX11, TX11, 63)) hP hK hD 0 11 rfl rfl) rfl rfl hl.1 rfl (lv_room (Nat.le_of_ble_eq_true rfl)) dX11_ask_10 ⟨(Nat.le_of_ble_eq_true rfl), (Nat.le_of_ble_eq_true rfl)⟩) hS (fun q _ h => hFc q h) hFc (fun r_43 u t H locs ht hvm w_42 hB hz1 hk1 hS => ?_)
    obtain ⟨v_44, fa_45⟩ := u
    obtain ⟨hP1, hK1, hD1⟩ := hB
    rw [ht] at hP1
    have hP : va_P (dC, dI) vwCl (mW g0 pq cp v_44 fa_45) H := hP1
    have hD : va_D A (mW g0 pq cp v_44 fa_45) := hD1.weaken (fun _ _ _ h => hFc _ h)
    clear hP1 hK1 hD1 hk1 hz1 hvm ht hFc
    obtain ⟨rfl, hs1_46⟩ := w_42
    have hVv_44 : mV v_44 := sm0_V (sm1_0 hs1_46) gV
    have hAv_44 : mA fa_45 := sm0_A (sm1_0 hs1_46) gA
    have g_47 : (v_44 39).toInt = (v 39).toInt := congrArg Int32.toInt (congrFun hs1_46.1 39)
    have hRv_44 : mX [0, 5] v fa v_44 fa_45 := mX.st mX.rf (mX.s0 (sm1_0 hs1_46)) (by decide)
    exact W.iret (v := (-1)) hx hb hr (fun t ht hW => ⟨⟨(-1), (v_44, fa_45), rfl, ⟨hVv_44, hAv_44, hRv_44, ⟨Or.inl ⟨by have rc : ((-1) : Int32).toInt = -1 := (by decide); unfold gao; omega, (sm1_0 hs1_46).2 5 (by decide)⟩, (Or.inl ⟨by have rc : ((-1) : Int32).toInt = -1 := (by decide); unfold gaok; omega, sm2_1 hs1_46⟩)⟩⟩, ⟨by rw [ht]; exact hP, va_K.moved hW.alike hK, hD⟩⟩, hS.F ht⟩) hS.2.2 dX11_ask_13