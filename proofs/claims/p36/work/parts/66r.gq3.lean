


def sdA (ng a nf i k now r : Int) : Prop := (¬ (0 ≤ a ∧ a < ng ∧ 0 ≤ i ∧ i < nf) ∧ r = -1) ∨ ((0 ≤ a ∧ a < ng ∧ 0 ≤ i ∧ i < nf) ∧ k < 0 ∧ r = -4) ∨ ((0 ≤ a ∧ a < ng ∧ 0 ≤ i ∧ i < nf) ∧ 0 ≤ k ∧ now < k ∧ r = -6) ∨ ((0 ≤ a ∧ a < ng ∧ 0 ≤ i ∧ i < nf) ∧ 0 ≤ k ∧ k ≤ now)
def sdB (ng a nf i k now : Int) : Prop := ¬ (0 ≤ a ∧ a < ng ∧ 0 ≤ i ∧ i < nf) ∨ k < 0 ∨ now < k
def crA (n w r : Int) : Prop := (n < 0 ∧ r = -4) ∨ (80 < n ∧ r = -6) ∨ (0 ≤ n ∧ n ≤ 80 ∧ ¬ (0 ≤ w ∧ w < 9) ∧ r = -2) ∨ (0 ≤ n ∧ n ≤ 80 ∧ 0 ≤ w ∧ w < 9)
def crB (n w : Int) : Prop := n < 0 ∨ 80 < n ∨ ¬ (0 ≤ w ∧ w < 9)
set_option maxHeartbeats 4000000 in
set_option maxRecDepth 100000 in
theorem c_X11_stands_f (l : Launch) (dC : Nat → ClassId) (dI : Nat → Nat → Nat) (sz : Nat) (g0 : Nat) (pq : Nat → Nat) (cp : Nat → ClassId) (v : Nat → Int32) (fa : Nat → Nat → Int32) (gV : mV v) (gA : mA fa) (x1 : Int32) (x2 : Int32) (x3 : Int32) (hWl : wlA v fa) : Met l yX11_stands wsX11_stands ({ frames := 26, cells := 0, slots := 0, locals := 611 }) (va_Pc [.ref g0, .int x1, .int x2, .int x3] (pcW (dC, dI) (mT cp) (mW g0 pq cp v fa) sz)) (va_Qi (fun (r : Int32) (u : (Nat → Int32) × (Nat → Nat → Int32)) => mV u.1 ∧ mA u.2 ∧ mX [0, 45, 47, 48, 49, 50, 51, 52, 53, 54, 55, 56, 57, 58, 59, 60] v fa u.1 u.2 ∧ (sdA (v 43).toInt x1.toInt (fa 30 x1.toNatClampNeg).toInt x2.toInt x3.toInt (v 38).toInt r.toInt ∧ rZr v fa u r (sdB (v 43).toInt x1.toInt (fa 30 x1.toNatClampNeg).toInt x2.toInt x3.toInt (v 38).toInt))) (fun u t => va_P (dC, dI) vwCl (mW g0 pq cp u.1 u.2) t.heap ∧ va_K (dC, dI) vwCl (mT cp) t ∧ va_D (va_A (mW g0 pq cp v fa) sz) (mW g0 pq cp u.1 u.2)) (va_A (mW g0 pq cp v fa) sz)) 0 0 (va_A (mW g0 pq cp v fa) sz) := by
  refine Met.ofW (cc := cX11_stands) (maxL := 4) (ret := (some .int)) (by decide) rfl ?_
  intro p e s m args below meth c s₁ B hml hv
  obtain ⟨rfl, hsz, hP, hK, hD0⟩ := hv
  have hx := B.exec
  have hb := B.bytes
  have hr := B.returns
  have hts := atoms_spec (ws := wsX11_stands) B.pre
  have hown : s.vm.findClass RX11 = some m.cls := findClass_of_methodNamed B.named
  have hlocks := B.notSynchronized
  subst hsz
  have hD := hD0.self (sz := s.heap.size)
  generalize hAe : va_A (mW g0 pq cp v fa) s.heap.size = A at hD ⊢
  have hA : ∀ q : Nat, s.heap.size ≤ q → A q := fun q h => by rw [← hAe]; exact Or.inr h
  have hS : va_S A s.heap s.heap [] := va_S.rf
  have hP : va_P (dC, dI) vwCl (mW g0 pq cp v fa) s.heap := hP
  have hl := lv_entry ([.ref g0, .int x1, .int x2, .int x3]) (n := 4) (Nat.le_of_ble_eq_true rfl)
  rw [lg_entry_eq]
  generalize (lg_sl ([.ref g0, .int x1, .int x2, .int x3]) ++ List.replicate (4 - (lg_sl ([.ref g0, .int x1, .int x2, .int x3])).length) Slot.unset).toArray = ls at hl ⊢
  have hl : lv_has ls 4 [(0, .ref g0), (1, .int x1), (2, .int x2), (3, .int x3)] := hl
  have iv_1 : 0 ≤ (v 38).toInt ∧ (v 38).toInt ≤ 3000 := gV 38
  have iv_2 : 0 ≤ (v 43).toInt ∧ (v 43).toInt ≤ 60 := gV 43
  refine lv_aload_n hx hb dX11_stands_0 rfl (lv_at hl 0 rfl) ?_
  refine lv_iload_n hx hb dX11_stands_1 rfl (lv_at hl 1 rfl) ?_
  refine lv_iload_n hx hb dX11_stands_2 rfl (lv_at hl 2 rfl) ?_
  have hFc : ∀ q, va_A [] s.heap.size q → A q := pu_free hS hA
  refine va_calli (va_runV (As := [.int x1, .int x2]) (rest := []) ⟨hx, hb, hml, hown, hts⟩ (c_X11_isFine_f l dC dI s.heap.size g0 pq cp v fa gV gA x1 x2) (cwV 2 hts gX11_stands_X11_isFine rfl rfl rfl (by decide +kernel) ⟨(Nat.le_of_ble_eq_true rfl), (Nat.le_of_ble_eq_true rfl)⟩) (pr_V (r := (RX11, TX11, 63)) hP hK hD 0 11 rfl rfl) rfl rfl hl.1 rfl (lv_room (Nat.le_of_ble_eq_true rfl)) dX11_stands_3 ⟨(Nat.le_of_ble_eq_true rfl), (Nat.le_of_ble_eq_true rfl)⟩) hS (fun q _ h => hFc q h) hFc (fun r_4 u t H locs ht hvm w_3 hB hz1 hk1 hS => ?_)
  have hP := pu_keep hP hk1
  clear hk1 hz1 hvm hB ht hFc
  obtain ⟨hb_5, hx_6⟩ := w_3
  refine lv_if_ne (tgt := 15) hx hb dX11_stands_6 (by decide) (fun c_7 => ?_) (fun c_7 => ?_)
  · have dc_7 := c_ne (a := r_4.toInt) (b := 0) rfl (by decide) c_7
    have fbA : (v 43).toInt ≤ 60 := (gV 43).2
    have fbF : (fa 30 x1.toNatClampNeg).toInt ≤ 6 := (gA 30 _).2
    refine lv_iload_n hx hb dX11_stands_15 rfl (lv_at hl 3 rfl) ?_
    refine lv_if_ge (tgt := 26) hx hb dX11_stands_16 (by decide) (fun c_8 => ?_) (fun c_8 => ?_)
    · have dc_8 := c_le (a := 0) (b := x3.toInt) (by decide) rfl c_8
      refine lv_iload_n hx hb dX11_stands_26 rfl (lv_at hl 3 rfl) ?_
      refine lv_aload_n hx hb dX11_stands_27 rfl (lv_at hl 0 rfl) ?_
      refine va_get (D := (dC, dI)) (ci := 11) (v := .int (v 38)) (C := RX11) (T := TX11) (N := 63) hx hb hts in_wsX11_stands_X11 hown hK hP 0 rfl rfl 38 (by decide) (hts (.fieldLink RX11 171 "ShipOfficeModel" "now" "I") iw_X11_stands_1) (fun _ h9 => h9) rfl dX11_stands_28 ?_
      refine lv_topi (fun x_9 ex_9 => ?_)
      have hx_9 : 0 ≤ x_9.toInt ∧ x_9.toInt ≤ 3000 := iv_of ex_9 (gV 38)
      have gx_9 : x_9.toInt = (v 38).toInt := iv_to ex_9
      clear ex_9
      refine lv_icmp_le (tgt := 43) hx hb dX11_stands_31 (by decide) (fun c_10 => ?_) (fun c_10 => ?_)
      · have dc_10 := c_le (a := x3.toInt) (b := x_9.toInt) rfl rfl c_10
        refine lv_aload_n hx hb dX11_stands_43 rfl (lv_at hl 0 rfl) ?_
        refine lv_iload_n hx hb dX11_stands_44 rfl (lv_at hl 1 rfl) ?_
        refine lv_iload_n hx hb dX11_stands_45 rfl (lv_at hl 2 rfl) ?_
        refine lv_iload_n hx hb dX11_stands_46 rfl (lv_at hl 3 rfl) ?_
        have hFc := va_free (wc := (mW g0 pq cp v fa)) hD hS hA (List.range 48) rfl
        refine va_calli (va_runV (As := [.int x1, .int x2, .int x3]) (rest := []) ⟨hx, hb, hml, hown, hts⟩ (c_X11_standsOf_f l dC dI H.size g0 pq cp v fa gV gA x1 (by omega) x2 (by omega) x3 hWl) (cwV 3 hts gX11_stands_X11_standsOf rfl rfl rfl (by decide +kernel) ⟨(Nat.le_of_ble_eq_true rfl), (Nat.le_of_ble_eq_true rfl)⟩) (pr_V (r := (RX11, TX11, 63)) hP hK hD 0 11 rfl rfl) rfl rfl hl.1 rfl (lv_room (Nat.le_of_ble_eq_true rfl)) dX11_stands_47 ⟨(Nat.le_of_ble_eq_true rfl), (Nat.le_of_ble_eq_true rfl)⟩) hS (fun q _ h => hFc q h) hFc (fun r_12 u t H locs ht hvm w_11 hB hz1 hk1 hS => ?_)
        obtain ⟨v_13, fa_14⟩ := u
        obtain ⟨hP1, hK1, hD1⟩ := hB
        rw [ht] at hP1
        have hP : va_P (dC, dI) vwCl (mW g0 pq cp v_13 fa_14) H := hP1
        have hD : va_D A (mW g0 pq cp v_13 fa_14) := hD1.weaken (fun _ _ _ h => hFc _ h)
        clear hP1 hK1 hD1 hk1 hz1 hvm ht hFc
        obtain ⟨hV_15, hA_16, hR_17, hx_18⟩ := w_11
        dsimp only at hV_15 hA_16 hR_17 hx_18
        have g_19 : (v_13 38).toInt = (v 38).toInt := congrArg Int32.toInt (hR_17.1 38 rfl)
        have g_20 : (v_13 43).toInt = (v 43).toInt := congrArg Int32.toInt (hR_17.1 43 rfl)
        have R_21 : mX [0, 45, 47, 48, 49, 50, 51, 52, 53, 54, 55, 56, 57, 58, 59, 60] v fa v_13 fa_14 := mX.st mX.rf (mX.scr hR_17) (by decide)
        have sc_22 := scr.tr scr.rf hR_17
        have q0_23 : fa_14 0 = fa 0 := (hR_17.2 0 rfl).trans rfl
        exact W.iret (v := r_12) hx hb hr (fun t ht hW => ⟨⟨r_12, (v_13, fa_14), rfl, ⟨hV_15, hA_16, R_21, ⟨by unfold sdA; omega, (Or.inr ⟨by unfold sdB; omega, (by first | exact q0_23 | (dsimp only; exact q0_23))⟩)⟩⟩, ⟨by rw [ht]; exact hP, va_K.moved hW.alike hK, hD⟩⟩, hS.F ht⟩) hS.2.2 dX11_stands_50
      · have dc_10 := c_nle (a := x3.toInt) (b := x_9.toInt) rfl rfl c_10
        refine lv_aload_n hx hb dX11_stands_34 rfl (lv_at hl 0 rfl) ?_
        refine lv_bipush (v := (-6)) hx hb dX11_stands_35 (by decide) ?_
        have hFc := va_free (wc := (mW g0 pq cp v fa)) hD hS hA (List.range 48) rfl
        refine va_calli (va_runV (As := [.int (-6)]) (rest := []) ⟨hx, hb, hml, hown, hts⟩ (c_X11_refuse_f l dC dI H.size g0 pq cp v fa (-6) (by unfold vp_in; decide)) (cwV 1 hts gX11_stands_X11_refuse rfl rfl rfl (by decide +kernel) ⟨(Nat.le_of_ble_eq_true rfl), (Nat.le_of_ble_eq_true rfl)⟩) (pr_V (r := (RX11, TX11, 63)) hP hK hD 0 11 rfl rfl) rfl rfl hl.1 rfl (lv_room (Nat.le_of_ble_eq_true rfl)) dX11_stands_37 ⟨(Nat.le_of_ble_eq_true rfl), (Nat.le_of_ble_eq_true rfl)⟩) hS (fun q _ h => hFc q h) hFc (fun r_25 u t H locs ht hvm w_24 hB hz1 hk1 hS => ?_)
        obtain ⟨v_26, fa_27⟩ := u
        obtain ⟨hP1, hK1, hD1⟩ := hB
        rw [ht] at hP1
        have hP : va_P (dC, dI) vwCl (mW g0 pq cp v_26 fa_27) H := hP1
        have hD : va_D A (mW g0 pq cp v_26 fa_27) := hD1.weaken (fun _ _ _ h => hFc _ h)
        clear hP1 hK1 hD1 hk1 hz1 hvm ht hFc
        obtain ⟨rfl, hs1_28⟩ := w_24
        have hVv_26 : mV v_26 := sm0_V (sm1_0 hs1_28) gV
        have hAv_26 : mA fa_27 := sm0_A (sm1_0 hs1_28) gA
        have g_29 : (v_26 38).toInt = (v 38).toInt := congrArg Int32.toInt (congrFun hs1_28.1 38)
        have g_30 : (v_26 43).toInt = (v 43).toInt := congrArg Int32.toInt (congrFun hs1_28.1 43)
        have hRv_26 : mX [0, 45, 47, 48, 49, 50, 51, 52, 53, 54, 55, 56, 57, 58, 59, 60] v fa v_26 fa_27 := mX.st mX.rf (mX.s0 (sm1_0 hs1_28)) (by decide)
        refine lv_goto (tgt := 50) hx hb dX11_stands_40 (by decide) ?_
        exact W.iret (v := (-6)) hx hb hr (fun t ht hW => ⟨⟨(-6), (v_26, fa_27), rfl, ⟨hVv_26, hAv_26, hRv_26, ⟨by have rc : ((-6) : Int32).toInt = -6 := (by decide); unfold sdA; omega, (Or.inl ⟨by have rc : ((-6) : Int32).toInt = -6 := (by decide); unfold sdB; omega, sm2_1 hs1_28⟩)⟩⟩, ⟨by rw [ht]; exact hP, va_K.moved hW.alike hK, hD⟩⟩, hS.F ht⟩) hS.2.2 dX11_stands_50
    · have dc_8 := c_nle (a := 0) (b := x3.toInt) (by decide) rfl c_8
      refine lv_aload_n hx hb dX11_stands_19 rfl (lv_at hl 0 rfl) ?_
      refine lv_bipush (v := (-4)) hx hb dX11_stands_20 (by decide) ?_
      have hFc := va_free (wc := (mW g0 pq cp v fa)) hD hS hA (List.range 48) rfl
      refine va_calli (va_runV (As := [.int (-4)]) (rest := []) ⟨hx, hb, hml, hown, hts⟩ (c_X11_refuse_f l dC dI H.size g0 pq cp v fa (-4) (by unfold vp_in; decide)) (cwV 1 hts gX11_stands_X11_refuse rfl rfl rfl (by decide +kernel) ⟨(Nat.le_of_ble_eq_true rfl), (Nat.le_of_ble_eq_true rfl)⟩) (pr_V (r := (RX11, TX11, 63)) hP hK hD 0 11 rfl rfl) rfl rfl hl.1 rfl (lv_room (Nat.le_of_ble_eq_true rfl)) dX11_stands_22 ⟨(Nat.le_of_ble_eq_true rfl), (Nat.le_of_ble_eq_true rfl)⟩) hS (fun q _ h => hFc q h) hFc (fun r_32 u t H locs ht hvm w_31 hB hz1 hk1 hS => ?_)
      obtain ⟨v_33, fa_34⟩ := u
      obtain ⟨hP1, hK1, hD1⟩ := hB
      rw [ht] at hP1
      have hP : va_P (dC, dI) vwCl (mW g0 pq cp v_33 fa_34) H := hP1
      have hD : va_D A (mW g0 pq cp v_33 fa_34) := hD1.weaken (fun _ _ _ h => hFc _ h)
      clear hP1 hK1 hD1 hk1 hz1 hvm ht hFc
      obtain ⟨rfl, hs1_35⟩ := w_31
      have hVv_33 : mV v_33 := sm0_V (sm1_0 hs1_35) gV
      have hAv_33 : mA fa_34 := sm0_A (sm1_0 hs1_35) gA
      have g_36 : (v_33 38).toInt = (v 38).toInt := congrArg Int32.toInt (congrFun hs1_35.1 38)
      have g_37 : (v_33 43).toInt = (v 43).toInt := congrArg Int32.toInt (congrFun hs1_35.1 43)
      have hRv_33 : mX [0, 45, 47, 48, 49, 50, 51, 52, 53, 54, 55, 56, 57, 58, 59, 60] v fa v_33 fa_34 := mX.st mX.rf (mX.s0 (sm1_0 hs1_35)) (by decide)
      exact W.iret (v := (-4)) hx hb hr (fun t ht hW => ⟨⟨(-4), (v_33, fa_34), rfl, ⟨hVv_33, hAv_33, hRv_33, ⟨by have rc : ((-4) : Int32).toInt = -4 := (by decide); unfold sdA; omega, (Or.inl ⟨by have rc : ((-4) : Int32).toInt = -4 := (by decide); unfold sdB; omega, sm2_1 hs1_35⟩)⟩⟩, ⟨by rw [ht]; exact hP, va_K.moved hW.alike hK, hD⟩⟩, hS.F ht⟩) hS.2.2 dX11_stands_25
  · have dc_7 := c_eq (a := r_4.toInt) (b := 0) rfl (by decide) c_7
    refine lv_aload_n hx hb dX11_stands_9 rfl (lv_at hl 0 rfl) ?_
    refine lv_iconst (v := (-1)) hx hb dX11_stands_10 (by decide) ?_
    have hFc := va_free (wc := (mW g0 pq cp v fa)) hD hS hA (List.range 48) rfl
    refine va_calli (va_runV (As := [.int (-1)]) (rest := []) ⟨hx, hb, hml, hown, hts⟩ (c_X11_refuse_f l dC dI H.size g0 pq cp v fa (-1) (by unfold vp_in; decide)) (cwV 1 hts gX11_stands_X11_refuse rfl rfl rfl (by decide +kernel) ⟨(Nat.le_of_ble_eq_true rfl), (Nat.le_of_ble_eq_true rfl)⟩) (pr_V (r := (RX11, TX11, 63)) hP hK hD 0 11 rfl rfl) rfl rfl hl.1 rfl (lv_room (Nat.le_of_ble_eq_true rfl)) dX11_stands_11 ⟨(Nat.le_of_ble_eq_true rfl), (Nat.le_of_ble_eq_true rfl)⟩) hS (fun q _ h => hFc q h) hFc (fun r_39 u t H locs ht hvm w_38 hB hz1 hk1 hS => ?_)
    obtain ⟨v_40, fa_41⟩ := u
    obtain ⟨hP1, hK1, hD1⟩ := hB
    rw [ht] at hP1
    have hP : va_P (dC, dI) vwCl (mW g0 pq cp v_40 fa_41) H := hP1
    have hD : va_D A (mW g0 pq cp v_40 fa_41) := hD1.weaken (fun _ _ _ h => hFc _ h)
    clear hP1 hK1 hD1 hk1 hz1 hvm ht hFc
    obtain ⟨rfl, hs1_42⟩ := w_38
    have hVv_40 : mV v_40 := sm0_V (sm1_0 hs1_42) gV
    have hAv_40 : mA fa_41 := sm0_A (sm1_0 hs1_42) gA
    have g_43 : (v_40 38).toInt = (v 38).toInt := congrArg Int32.toInt (congrFun hs1_42.1 38)
    have g_44 : (v_40 43).toInt = (v 43).toInt := congrArg Int32.toInt (congrFun hs1_42.1 43)
    have hRv_40 : mX [0, 45, 47, 48, 49, 50, 51, 52, 53, 54, 55, 56, 57, 58, 59, 60] v fa v_40 fa_41 := mX.st mX.rf (mX.s0 (sm1_0 hs1_42)) (by decide)
    exact W.iret (v := (-1)) hx hb hr (fun t ht hW => ⟨⟨(-1), (v_40, fa_41), rfl, ⟨hVv_40, hAv_40, hRv_40, ⟨by have rc : ((-1) : Int32).toInt = -1 := (by decide); unfold sdA; omega, (Or.inl ⟨by have rc : ((-1) : Int32).toInt = -1 := (by decide); unfold sdB; omega, sm2_1 hs1_42⟩)⟩⟩, ⟨by rw [ht]; exact hP, va_K.moved hW.alike hK, hD⟩⟩, hS.F ht⟩) hS.2.2 dX11_stands_14
set_option maxHeartbeats 4000000 in
set_option maxRecDepth 100000 in
theorem c_X11_ask_r (l : Launch) (dC : Nat → ClassId) (dI : Nat → Nat → Nat) (sz : Nat) (g0 : Nat) (pq : Nat → Nat) (cp : Nat → ClassId) (v : Nat → Int32) (fa : Nat → Nat → Int32) (gV : mV v) (gA : mA fa) (x1 : Int32) (x2 : Int32) (x3 : Int32) : Met l yX11_ask wsX11_ask ({ frames := 2, cells := 0, slots := 0, locals := 42 }) (va_Pc [.ref g0, .int x1, .int x2, .int x3] (pcW (dC, dI) (mT cp) (mW g0 pq cp v fa) sz)) (va_Qi (fun (r : Int32) (u : (Nat → Int32) × (Nat → Nat → Int32)) => mV u.1 ∧ mA u.2 ∧ mX [0, 5] v fa u.1 u.2 ∧ (gar (v 39).toInt (fa 5) x1 x2 x3 r (u.2 5) ∧ rZr v fa u r (¬ gaok (v 39).toInt x1.toInt x2.toInt x3.toInt))) (fun u t => va_P (dC, dI) vwCl (mW g0 pq cp u.1 u.2) t.heap ∧ va_K (dC, dI) vwCl (mT cp) t ∧ va_D (va_A (mW g0 pq cp v fa) sz) (mW g0 pq cp u.1 u.2)) (va_A (mW g0 pq cp v fa) sz)) 0 0 (va_A (mW g0 pq cp v fa) sz) := by
  refine Met.ofW (cc := cX11_ask) (maxL := 5) (ret := (some .int)) (by decide) rfl ?_
  intro p e s m args below meth c s₁ B hml hv
  obtain ⟨rfl, hsz, hP, hK, hD0⟩ := hv
  have hx := B.exec
  have hb := B.bytes
  have hr := B.returns
  have hts := atoms_spec (ws := wsX11_ask) B.pre
  have hown : s.vm.findClass RX11 = some m.cls := findClass_of_methodNamed B.named
  have hlocks := B.notSynchronized
  subst hsz
  have hD := hD0.self (sz := s.heap.size)
  generalize hAe : va_A (mW g0 pq cp v fa) s.heap.size = A at hD ⊢
  have hA : ∀ q : Nat, s.heap.size ≤ q → A q := fun q h => by rw [← hAe]; exact Or.inr h
  have hS : va_S A s.heap s.heap [] := va_S.rf
  have hP : va_P (dC, dI) vwCl (mW g0 pq cp v fa) s.heap := hP
  have hl := lv_entry ([.ref g0, .int x1, .int x2, .int x3]) (n := 5) (Nat.le_of_ble_eq_true rfl)
  rw [lg_entry_eq]
  generalize (lg_sl ([.ref g0, .int x1, .int x2, .int x3]) ++ List.replicate (5 - (lg_sl ([.ref g0, .int x1, .int x2, .int x3])).length) Slot.unset).toArray = ls at hl ⊢
  have hl : lv_has ls 5 [(0, .ref g0), (1, .int x1), (2, .int x2), (3, .int x3)] := hl
  have iv_1 : 0 ≤ (v 39).toInt ∧ (v 39).toInt ≤ 40 := gV 39
  refine lv_aload_n hx hb dX11_ask_0 rfl (lv_at hl 0 rfl) ?_
  refine lv_iload_n hx hb dX11_ask_1 rfl (lv_at hl 1 rfl) ?_
  have hFc : ∀ q, va_A [] s.heap.size q → A q := pu_free hS hA
  refine va_calli (va_runV (As := [.int x1]) (rest := []) ⟨hx, hb, hml, hown, hts⟩ (c_X11_isMan l dC dI s.heap.size g0 pq cp v fa x1) (cwV 1 hts gX11_ask_X11_isMan rfl rfl rfl (by decide +kernel) ⟨(Nat.le_of_ble_eq_true rfl), (Nat.le_of_ble_eq_true rfl)⟩) (pr_V (r := (RX11, TX11, 63)) hP hK hD 0 11 rfl rfl) rfl rfl hl.1 rfl (lv_room (Nat.le_of_ble_eq_true rfl)) dX11_ask_2 ⟨(Nat.le_of_ble_eq_true rfl), (Nat.le_of_ble_eq_true rfl)⟩) hS (fun q _ h => hFc q h) hFc (fun r_3 u t H locs ht hvm w_2 hB hz1 hk1 hS => ?_)
  have hP := pu_keep hP hk1
  clear hk1 hz1 hvm hB ht hFc
  have hbr_3 : 0 ≤ r_3.toInt ∧ r_3.toInt ≤ 1 := iv_of w_2 (isI_i _ _)
  refine lv_if_ne (tgt := 14) hx hb dX11_ask_5 (by decide) (fun c_4 => ?_) (fun c_4 => ?_)
  · have dc_4 := c_ne (a := r_3.toInt) (b := 0) rfl (by decide) c_4
    have hi_5 := isI_t w_2 (fun q => c_4 (Int32.toInt_inj.mp q))
    have khi_5 : (v 39).toInt ≤ 40 := (gV 39).2
    refine lv_iload_n hx hb dX11_ask_14 rfl (lv_at hl 2 rfl) ?_
    refine lv_if_lt (tgt := 22) hx hb dX11_ask_15 (by decide) (fun c_6 => ?_) (fun c_6 => ?_)
    · have dc_6 := c_lt (a := x2.toInt) (b := 0) rfl (by decide) c_6
      refine lv_aload_n hx hb dX11_ask_22 rfl (lv_at hl 0 rfl) ?_
      refine lv_bipush (v := (-4)) hx hb dX11_ask_23 (by decide) ?_
      have hFc := va_free (wc := (mW g0 pq cp v fa)) hD hS hA (List.range 48) rfl
      refine va_calli (va_runV (As := [.int (-4)]) (rest := []) ⟨hx, hb, hml, hown, hts⟩ (c_X11_refuse_f l dC dI H.size g0 pq cp v fa (-4) (by unfold vp_in; decide)) (cwV 1 hts gX11_ask_X11_refuse rfl rfl rfl (by decide +kernel) ⟨(Nat.le_of_ble_eq_true rfl), (Nat.le_of_ble_eq_true rfl)⟩) (pr_V (r := (RX11, TX11, 63)) hP hK hD 0 11 rfl rfl) rfl rfl hl.1 rfl (lv_room (Nat.le_of_ble_eq_true rfl)) dX11_ask_25 ⟨(Nat.le_of_ble_eq_true rfl), (Nat.le_of_ble_eq_true rfl)⟩) hS (fun q _ h => hFc q h) hFc (fun r_8 u t H locs ht hvm w_7 hB hz1 hk1 hS => ?_)
      obtain ⟨v_9, fa_10⟩ := u
      obtain ⟨hP1, hK1, hD1⟩ := hB
      rw [ht] at hP1
      have hP : va_P (dC, dI) vwCl (mW g0 pq cp v_9 fa_10) H := hP1
      have hD : va_D A (mW g0 pq cp v_9 fa_10) := hD1.weaken (fun _ _ _ h => hFc _ h)
      clear hP1 hK1 hD1 hk1 hz1 hvm ht hFc
      obtain ⟨rfl, hs1_11⟩ := w_7
      have hVv_9 : mV v_9 := sm0_V (sm1_0 hs1_11) gV
      have hAv_9 : mA fa_10 := sm0_A (sm1_0 hs1_11) gA
      have g_12 : (v_9 39).toInt = (v 39).toInt := congrArg Int32.toInt (congrFun hs1_11.1 39)
      have hRv_9 : mX [0, 5] v fa v_9 fa_10 := mX.st mX.rf (mX.s0 (sm1_0 hs1_11)) (by decide)
      exact W.iret (v := (-4)) hx hb hr (fun t ht hW => ⟨⟨(-4), (v_9, fa_10), rfl, ⟨hVv_9, hAv_9, hRv_9, ⟨Or.inl ⟨by have rc : ((-4) : Int32).toInt = -4 := (by decide); unfold gao; omega, (sm1_0 hs1_11).2 5 (by decide)⟩, (Or.inl ⟨by have rc : ((-4) : Int32).toInt = -4 := (by decide); unfold gaok; omega, sm2_1 hs1_11⟩)⟩⟩, ⟨by rw [ht]; exact hP, va_K.moved hW.alike hK, hD⟩⟩, hS.F ht⟩) hS.2.2 dX11_ask_28
    · have dc_6 := c_nlt (a := x2.toInt) (b := 0) rfl (by decide) c_6
      refine lv_iload_n hx hb dX11_ask_18 rfl (lv_at hl 3 rfl) ?_
      refine lv_if_ge (tgt := 29) hx hb dX11_ask_19 (by decide) (fun c_13 => ?_) (fun c_13 => ?_)
      · have dc_13 := c_le (a := 0) (b := x3.toInt) (by decide) rfl c_13
        refine lv_iload_n hx hb dX11_ask_29 rfl (lv_at hl 2 rfl) ?_
        refine lv_iconst (v := 3) hx hb dX11_ask_30 (by decide) ?_
        refine lv_icmp_gt (tgt := 41) hx hb dX11_ask_31 (by decide) (fun c_14 => ?_) (fun c_14 => ?_)
        · have dc_14 := c_lt (a := 3) (b := x2.toInt) (by decide) rfl c_14
          refine lv_aload_n hx hb dX11_ask_41 rfl (lv_at hl 0 rfl) ?_
          refine lv_bipush (v := (-6)) hx hb dX11_ask_42 (by decide) ?_
          have hFc := va_free (wc := (mW g0 pq cp v fa)) hD hS hA (List.range 48) rfl
          refine va_calli (va_runV (As := [.int (-6)]) (rest := []) ⟨hx, hb, hml, hown, hts⟩ (c_X11_refuse_f l dC dI H.size g0 pq cp v fa (-6) (by unfold vp_in; decide)) (cwV 1 hts gX11_ask_X11_refuse rfl rfl rfl (by decide +kernel) ⟨(Nat.le_of_ble_eq_true rfl), (Nat.le_of_ble_eq_true rfl)⟩) (pr_V (r := (RX11, TX11, 63)) hP hK hD 0 11 rfl rfl) rfl rfl hl.1 rfl (lv_room (Nat.le_of_ble_eq_true rfl)) dX11_ask_44 ⟨(Nat.le_of_ble_eq_true rfl), (Nat.le_of_ble_eq_true rfl)⟩) hS (fun q _ h => hFc q h) hFc (fun r_16 u t H locs ht hvm w_15 hB hz1 hk1 hS => ?_)
          obtain ⟨v_17, fa_18⟩ := u
          obtain ⟨hP1, hK1, hD1⟩ := hB
          rw [ht] at hP1
          have hP : va_P (dC, dI) vwCl (mW g0 pq cp v_17 fa_18) H := hP1
          have hD : va_D A (mW g0 pq cp v_17 fa_18) := hD1.weaken (fun _ _ _ h => hFc _ h)
          clear hP1 hK1 hD1 hk1 hz1 hvm ht hFc
          obtain ⟨rfl, hs1_19⟩ := w_15
          have hVv_17 : mV v_17 := sm0_V (sm1_0 hs1_19) gV
          have hAv_17 : mA fa_18 := sm0_A (sm1_0 hs1_19) gA
          have g_20 : (v_17 39).toInt = (v 39).toInt := congrArg Int32.toInt (congrFun hs1_19.1 39)
          have hRv_17 : mX [0, 5] v fa v_17 fa_18 := mX.st mX.rf (mX.s0 (sm1_0 hs1_19)) (by decide)
          exact W.iret (v := (-6)) hx hb hr (fun t ht hW => ⟨⟨(-6), (v_17, fa_18), rfl, ⟨hVv_17, hAv_17, hRv_17, ⟨Or.inl ⟨by have rc : ((-6) : Int32).toInt = -6 := (by decide); unfold gao; omega, (sm1_0 hs1_19).2 5 (by decide)⟩, (Or.inl ⟨by have rc : ((-6) : Int32).toInt = -6 := (by decide); unfold gaok; omega, sm2_1 hs1_19⟩)⟩⟩, ⟨by rw [ht]; exact hP, va_K.moved hW.alike hK, hD⟩⟩, hS.F ht⟩) hS.2.2 dX11_ask_47
        · have dc_14 := c_nlt (a := 3) (b := x2.toInt) (by decide) rfl c_14
          refine lv_iload_n hx hb dX11_ask_34 rfl (lv_at hl 3 rfl) ?_
          refine lv_sipush (v := 9999) hx hb dX11_ask_35 (by decide) ?_
          refine lv_icmp_le (tgt := 48) hx hb dX11_ask_38 (by decide) (fun c_21 => ?_) (fun c_21 => ?_)
          · have dc_21 := c_le (a := x3.toInt) (b := 9999) rfl (by decide) c_21
            refine lv_aload_n hx hb dX11_ask_48 rfl (lv_at hl 0 rfl) ?_
            refine va_get (D := (dC, dI)) (ci := 11) (v := .ref (pq 5)) (C := RX11) (T := TX11) (N := 63) hx hb hts in_wsX11_ask_X11 hown hK hP 0 rfl rfl 5 (by decide) (hts (.fieldLink RX11 25 "ShipOfficeModel" "asks" "[I") iw_X11_ask_1) (fun _ h9 => h9) rfl dX11_ask_49 ?_
            refine lv_iconst (v := 4) hx hb dX11_ask_52 (by decide) ?_
            refine lv_iload_n hx hb dX11_ask_53 rfl (lv_at hl 1 rfl) ?_
            refine lv_imul hx hb dX11_ask_54 ?_
            refine lv_topi (fun x_22 ex_22 => ?_)
            have hx_22 : x_22.toInt = 4 * x1.toInt := (iv_to ex_22).trans (mu_i (by decide) rfl (by omega) (by omega))
            refine lv_iload_n hx hb dX11_ask_55 rfl (lv_at hl 2 rfl) ?_
            refine lv_iadd hx hb dX11_ask_56 ?_
            refine lv_topi (fun x_23 ex_23 => ?_)
            have hx_23 : x_23.toInt = x_22.toInt + x2.toInt := (iv_to ex_23).trans (ad_i rfl rfl (by omega) (by omega))
            refine va_iald hx hb hK hP 6 5 rfl rfl (vp_in_iff.mpr (by omega)) dX11_ask_57 ?_
            refine lv_topi (fun x_24 ex_24 => ?_)
            have gx_24 : x_24.toInt = (fa 5 (x_23 : Int32).toNatClampNeg).toInt := iv_to ex_24
            clear ex_24
            refine lv_istore (lv' := [(4, .int x_24), (0, .ref g0), (1, .int x1), (2, .int x2), (3, .int x3)]) hx hb dX11_ask_58 hl (by decide) rfl (fun ls hl => ?_)
            refine lv_aload_n hx hb dX11_ask_60 rfl (lv_at hl 1 rfl) ?_
            refine va_get (D := (dC, dI)) (ci := 11) (v := .ref (pq 5)) (C := RX11) (T := TX11) (N := 63) hx hb hts in_wsX11_ask_X11 hown hK hP 0 rfl rfl 5 (by decide) (hts (.fieldLink RX11 25 "ShipOfficeModel" "asks" "[I") iw_X11_ask_1) (fun _ h9 => h9) rfl dX11_ask_61 ?_
            refine lv_iconst (v := 4) hx hb dX11_ask_64 (by decide) ?_
            refine lv_iload_n hx hb dX11_ask_65 rfl (lv_at hl 2 rfl) ?_
            refine lv_imul hx hb dX11_ask_66 ?_
            refine lv_topi (fun x_25 ex_25 => ?_)
            have hx_25 : x_25.toInt = 4 * x1.toInt := (iv_to ex_25).trans (mu_i (by decide) rfl (by omega) (by omega))
            refine lv_iload_n hx hb dX11_ask_67 rfl (lv_at hl 3 rfl) ?_
            refine lv_iadd hx hb dX11_ask_68 ?_
            refine lv_topi (fun x_26 ex_26 => ?_)
            have hx_26 : x_26.toInt = x_25.toInt + x2.toInt := (iv_to ex_26).trans (ad_i rfl rfl (by omega) (by omega))
            refine lv_iload_n hx hb dX11_ask_69 rfl (lv_at hl 4 rfl) ?_
            refine va_iast hx hb hK hP hD hS 6 5 rfl rfl (vp_in_iff.mpr (by omega)) dX11_ask_70 (fun H locs hP hD hS => ?_)
            have hP : va_P (dC, dI) vwCl (mW g0 pq cp v (upF fa 5 (x_26 : Int32).toNatClampNeg x3)) H := hP
            have hD : va_D A (mW g0 pq cp v (upF fa 5 (x_26 : Int32).toNatClampNeg x3)) := hD
            obtain ⟨fz_27, efz_27⟩ : ∃ zq, zq = (upF fa 5 (x_26 : Int32).toNatClampNeg x3) := ⟨_, rfl⟩
            rw [← efz_27] at hP hD
            have hAfz_27 : mA fz_27 := by rw [efz_27]; exact mA_upF (lo := -2147483648) (hi := 2147483647) gA rfl rfl (iv_all _)
            have hRfz_27 : mX [0, 5] v fa v fz_27 := by rw [efz_27]; exact mX.uF mX.rf (by decide)
            have q0_28 : fz_27 0 = fa 0 := by rw [efz_27]; exact (if_neg (by decide)).trans rfl
            refine lv_iload hx hb dX11_ask_71 (lv_at hl 0 rfl) ?_
            exact W.iret (v := x_24) hx hb hr (fun t ht hW => ⟨⟨x_24, (v, fz_27), rfl, ⟨gV, hAfz_27, hRfz_27, ⟨Or.inr ⟨by unfold gaok; omega, x_23, by omega, Int32.toInt_inj.mp (by omega), by have eb : x_26 = x_23 := Int32.toInt_inj.mp (by omega); dsimp only; rw [efz_27, eb]; rfl⟩, (Or.inr ⟨by unfold gaok; omega, (by first | exact q0_28 | (dsimp only; exact q0_28))⟩)⟩⟩, ⟨by rw [ht]; exact hP, va_K.moved hW.alike hK, hD⟩⟩, hS.F ht⟩) hS.2.2 dX11_ask_73
          · have dc_21 := c_nle (a := x3.toInt) (b := 9999) rfl (by decide) c_21
            refine lv_aload_n hx hb dX11_ask_41 rfl (lv_at hl 0 rfl) ?_
            refine lv_bipush (v := (-6)) hx hb dX11_ask_42 (by decide) ?_
            have hFc := va_free (wc := (mW g0 pq cp v fa)) hD hS hA (List.range 48) rfl
            refine va_calli (va_runV (As := [.int (-6)]) (rest := []) ⟨hx, hb, hml, hown, hts⟩ (c_X11_refuse_f l dC dI H.size g0 pq cp v fa (-6) (by unfold vp_in; decide)) (cwV 1 hts gX11_ask_X11_refuse rfl rfl rfl (by decide +kernel) ⟨(Nat.le_of_ble_eq_true rfl), (Nat.le_of_ble_eq_true rfl)⟩) (pr_V (r := (RX11, TX11, 63)) hP hK hD 0 11 rfl rfl) rfl rfl hl.1 rfl (lv_room (Nat.le_of_ble_eq_true rfl)) dX11_ask_44 ⟨(Nat.le_of_ble_eq_true rfl), (Nat.le_of_ble_eq_true rfl)⟩) hS (fun q _ h => hFc q h) hFc (fun r_30 u t H locs ht hvm w_29 hB hz1 hk1 hS => ?_)
            obtain ⟨v_31, fa_32⟩ := u
            obtain ⟨hP1, hK1, hD1⟩ := hB
            rw [ht] at hP1
            have hP : va_P (dC, dI) vwCl (mW g0 pq cp v_31 fa_32) H := hP1
            have hD : va_D A (mW g0 pq cp v_31 fa_32) := hD1.weaken (fun _ _ _ h => hFc _ h)
            clear hP1 hK1 hD1 hk1 hz1 hvm ht hFc
            obtain ⟨rfl, hs1_33⟩ := w_29
            have hVv_31 : mV v_31 := sm0_V (sm1_0 hs1_33) gV
            have hAv_31 : mA fa_32 := sm0_A (sm1_0 hs1_33) gA
            have g_34 : (v_31 39).toInt = (v 39).toInt := congrArg Int32.toInt (congrFun hs1_33.1 39)
            have hRv_31 : mX [0, 5] v fa v_31 fa_32 := mX.st mX.rf (mX.s0 (sm1_0 hs1_33)) (by decide)
            exact W.iret (v := (-6)) hx hb hr (fun t ht hW => ⟨⟨(-6), (v_31, fa_32), rfl, ⟨hVv_31, hAv_31, hRv_31, ⟨Or.inl ⟨by have rc : ((-6) : Int32).toInt = -6 := (by decide); unfold gao; omega, (sm1_0 hs1_33).2 5 (by decide)⟩, (Or.inl ⟨by have rc : ((-6) : Int32).toInt = -6 := (by decide); unfold gaok; omega, sm2_1 hs1_33⟩)⟩⟩, ⟨by rw [ht]; exact hP, va_K.moved hW.alike hK, hD⟩⟩, hS.F ht⟩) hS.2.2 dX11_ask_47
      · have dc_13 := c_nle (a := 0) (b := x3.toInt) (by decide) rfl c_13
        refine lv_aload_n hx hb dX11_ask_22 rfl (lv_at hl 0 rfl) ?_
        refine lv_bipush (v := (-4)) hx hb dX11_ask_23 (by decide) ?_
        have hFc := va_free (wc := (mW g0 pq cp v fa)) hD hS hA (List.range 48) rfl
        refine va_calli (va_runV (As := [.int (-4)]) (rest := []) ⟨hx, hb, hml, hown, hts⟩ (c_X11_refuse_f l dC dI H.size g0 pq cp v fa (-4) (by unfold vp_in; decide)) (cwV 1 hts gX11_ask_X11_refuse rfl rfl rfl (by decide +kernel) ⟨(Nat.le_of_ble_eq_true rfl), (Nat.le_of_ble_eq_true rfl)⟩) (pr_V (r := (RX11, TX11, 63)) hP hK hD 0 11 rfl rfl) rfl rfl hl.1 rfl (lv_room (Nat.le_of_ble_eq_true rfl)) dX11_ask_25 ⟨(Nat.le_of_ble_eq_true rfl), (Nat.le_of_ble_eq_true rfl)⟩) hS (fun q _ h => hFc q h) hFc (fun r_36 u t H locs ht hvm w_35 hB hz1 hk1 hS => ?_)
        obtain ⟨v_37, fa_38⟩ := u
        obtain ⟨hP1, hK1, hD1⟩ := hB
        rw [ht] at hP1
        have hP : va_P (dC, dI) vwCl (mW g0 pq cp v_37 fa_38) H := hP1
        have hD : va_D A (mW g0 pq cp v_37 fa_38) := hD1.weaken (fun _ _ _ h => hFc _ h)
        clear hP1 hK1 hD1 hk1 hz1 hvm ht hFc
        obtain ⟨rfl, hs1_39⟩ := w_35
        have hVv_37 : mV v_37 := sm0_V (sm1_0 hs1_39) gV
        have hAv_37 : mA fa_38 := sm0_A (sm1_0 hs1_39) gA
        have g_40 : (v_37 39).toInt = (v 39).toInt := congrArg Int32.toInt (congrFun hs1_39.1 39)
        have hRv_37 : mX [0, 5] v fa v_37 fa_38 := mX.st mX.rf (mX.s0 (sm1_0 hs1_39)) (by decide)
        exact W.iret (v := (-4)) hx hb hr (fun t ht hW => ⟨⟨(-4), (v_37, fa_38), rfl, ⟨hVv_37, hAv_37, hRv_37, ⟨Or.inl ⟨by have rc : ((-4) : Int32).toInt = -4 := (by decide); unfold gao; omega, (sm1_0 hs1_39).2 5 (by decide)⟩, (Or.inl ⟨by have rc : ((-4) : Int32).toInt = -4 := (by decide); unfold gaok; omega, sm2_1 hs1_39⟩)⟩⟩, ⟨by rw [ht]; exact hP, va_K.moved hW.alike hK, hD⟩⟩, hS.F ht⟩) hS.2.2 dX11_ask_28
  · have dc_4 := c_eq (a := r_3.toInt) (b := 0) rfl (by decide) c_4
    have hz_41 := isI_0 (w_2.symm.trans c_4)
    refine lv_aload_n hx hb dX11_ask_8 rfl (lv_at hl 0 rfl) ?_
    refine lv_iconst (v := (-1)) hx hb dX11_ask_9 (by decide) ?_
    have hFc := va_free (wc := (mW g0 pq cp v fa)) hD hS hA (List.range 48) rfl
    refine va_calli (va_runV (As := [.int (-1)]) (rest := []) ⟨hx, hb, hml, hown, hts⟩ (c_X11_refuse_f l dC dI H.size g0 pq cp v fa (-1) (by unfold vp_in; decide)) (cwV 1 hts gX11_ask_X11_refuse rfl rfl rfl (by decide +kernel) ⟨(Nat.le_of_ble_eq_true rfl), (Nat.le_of_ble_eq_true rfl)⟩) (pr_V (r := (RX11, TX11, 63)) hP hK hD 0 11 rfl rfl) rfl rfl hl.1 rfl (lv_room (Nat.le_of_ble_eq_true rfl)) dX11_ask_10 ⟨(Nat.le_of_ble_eq_true rfl), (Nat.le_of_ble_eq_true rfl)⟩) hS (fun q _ h => hFc q h) hFc (fun r_43 u t H locs ht hvm w_42 hB hz1 hk1 hS => ?_)
    obtain ⟨v_44, fa_45⟩ := u
    obtain ⟨hP1, hK1, hD1⟩ := hB
    rw [ht] at hP1
    have hP : va_P (dC, dI) vwCl (mW g0 pq cp v_44 fa_45) H := hP1
    have hD : va_D A (mW g0 pq cp v_44 fa_45) := hD1.weaken (fun _ _ _ h => hFc _ h)
    clear hP1 hK1 hD1 hk1 hz1 hvm ht hFc
    obtain ⟨rfl, hs1_46⟩ := w_42
    have hVv_44 : mV v_44 := sm0_V (sm1_0 hs1_46) gV
    have hAv_44 : mA fa_45 := sm0_A (sm1_0 hs1_46) gA
    have g_47 : (v_44 39).toInt = (v 39).toInt := congrArg Int32.toInt (congrFun hs1_46.1 39)
    have hRv_44 : mX [0, 5] v fa v_44 fa_45 := mX.st mX.rf (mX.s0 (sm1_0 hs1_46)) (by decide)
    exact W.iret (v := (-1)) hx hb hr (fun t ht hW => ⟨⟨(-1), (v_44, fa_45), rfl, ⟨hVv_44, hAv_44, hRv_44, ⟨Or.inl ⟨by have rc : ((-1) : Int32).toInt = -1 := (by decide); unfold gao; omega, (sm1_0 hs1_46).2 5 (by decide)⟩, (Or.inl ⟨by have rc : ((-1) : Int32).toInt = -1 := (by decide); unfold gaok; omega, sm2_1 hs1_46⟩)⟩⟩, ⟨by rw [ht]; exact hP, va_K.moved hW.alike hK, hD⟩⟩, hS.F ht⟩) hS.2.2 dX11_ask_13
set_option maxHeartbeats 4000000 in
set_option maxRecDepth 100000 in
theorem c_X11_crew_f (l : Launch) (dC : Nat → ClassId) (dI : Nat → Nat → Nat) (sz : Nat) (g0 : Nat) (pq : Nat → Nat) (cp : Nat → ClassId) (v : Nat → Int32) (fa : Nat → Nat → Int32) (gV : mV v) (gA : mA fa) (x1 : Int32) (x2 : Int32) : Met l yX11_crew wsX11_crew ({ frames := 9, cells := 0, slots := 0, locals := 234 }) (va_Pc [.ref g0, .int x1, .int x2] (pcW (dC, dI) (mT cp) (mW g0 pq cp v fa) sz)) (va_Qi (fun (r : Int32) (u : (Nat → Int32) × (Nat → Nat → Int32)) => mV u.1 ∧ mA u.2 ∧ mX [0, 45, 47, 48, 49, 50, 51, 52, 53, 54, 55, 56, 57, 58, 59, 60] v fa u.1 u.2 ∧ (crA x1.toInt x2.toInt r.toInt ∧ rZr v fa u r (crB x1.toInt x2.toInt))) (fun u t => va_P (dC, dI) vwCl (mW g0 pq cp u.1 u.2) t.heap ∧ va_K (dC, dI) vwCl (mT cp) t ∧ va_D (va_A (mW g0 pq cp v fa) sz) (mW g0 pq cp u.1 u.2)) (va_A (mW g0 pq cp v fa) sz)) 0 0 (va_A (mW g0 pq cp v fa) sz) := by
  refine Met.ofW (cc := cX11_crew) (maxL := 6) (ret := (some .int)) (by decide) rfl ?_
  intro p e s m args below meth c s₁ B hml hv
  obtain ⟨rfl, hsz, hP, hK, hD0⟩ := hv
  have hx := B.exec
  have hb := B.bytes
  have hr := B.returns
  have hts := atoms_spec (ws := wsX11_crew) B.pre
  have hown : s.vm.findClass RX11 = some m.cls := findClass_of_methodNamed B.named
  have hlocks := B.notSynchronized
  subst hsz
  have hD := hD0.self (sz := s.heap.size)
  generalize hAe : va_A (mW g0 pq cp v fa) s.heap.size = A at hD ⊢
  have hA : ∀ q : Nat, s.heap.size ≤ q → A q := fun q h => by rw [← hAe]; exact Or.inr h
  have hS : va_S A s.heap s.heap [] := va_S.rf
  have hP : va_P (dC, dI) vwCl (mW g0 pq cp v fa) s.heap := hP
  have hl := lv_entry ([.ref g0, .int x1, .int x2]) (n := 6) (Nat.le_of_ble_eq_true rfl)
  rw [lg_entry_eq]
  generalize (lg_sl ([.ref g0, .int x1, .int x2]) ++ List.replicate (6 - (lg_sl ([.ref g0, .int x1, .int x2])).length) Slot.unset).toArray = ls at hl ⊢
  have hl : lv_has ls 6 [(0, .ref g0), (1, .int x1), (2, .int x2)] := hl
  have iv_1 : 0 ≤ (v 58).toInt ∧ (v 58).toInt ≤ 12 := gV 58
  have iv_2 : 0 ≤ (v 59).toInt ∧ (v 59).toInt ≤ 8 := gV 59
  refine lv_iload_n hx hb dX11_crew_0 rfl (lv_at hl 1 rfl) ?_
  refine lv_if_ge (tgt := 11) hx hb dX11_crew_1 (by decide) (fun c_3 => ?_) (fun c_3 => ?_)
  · have dc_3 := c_le (a := 0) (b := x1.toInt) (by decide) rfl c_3
    refine lv_iload_n hx hb dX11_crew_11 rfl (lv_at hl 1 rfl) ?_
    refine lv_bipush (v := 80) hx hb dX11_crew_12 (by decide) ?_
    refine lv_icmp_le (tgt := 24) hx hb dX11_crew_14 (by decide) (fun c_4 => ?_) (fun c_4 => ?_)
    · have dc_4 := c_le (a := x1.toInt) (b := 80) rfl (by decide) c_4
      refine lv_iload_n hx hb dX11_crew_24 rfl (lv_at hl 2 rfl) ?_
      refine lv_bipush (v := 9) hx hb dX11_crew_25 (by decide) ?_
      have hFc : ∀ q, va_A [] s.heap.size q → A q := pu_free hS hA
      have hPc := hP.sub (ws' := []) [] rfl
      have hDc := hD.sub (ws' := []) [] (by decide) rfl
      have hKc := hK.sub (tys' := []) [] rfl
      refine va_calli (va_runS (As := [.int x2, .int 9]) (rest := []) ⟨hx, hb, hml, hown, hts⟩ (c_X11_isIn l dC dI s.heap.size x2 9) (va_cwS 2 hts gX11_crew_X11_isIn rfl rfl rfl (by decide +kernel) ⟨(Nat.le_of_ble_eq_true rfl), (Nat.le_of_ble_eq_true rfl)⟩) (pr_S hPc hKc hDc) rfl rfl hl.1 rfl (lv_room (Nat.le_of_ble_eq_true rfl)) dX11_crew_27 ⟨(Nat.le_of_ble_eq_true rfl), (Nat.le_of_ble_eq_true rfl)⟩) hS (fun q _ h => hFc q h) hFc (fun r_6 u t H locs ht hvm w_5 hB hz1 hk1 hS => ?_)
      have hP := pu_keep hP hk1
      clear hk1 hz1 hvm hB ht hFc hPc hDc hKc
      have hbr_6 : 0 ≤ r_6.toInt ∧ r_6.toInt ≤ 1 := iv_of w_5 (isI_i _ _)
      refine lv_if_ne (tgt := 40) hx hb dX11_crew_30 (by decide) (fun c_7 => ?_) (fun c_7 => ?_)
      · have dc_7 := c_ne (a := r_6.toInt) (b := 0) rfl (by decide) c_7
        have hi_8 := isI_t w_5 (fun q => c_7 (Int32.toInt_inj.mp q))
        have khi_8 : (9 : Int32).toInt = 9 := by decide
        refine lv_aload_n hx hb dX11_crew_40 rfl (lv_at hl 0 rfl) ?_
        refine lv_iconst (v := 0) hx hb dX11_crew_41 (by decide) ?_
        refine va_put (D := (dC, dI)) (ci := 11) (v := .int 0) (ty := .int) (C := RX11) (T := TX11) (N := 63) hx hb hts in_wsX11_crew_X11 tyX11 tyX11_ok nmX11 hown hK hP hD hS 0 rfl rfl 58 (by decide) (hts (.fieldLink RX11 344 "ShipOfficeModel" "someMany" "I") iw_X11_crew_1) (fun _ h9 => h9) rfl (by decide +kernel) rfl rfl (Nat.le_of_ble_eq_true rfl) dX11_crew_42 (fun H locs hP hD hS => ?_)
        have hP : va_P (dC, dI) vwCl (mW g0 pq cp (upd v 58 0) fa) H := hP
        have hD : va_D A (mW g0 pq cp (upd v 58 0) fa) := hD
        obtain ⟨z_9, ez_9⟩ : ∃ zq, zq = (upd v 58 0) := ⟨_, rfl⟩
        rw [← ez_9] at hP hD
        have hVz_9 : mV z_9 := by rw [ez_9]; exact mV_upd (lo := 0) (hi := 12) gV rfl rfl (by decide)
        have hRz_9 : mX [0, 45, 47, 48, 49, 50, 51, 52, 53, 54, 55, 56, 57, 58, 59, 60] v fa z_9 fa := by rw [ez_9]; exact mX.up mX.rf (by decide)
        have g_10 : (z_9 58).toInt = 0 := by rw [ez_9, show upd v 58 0 58 = 0 from if_pos rfl]; decide
        have g_11 : (z_9 59).toInt = (v 59).toInt := by rw [ez_9]; exact congrArg Int32.toInt (if_neg (by decide))
        have cut_12 : ∀ (z_13 : Nat → Int32) (fz_14 : Nat → Nat → Int32) (H : Heap) (locs : List Loc) (ls : Array Slot), fz_14 0 = fa 0 → mV z_13 → mA fz_14 → mX [0, 45, 47, 48, 49, 50, 51, 52, 53, 54, 55, 56, 57, 58, 59, 60] v fa z_13 fz_14 → va_P (dC, dI) vwCl (mW g0 pq cp z_13 fz_14) H → va_D A (mW g0 pq cp z_13 fz_14) → va_S A s.heap H locs → lv_has ls 6 [(0, .ref g0), (1, .int x1), (2, .int x2)] → W p l e (headSpec wsX11_crew { frames := 9, cells := 0, slots := 0, locals := 234 }).room s m #[Value.ref g0, Value.int x1, Value.int x2] below meth c H locs 0 0 (MQ below (va_Qi (fun (r : Int32) (u : (Nat → Int32) × (Nat → Nat → Int32)) => mV u.1 ∧ mA u.2 ∧ mX [0, 45, 47, 48, 49, 50, 51, 52, 53, 54, 55, 56, 57, 58, 59, 60] v fa u.1 u.2 ∧ (crA x1.toInt x2.toInt r.toInt ∧ rZr v fa u r (crB x1.toInt x2.toInt))) (fun u t => va_P (dC, dI) vwCl (mW g0 pq cp u.1 u.2) t.heap ∧ va_K (dC, dI) vwCl (mT cp) t ∧ va_D A (mW g0 pq cp u.1 u.2)) A) #[Value.ref g0, Value.int x1, Value.int x2] s 0 0 A) (F0 m 109 ls []) := by
          intro  z_13 fz_14 H locs ls hq0_cut_12 hVz_13 hAz_13 hRz_13 hP hD hS hl
          refine lv_aload_n hx hb dX11_crew_109 rfl (lv_at hl 0 rfl) ?_
          refine lv_iconst (v := 0) hx hb dX11_crew_110 (by decide) ?_
          refine va_put (D := (dC, dI)) (ci := 11) (v := .int 0) (ty := .int) (C := RX11) (T := TX11) (N := 63) hx hb hts in_wsX11_crew_X11 tyX11 tyX11_ok nmX11 hown hK hP hD hS 0 rfl rfl 59 (by decide) (hts (.fieldLink RX11 341 "ShipOfficeModel" "hands" "I") iw_X11_crew_2) (fun _ h9 => h9) rfl (by decide +kernel) rfl rfl (Nat.le_of_ble_eq_true rfl) dX11_crew_111 (fun H locs hP hD hS => ?_)
          have hP : va_P (dC, dI) vwCl (mW g0 pq cp (upd z_13 59 0) fz_14) H := hP
          have hD : va_D A (mW g0 pq cp (upd z_13 59 0) fz_14) := hD
          obtain ⟨z_15, ez_15⟩ : ∃ zq, zq = (upd z_13 59 0) := ⟨_, rfl⟩
          rw [← ez_15] at hP hD
          have hVz_15 : mV z_15 := by rw [ez_15]; exact mV_upd (lo := 0) (hi := 8) hVz_13 rfl rfl (by decide)
          have hRz_15 : mX [0, 45, 47, 48, 49, 50, 51, 52, 53, 54, 55, 56, 57, 58, 59, 60] v fa z_15 fz_14 := by rw [ez_15]; exact mX.up hRz_13 (by decide)
          have g_16 : (z_15 58).toInt = (z_13 58).toInt := by rw [ez_15]; exact congrArg Int32.toInt (if_neg (by decide))
          have g_17 : (z_15 59).toInt = 0 := by rw [ez_15, show upd z_13 59 0 59 = 0 from if_pos rfl]; decide
          refine lv_iload_n hx hb dX11_crew_114 rfl (lv_at hl 1 rfl) ?_
          refine lv_istore_n (lv' := [(3, .int x1), (0, .ref g0), (1, .int x1), (2, .int x2)]) hx hb dX11_crew_115 rfl hl (by decide) rfl (fun ls hl => ?_)
          refine lv_iconst (v := 0) hx hb dX11_crew_116 (by decide) ?_
          refine lv_istore (lv' := [(4, .int 0), (3, .int x1), (0, .ref g0), (1, .int x1), (2, .int x2)]) hx hb dX11_crew_117 hl (by decide) rfl (fun ls hl => ?_)
          have cut_18 : ∀ (n : Nat) (y_19 : Int32) (y_20 : Int32) (z_21 : Nat → Int32) (fz_22 : Nat → Nat → Int32) (H : Heap) (locs : List Loc) (ls : Array Slot), 4 - y_19.toInt ≤ (n : Int) → (0 ≤ y_19.toInt ∧ y_19.toInt ≤ 4) → (0 ≤ y_20.toInt ∧ y_20.toInt ≤ 80) → (z_21 59).toInt ≤ 2 * y_19.toInt → fz_22 0 = fa 0 → mV z_21 → mA fz_22 → mX [0, 45, 47, 48, 49, 50, 51, 52, 53, 54, 55, 56, 57, 58, 59, 60] v fa z_21 fz_22 → va_P (dC, dI) vwCl (mW g0 pq cp z_21 fz_22) H → va_D A (mW g0 pq cp z_21 fz_22) → va_S A s.heap H locs → (z_21 58).toInt = (z_15 58).toInt → lv_has ls 6 [(4, .int y_19), (3, .int y_20), (0, .ref g0), (1, .int x1), (2, .int x2)] → W p l e (headSpec wsX11_crew { frames := 9, cells := 0, slots := 0, locals := 234 }).room s m #[Value.ref g0, Value.int x1, Value.int x2] below meth c H locs 0 0 (MQ below (va_Qi (fun (r : Int32) (u : (Nat → Int32) × (Nat → Nat → Int32)) => mV u.1 ∧ mA u.2 ∧ mX [0, 45, 47, 48, 49, 50, 51, 52, 53, 54, 55, 56, 57, 58, 59, 60] v fa u.1 u.2 ∧ (crA x1.toInt x2.toInt r.toInt ∧ rZr v fa u r (crB x1.toInt x2.toInt))) (fun u t => va_P (dC, dI) vwCl (mW g0 pq cp u.1 u.2) t.heap ∧ va_K (dC, dI) vwCl (mT cp) t ∧ va_D A (mW g0 pq cp u.1 u.2)) A) #[Value.ref g0, Value.int x1, Value.int x2] s 0 0 A) (F0 m 119 ls []) := by
            intro n
            induction n using Nat.strongRecOn with
            | ind n ih =>
              intro y_19 y_20 z_21 fz_22 H locs ls hm hy_19 hy_20 hq0_cut_18 hq1_cut_18 hVz_21 hAz_21 hRz_21 hP hD hS g_23 hl
              refine lv_iload hx hb dX11_crew_119 (lv_at hl 0 rfl) ?_
              refine lv_iconst (v := 4) hx hb dX11_crew_121 (by decide) ?_
              refine lv_icmp_ge (tgt := 173) hx hb dX11_crew_122 (by decide) (fun c_24 => ?_) (fun c_24 => ?_)
              · have dc_24 := c_le (a := 4) (b := y_19.toInt) (by decide) rfl c_24
                refine lv_aload_n hx hb dX11_crew_173 rfl (lv_at hl 2 rfl) ?_
                refine lv_bipush (v := (-9)) hx hb dX11_crew_174 (by decide) ?_
                refine va_put (D := (dC, dI)) (ci := 11) (v := .int (-9)) (ty := .int) (C := RX11) (T := TX11) (N := 63) hx hb hts in_wsX11_crew_X11 tyX11 tyX11_ok nmX11 hown hK hP hD hS 0 rfl rfl 60 (by decide) (hts (.fieldLink RX11 338 "ShipOfficeModel" "least" "I") iw_X11_crew_3) (fun _ h9 => h9) rfl (by decide +kernel) rfl rfl (Nat.le_of_ble_eq_true rfl) dX11_crew_176 (fun H locs hP hD hS => ?_)
                have hP : va_P (dC, dI) vwCl (mW g0 pq cp (upd z_21 60 (-9)) fz_22) H := hP
                have hD : va_D A (mW g0 pq cp (upd z_21 60 (-9)) fz_22) := hD
                obtain ⟨z_25, ez_25⟩ : ∃ zq, zq = (upd z_21 60 (-9)) := ⟨_, rfl⟩
                rw [← ez_25] at hP hD
                have hVz_25 : mV z_25 := by rw [ez_25]; exact mV_upd (lo := -2147483648) (hi := 2147483647) hVz_21 rfl rfl (iv_all _)
                have hRz_25 : mX [0, 45, 47, 48, 49, 50, 51, 52, 53, 54, 55, 56, 57, 58, 59, 60] v fa z_25 fz_22 := by rw [ez_25]; exact mX.up hRz_21 (by decide)
                have g_26 : (z_25 58).toInt = (z_21 58).toInt := by rw [ez_25]; exact congrArg Int32.toInt (if_neg (by decide))
                have g_27 : (z_25 59).toInt = (z_21 59).toInt := by rw [ez_25]; exact congrArg Int32.toInt (if_neg (by decide))
                refine lv_aload_n hx hb dX11_crew_179 rfl (lv_at hl 2 rfl) ?_
                refine lv_iconst (v := 0) hx hb dX11_crew_180 (by decide) ?_
                refine lv_iconst (v := 0) hx hb dX11_crew_181 (by decide) ?_
                refine lv_iconst (v := 0) hx hb dX11_crew_182 (by decide) ?_
                have hFc := va_free (wc := (mW g0 pq cp z_25 fz_22)) hD hS hA (List.range 48) rfl
                refine va_callv (va_runV (As := [.int 0, .int 0, .int 0]) (rest := []) ⟨hx, hb, hml, hown, hts⟩ (c_X11_chooses_0 l dC dI H.size g0 pq cp z_25 fz_22 hVz_25 hAz_21 0 (by decide) 0 0 (Int.le_trans (by decide : (0 : Int32).toInt ≤ 0) (hVz_25 59).1)) (cwV 3 hts gX11_crew_X11_chooses rfl rfl rfl (by decide +kernel) ⟨(Nat.le_of_ble_eq_true rfl), (Nat.le_of_ble_eq_true rfl)⟩) (pr_V (r := (RX11, TX11, 63)) hP hK hD 0 11 rfl rfl) rfl rfl hl.1 rfl (lv_room (Nat.le_of_ble_eq_true rfl)) dX11_crew_183 ⟨(Nat.le_of_ble_eq_true rfl), (Nat.le_of_ble_eq_true rfl)⟩) hS (fun q _ h => hFc q h) hFc (fun u t H locs ht hvm w_28 hB hz1 hk1 hS => ?_)
                obtain ⟨v_30, fa_31⟩ := u
                obtain ⟨hP1, hK1, hD1⟩ := hB
                rw [ht] at hP1
                have hP : va_P (dC, dI) vwCl (mW g0 pq cp v_30 fa_31) H := hP1
                have hD : va_D A (mW g0 pq cp v_30 fa_31) := hD1.weaken (fun _ _ _ h => hFc _ h)
                clear hP1 hK1 hD1 hk1 hz1 hvm ht hFc
                obtain ⟨hV_32, hA_33, hR_34, hx_35⟩ := w_28
                dsimp only at hV_32 hA_33 hR_34 hx_35
                have g_36 : (v_30 59).toInt = (z_25 59).toInt := hx_35
                have R_37 : mX [0, 45, 47, 48, 49, 50, 51, 52, 53, 54, 55, 56, 57, 58, 59, 60] v fa v_30 fa_31 := mX.st hRz_25 (mX.scr hR_34) (by decide)
                have q0_38 : fa_31 0 = fa 0 := (hR_34.2 0 rfl).trans hq1_cut_18
                refine lv_iload_n hx hb dX11_crew_186 rfl (lv_at hl 4 rfl) ?_
                refine lv_if_ne (tgt := 195) hx hb dX11_crew_187 (by decide) (fun c_39 => ?_) (fun c_39 => ?_)
                · have dc_39 := c_ne (a := x2.toInt) (b := 0) rfl (by decide) c_39
                  refine lv_aload_n hx hb dX11_crew_195 rfl (lv_at hl 2 rfl) ?_
                  refine va_get (D := (dC, dI)) (ci := 11) (v := .int (v_30 60)) (C := RX11) (T := TX11) (N := 63) hx hb hts in_wsX11_crew_X11 hown hK hP 0 rfl rfl 60 (by decide) (hts (.fieldLink RX11 338 "ShipOfficeModel" "least" "I") iw_X11_crew_3) (fun _ h9 => h9) rfl dX11_crew_196 ?_
                  refine lv_topi (fun x_40 ex_40 => ?_)
                  clear ex_40
                  refine lv_if_lt (tgt := 210) hx hb dX11_crew_199 (by decide) (fun c_41 => ?_) (fun c_41 => ?_)
                  · have dc_41 := c_lt (a := x_40.toInt) (b := 0) rfl (by decide) c_41
                    refine lv_bipush (v := (-9)) hx hb dX11_crew_210 (by decide) ?_
                    refine lv_goto (tgt := 228) hx hb dX11_crew_212 (by decide) ?_
                    exact W.iret (v := (-9)) hx hb hr (fun t ht hW => ⟨⟨(-9), (v_30, fa_31), rfl, ⟨hV_32, hA_33, R_37, ⟨by have rc : ((-9) : Int32).toInt = -9 := (by decide); unfold crA; omega, (Or.inr ⟨by have rc : ((-9) : Int32).toInt = -9 := (by decide); unfold crB; omega, (by first | exact q0_38 | (dsimp only; exact q0_38))⟩)⟩⟩, ⟨by rw [ht]; exact hP, va_K.moved hW.alike hK, hD⟩⟩, hS.F ht⟩) hS.2.2 dX11_crew_228
                  · have dc_41 := c_nlt (a := x_40.toInt) (b := 0) rfl (by decide) c_41
                    refine lv_iload_n hx hb dX11_crew_202 rfl (lv_at hl 4 rfl) ?_
                    refine lv_aload_n hx hb dX11_crew_203 rfl (lv_at hl 2 rfl) ?_
                    refine va_get (D := (dC, dI)) (ci := 11) (v := .int (v_30 59)) (C := RX11) (T := TX11) (N := 63) hx hb hts in_wsX11_crew_X11 hown hK hP 0 rfl rfl 59 (by decide) (hts (.fieldLink RX11 341 "ShipOfficeModel" "hands" "I") iw_X11_crew_2) (fun _ h9 => h9) rfl dX11_crew_204 ?_
                    refine lv_topi (fun x_42 ex_42 => ?_)
                    have hx_42 : 0 ≤ x_42.toInt ∧ x_42.toInt ≤ 8 := iv_of ex_42 (hV_32 59)
                    have gx_42 : x_42.toInt = (v_30 59).toInt := iv_to ex_42
                    clear ex_42
                    refine lv_icmp_le (tgt := 215) hx hb dX11_crew_207 (by decide) (fun c_43 => ?_) (fun c_43 => ?_)
                    · have dc_43 := c_le (a := x2.toInt) (b := x_42.toInt) rfl rfl c_43
                      refine lv_aload_n hx hb dX11_crew_215 rfl (lv_at hl 2 rfl) ?_
                      refine va_get (D := (dC, dI)) (ci := 11) (v := .ref (pq 54)) (C := RX11) (T := TX11) (N := 63) hx hb hts in_wsX11_crew_X11 hown hK hP 0 rfl rfl 54 (by decide) (hts (.fieldLink RX11 137 "ShipOfficeModel" "some" "[I") iw_X11_crew_4) (fun _ h9 => h9) rfl dX11_crew_216 ?_
                      refine lv_aload_n hx hb dX11_crew_219 rfl (lv_at hl 2 rfl) ?_
                      refine va_get (D := (dC, dI)) (ci := 11) (v := .ref (pq 57)) (C := RX11) (T := TX11) (N := 63) hx hb hts in_wsX11_crew_X11 hown hK hP 0 rfl rfl 57 (by decide) (hts (.fieldLink RX11 146 "ShipOfficeModel" "best" "[I") iw_X11_crew_5) (fun _ h9 => h9) rfl dX11_crew_220 ?_
                      refine lv_iload_n hx hb dX11_crew_223 rfl (lv_at hl 4 rfl) ?_
                      refine lv_iconst (v := 1) hx hb dX11_crew_224 (by decide) ?_
                      refine lv_isub hx hb dX11_crew_225 ?_
                      refine lv_topi (fun x_44 ex_44 => ?_)
                      have hx_44 : x_44.toInt = x2.toInt - 1 := (iv_to ex_44).trans (sb_i rfl (by decide) (by omega) (by omega))
                      refine va_iald hx hb hK hP 46 45 rfl rfl (vp_in_iff.mpr (by omega)) dX11_crew_226 ?_
                      refine lv_topi (fun x_45 ex_45 => ?_)
                      have hx_45 : 0 ≤ x_45.toInt ∧ x_45.toInt ≤ 11 := iv_of ex_45 (hA_33 57 _)
                      clear ex_45
                      refine va_iald hx hb hK hP 43 42 rfl rfl (vp_in_iff.mpr (by omega)) dX11_crew_227 ?_
                      refine lv_topi (fun x_46 ex_46 => ?_)
                      have hx_46 : 0 ≤ x_46.toInt ∧ x_46.toInt ≤ 39 := iv_of ex_46 (hA_33 54 _)
                      clear ex_46
                      exact W.iret (v := x_46) hx hb hr (fun t ht hW => ⟨⟨x_46, (v_30, fa_31), rfl, ⟨hV_32, hA_33, R_37, ⟨by unfold crA; omega, (Or.inr ⟨by unfold crB; omega, (by first | exact q0_38 | (dsimp only; exact q0_38))⟩)⟩⟩, ⟨by rw [ht]; exact hP, va_K.moved hW.alike hK, hD⟩⟩, hS.F ht⟩) hS.2.2 dX11_crew_228
                    · have dc_43 := c_nle (a := x2.toInt) (b := x_42.toInt) rfl rfl c_43
                      refine lv_bipush (v := (-9)) hx hb dX11_crew_210 (by decide) ?_
                      refine lv_goto (tgt := 228) hx hb dX11_crew_212 (by decide) ?_
                      exact W.iret (v := (-9)) hx hb hr (fun t ht hW => ⟨⟨(-9), (v_30, fa_31), rfl, ⟨hV_32, hA_33, R_37, ⟨by have rc : ((-9) : Int32).toInt = -9 := (by decide); unfold crA; omega, (Or.inr ⟨by have rc : ((-9) : Int32).toInt = -9 := (by decide); unfold crB; omega, (by first | exact q0_38 | (dsimp only; exact q0_38))⟩)⟩⟩, ⟨by rw [ht]; exact hP, va_K.moved hW.alike hK, hD⟩⟩, hS.F ht⟩) hS.2.2 dX11_crew_228
                · have dc_39 := c_eq (a := x2.toInt) (b := 0) rfl (by decide) c_39
                  refine lv_aload_n hx hb dX11_crew_190 rfl (lv_at hl 2 rfl) ?_
                  refine va_get (D := (dC, dI)) (ci := 11) (v := .int (v_30 60)) (C := RX11) (T := TX11) (N := 63) hx hb hts in_wsX11_crew_X11 hown hK hP 0 rfl rfl 60 (by decide) (hts (.fieldLink RX11 338 "ShipOfficeModel" "least" "I") iw_X11_crew_3) (fun _ h9 => h9) rfl dX11_crew_191 ?_
                  refine lv_topi (fun x_47 ex_47 => ?_)
                  clear ex_47
                  exact W.iret (v := x_47) hx hb hr (fun t ht hW => ⟨⟨x_47, (v_30, fa_31), rfl, ⟨hV_32, hA_33, R_37, ⟨by unfold crA; omega, (Or.inr ⟨by unfold crB; omega, (by first | exact q0_38 | (dsimp only; exact q0_38))⟩)⟩⟩, ⟨by rw [ht]; exact hP, va_K.moved hW.alike hK, hD⟩⟩, hS.F ht⟩) hS.2.2 dX11_crew_194
              · have dc_24 := c_nle (a := 4) (b := y_19.toInt) (by decide) rfl c_24
                refine lv_iconst (v := 0) hx hb dX11_crew_125 (by decide) ?_
                refine lv_istore (lv' := [(5, .int 0), (4, .int y_19), (3, .int y_20), (0, .ref g0), (1, .int x1), (2, .int x2)]) hx hb dX11_crew_126 hl (by decide) rfl (fun ls hl => ?_)
                have cut_48 : ∀ (n2 : Nat) (y_49 : Int32) (z_50 : Nat → Int32) (fz_51 : Nat → Nat → Int32) (H : Heap) (locs : List Loc) (ls : Array Slot), 2 - y_49.toInt ≤ (n2 : Int) → (0 ≤ y_49.toInt ∧ y_49.toInt ≤ 2) → (z_50 59).toInt ≤ 2 * y_19.toInt + y_49.toInt → fz_51 0 = fa 0 → mV z_50 → mA fz_51 → mX [0, 45, 47, 48, 49, 50, 51, 52, 53, 54, 55, 56, 57, 58, 59, 60] v fa z_50 fz_51 → va_P (dC, dI) vwCl (mW g0 pq cp z_50 fz_51) H → va_D A (mW g0 pq cp z_50 fz_51) → va_S A s.heap H locs → (z_50 58).toInt = (z_21 58).toInt → lv_has ls 6 [(5, .int y_49), (4, .int y_19), (3, .int y_20), (0, .ref g0), (1, .int x1), (2, .int x2)] → W p l e (headSpec wsX11_crew { frames := 9, cells := 0, slots := 0, locals := 234 }).room s m #[Value.ref g0, Value.int x1, Value.int x2] below meth c H locs 0 0 (MQ below (va_Qi (fun (r : Int32) (u : (Nat → Int32) × (Nat → Nat → Int32)) => mV u.1 ∧ mA u.2 ∧ mX [0, 45, 47, 48, 49, 50, 51, 52, 53, 54, 55, 56, 57, 58, 59, 60] v fa u.1 u.2 ∧ (crA x1.toInt x2.toInt r.toInt ∧ rZr v fa u r (crB x1.toInt x2.toInt))) (fun u t => va_P (dC, dI) vwCl (mW g0 pq cp u.1 u.2) t.heap ∧ va_K (dC, dI) vwCl (mT cp) t ∧ va_D A (mW g0 pq cp u.1 u.2)) A) #[Value.ref g0, Value.int x1, Value.int x2] s 0 0 A) (F0 m 128 ls []) := by
                  intro n2
                  induction n2 using Nat.strongRecOn with
                  | ind n2 ih2 =>
                    intro y_49 z_50 fz_51 H locs ls hm hy_49 hq0_cut_48 hq1_cut_48 hVz_50 hAz_50 hRz_50 hP hD hS g_52 hl
                    refine lv_iload hx hb dX11_crew_128 (lv_at hl 0 rfl) ?_
                    refine lv_iload_n hx hb dX11_crew_130 rfl (lv_at hl 2 rfl) ?_
                    refine lv_iconst (v := 3) hx hb dX11_crew_131 (by decide) ?_
                    refine lv_irem hx hb dX11_crew_132 (by decide) ?_
                    refine lv_topi (fun x_53 ex_53 => ?_)
                    have hx_53 : x_53.toInt = y_20.toInt % 3 := (iv_to ex_53).trans (rm_i (k := 3) rfl (by decide) (by omega) (by decide))
                    clear ex_53
                    refine lv_icmp_ge (tgt := 163) hx hb dX11_crew_133 (by decide) (fun c_54 => ?_) (fun c_54 => ?_)
                    · have dc_54 := c_le (a := x_53.toInt) (b := y_49.toInt) rfl rfl c_54
                      refine lv_iload_n hx hb dX11_crew_163 rfl (lv_at hl 2 rfl) ?_
                      refine lv_iconst (v := 3) hx hb dX11_crew_164 (by decide) ?_
                      refine lv_idiv hx hb dX11_crew_165 (by decide) ?_
                      refine lv_topi (fun x_55 ex_55 => ?_)
                      have hx_55 : x_55.toInt = y_20.toInt / 3 := (iv_to ex_55).trans (dv_i (k := 3) rfl (by decide) (by omega) (by decide))
                      clear ex_55
                      refine lv_istore_n (lv' := [(3, .int x_55), (5, .int y_49), (4, .int y_19), (0, .ref g0), (1, .int x1), (2, .int x2)]) hx hb dX11_crew_166 rfl hl (by decide) rfl (fun ls hl => ?_)
                      obtain ⟨x_56, ex_56⟩ : ∃ zq : Int32, y_19 + 1 = zq := ⟨_, rfl⟩
                      have hx_56 : x_56.toInt = y_19.toInt + 1 := (iv_to ex_56).symm.trans (ad_i rfl (by decide) (by omega) (by omega))
                      refine lv_iinc (v := x_56) (lv' := [(4, .int x_56), (3, .int x_55), (5, .int y_49), (0, .ref g0), (1, .int x1), (2, .int x2)]) hx hb dX11_crew_167 hl (k := 2) rfl ex_56 (by decide) rfl (fun ls hl => ?_)
                      clear ex_56
                      refine lv_goto (tgt := 119) hx hb dX11_crew_170 (by decide) ?_
                      exact ih (n - 1) (by omega) x_56 x_55 z_50 fz_51 _ _ ls (by omega) (by omega) (by omega) (by omega) hq1_cut_48 hVz_50 hAz_50 hRz_50 hP hD hS (by omega) (lv_sub hl [0, 1, 3, 4, 5] rfl)
                    · have dc_54 := c_nle (a := x_53.toInt) (b := y_49.toInt) rfl rfl c_54
                      refine lv_aload_n hx hb dX11_crew_136 rfl (lv_at hl 3 rfl) ?_
                      refine va_get (D := (dC, dI)) (ci := 11) (v := .ref (pq 55)) (C := RX11) (T := TX11) (N := 63) hx hb hts in_wsX11_crew_X11 hown hK hP 0 rfl rfl 55 (by decide) (hts (.fieldLink RX11 140 "ShipOfficeModel" "handRank" "[I") iw_X11_crew_6) (fun _ h9 => h9) rfl dX11_crew_137 ?_
                      refine lv_aload_n hx hb dX11_crew_140 rfl (lv_at hl 3 rfl) ?_
                      refine va_get (D := (dC, dI)) (ci := 11) (v := .int (z_50 59)) (C := RX11) (T := TX11) (N := 63) hx hb hts in_wsX11_crew_X11 hown hK hP 0 rfl rfl 59 (by decide) (hts (.fieldLink RX11 341 "ShipOfficeModel" "hands" "I") iw_X11_crew_2) (fun _ h9 => h9) rfl dX11_crew_141 ?_
                      refine lv_topi (fun x_57 ex_57 => ?_)
                      have hx_57 : 0 ≤ x_57.toInt ∧ x_57.toInt ≤ 8 := iv_of ex_57 (hVz_50 59)
                      have gx_57 : x_57.toInt = (z_50 59).toInt := iv_to ex_57
                      clear ex_57
                      refine lv_iload hx hb dX11_crew_144 (lv_at hl 1 rfl) ?_
                      refine va_iast hx hb hK hP hD hS 44 43 rfl rfl (vp_in_iff.mpr (by omega)) dX11_crew_146 (fun H locs hP hD hS => ?_)
                      have hP : va_P (dC, dI) vwCl (mW g0 pq cp z_50 (upF fz_51 55 (x_57 : Int32).toNatClampNeg y_19)) H := hP
                      have hD : va_D A (mW g0 pq cp z_50 (upF fz_51 55 (x_57 : Int32).toNatClampNeg y_19)) := hD
                      obtain ⟨fz_58, efz_58⟩ : ∃ zq, zq = (upF fz_51 55 (x_57 : Int32).toNatClampNeg y_19) := ⟨_, rfl⟩
                      rw [← efz_58] at hP hD
                      have hAfz_58 : mA fz_58 := by rw [efz_58]; exact mA_upF (lo := 0) (hi := 3) hAz_50 rfl rfl (by omega)
                      have hRfz_58 : mX [0, 45, 47, 48, 49, 50, 51, 52, 53, 54, 55, 56, 57, 58, 59, 60] v fa z_50 fz_58 := by rw [efz_58]; exact mX.uF hRz_50 (by decide)
                      have q0_59 : fz_58 0 = fa 0 := by rw [efz_58]; exact (if_neg (by decide)).trans hq1_cut_48
                      refine lv_aload_n hx hb dX11_crew_147 rfl (lv_at hl 3 rfl) ?_
                      refine lv_dup hx hb dX11_crew_148 rfl ?_
                      refine va_get (D := (dC, dI)) (ci := 11) (v := .int (z_50 59)) (C := RX11) (T := TX11) (N := 63) hx hb hts in_wsX11_crew_X11 hown hK hP 0 rfl rfl 59 (by decide) (hts (.fieldLink RX11 341 "ShipOfficeModel" "hands" "I") iw_X11_crew_2) (fun _ h9 => h9) rfl dX11_crew_149 ?_
                      refine lv_topi (fun x_60 ex_60 => ?_)
                      have hx_60 : 0 ≤ x_60.toInt ∧ x_60.toInt ≤ 8 := iv_of ex_60 (hVz_50 59)
                      have gx_60 : x_60.toInt = (z_50 59).toInt := iv_to ex_60
                      clear ex_60
                      refine lv_iconst (v := 1) hx hb dX11_crew_152 (by decide) ?_
                      refine lv_iadd hx hb dX11_crew_153 ?_
                      refine lv_topi (fun x_61 ex_61 => ?_)
                      have hx_61 : x_61.toInt = x_60.toInt + 1 := (iv_to ex_61).trans (ad_i rfl (by decide) (by omega) (by omega))
                      refine va_put (D := (dC, dI)) (ci := 11) (v := .int x_61) (ty := .int) (C := RX11) (T := TX11) (N := 63) hx hb hts in_wsX11_crew_X11 tyX11 tyX11_ok nmX11 hown hK hP hD hS 0 rfl rfl 59 (by decide) (hts (.fieldLink RX11 341 "ShipOfficeModel" "hands" "I") iw_X11_crew_2) (fun _ h9 => h9) rfl (by decide +kernel) rfl rfl (Nat.le_of_ble_eq_true rfl) dX11_crew_154 (fun H locs hP hD hS => ?_)
                      have hP : va_P (dC, dI) vwCl (mW g0 pq cp (upd z_50 59 x_61) fz_58) H := hP
                      have hD : va_D A (mW g0 pq cp (upd z_50 59 x_61) fz_58) := hD
                      obtain ⟨z_62, ez_62⟩ : ∃ zq, zq = (upd z_50 59 x_61) := ⟨_, rfl⟩
                      rw [← ez_62] at hP hD
                      have hVz_62 : mV z_62 := by rw [ez_62]; exact mV_upd (lo := 0) (hi := 8) hVz_50 rfl rfl (by omega)
                      have hRz_62 : mX [0, 45, 47, 48, 49, 50, 51, 52, 53, 54, 55, 56, 57, 58, 59, 60] v fa z_62 fz_58 := by rw [ez_62]; exact mX.up hRfz_58 (by decide)
                      have g_63 : (z_62 58).toInt = (z_50 58).toInt := by rw [ez_62]; exact congrArg Int32.toInt (if_neg (by decide))
                      have g_64 : (z_62 59).toInt = x_61.toInt := by rw [ez_62, show upd z_50 59 x_61 59 = x_61 from if_pos rfl]
                      obtain ⟨x_65, ex_65⟩ : ∃ zq : Int32, y_49 + 1 = zq := ⟨_, rfl⟩
                      have hx_65 : x_65.toInt = y_49.toInt + 1 := (iv_to ex_65).symm.trans (ad_i rfl (by decide) (by omega) (by omega))
                      refine lv_iinc (v := x_65) (lv' := [(5, .int x_65), (4, .int y_19), (3, .int y_20), (0, .ref g0), (1, .int x1), (2, .int x2)]) hx hb dX11_crew_157 hl (k := 0) rfl ex_65 (by decide) rfl (fun ls hl => ?_)
                      clear ex_65
                      refine lv_goto (tgt := 128) hx hb dX11_crew_160 (by decide) ?_
                      exact ih2 (n2 - 1) (by omega) x_65 z_62 fz_58 _ _ ls (by omega) (by omega) (by omega) q0_59 hVz_62 hAfz_58 hRz_62 hP hD hS (by omega) (lv_sub hl [0, 1, 2, 3, 4, 5] rfl)
                have kc_66 : (0 : Int32).toInt = 0 := by decide
                exact cut_48 3 0 z_21 fz_22 _ _ ls (by omega) (by decide) (by omega) hq1_cut_18 hVz_21 hAz_21 hRz_21 hP hD hS (by omega) (lv_sub hl [0, 1, 2, 3, 4, 5] rfl)
          have kc_67 : (0 : Int32).toInt = 0 := by decide
          exact cut_18 5 0 x1 z_15 fz_14 _ _ ls (by omega) (by decide) (by omega) (by omega) hq0_cut_12 hVz_15 hAz_13 hRz_15 hP hD hS (by omega) (lv_sub hl [0, 1, 2, 3, 4] rfl)
        refine lv_iconst (v := 0) hx hb dX11_crew_45 (by decide) ?_
        refine lv_istore_n (lv' := [(3, .int 0), (0, .ref g0), (1, .int x1), (2, .int x2)]) hx hb dX11_crew_46 rfl hl (by decide) rfl (fun ls hl => ?_)
        have cut_68 : ∀ (n : Nat) (y_69 : Int32) (z_70 : Nat → Int32) (fz_71 : Nat → Nat → Int32) (H : Heap) (locs : List Loc) (ls : Array Slot), 40 - y_69.toInt ≤ (n : Int) → (0 ≤ y_69.toInt ∧ y_69.toInt ≤ 40) → fz_71 0 = fa 0 → mV z_70 → mA fz_71 → mX [0, 45, 47, 48, 49, 50, 51, 52, 53, 54, 55, 56, 57, 58, 59, 60] v fa z_70 fz_71 → va_P (dC, dI) vwCl (mW g0 pq cp z_70 fz_71) H → va_D A (mW g0 pq cp z_70 fz_71) → va_S A s.heap H locs → (z_70 59).toInt = (z_9 59).toInt → lv_has ls 6 [(3, .int y_69), (0, .ref g0), (1, .int x1), (2, .int x2)] → W p l e (headSpec wsX11_crew { frames := 9, cells := 0, slots := 0, locals := 234 }).room s m #[Value.ref g0, Value.int x1, Value.int x2] below meth c H locs 0 0 (MQ below (va_Qi (fun (r : Int32) (u : (Nat → Int32) × (Nat → Nat → Int32)) => mV u.1 ∧ mA u.2 ∧ mX [0, 45, 47, 48, 49, 50, 51, 52, 53, 54, 55, 56, 57, 58, 59, 60] v fa u.1 u.2 ∧ (crA x1.toInt x2.toInt r.toInt ∧ rZr v fa u r (crB x1.toInt x2.toInt))) (fun u t => va_P (dC, dI) vwCl (mW g0 pq cp u.1 u.2) t.heap ∧ va_K (dC, dI) vwCl (mT cp) t ∧ va_D A (mW g0 pq cp u.1 u.2)) A) #[Value.ref g0, Value.int x1, Value.int x2] s 0 0 A) (F0 m 47 ls []) := by
          intro n
          induction n using Nat.strongRecOn with
          | ind n ih =>
            intro y_69 z_70 fz_71 H locs ls hm hy_69 hq0_cut_68 hVz_70 hAz_70 hRz_70 hP hD hS g_72 hl
            refine lv_iload_n hx hb dX11_crew_47 rfl (lv_at hl 0 rfl) ?_
            refine lv_aload_n hx hb dX11_crew_48 rfl (lv_at hl 1 rfl) ?_
            refine va_get (D := (dC, dI)) (ci := 11) (v := .int (z_70 39)) (C := RX11) (T := TX11) (N := 63) hx hb hts in_wsX11_crew_X11 hown hK hP 0 rfl rfl 39 (by decide) (hts (.fieldLink RX11 157 "ShipOfficeModel" "men" "I") iw_X11_crew_7) (fun _ h9 => h9) rfl dX11_crew_49 ?_
            refine lv_topi (fun x_73 ex_73 => ?_)
            have hx_73 : 0 ≤ x_73.toInt ∧ x_73.toInt ≤ 40 := iv_of ex_73 (hVz_70 39)
            clear ex_73
            refine lv_icmp_ge (tgt := 109) hx hb dX11_crew_52 (by decide) (fun c_74 => ?_) (fun c_74 => ?_)
            · have dc_74 := c_le (a := x_73.toInt) (b := y_69.toInt) rfl rfl c_74
              exact cut_12  z_70 fz_71 _ _ ls hq0_cut_68 hVz_70 hAz_70 hRz_70 hP hD hS (lv_sub hl [1, 2, 3] rfl)
            · have dc_74 := c_nle (a := x_73.toInt) (b := y_69.toInt) rfl rfl c_74
              refine lv_aload_n hx hb dX11_crew_55 rfl (lv_at hl 1 rfl) ?_
              refine va_get (D := (dC, dI)) (ci := 11) (v := .int (z_70 58)) (C := RX11) (T := TX11) (N := 63) hx hb hts in_wsX11_crew_X11 hown hK hP 0 rfl rfl 58 (by decide) (hts (.fieldLink RX11 344 "ShipOfficeModel" "someMany" "I") iw_X11_crew_1) (fun _ h9 => h9) rfl dX11_crew_56 ?_
              refine lv_topi (fun x_75 ex_75 => ?_)
              have hx_75 : 0 ≤ x_75.toInt ∧ x_75.toInt ≤ 12 := iv_of ex_75 (hVz_70 58)
              have gx_75 : x_75.toInt = (z_70 58).toInt := iv_to ex_75
              clear ex_75
              refine lv_bipush (v := 12) hx hb dX11_crew_59 (by decide) ?_
              refine lv_icmp_ge (tgt := 109) hx hb dX11_crew_61 (by decide) (fun c_76 => ?_) (fun c_76 => ?_)
              · have dc_76 := c_le (a := 12) (b := x_75.toInt) (by decide) rfl c_76
                exact cut_12  z_70 fz_71 _ _ ls hq0_cut_68 hVz_70 hAz_70 hRz_70 hP hD hS (lv_sub hl [1, 2, 3] rfl)
              · have dc_76 := c_nle (a := 12) (b := x_75.toInt) (by decide) rfl c_76
                refine lv_aload_n hx hb dX11_crew_64 rfl (lv_at hl 1 rfl) ?_
                refine lv_iload_n hx hb dX11_crew_65 rfl (lv_at hl 0 rfl) ?_
                have hFc : ∀ q, va_A [] H.size q → A q := pu_free hS hA
                refine va_calli (va_runV (As := [.int y_69]) (rest := []) ⟨hx, hb, hml, hown, hts⟩ (c_X11_asksAny l dC dI H.size g0 pq cp z_70 fz_71 y_69 (vp_in_iff.mpr (by omega))) (cwV 1 hts gX11_crew_X11_asksAny rfl rfl rfl (by decide +kernel) ⟨(Nat.le_of_ble_eq_true rfl), (Nat.le_of_ble_eq_true rfl)⟩) (pr_V (r := (RX11, TX11, 63)) hP hK hD 0 11 rfl rfl) rfl rfl hl.1 rfl (lv_room (Nat.le_of_ble_eq_true rfl)) dX11_crew_66 ⟨(Nat.le_of_ble_eq_true rfl), (Nat.le_of_ble_eq_true rfl)⟩) hS (fun q _ h => hFc q h) hFc (fun r_78 u t H locs ht hvm w_77 hB hz1 hk1 hS => ?_)
                have hP := pu_keep hP hk1
                clear hk1 hz1 hvm hB ht hFc
                have hb_79 : 0 ≤ r_78.toInt ∧ r_78.toInt ≤ 1 := z1_i w_77
                refine lv_if_eq (tgt := 103) hx hb dX11_crew_69 (by decide) (fun c_80 => ?_) (fun c_80 => ?_)
                · have dc_80 := c_eq (a := r_78.toInt) (b := 0) rfl (by decide) c_80
                  obtain ⟨x_81, ex_81⟩ : ∃ zq : Int32, y_69 + 1 = zq := ⟨_, rfl⟩
                  have hx_81 : x_81.toInt = y_69.toInt + 1 := (iv_to ex_81).symm.trans (ad_i rfl (by decide) (by omega) (by omega))
                  refine lv_iinc (v := x_81) (lv' := [(3, .int x_81), (0, .ref g0), (1, .int x1), (2, .int x2)]) hx hb dX11_crew_103 hl (k := 0) rfl ex_81 (by decide) rfl (fun ls hl => ?_)
                  clear ex_81
                  refine lv_goto (tgt := 47) hx hb dX11_crew_106 (by decide) ?_
                  exact ih (n - 1) (by omega) x_81 z_70 fz_71 _ _ ls (by omega) (by omega) hq0_cut_68 hVz_70 hAz_70 hRz_70 hP hD hS (by omega) (lv_sub hl [0, 1, 2, 3] rfl)
                · have dc_80 := c_ne (a := r_78.toInt) (b := 0) rfl (by decide) c_80
                  refine lv_aload_n hx hb dX11_crew_72 rfl (lv_at hl 1 rfl) ?_
                  refine lv_iload_n hx hb dX11_crew_73 rfl (lv_at hl 0 rfl) ?_
                  have hFc : ∀ q, va_A [] H.size q → A q := pu_free hS hA
                  refine va_calli (va_runV (As := [.int y_69]) (rest := []) ⟨hx, hb, hml, hown, hts⟩ (c_X11_isFree_f l dC dI H.size g0 pq cp z_70 fz_71 hVz_70 hAz_70 y_69) (cwV 1 hts gX11_crew_X11_isFree rfl rfl rfl (by decide +kernel) ⟨(Nat.le_of_ble_eq_true rfl), (Nat.le_of_ble_eq_true rfl)⟩) (pr_V (r := (RX11, TX11, 63)) hP hK hD 0 11 rfl rfl) rfl rfl hl.1 rfl (lv_room (Nat.le_of_ble_eq_true rfl)) dX11_crew_74 ⟨(Nat.le_of_ble_eq_true rfl), (Nat.le_of_ble_eq_true rfl)⟩) hS (fun q _ h => hFc q h) hFc (fun r_83 u t H locs ht hvm w_82 hB hz1 hk1 hS => ?_)
                  have hP := pu_keep hP hk1
                  clear hk1 hz1 hvm hB ht hFc
                  obtain ⟨hb_84, hx_85⟩ := w_82
                  refine lv_if_ne (tgt := 83) hx hb dX11_crew_77 (by decide) (fun c_86 => ?_) (fun c_86 => ?_)
                  · have dc_86 := c_ne (a := r_83.toInt) (b := 0) rfl (by decide) c_86
                    refine lv_aload_n hx hb dX11_crew_83 rfl (lv_at hl 1 rfl) ?_
                    refine va_get (D := (dC, dI)) (ci := 11) (v := .ref (pq 54)) (C := RX11) (T := TX11) (N := 63) hx hb hts in_wsX11_crew_X11 hown hK hP 0 rfl rfl 54 (by decide) (hts (.fieldLink RX11 137 "ShipOfficeModel" "some" "[I") iw_X11_crew_4) (fun _ h9 => h9) rfl dX11_crew_84 ?_
                    refine lv_aload_n hx hb dX11_crew_87 rfl (lv_at hl 1 rfl) ?_
                    refine va_get (D := (dC, dI)) (ci := 11) (v := .int (z_70 58)) (C := RX11) (T := TX11) (N := 63) hx hb hts in_wsX11_crew_X11 hown hK hP 0 rfl rfl 58 (by decide) (hts (.fieldLink RX11 344 "ShipOfficeModel" "someMany" "I") iw_X11_crew_1) (fun _ h9 => h9) rfl dX11_crew_88 ?_
                    refine lv_topi (fun x_87 ex_87 => ?_)
                    have hx_87 : 0 ≤ x_87.toInt ∧ x_87.toInt ≤ 12 := iv_of ex_87 (hVz_70 58)
                    have gx_87 : x_87.toInt = (z_70 58).toInt := iv_to ex_87
                    clear ex_87
                    refine lv_iload_n hx hb dX11_crew_91 rfl (lv_at hl 0 rfl) ?_
                    refine va_iast hx hb hK hP hD hS 43 42 rfl rfl (vp_in_iff.mpr (by omega)) dX11_crew_92 (fun H locs hP hD hS => ?_)
                    have hP : va_P (dC, dI) vwCl (mW g0 pq cp z_70 (upF fz_71 54 (x_87 : Int32).toNatClampNeg y_69)) H := hP
                    have hD : va_D A (mW g0 pq cp z_70 (upF fz_71 54 (x_87 : Int32).toNatClampNeg y_69)) := hD
                    obtain ⟨fz_88, efz_88⟩ : ∃ zq, zq = (upF fz_71 54 (x_87 : Int32).toNatClampNeg y_69) := ⟨_, rfl⟩
                    rw [← efz_88] at hP hD
                    have hAfz_88 : mA fz_88 := by rw [efz_88]; exact mA_upF (lo := 0) (hi := 39) hAz_70 rfl rfl (by omega)
                    have hRfz_88 : mX [0, 45, 47, 48, 49, 50, 51, 52, 53, 54, 55, 56, 57, 58, 59, 60] v fa z_70 fz_88 := by rw [efz_88]; exact mX.uF hRz_70 (by decide)
                    have q0_89 : fz_88 0 = fa 0 := by rw [efz_88]; exact (if_neg (by decide)).trans hq0_cut_68
                    refine lv_aload_n hx hb dX11_crew_93 rfl (lv_at hl 1 rfl) ?_
                    refine lv_dup hx hb dX11_crew_94 rfl ?_
                    refine va_get (D := (dC, dI)) (ci := 11) (v := .int (z_70 58)) (C := RX11) (T := TX11) (N := 63) hx hb hts in_wsX11_crew_X11 hown hK hP 0 rfl rfl 58 (by decide) (hts (.fieldLink RX11 344 "ShipOfficeModel" "someMany" "I") iw_X11_crew_1) (fun _ h9 => h9) rfl dX11_crew_95 ?_
                    refine lv_topi (fun x_90 ex_90 => ?_)
                    have hx_90 : 0 ≤ x_90.toInt ∧ x_90.toInt ≤ 12 := iv_of ex_90 (hVz_70 58)
                    have gx_90 : x_90.toInt = (z_70 58).toInt := iv_to ex_90
                    clear ex_90
                    refine lv_iconst (v := 1) hx hb dX11_crew_98 (by decide) ?_
                    refine lv_iadd hx hb dX11_crew_99 ?_
                    refine lv_topi (fun x_91 ex_91 => ?_)
                    have hx_91 : x_91.toInt = x_90.toInt + 1 := (iv_to ex_91).trans (ad_i rfl (by decide) (by omega) (by omega))
                    refine va_put (D := (dC, dI)) (ci := 11) (v := .int x_91) (ty := .int) (C := RX11) (T := TX11) (N := 63) hx hb hts in_wsX11_crew_X11 tyX11 tyX11_ok nmX11 hown hK hP hD hS 0 rfl rfl 58 (by decide) (hts (.fieldLink RX11 344 "ShipOfficeModel" "someMany" "I") iw_X11_crew_1) (fun _ h9 => h9) rfl (by decide +kernel) rfl rfl (Nat.le_of_ble_eq_true rfl) dX11_crew_100 (fun H locs hP hD hS => ?_)
                    have hP : va_P (dC, dI) vwCl (mW g0 pq cp (upd z_70 58 x_91) fz_88) H := hP
                    have hD : va_D A (mW g0 pq cp (upd z_70 58 x_91) fz_88) := hD
                    obtain ⟨z_92, ez_92⟩ : ∃ zq, zq = (upd z_70 58 x_91) := ⟨_, rfl⟩
                    rw [← ez_92] at hP hD
                    have hVz_92 : mV z_92 := by rw [ez_92]; exact mV_upd (lo := 0) (hi := 12) hVz_70 rfl rfl (by omega)
                    have hRz_92 : mX [0, 45, 47, 48, 49, 50, 51, 52, 53, 54, 55, 56, 57, 58, 59, 60] v fa z_92 fz_88 := by rw [ez_92]; exact mX.up hRfz_88 (by decide)
                    have g_93 : (z_92 58).toInt = x_91.toInt := by rw [ez_92, show upd z_70 58 x_91 58 = x_91 from if_pos rfl]
                    have g_94 : (z_92 59).toInt = (z_70 59).toInt := by rw [ez_92]; exact congrArg Int32.toInt (if_neg (by decide))
                    obtain ⟨x_95, ex_95⟩ : ∃ zq : Int32, y_69 + 1 = zq := ⟨_, rfl⟩
                    have hx_95 : x_95.toInt = y_69.toInt + 1 := (iv_to ex_95).symm.trans (ad_i rfl (by decide) (by omega) (by omega))
                    refine lv_iinc (v := x_95) (lv' := [(3, .int x_95), (0, .ref g0), (1, .int x1), (2, .int x2)]) hx hb dX11_crew_103 hl (k := 0) rfl ex_95 (by decide) rfl (fun ls hl => ?_)
                    clear ex_95
                    refine lv_goto (tgt := 47) hx hb dX11_crew_106 (by decide) ?_
                    exact ih (n - 1) (by omega) x_95 z_92 fz_88 _ _ ls (by omega) (by omega) q0_89 hVz_92 hAfz_88 hRz_92 hP hD hS (by omega) (lv_sub hl [0, 1, 2, 3] rfl)
                  · have dc_86 := c_eq (a := r_83.toInt) (b := 0) rfl (by decide) c_86
                    refine lv_goto (tgt := 103) hx hb dX11_crew_80 (by decide) ?_
                    obtain ⟨x_96, ex_96⟩ : ∃ zq : Int32, y_69 + 1 = zq := ⟨_, rfl⟩
                    have hx_96 : x_96.toInt = y_69.toInt + 1 := (iv_to ex_96).symm.trans (ad_i rfl (by decide) (by omega) (by omega))
                    refine lv_iinc (v := x_96) (lv' := [(3, .int x_96), (0, .ref g0), (1, .int x1), (2, .int x2)]) hx hb dX11_crew_103 hl (k := 0) rfl ex_96 (by decide) rfl (fun ls hl => ?_)
                    clear ex_96
                    refine lv_goto (tgt := 47) hx hb dX11_crew_106 (by decide) ?_
                    exact ih (n - 1) (by omega) x_96 z_70 fz_71 _ _ ls (by omega) (by omega) hq0_cut_68 hVz_70 hAz_70 hRz_70 hP hD hS (by omega) (lv_sub hl [0, 1, 2, 3] rfl)
        have kc_97 : (0 : Int32).toInt = 0 := by decide
        exact cut_68 41 0 z_9 fa _ _ ls (by omega) (by decide) rfl hVz_9 gA hRz_9 hP hD hS (by omega) (lv_sub hl [0, 1, 2, 3] rfl)
      · have dc_7 := c_eq (a := r_6.toInt) (b := 0) rfl (by decide) c_7
        have hz_98 := isI_0 (w_5.symm.trans c_7)
        have kc_99 : (9 : Int32).toInt = 9 := by decide
        refine lv_aload_n hx hb dX11_crew_33 rfl (lv_at hl 0 rfl) ?_
        refine lv_bipush (v := (-2)) hx hb dX11_crew_34 (by decide) ?_
        have hFc := va_free (wc := (mW g0 pq cp v fa)) hD hS hA (List.range 48) rfl
        refine va_calli (va_runV (As := [.int (-2)]) (rest := []) ⟨hx, hb, hml, hown, hts⟩ (c_X11_refuse_f l dC dI H.size g0 pq cp v fa (-2) (by unfold vp_in; decide)) (cwV 1 hts gX11_crew_X11_refuse rfl rfl rfl (by decide +kernel) ⟨(Nat.le_of_ble_eq_true rfl), (Nat.le_of_ble_eq_true rfl)⟩) (pr_V (r := (RX11, TX11, 63)) hP hK hD 0 11 rfl rfl) rfl rfl hl.1 rfl (lv_room (Nat.le_of_ble_eq_true rfl)) dX11_crew_36 ⟨(Nat.le_of_ble_eq_true rfl), (Nat.le_of_ble_eq_true rfl)⟩) hS (fun q _ h => hFc q h) hFc (fun r_101 u t H locs ht hvm w_100 hB hz1 hk1 hS => ?_)
        obtain ⟨v_102, fa_103⟩ := u
        obtain ⟨hP1, hK1, hD1⟩ := hB
        rw [ht] at hP1
        have hP : va_P (dC, dI) vwCl (mW g0 pq cp v_102 fa_103) H := hP1
        have hD : va_D A (mW g0 pq cp v_102 fa_103) := hD1.weaken (fun _ _ _ h => hFc _ h)
        clear hP1 hK1 hD1 hk1 hz1 hvm ht hFc
        obtain ⟨rfl, hs1_104⟩ := w_100
        have hVv_102 : mV v_102 := sm0_V (sm1_0 hs1_104) gV
        have hAv_102 : mA fa_103 := sm0_A (sm1_0 hs1_104) gA
        have g_105 : (v_102 58).toInt = (v 58).toInt := congrArg Int32.toInt (congrFun hs1_104.1 58)
        have g_106 : (v_102 59).toInt = (v 59).toInt := congrArg Int32.toInt (congrFun hs1_104.1 59)
        have hRv_102 : mX [0, 45, 47, 48, 49, 50, 51, 52, 53, 54, 55, 56, 57, 58, 59, 60] v fa v_102 fa_103 := mX.st mX.rf (mX.s0 (sm1_0 hs1_104)) (by decide)
        exact W.iret (v := (-2)) hx hb hr (fun t ht hW => ⟨⟨(-2), (v_102, fa_103), rfl, ⟨hVv_102, hAv_102, hRv_102, ⟨by have rc : ((-2) : Int32).toInt = -2 := (by decide); unfold crA; omega, (Or.inl ⟨by have rc : ((-2) : Int32).toInt = -2 := (by decide); unfold crB; omega, sm2_1 hs1_104⟩)⟩⟩, ⟨by rw [ht]; exact hP, va_K.moved hW.alike hK, hD⟩⟩, hS.F ht⟩) hS.2.2 dX11_crew_39
    · have dc_4 := c_nle (a := x1.toInt) (b := 80) rfl (by decide) c_4
      refine lv_aload_n hx hb dX11_crew_17 rfl (lv_at hl 0 rfl) ?_
      refine lv_bipush (v := (-6)) hx hb dX11_crew_18 (by decide) ?_
      have hFc := va_free (wc := (mW g0 pq cp v fa)) hD hS hA (List.range 48) rfl
      refine va_calli (va_runV (As := [.int (-6)]) (rest := []) ⟨hx, hb, hml, hown, hts⟩ (c_X11_refuse_f l dC dI s.heap.size g0 pq cp v fa (-6) (by unfold vp_in; decide)) (cwV 1 hts gX11_crew_X11_refuse rfl rfl rfl (by decide +kernel) ⟨(Nat.le_of_ble_eq_true rfl), (Nat.le_of_ble_eq_true rfl)⟩) (pr_V (r := (RX11, TX11, 63)) hP hK hD 0 11 rfl rfl) rfl rfl hl.1 rfl (lv_room (Nat.le_of_ble_eq_true rfl)) dX11_crew_20 ⟨(Nat.le_of_ble_eq_true rfl), (Nat.le_of_ble_eq_true rfl)⟩) hS (fun q _ h => hFc q h) hFc (fun r_108 u t H locs ht hvm w_107 hB hz1 hk1 hS => ?_)
      obtain ⟨v_109, fa_110⟩ := u
      obtain ⟨hP1, hK1, hD1⟩ := hB
      rw [ht] at hP1
      have hP : va_P (dC, dI) vwCl (mW g0 pq cp v_109 fa_110) H := hP1
      have hD : va_D A (mW g0 pq cp v_109 fa_110) := hD1.weaken (fun _ _ _ h => hFc _ h)
      clear hP1 hK1 hD1 hk1 hz1 hvm ht hFc
      obtain ⟨rfl, hs1_111⟩ := w_107
      have hVv_109 : mV v_109 := sm0_V (sm1_0 hs1_111) gV
      have hAv_109 : mA fa_110 := sm0_A (sm1_0 hs1_111) gA
      have g_112 : (v_109 58).toInt = (v 58).toInt := congrArg Int32.toInt (congrFun hs1_111.1 58)
      have g_113 : (v_109 59).toInt = (v 59).toInt := congrArg Int32.toInt (congrFun hs1_111.1 59)
      have hRv_109 : mX [0, 45, 47, 48, 49, 50, 51, 52, 53, 54, 55, 56, 57, 58, 59, 60] v fa v_109 fa_110 := mX.st mX.rf (mX.s0 (sm1_0 hs1_111)) (by decide)
      exact W.iret (v := (-6)) hx hb hr (fun t ht hW => ⟨⟨(-6), (v_109, fa_110), rfl, ⟨hVv_109, hAv_109, hRv_109, ⟨by have rc : ((-6) : Int32).toInt = -6 := (by decide); unfold crA; omega, (Or.inl ⟨by have rc : ((-6) : Int32).toInt = -6 := (by decide); unfold crB; omega, sm2_1 hs1_111⟩)⟩⟩, ⟨by rw [ht]; exact hP, va_K.moved hW.alike hK, hD⟩⟩, hS.F ht⟩) hS.2.2 dX11_crew_23
  · have dc_3 := c_nle (a := 0) (b := x1.toInt) (by decide) rfl c_3
    refine lv_aload_n hx hb dX11_crew_4 rfl (lv_at hl 0 rfl) ?_
    refine lv_bipush (v := (-4)) hx hb dX11_crew_5 (by decide) ?_
    have hFc := va_free (wc := (mW g0 pq cp v fa)) hD hS hA (List.range 48) rfl
    refine va_calli (va_runV (As := [.int (-4)]) (rest := []) ⟨hx, hb, hml, hown, hts⟩ (c_X11_refuse_f l dC dI s.heap.size g0 pq cp v fa (-4) (by unfold vp_in; decide)) (cwV 1 hts gX11_crew_X11_refuse rfl rfl rfl (by decide +kernel) ⟨(Nat.le_of_ble_eq_true rfl), (Nat.le_of_ble_eq_true rfl)⟩) (pr_V (r := (RX11, TX11, 63)) hP hK hD 0 11 rfl rfl) rfl rfl hl.1 rfl (lv_room (Nat.le_of_ble_eq_true rfl)) dX11_crew_7 ⟨(Nat.le_of_ble_eq_true rfl), (Nat.le_of_ble_eq_true rfl)⟩) hS (fun q _ h => hFc q h) hFc (fun r_115 u t H locs ht hvm w_114 hB hz1 hk1 hS => ?_)
    obtain ⟨v_116, fa_117⟩ := u
    obtain ⟨hP1, hK1, hD1⟩ := hB
    rw [ht] at hP1
    have hP : va_P (dC, dI) vwCl (mW g0 pq cp v_116 fa_117) H := hP1
    have hD : va_D A (mW g0 pq cp v_116 fa_117) := hD1.weaken (fun _ _ _ h => hFc _ h)
    clear hP1 hK1 hD1 hk1 hz1 hvm ht hFc
    obtain ⟨rfl, hs1_118⟩ := w_114
    have hVv_116 : mV v_116 := sm0_V (sm1_0 hs1_118) gV
    have hAv_116 : mA fa_117 := sm0_A (sm1_0 hs1_118) gA
    have g_119 : (v_116 58).toInt = (v 58).toInt := congrArg Int32.toInt (congrFun hs1_118.1 58)
    have g_120 : (v_116 59).toInt = (v 59).toInt := congrArg Int32.toInt (congrFun hs1_118.1 59)
    have hRv_116 : mX [0, 45, 47, 48, 49, 50, 51, 52, 53, 54, 55, 56, 57, 58, 59, 60] v fa v_116 fa_117 := mX.st mX.rf (mX.s0 (sm1_0 hs1_118)) (by decide)
    exact W.iret (v := (-4)) hx hb hr (fun t ht hW => ⟨⟨(-4), (v_116, fa_117), rfl, ⟨hVv_116, hAv_116, hRv_116, ⟨by have rc : ((-4) : Int32).toInt = -4 := (by decide); unfold crA; omega, (Or.inl ⟨by have rc : ((-4) : Int32).toInt = -4 := (by decide); unfold crB; omega, sm2_1 hs1_118⟩)⟩⟩, ⟨by rw [ht]; exact hP, va_K.moved hW.alike hK, hD⟩⟩, hS.F ht⟩) hS.2.2 dX11_crew_10
