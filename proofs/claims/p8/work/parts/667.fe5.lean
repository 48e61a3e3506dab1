


set_option maxHeartbeats 4000000 in
set_option maxRecDepth 100000 in
theorem c_X11_worth_f (l : Launch) (dC : Nat → ClassId) (dI : Nat → Nat → Nat) (sz : Nat) (g0 : Nat) (pq : Nat → Nat) (cp : Nat → ClassId) (v : Nat → Int32) (fa : Nat → Nat → Int32) (gV : mV v) (gA : mA fa) (x1 : Int32) (x2 : Int32) (hWl : wlA v fa) : Met l yX11_worth wsX11_worth ({ frames := 20, cells := 0, slots := 0, locals := 463 }) (va_Pc [.ref g0, .int x1, .int x2] (pcW (dC, dI) (mT cp) (mW g0 pq cp v fa) sz)) (va_Qi (fun (r : Int32) (u : (Nat → Int32) × (Nat → Nat → Int32)) => mV u.1 ∧ mA u.2 ∧ scr v fa u.1 u.2 ∧ (r = wrt v fa x1.toInt x2.toInt (fa 45))) (fun u t => va_P (dC, dI) vwCl (mW g0 pq cp u.1 u.2) t.heap ∧ va_K (dC, dI) vwCl (mT cp) t ∧ va_D (va_A (mW g0 pq cp v fa) sz) (mW g0 pq cp u.1 u.2)) (va_A (mW g0 pq cp v fa) sz)) 0 0 (va_A (mW g0 pq cp v fa) sz) := by
  refine Met.ofW (cc := cX11_worth) (maxL := 4) (ret := (some .int)) (by decide +kernel) rfl ?_
  intro p e s m args below meth c s₁ B hml hv
  obtain ⟨rfl, hsz, hP, hK, hD0⟩ := hv
  have hx := B.exec
  have hb := B.bytes
  have hr := B.returns
  have hts := atoms_spec (ws := wsX11_worth) B.pre
  have hown : s.vm.findClass RX11 = some m.cls := findClass_of_methodNamed B.named
  have hlocks := B.notSynchronized
  subst hsz
  have hD := hD0.self (sz := s.heap.size)
  generalize hAe : va_A (mW g0 pq cp v fa) s.heap.size = A at hD ⊢
  have hA : ∀ q : Nat, s.heap.size ≤ q → A q := fun q h => by rw [← hAe]; exact Or.inr h
  have hS : va_S A s.heap s.heap [] := va_S.rf
  have hP : va_P (dC, dI) vwCl (mW g0 pq cp v fa) s.heap := hP
  have hl := lv_entry ([.ref g0, .int x1, .int x2]) (n := 4) (Nat.le_of_ble_eq_true rfl)
  rw [lg_entry_eq]
  generalize (lg_sl ([.ref g0, .int x1, .int x2]) ++ List.replicate (4 - (lg_sl ([.ref g0, .int x1, .int x2])).length) Slot.unset).toArray = ls at hl ⊢
  have hl : lv_has ls 4 [(0, .ref g0), (1, .int x1), (2, .int x2)] := hl
  refine lv_aload_n hx hb dX11_worth_0 rfl (lv_at hl 0 rfl) ?_
  refine lv_iload_n hx hb dX11_worth_1 rfl (lv_at hl 1 rfl) ?_
  refine lv_iload_n hx hb dX11_worth_2 rfl (lv_at hl 2 rfl) ?_
  have hFc : ∀ q, va_A [] s.heap.size q → A q := pu_free hS hA
  refine va_calli (va_runV (As := [.int x1, .int x2]) (rest := []) ⟨hx, hb, hml, hown, hts⟩ (c_X11_actOn_f l dC dI s.heap.size g0 pq cp v fa gV gA x1 x2) (cwV 2 hts gX11_worth_X11_actOn rfl rfl rfl (by decide +kernel) ⟨(Nat.le_of_ble_eq_true rfl), (Nat.le_of_ble_eq_true rfl)⟩) (pr_V (r := (RX11, TX11, 63)) hP hK hD 0 11 rfl rfl) rfl rfl hl.1 rfl (lv_room (Nat.le_of_ble_eq_true rfl)) dX11_worth_3 ⟨(Nat.le_of_ble_eq_true rfl), (Nat.le_of_ble_eq_true rfl)⟩) hS (fun q _ h => hFc q h) hFc (fun r_2 u t H locs ht hvm w_1 hB hz1 hk1 hS => ?_)
  have hP := pu_keep hP hk1
  clear hk1 hz1 hvm hB ht hFc
  obtain ⟨hb_3, hx_4⟩ := w_1
  refine lv_istore_n (lv' := [(3, .int r_2), (0, .ref g0), (1, .int x1), (2, .int x2)]) hx hb dX11_worth_6 rfl hl (by decide +kernel) rfl (fun ls hl => ?_)
  refine lv_iload_n hx hb dX11_worth_7 rfl (lv_at hl 0 rfl) ?_
  refine lv_if_lt (tgt := 26) hx hb dX11_worth_8 (by decide +kernel) (fun c_5 => ?_) (fun c_5 => ?_)
  · have dc_5 := c_lt (a := r_2.toInt) (b := 0) rfl (by decide +kernel) c_5
    refine lv_iload_n hx hb dX11_worth_26 rfl (lv_at hl 2 rfl) ?_
    refine lv_if_ne (tgt := 34) hx hb dX11_worth_27 (by decide +kernel) (fun c_6 => ?_) (fun c_6 => ?_)
    · have dc_6 := c_ne (a := x1.toInt) (b := 0) rfl (by decide +kernel) c_6
      refine lv_iload_n hx hb dX11_worth_34 rfl (lv_at hl 2 rfl) ?_
      refine lv_iconst (v := 1) hx hb dX11_worth_35 (by decide +kernel) ?_
      refine lv_icmp_ne (tgt := 49) hx hb dX11_worth_36 (by decide +kernel) (fun c_7 => ?_) (fun c_7 => ?_)
      · have dc_7 := c_ne (a := x1.toInt) (b := 1) rfl (by decide +kernel) c_7
        refine lv_iload_n hx hb dX11_worth_49 rfl (lv_at hl 2 rfl) ?_
        refine lv_iconst (v := 2) hx hb dX11_worth_50 (by decide +kernel) ?_
        refine lv_icmp_ne (tgt := 59) hx hb dX11_worth_51 (by decide +kernel) (fun c_8 => ?_) (fun c_8 => ?_)
        · have dc_8 := c_ne (a := x1.toInt) (b := 2) rfl (by decide +kernel) c_8
          refine lv_iload_n hx hb dX11_worth_59 rfl (lv_at hl 2 rfl) ?_
          refine lv_iconst (v := 3) hx hb dX11_worth_60 (by decide +kernel) ?_
          refine lv_icmp_ne (tgt := 69) hx hb dX11_worth_61 (by decide +kernel) (fun c_9 => ?_) (fun c_9 => ?_)
          · have dc_9 := c_ne (a := x1.toInt) (b := 3) rfl (by decide +kernel) c_9
            refine lv_bipush (v := 90) hx hb dX11_worth_69 (by decide +kernel) ?_
            exact W.iret (v := 90) hx hb hr (fun t ht hW => ⟨⟨90, (v, fa), rfl, ⟨gV, gA, scr.rf, (by have rc : (90 : Int32).toInt = 90 := (by decide +kernel); unfold wrt; rw [if_neg (by omega)]; repeat (first | rw [if_pos (by omega)] | rw [if_neg (by omega)]))⟩, ⟨by rw [ht]; exact hP, va_K.moved hW.alike hK, hD⟩⟩, hS.F ht⟩) hS.2.2 dX11_worth_71
          · have dc_9 := c_eq (a := x1.toInt) (b := 3) rfl (by decide +kernel) c_9
            refine lv_bipush (v := 50) hx hb dX11_worth_64 (by decide +kernel) ?_
            refine lv_goto (tgt := 71) hx hb dX11_worth_66 (by decide +kernel) ?_
            exact W.iret (v := 50) hx hb hr (fun t ht hW => ⟨⟨50, (v, fa), rfl, ⟨gV, gA, scr.rf, (by have rc : (50 : Int32).toInt = 50 := (by decide +kernel); unfold wrt; rw [if_neg (by omega)]; repeat (first | rw [if_pos (by omega)] | rw [if_neg (by omega)]))⟩, ⟨by rw [ht]; exact hP, va_K.moved hW.alike hK, hD⟩⟩, hS.F ht⟩) hS.2.2 dX11_worth_71
        · have dc_8 := c_eq (a := x1.toInt) (b := 2) rfl (by decide +kernel) c_8
          refine lv_bipush (v := 100) hx hb dX11_worth_54 (by decide +kernel) ?_
          refine lv_goto (tgt := 71) hx hb dX11_worth_56 (by decide +kernel) ?_
          exact W.iret (v := 100) hx hb hr (fun t ht hW => ⟨⟨100, (v, fa), rfl, ⟨gV, gA, scr.rf, (by have rc : (100 : Int32).toInt = 100 := (by decide +kernel); unfold wrt; rw [if_neg (by omega)]; repeat (first | rw [if_pos (by omega)] | rw [if_neg (by omega)]))⟩, ⟨by rw [ht]; exact hP, va_K.moved hW.alike hK, hD⟩⟩, hS.F ht⟩) hS.2.2 dX11_worth_71
      · have dc_7 := c_eq (a := x1.toInt) (b := 1) rfl (by decide +kernel) c_7
        refine lv_aload_n hx hb dX11_worth_39 rfl (lv_at hl 1 rfl) ?_
        refine va_get (D := (dC, dI)) (ci := 11) (v := .ref (pq 45)) (C := RX11) (T := TX11) (N := 63) hx hb hts in_wsX11_worth_X11 hown hK hP 0 rfl rfl 45 (by decide +kernel) (hts (.fieldLink RX11 128 "ShipOfficeModel" "letters" "[I") iw_X11_worth_1) (fun _ h9 => h9) rfl dX11_worth_40 ?_
        refine lv_bipush (v := 115) hx hb dX11_worth_43 (by decide +kernel) ?_
        refine va_iald hx hb hK hP 40 39 rfl rfl (by unfold vp_in; decide) dX11_worth_45 ?_
        refine lv_topi (fun x_10 ex_10 => ?_)
        refine lv_goto (tgt := 71) hx hb dX11_worth_46 (by decide +kernel) ?_
        exact W.iret (v := x_10) hx hb hr (fun t ht hW => ⟨⟨x_10, (v, fa), rfl, ⟨gV, gA, scr.rf, (by unfold wrt; rw [if_neg (by omega)]; rw [if_neg (by omega), if_pos (by omega)]; exact ex_10)⟩, ⟨by rw [ht]; exact hP, va_K.moved hW.alike hK, hD⟩⟩, hS.F ht⟩) hS.2.2 dX11_worth_71
    · have dc_6 := c_eq (a := x1.toInt) (b := 0) rfl (by decide +kernel) c_6
      refine lv_iconst (v := 1) hx hb dX11_worth_30 (by decide +kernel) ?_
      refine lv_goto (tgt := 71) hx hb dX11_worth_31 (by decide +kernel) ?_
      exact W.iret (v := 1) hx hb hr (fun t ht hW => ⟨⟨1, (v, fa), rfl, ⟨gV, gA, scr.rf, (by have rc : (1 : Int32).toInt = 1 := (by decide +kernel); unfold wrt; rw [if_neg (by omega)]; repeat (first | rw [if_pos (by omega)] | rw [if_neg (by omega)]))⟩, ⟨by rw [ht]; exact hP, va_K.moved hW.alike hK, hD⟩⟩, hS.F ht⟩) hS.2.2 dX11_worth_71
  · have dc_5 := c_nlt (a := r_2.toInt) (b := 0) rfl (by decide +kernel) c_5
    refine lv_aload_n hx hb dX11_worth_11 rfl (lv_at hl 1 rfl) ?_
    refine lv_bipush (v := 60) hx hb dX11_worth_12 (by decide +kernel) ?_
    refine lv_iload_n hx hb dX11_worth_14 rfl (lv_at hl 0 rfl) ?_
    refine lv_imul hx hb dX11_worth_15 ?_
    refine lv_topi (fun x_11 ex_11 => ?_)
    have hx_11 : x_11.toInt = 60 * r_2.toInt := (iv_to ex_11).trans (mu_i (by decide +kernel) rfl (by omega) (by omega))
    refine lv_aload_n hx hb dX11_worth_16 rfl (lv_at hl 1 rfl) ?_
    refine va_get (D := (dC, dI)) (ci := 11) (v := .ref (pq 16)) (C := RX11) (T := TX11) (N := 63) hx hb hts in_wsX11_worth_X11 hown hK hP 0 rfl rfl 16 (by decide +kernel) (hts (.fieldLink RX11 58 "ShipOfficeModel" "textSize" "[I") iw_X11_worth_2) (fun _ h9 => h9) rfl dX11_worth_17 ?_
    refine lv_iload_n hx hb dX11_worth_20 rfl (lv_at hl 0 rfl) ?_
    refine va_iald hx hb hK hP 17 16 rfl rfl (vp_in_iff.mpr (by omega)) dX11_worth_21 ?_
    refine lv_topi (fun x_12 ex_12 => ?_)
    have hx_12 : 0 ≤ x_12.toInt ∧ x_12.toInt ≤ 60 := iv_of ex_12 (gA 16 _)
    have hFc := va_free (wc := (mW g0 pq cp v fa)) hD hS hA (List.range 48) rfl
    refine va_calli (va_runV (As := [.int x_11, .int x_12]) (rest := []) ⟨hx, hb, hml, hown, hts⟩ (c_X11_goesThrough_f l dC dI H.size g0 pq cp v fa x_11 x_12 x_12.toNatClampNeg (cn_le (n := 60) (by omega)) (cn_eq (n := 60) (by omega)) (fun j => fa 19 (x_11.toNatClampNeg + j)) (Or.inr ⟨x_11.toNatClampNeg, cn_le (n := 1740) (by omega), cn_eq (n := 1740) (by omega), fun _ _ => rfl⟩)) (cwV 2 hts gX11_worth_X11_goesThrough rfl rfl rfl (by decide +kernel) ⟨(Nat.le_of_ble_eq_true rfl), (Nat.le_of_ble_eq_true rfl)⟩) (pr_V (r := (RX11, TX11, 63)) hP hK hD 0 11 rfl rfl) rfl rfl hl.1 rfl (lv_room (Nat.le_of_ble_eq_true rfl)) dX11_worth_22 ⟨(Nat.le_of_ble_eq_true rfl), (Nat.le_of_ble_eq_true rfl)⟩) hS (fun q _ h => hFc q h) hFc (fun r_14 u t H locs ht hvm w_13 hB hz1 hk1 hS => ?_)
    obtain ⟨v_15, fa_16⟩ := u
    obtain ⟨hP1, hK1, hD1⟩ := hB
    rw [ht] at hP1
    have hP : va_P (dC, dI) vwCl (mW g0 pq cp v_15 fa_16) H := hP1
    have hD : va_D A (mW g0 pq cp v_15 fa_16) := hD1.weaken (fun _ _ _ h => hFc _ h)
    clear hP1 hK1 hD1 hk1 hz1 hvm ht hFc
    obtain ⟨w_13, hrv⟩ := w_13
    dsimp only at hrv
    obtain ⟨-, -, -, hrv3⟩ := hrv
    obtain ⟨hr_17, efhr_17⟩ := w_13
    dsimp only at hr_17 efhr_17
    have hVv_15 : mV v_15 := rd_V gV hr_17
    have hAfa_16 : mA fa_16 := by rw [efhr_17]; exact gA
    have hr_17 := rd_R hr_17 efhr_17
    have R_18 := scr.tr scr.rf hr_17
    exact W.iret (v := r_14) hx hb hr (fun t ht hW => ⟨⟨r_14, (v_15, fa_16), rfl, ⟨hVv_15, hAfa_16, R_18, (wrt_k hWl hx_4 (by omega) (by omega) ex_12 hrv3)⟩, ⟨by rw [ht]; exact hP, va_K.moved hW.alike hK, hD⟩⟩, hS.F ht⟩) hS.2.2 dX11_worth_25
