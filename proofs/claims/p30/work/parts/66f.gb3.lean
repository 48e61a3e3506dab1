


set_option maxHeartbeats 4000000 in
set_option maxRecDepth 100000 in
theorem c_X11_agreementOf_f (l : Launch) (dC : Nat → ClassId) (dI : Nat → Nat → Nat) (sz : Nat) (g0 : Nat) (pq : Nat → Nat) (cp : Nat → ClassId) (v : Nat → Int32) (fa : Nat → Nat → Int32) (gV : mV v) (gA : mA fa) (x1 : Int32) (x2 : Int32) : Met l yX11_agreementOf wsX11_agreementOf ({ frames := 2, cells := 0, slots := 0, locals := 44 }) (va_Pc [.ref g0, .int x1, .int x2] (pcW (dC, dI) (mT cp) (mW g0 pq cp v fa) sz)) (va_Qi (fun (r : Int32) (u : (Nat → Int32) × (Nat → Nat → Int32)) => mV u.1 ∧ mA u.2 ∧ mX [0] v fa u.1 u.2 ∧ (aAo (v 43).toInt x1.toInt (aoV x2.toInt (fa 20 x1.toNatClampNeg).toInt (fa 21 x1.toNatClampNeg).toInt (fa 22 x1.toNatClampNeg).toInt (fa 23 x1.toNatClampNeg).toInt (fa 25 x1.toNatClampNeg).toInt (fa 26 x1.toNatClampNeg).toInt (fa 27 x1.toNatClampNeg).toInt (fa 28 x1.toNatClampNeg).toInt (fa 29 x1.toNatClampNeg).toInt (gonI v fa x1.toNatClampNeg)) r.toInt ∧ rQr v fa u r (bAo (v 43).toInt x1.toInt x2.toInt))) (fun u t => va_P (dC, dI) vwCl (mW g0 pq cp u.1 u.2) t.heap ∧ va_K (dC, dI) vwCl (mT cp) t ∧ va_D (va_A (mW g0 pq cp v fa) sz) (mW g0 pq cp u.1 u.2)) (va_A (mW g0 pq cp v fa) sz)) 0 0 (va_A (mW g0 pq cp v fa) sz) := by
  refine Met.ofW (cc := cX11_agreementOf) (maxL := 3) (ret := (some .int)) (by decide) rfl ?_
  intro p e s m args below meth c s₁ B hml hv
  obtain ⟨rfl, hsz, hP, hK, hD0⟩ := hv
  have hx := B.exec
  have hb := B.bytes
  have hr := B.returns
  have hts := atoms_spec (ws := wsX11_agreementOf) B.pre
  have hown : s.vm.findClass RX11 = some m.cls := findClass_of_methodNamed B.named
  have hlocks := B.notSynchronized
  subst hsz
  have hD := hD0.self (sz := s.heap.size)
  generalize hAe : va_A (mW g0 pq cp v fa) s.heap.size = A at hD ⊢
  have hA : ∀ q : Nat, s.heap.size ≤ q → A q := fun q h => by rw [← hAe]; exact Or.inr h
  have hS : va_S A s.heap s.heap [] := va_S.rf
  have hP : va_P (dC, dI) vwCl (mW g0 pq cp v fa) s.heap := hP
  have hl := lv_entry ([.ref g0, .int x1, .int x2]) (n := 3) (Nat.le_of_ble_eq_true rfl)
  rw [lg_entry_eq]
  generalize (lg_sl ([.ref g0, .int x1, .int x2]) ++ List.replicate (3 - (lg_sl ([.ref g0, .int x1, .int x2])).length) Slot.unset).toArray = ls at hl ⊢
  have hl : lv_has ls 3 [(0, .ref g0), (1, .int x1), (2, .int x2)] := hl
  have iv_1 : 0 ≤ (v 43).toInt ∧ (v 43).toInt ≤ 60 := gV 43
  refine lv_aload_n hx hb dX11_agreementOf_0 rfl (lv_at hl 0 rfl) ?_
  refine lv_iload_n hx hb dX11_agreementOf_1 rfl (lv_at hl 1 rfl) ?_
  have hFc : ∀ q, va_A [] s.heap.size q → A q := pu_free hS hA
  refine va_calli (va_runV (As := [.int x1]) (rest := []) ⟨hx, hb, hml, hown, hts⟩ (c_X11_isAgreement l dC dI s.heap.size g0 pq cp v fa x1) (cwV 1 hts gX11_agreementOf_X11_isAgreement rfl rfl rfl (by decide +kernel) ⟨(Nat.le_of_ble_eq_true rfl), (Nat.le_of_ble_eq_true rfl)⟩) (pr_V (r := (RX11, TX11, 63)) hP hK hD 0 11 rfl rfl) rfl rfl hl.1 rfl (lv_room (Nat.le_of_ble_eq_true rfl)) dX11_agreementOf_2 ⟨(Nat.le_of_ble_eq_true rfl), (Nat.le_of_ble_eq_true rfl)⟩) hS (fun q _ h => hFc q h) hFc (fun r_3 u t H locs ht hvm w_2 hB hz1 hk1 hS => ?_)
  have hP := pu_keep hP hk1
  clear hk1 hz1 hvm hB ht hFc
  have hbr_3 : 0 ≤ r_3.toInt ∧ r_3.toInt ≤ 1 := iv_of w_2 (isI_i _ _)
  refine lv_if_ne (tgt := 14) hx hb dX11_agreementOf_5 (by decide) (fun c_4 => ?_) (fun c_4 => ?_)
  · have dc_4 := c_ne (a := r_3.toInt) (b := 0) rfl (by decide) c_4
    have hi_5 := isI_t w_2 (fun q => c_4 (Int32.toInt_inj.mp q))
    have khi_5 : (v 43).toInt ≤ 60 := (gV 43).2
    refine lv_iload_n hx hb dX11_agreementOf_14 rfl (lv_at hl 2 rfl) ?_
    by_cases q_6 : x2 = 0
    · have kq_6 : x2.toInt = 0 := by rw [q_6]; decide
      refine lv_topi (fun y ey => ?_)
      obtain rfl : y = 0 := ey.trans q_6
      refine lv_tableIn (x := 0) (off := 53) (tgt := 68) hx hb dX11_agreementOf_15 (by decide) (by decide) (by decide) (by decide) ?_
      refine lv_aload_n hx hb dX11_agreementOf_68 rfl (lv_at hl 0 rfl) ?_
      refine va_get (D := (dC, dI)) (ci := 11) (v := .ref (pq 20)) (C := RX11) (T := TX11) (N := 63) hx hb hts in_wsX11_agreementOf_X11 hown hK hP 0 rfl rfl 20 (by decide) (hts (.fieldLink RX11 70 "ShipOfficeModel" "man" "[I") iw_X11_agreementOf_1) (fun _ h9 => h9) rfl dX11_agreementOf_69 ?_
      refine lv_iload_n hx hb dX11_agreementOf_72 rfl (lv_at hl 1 rfl) ?_
      refine va_iald hx hb hK hP 21 20 rfl rfl (vp_in_iff.mpr (by omega)) dX11_agreementOf_73 ?_
      refine lv_topi (fun x_7 ex_7 => ?_)
      have hx_7 : 0 ≤ x_7.toInt ∧ x_7.toInt ≤ 39 := iv_of ex_7 (gA 20 _)
      have gx_7 : x_7.toInt = (fa 20 (x1 : Int32).toNatClampNeg).toInt := iv_to ex_7
      clear ex_7
      exact W.iret (v := x_7) hx hb hr (fun t ht hW => ⟨⟨x_7, (v, fa), rfl, ⟨gV, gA, mX.rf, ⟨by have hgi := gonI_i v fa x1.toNatClampNeg; refine Or.inr ⟨by omega, ?_⟩; unfold aoV; repeat (first | rw [if_pos (by omega)] | rw [if_neg (by omega)]); (try omega), Or.inr ⟨by unfold bAo; omega, (by first | exact rfl | (dsimp only; exact rfl))⟩⟩⟩, ⟨by rw [ht]; exact hP, va_K.moved hW.alike hK, hD⟩⟩, hS.F ht⟩) hS.2.2 dX11_agreementOf_74
    have n_8 := c_ne (a := x2.toInt) (b := 0) rfl (by decide) q_6
    by_cases q_9 : x2 = 1
    · have kq_9 : x2.toInt = 1 := by rw [q_9]; decide
      refine lv_topi (fun y ey => ?_)
      obtain rfl : y = 1 := ey.trans q_9
      refine lv_tableIn (x := 1) (off := 60) (tgt := 75) hx hb dX11_agreementOf_15 (by decide) (by decide) (by decide) (by decide) ?_
      refine lv_aload_n hx hb dX11_agreementOf_75 rfl (lv_at hl 0 rfl) ?_
      refine va_get (D := (dC, dI)) (ci := 11) (v := .ref (pq 21)) (C := RX11) (T := TX11) (N := 63) hx hb hts in_wsX11_agreementOf_X11 hown hK hP 0 rfl rfl 21 (by decide) (hts (.fieldLink RX11 73 "ShipOfficeModel" "voyage" "[I") iw_X11_agreementOf_2) (fun _ h9 => h9) rfl dX11_agreementOf_76 ?_
      refine lv_iload_n hx hb dX11_agreementOf_79 rfl (lv_at hl 1 rfl) ?_
      refine va_iald hx hb hK hP 22 21 rfl rfl (vp_in_iff.mpr (by omega)) dX11_agreementOf_80 ?_
      refine lv_topi (fun x_10 ex_10 => ?_)
      have hx_10 : 0 ≤ x_10.toInt ∧ x_10.toInt ≤ 19 := iv_of ex_10 (gA 21 _)
      have gx_10 : x_10.toInt = (fa 21 (x1 : Int32).toNatClampNeg).toInt := iv_to ex_10
      clear ex_10
      exact W.iret (v := x_10) hx hb hr (fun t ht hW => ⟨⟨x_10, (v, fa), rfl, ⟨gV, gA, mX.rf, ⟨by have hgi := gonI_i v fa x1.toNatClampNeg; refine Or.inr ⟨by omega, ?_⟩; unfold aoV; repeat (first | rw [if_pos (by omega)] | rw [if_neg (by omega)]); (try omega), Or.inr ⟨by unfold bAo; omega, (by first | exact rfl | (dsimp only; exact rfl))⟩⟩⟩, ⟨by rw [ht]; exact hP, va_K.moved hW.alike hK, hD⟩⟩, hS.F ht⟩) hS.2.2 dX11_agreementOf_81
    have n_11 := c_ne (a := x2.toInt) (b := 1) rfl (by decide) q_9
    by_cases q_12 : x2 = 2
    · have kq_12 : x2.toInt = 2 := by rw [q_12]; decide
      refine lv_topi (fun y ey => ?_)
      obtain rfl : y = 2 := ey.trans q_12
      refine lv_tableIn (x := 2) (off := 67) (tgt := 82) hx hb dX11_agreementOf_15 (by decide) (by decide) (by decide) (by decide) ?_
      refine lv_aload_n hx hb dX11_agreementOf_82 rfl (lv_at hl 0 rfl) ?_
      refine va_get (D := (dC, dI)) (ci := 11) (v := .ref (pq 22)) (C := RX11) (T := TX11) (N := 63) hx hb hts in_wsX11_agreementOf_X11 hown hK hP 0 rfl rfl 22 (by decide) (hts (.fieldLink RX11 76 "ShipOfficeModel" "wage" "[I") iw_X11_agreementOf_3) (fun _ h9 => h9) rfl dX11_agreementOf_83 ?_
      refine lv_iload_n hx hb dX11_agreementOf_86 rfl (lv_at hl 1 rfl) ?_
      refine va_iald hx hb hK hP 23 22 rfl rfl (vp_in_iff.mpr (by omega)) dX11_agreementOf_87 ?_
      refine lv_topi (fun x_13 ex_13 => ?_)
      have gx_13 : x_13.toInt = (fa 22 (x1 : Int32).toNatClampNeg).toInt := iv_to ex_13
      clear ex_13
      exact W.iret (v := x_13) hx hb hr (fun t ht hW => ⟨⟨x_13, (v, fa), rfl, ⟨gV, gA, mX.rf, ⟨by have hgi := gonI_i v fa x1.toNatClampNeg; refine Or.inr ⟨by omega, ?_⟩; unfold aoV; repeat (first | rw [if_pos (by omega)] | rw [if_neg (by omega)]); (try omega), Or.inr ⟨by unfold bAo; omega, (by first | exact rfl | (dsimp only; exact rfl))⟩⟩⟩, ⟨by rw [ht]; exact hP, va_K.moved hW.alike hK, hD⟩⟩, hS.F ht⟩) hS.2.2 dX11_agreementOf_88
    have n_14 := c_ne (a := x2.toInt) (b := 2) rfl (by decide) q_12
    by_cases q_15 : x2 = 3
    · have kq_15 : x2.toInt = 3 := by rw [q_15]; decide
      refine lv_topi (fun y ey => ?_)
      obtain rfl : y = 3 := ey.trans q_15
      refine lv_tableIn (x := 3) (off := 74) (tgt := 89) hx hb dX11_agreementOf_15 (by decide) (by decide) (by decide) (by decide) ?_
      refine lv_aload_n hx hb dX11_agreementOf_89 rfl (lv_at hl 0 rfl) ?_
      refine va_get (D := (dC, dI)) (ci := 11) (v := .ref (pq 23)) (C := RX11) (T := TX11) (N := 63) hx hb hts in_wsX11_agreementOf_X11 hown hK hP 0 rfl rfl 23 (by decide) (hts (.fieldLink RX11 79 "ShipOfficeModel" "rank" "[I") iw_X11_agreementOf_4) (fun _ h9 => h9) rfl dX11_agreementOf_90 ?_
      refine lv_iload_n hx hb dX11_agreementOf_93 rfl (lv_at hl 1 rfl) ?_
      refine va_iald hx hb hK hP 24 23 rfl rfl (vp_in_iff.mpr (by omega)) dX11_agreementOf_94 ?_
      refine lv_topi (fun x_16 ex_16 => ?_)
      have gx_16 : x_16.toInt = (fa 23 (x1 : Int32).toNatClampNeg).toInt := iv_to ex_16
      clear ex_16
      exact W.iret (v := x_16) hx hb hr (fun t ht hW => ⟨⟨x_16, (v, fa), rfl, ⟨gV, gA, mX.rf, ⟨by have hgi := gonI_i v fa x1.toNatClampNeg; refine Or.inr ⟨by omega, ?_⟩; unfold aoV; repeat (first | rw [if_pos (by omega)] | rw [if_neg (by omega)]); (try omega), Or.inr ⟨by unfold bAo; omega, (by first | exact rfl | (dsimp only; exact rfl))⟩⟩⟩, ⟨by rw [ht]; exact hP, va_K.moved hW.alike hK, hD⟩⟩, hS.F ht⟩) hS.2.2 dX11_agreementOf_95
    have n_17 := c_ne (a := x2.toInt) (b := 3) rfl (by decide) q_15
    by_cases q_18 : x2 = 4
    · have kq_18 : x2.toInt = 4 := by rw [q_18]; decide
      refine lv_topi (fun y ey => ?_)
      obtain rfl : y = 4 := ey.trans q_18
      refine lv_tableIn (x := 4) (off := 81) (tgt := 96) hx hb dX11_agreementOf_15 (by decide) (by decide) (by decide) (by decide) ?_
      refine lv_aload_n hx hb dX11_agreementOf_96 rfl (lv_at hl 0 rfl) ?_
      refine va_get (D := (dC, dI)) (ci := 11) (v := .ref (pq 25)) (C := RX11) (T := TX11) (N := 63) hx hb hts in_wsX11_agreementOf_X11 hown hK hP 0 rfl rfl 25 (by decide) (hts (.fieldLink RX11 85 "ShipOfficeModel" "signed" "[I") iw_X11_agreementOf_5) (fun _ h9 => h9) rfl dX11_agreementOf_97 ?_
      refine lv_iload_n hx hb dX11_agreementOf_100 rfl (lv_at hl 1 rfl) ?_
      refine va_iald hx hb hK hP 26 25 rfl rfl (vp_in_iff.mpr (by omega)) dX11_agreementOf_101 ?_
      refine lv_topi (fun x_19 ex_19 => ?_)
      have hx_19 : 0 ≤ x_19.toInt ∧ x_19.toInt ≤ 3000 := iv_of ex_19 (gA 25 _)
      have gx_19 : x_19.toInt = (fa 25 (x1 : Int32).toNatClampNeg).toInt := iv_to ex_19
      clear ex_19
      exact W.iret (v := x_19) hx hb hr (fun t ht hW => ⟨⟨x_19, (v, fa), rfl, ⟨gV, gA, mX.rf, ⟨by have hgi := gonI_i v fa x1.toNatClampNeg; refine Or.inr ⟨by omega, ?_⟩; unfold aoV; repeat (first | rw [if_pos (by omega)] | rw [if_neg (by omega)]); (try omega), Or.inr ⟨by unfold bAo; omega, (by first | exact rfl | (dsimp only; exact rfl))⟩⟩⟩, ⟨by rw [ht]; exact hP, va_K.moved hW.alike hK, hD⟩⟩, hS.F ht⟩) hS.2.2 dX11_agreementOf_102
    have n_20 := c_ne (a := x2.toInt) (b := 4) rfl (by decide) q_18
    by_cases q_21 : x2 = 5
    · have kq_21 : x2.toInt = 5 := by rw [q_21]; decide
      refine lv_topi (fun y ey => ?_)
      obtain rfl : y = 5 := ey.trans q_21
      refine lv_tableIn (x := 5) (off := 88) (tgt := 103) hx hb dX11_agreementOf_15 (by decide) (by decide) (by decide) (by decide) ?_
      refine lv_aload_n hx hb dX11_agreementOf_103 rfl (lv_at hl 0 rfl) ?_
      refine va_get (D := (dC, dI)) (ci := 11) (v := .ref (pq 26)) (C := RX11) (T := TX11) (N := 63) hx hb hts in_wsX11_agreementOf_X11 hown hK hP 0 rfl rfl 26 (by decide) (hts (.fieldLink RX11 88 "ShipOfficeModel" "offOn" "[I") iw_X11_agreementOf_6) (fun _ h9 => h9) rfl dX11_agreementOf_104 ?_
      refine lv_iload_n hx hb dX11_agreementOf_107 rfl (lv_at hl 1 rfl) ?_
      refine va_iald hx hb hK hP 27 26 rfl rfl (vp_in_iff.mpr (by omega)) dX11_agreementOf_108 ?_
      refine lv_topi (fun x_22 ex_22 => ?_)
      have gx_22 : x_22.toInt = (fa 26 (x1 : Int32).toNatClampNeg).toInt := iv_to ex_22
      clear ex_22
      refine lv_if_ge (tgt := 117) hx hb dX11_agreementOf_109 (by decide) (fun c_23 => ?_) (fun c_23 => ?_)
      · have dc_23 := c_le (a := 0) (b := x_22.toInt) (by decide) rfl c_23
        refine lv_aload_n hx hb dX11_agreementOf_117 rfl (lv_at hl 0 rfl) ?_
        refine va_get (D := (dC, dI)) (ci := 11) (v := .ref (pq 26)) (C := RX11) (T := TX11) (N := 63) hx hb hts in_wsX11_agreementOf_X11 hown hK hP 0 rfl rfl 26 (by decide) (hts (.fieldLink RX11 88 "ShipOfficeModel" "offOn" "[I") iw_X11_agreementOf_6) (fun _ h9 => h9) rfl dX11_agreementOf_118 ?_
        refine lv_iload_n hx hb dX11_agreementOf_121 rfl (lv_at hl 1 rfl) ?_
        refine va_iald hx hb hK hP 27 26 rfl rfl (vp_in_iff.mpr (by omega)) dX11_agreementOf_122 ?_
        refine lv_topi (fun x_24 ex_24 => ?_)
        have gx_24 : x_24.toInt = (fa 26 (x1 : Int32).toNatClampNeg).toInt := iv_to ex_24
        clear ex_24
        exact W.iret (v := x_24) hx hb hr (fun t ht hW => ⟨⟨x_24, (v, fa), rfl, ⟨gV, gA, mX.rf, ⟨by have hgi := gonI_i v fa x1.toNatClampNeg; refine Or.inr ⟨by omega, ?_⟩; unfold aoV; repeat (first | rw [if_pos (by omega)] | rw [if_neg (by omega)]); (try omega), Or.inr ⟨by unfold bAo; omega, (by first | exact rfl | (dsimp only; exact rfl))⟩⟩⟩, ⟨by rw [ht]; exact hP, va_K.moved hW.alike hK, hD⟩⟩, hS.F ht⟩) hS.2.2 dX11_agreementOf_123
      · have dc_23 := c_nle (a := 0) (b := x_22.toInt) (by decide) rfl c_23
        refine lv_bipush (v := (-9)) hx hb dX11_agreementOf_112 (by decide) ?_
        refine lv_goto (tgt := 123) hx hb dX11_agreementOf_114 (by decide) ?_
        exact W.iret (v := (-9)) hx hb hr (fun t ht hW => ⟨⟨(-9), (v, fa), rfl, ⟨gV, gA, mX.rf, ⟨by have rc : ((-9) : Int32).toInt = -9 := (by decide); have hgi := gonI_i v fa x1.toNatClampNeg; refine Or.inr ⟨by omega, ?_⟩; unfold aoV; repeat (first | rw [if_pos (by omega)] | rw [if_neg (by omega)]); (try omega), Or.inr ⟨by unfold bAo; omega, (by first | exact rfl | (dsimp only; exact rfl))⟩⟩⟩, ⟨by rw [ht]; exact hP, va_K.moved hW.alike hK, hD⟩⟩, hS.F ht⟩) hS.2.2 dX11_agreementOf_123
    have n_25 := c_ne (a := x2.toInt) (b := 5) rfl (by decide) q_21
    by_cases q_26 : x2 = 6
    · have kq_26 : x2.toInt = 6 := by rw [q_26]; decide
      refine lv_topi (fun y ey => ?_)
      obtain rfl : y = 6 := ey.trans q_26
      refine lv_tableIn (x := 6) (off := 109) (tgt := 124) hx hb dX11_agreementOf_15 (by decide) (by decide) (by decide) (by decide) ?_
      refine lv_aload_n hx hb dX11_agreementOf_124 rfl (lv_at hl 0 rfl) ?_
      refine va_get (D := (dC, dI)) (ci := 11) (v := .ref (pq 27)) (C := RX11) (T := TX11) (N := 63) hx hb hts in_wsX11_agreementOf_X11 hown hK hP 0 rfl rfl 27 (by decide) (hts (.fieldLink RX11 91 "ShipOfficeModel" "note" "[I") iw_X11_agreementOf_7) (fun _ h9 => h9) rfl dX11_agreementOf_125 ?_
      refine lv_iload_n hx hb dX11_agreementOf_128 rfl (lv_at hl 1 rfl) ?_
      refine va_iald hx hb hK hP 28 27 rfl rfl (vp_in_iff.mpr (by omega)) dX11_agreementOf_129 ?_
      refine lv_topi (fun x_27 ex_27 => ?_)
      have gx_27 : x_27.toInt = (fa 27 (x1 : Int32).toNatClampNeg).toInt := iv_to ex_27
      clear ex_27
      exact W.iret (v := x_27) hx hb hr (fun t ht hW => ⟨⟨x_27, (v, fa), rfl, ⟨gV, gA, mX.rf, ⟨by have hgi := gonI_i v fa x1.toNatClampNeg; refine Or.inr ⟨by omega, ?_⟩; unfold aoV; repeat (first | rw [if_pos (by omega)] | rw [if_neg (by omega)]); (try omega), Or.inr ⟨by unfold bAo; omega, (by first | exact rfl | (dsimp only; exact rfl))⟩⟩⟩, ⟨by rw [ht]; exact hP, va_K.moved hW.alike hK, hD⟩⟩, hS.F ht⟩) hS.2.2 dX11_agreementOf_130
    have n_28 := c_ne (a := x2.toInt) (b := 6) rfl (by decide) q_26
    by_cases q_29 : x2 = 7
    · have kq_29 : x2.toInt = 7 := by rw [q_29]; decide
      refine lv_topi (fun y ey => ?_)
      obtain rfl : y = 7 := ey.trans q_29
      refine lv_tableIn (x := 7) (off := 116) (tgt := 131) hx hb dX11_agreementOf_15 (by decide) (by decide) (by decide) (by decide) ?_
      refine lv_aload_n hx hb dX11_agreementOf_131 rfl (lv_at hl 0 rfl) ?_
      refine va_get (D := (dC, dI)) (ci := 11) (v := .ref (pq 28)) (C := RX11) (T := TX11) (N := 63) hx hb hts in_wsX11_agreementOf_X11 hown hK hP 0 rfl rfl 28 (by decide) (hts (.fieldLink RX11 94 "ShipOfficeModel" "given" "[I") iw_X11_agreementOf_8) (fun _ h9 => h9) rfl dX11_agreementOf_132 ?_
      refine lv_iload_n hx hb dX11_agreementOf_135 rfl (lv_at hl 1 rfl) ?_
      refine va_iald hx hb hK hP 29 28 rfl rfl (vp_in_iff.mpr (by omega)) dX11_agreementOf_136 ?_
      refine lv_topi (fun x_30 ex_30 => ?_)
      have gx_30 : x_30.toInt = (fa 28 (x1 : Int32).toNatClampNeg).toInt := iv_to ex_30
      clear ex_30
      exact W.iret (v := x_30) hx hb hr (fun t ht hW => ⟨⟨x_30, (v, fa), rfl, ⟨gV, gA, mX.rf, ⟨by have hgi := gonI_i v fa x1.toNatClampNeg; refine Or.inr ⟨by omega, ?_⟩; unfold aoV; repeat (first | rw [if_pos (by omega)] | rw [if_neg (by omega)]); (try omega), Or.inr ⟨by unfold bAo; omega, (by first | exact rfl | (dsimp only; exact rfl))⟩⟩⟩, ⟨by rw [ht]; exact hP, va_K.moved hW.alike hK, hD⟩⟩, hS.F ht⟩) hS.2.2 dX11_agreementOf_137
    have n_31 := c_ne (a := x2.toInt) (b := 7) rfl (by decide) q_29
    by_cases q_32 : x2 = 8
    · have kq_32 : x2.toInt = 8 := by rw [q_32]; decide
      refine lv_topi (fun y ey => ?_)
      obtain rfl : y = 8 := ey.trans q_32
      refine lv_tableIn (x := 8) (off := 123) (tgt := 138) hx hb dX11_agreementOf_15 (by decide) (by decide) (by decide) (by decide) ?_
      refine lv_aload_n hx hb dX11_agreementOf_138 rfl (lv_at hl 0 rfl) ?_
      refine va_get (D := (dC, dI)) (ci := 11) (v := .ref (pq 29)) (C := RX11) (T := TX11) (N := 63) hx hb hts in_wsX11_agreementOf_X11 hown hK hP 0 rfl rfl 29 (by decide) (hts (.fieldLink RX11 97 "ShipOfficeModel" "allotted" "[I") iw_X11_agreementOf_9) (fun _ h9 => h9) rfl dX11_agreementOf_139 ?_
      refine lv_iload_n hx hb dX11_agreementOf_142 rfl (lv_at hl 1 rfl) ?_
      refine va_iald hx hb hK hP 30 29 rfl rfl (vp_in_iff.mpr (by omega)) dX11_agreementOf_143 ?_
      refine lv_topi (fun x_33 ex_33 => ?_)
      have gx_33 : x_33.toInt = (fa 29 (x1 : Int32).toNatClampNeg).toInt := iv_to ex_33
      clear ex_33
      exact W.iret (v := x_33) hx hb hr (fun t ht hW => ⟨⟨x_33, (v, fa), rfl, ⟨gV, gA, mX.rf, ⟨by have hgi := gonI_i v fa x1.toNatClampNeg; refine Or.inr ⟨by omega, ?_⟩; unfold aoV; repeat (first | rw [if_pos (by omega)] | rw [if_neg (by omega)]); (try omega), Or.inr ⟨by unfold bAo; omega, (by first | exact rfl | (dsimp only; exact rfl))⟩⟩⟩, ⟨by rw [ht]; exact hP, va_K.moved hW.alike hK, hD⟩⟩, hS.F ht⟩) hS.2.2 dX11_agreementOf_144
    have n_34 := c_ne (a := x2.toInt) (b := 8) rfl (by decide) q_32
    by_cases q_35 : x2 = 9
    · have kq_35 : x2.toInt = 9 := by rw [q_35]; decide
      refine lv_topi (fun y ey => ?_)
      obtain rfl : y = 9 := ey.trans q_35
      refine lv_tableIn (x := 9) (off := 130) (tgt := 145) hx hb dX11_agreementOf_15 (by decide) (by decide) (by decide) (by decide) ?_
      refine lv_aload_n hx hb dX11_agreementOf_145 rfl (lv_at hl 0 rfl) ?_
      refine lv_iload_n hx hb dX11_agreementOf_146 rfl (lv_at hl 1 rfl) ?_
      have hFc : ∀ q, va_A [] H.size q → A q := pu_free hS hA
      refine va_calli (va_runV (As := [.int x1]) (rest := []) ⟨hx, hb, hml, hown, hts⟩ (c_X11_goesOn_f l dC dI H.size g0 pq cp v fa gV gA x1 (by omega)) (cwV 1 hts gX11_agreementOf_X11_goesOn rfl rfl rfl (by decide +kernel) ⟨(Nat.le_of_ble_eq_true rfl), (Nat.le_of_ble_eq_true rfl)⟩) (pr_V (r := (RX11, TX11, 63)) hP hK hD 0 11 rfl rfl) rfl rfl hl.1 rfl (lv_room (Nat.le_of_ble_eq_true rfl)) dX11_agreementOf_147 ⟨(Nat.le_of_ble_eq_true rfl), (Nat.le_of_ble_eq_true rfl)⟩) hS (fun q _ h => hFc q h) hFc (fun r_37 u t H locs ht hvm w_36 hB hz1 hk1 hS => ?_)
      have hP := pu_keep hP hk1
      clear hk1 hz1 hvm hB ht hFc
      obtain ⟨hb_38, hx_39⟩ := w_36
      refine lv_if_eq (tgt := 157) hx hb dX11_agreementOf_150 (by decide) (fun c_40 => ?_) (fun c_40 => ?_)
      · have dc_40 := c_eq (a := r_37.toInt) (b := 0) rfl (by decide) c_40
        refine lv_iconst (v := 0) hx hb dX11_agreementOf_157 (by decide) ?_
        exact W.iret (v := 0) hx hb hr (fun t ht hW => ⟨⟨0, (v, fa), rfl, ⟨gV, gA, mX.rf, ⟨by have rc : (0 : Int32).toInt = 0 := (by decide); have hgi := gonI_i v fa x1.toNatClampNeg; refine Or.inr ⟨by omega, ?_⟩; unfold aoV; repeat (first | rw [if_pos (by omega)] | rw [if_neg (by omega)]); (try omega), Or.inr ⟨by unfold bAo; omega, (by first | exact rfl | (dsimp only; exact rfl))⟩⟩⟩, ⟨by rw [ht]; exact hP, va_K.moved hW.alike hK, hD⟩⟩, hS.F ht⟩) hS.2.2 dX11_agreementOf_158
      · have dc_40 := c_ne (a := r_37.toInt) (b := 0) rfl (by decide) c_40
        refine lv_iconst (v := 1) hx hb dX11_agreementOf_153 (by decide) ?_
        refine lv_goto (tgt := 158) hx hb dX11_agreementOf_154 (by decide) ?_
        exact W.iret (v := 1) hx hb hr (fun t ht hW => ⟨⟨1, (v, fa), rfl, ⟨gV, gA, mX.rf, ⟨by have rc : (1 : Int32).toInt = 1 := (by decide); have hgi := gonI_i v fa x1.toNatClampNeg; refine Or.inr ⟨by omega, ?_⟩; unfold aoV; repeat (first | rw [if_pos (by omega)] | rw [if_neg (by omega)]); (try omega), Or.inr ⟨by unfold bAo; omega, (by first | exact rfl | (dsimp only; exact rfl))⟩⟩⟩, ⟨by rw [ht]; exact hP, va_K.moved hW.alike hK, hD⟩⟩, hS.F ht⟩) hS.2.2 dX11_agreementOf_158
    have n_41 := c_ne (a := x2.toInt) (b := 9) rfl (by decide) q_35
    refine lv_tableOut (tgt := 159) hx hb dX11_agreementOf_15 (by omega) (by decide) ?_
    refine lv_aload_n hx hb dX11_agreementOf_159 rfl (lv_at hl 0 rfl) ?_
    refine lv_bipush (v := (-2)) hx hb dX11_agreementOf_160 (by decide) ?_
    have hFc := va_free (wc := (mW g0 pq cp v fa)) hD hS hA (List.range 48) rfl
    refine va_calli (va_runV (As := [.int (-2)]) (rest := []) ⟨hx, hb, hml, hown, hts⟩ (c_X11_refuse_f l dC dI H.size g0 pq cp v fa (-2) (by unfold vp_in; decide)) (cwV 1 hts gX11_agreementOf_X11_refuse rfl rfl rfl (by decide +kernel) ⟨(Nat.le_of_ble_eq_true rfl), (Nat.le_of_ble_eq_true rfl)⟩) (pr_V (r := (RX11, TX11, 63)) hP hK hD 0 11 rfl rfl) rfl rfl hl.1 rfl (lv_room (Nat.le_of_ble_eq_true rfl)) dX11_agreementOf_162 ⟨(Nat.le_of_ble_eq_true rfl), (Nat.le_of_ble_eq_true rfl)⟩) hS (fun q _ h => hFc q h) hFc (fun r_43 u t H locs ht hvm w_42 hB hz1 hk1 hS => ?_)
    obtain ⟨v_44, fa_45⟩ := u
    obtain ⟨hP1, hK1, hD1⟩ := hB
    rw [ht] at hP1
    have hP : va_P (dC, dI) vwCl (mW g0 pq cp v_44 fa_45) H := hP1
    have hD : va_D A (mW g0 pq cp v_44 fa_45) := hD1.weaken (fun _ _ _ h => hFc _ h)
    clear hP1 hK1 hD1 hk1 hz1 hvm ht hFc
    obtain ⟨rfl, hs1_46⟩ := w_42
    have hVv_44 : mV v_44 := sm0_V (sm1_0 hs1_46) gV
    have hAv_44 : mA fa_45 := sm0_A (sm1_0 hs1_46) gA
    have g_47 : (v_44 43).toInt = (v 43).toInt := congrArg Int32.toInt (congrFun hs1_46.1 43)
    have hRv_44 : mX [0] v fa v_44 fa_45 := mX.st mX.rf (mX.s0 (sm1_0 hs1_46)) (by decide)
    exact W.iret (v := (-2)) hx hb hr (fun t ht hW => ⟨⟨(-2), (v_44, fa_45), rfl, ⟨hVv_44, hAv_44, hRv_44, ⟨by have rc : ((-2) : Int32).toInt = -2 := (by decide); have hgi := gonI_i v fa x1.toNatClampNeg; refine Or.inr ⟨by omega, ?_⟩; unfold aoV; repeat (first | rw [if_pos (by omega)] | rw [if_neg (by omega)]); (try omega), Or.inl ⟨by unfold bAo; omega, hs1_46⟩⟩⟩, ⟨by rw [ht]; exact hP, va_K.moved hW.alike hK, hD⟩⟩, hS.F ht⟩) hS.2.2 dX11_agreementOf_165
  · have dc_4 := c_eq (a := r_3.toInt) (b := 0) rfl (by decide) c_4
    have hz_48 := isI_0 (w_2.symm.trans c_4)
    refine lv_aload_n hx hb dX11_agreementOf_8 rfl (lv_at hl 0 rfl) ?_
    refine lv_iconst (v := (-1)) hx hb dX11_agreementOf_9 (by decide) ?_
    have hFc := va_free (wc := (mW g0 pq cp v fa)) hD hS hA (List.range 48) rfl
    refine va_calli (va_runV (As := [.int (-1)]) (rest := []) ⟨hx, hb, hml, hown, hts⟩ (c_X11_refuse_f l dC dI H.size g0 pq cp v fa (-1) (by unfold vp_in; decide)) (cwV 1 hts gX11_agreementOf_X11_refuse rfl rfl rfl (by decide +kernel) ⟨(Nat.le_of_ble_eq_true rfl), (Nat.le_of_ble_eq_true rfl)⟩) (pr_V (r := (RX11, TX11, 63)) hP hK hD 0 11 rfl rfl) rfl rfl hl.1 rfl (lv_room (Nat.le_of_ble_eq_true rfl)) dX11_agreementOf_10 ⟨(Nat.le_of_ble_eq_true rfl), (Nat.le_of_ble_eq_true rfl)⟩) hS (fun q _ h => hFc q h) hFc (fun r_50 u t H locs ht hvm w_49 hB hz1 hk1 hS => ?_)
    obtain ⟨v_51, fa_52⟩ := u
    obtain ⟨hP1, hK1, hD1⟩ := hB
    rw [ht] at hP1
    have hP : va_P (dC, dI) vwCl (mW g0 pq cp v_51 fa_52) H := hP1
    have hD : va_D A (mW g0 pq cp v_51 fa_52) := hD1.weaken (fun _ _ _ h => hFc _ h)
    clear hP1 hK1 hD1 hk1 hz1 hvm ht hFc
    obtain ⟨rfl, hs1_53⟩ := w_49
    have hVv_51 : mV v_51 := sm0_V (sm1_0 hs1_53) gV
    have hAv_51 : mA fa_52 := sm0_A (sm1_0 hs1_53) gA
    have g_54 : (v_51 43).toInt = (v 43).toInt := congrArg Int32.toInt (congrFun hs1_53.1 43)
    have hRv_51 : mX [0] v fa v_51 fa_52 := mX.st mX.rf (mX.s0 (sm1_0 hs1_53)) (by decide)
    exact W.iret (v := (-1)) hx hb hr (fun t ht hW => ⟨⟨(-1), (v_51, fa_52), rfl, ⟨hVv_51, hAv_51, hRv_51, ⟨by have rc : ((-1) : Int32).toInt = -1 := (by decide); unfold aAo; omega, Or.inl ⟨by unfold bAo; omega, hs1_53⟩⟩⟩, ⟨by rw [ht]; exact hP, va_K.moved hW.alike hK, hD⟩⟩, hS.F ht⟩) hS.2.2 dX11_agreementOf_13
set_option maxHeartbeats 4000000 in
set_option maxRecDepth 100000 in
theorem c_X11_put_f (l : Launch) (dC : Nat → ClassId) (dI : Nat → Nat → Nat) (sz : Nat) (g0 : Nat) (pq : Nat → Nat) (cp : Nat → ClassId) (v : Nat → Int32) (fa : Nat → Nat → Int32) (gV : mV v) (gA : mA fa) (x1 : Int32) : Met l yX11_put wsX11_put ({ frames := 1, cells := 0, slots := 0, locals := 21 }) (va_Pc [.ref g0, .int x1] (pcW (dC, dI) (mT cp) (mW g0 pq cp v fa) sz)) (va_Qi (fun (r : Int32) (u : (Nat → Int32) × (Nat → Nat → Int32)) => mV u.1 ∧ mA u.2 ∧ mX [0, 61, 62] v fa u.1 u.2 ∧ (aPu (v 62).toInt r.toInt ∧ rO2 v fa u r ((u.1 62).toInt = (v 62).toInt + 1 ∧ u.2 61 = upd (fa 61) (v 62).toNatClampNeg x1))) (fun u t => va_P (dC, dI) vwCl (mW g0 pq cp u.1 u.2) t.heap ∧ va_K (dC, dI) vwCl (mT cp) t ∧ va_D (va_A (mW g0 pq cp v fa) sz) (mW g0 pq cp u.1 u.2)) (va_A (mW g0 pq cp v fa) sz)) 0 0 (va_A (mW g0 pq cp v fa) sz) := by
  refine Met.ofW (cc := cX11_put) (maxL := 2) (ret := (some .int)) (by decide) rfl ?_
  intro p e s m args below meth c s₁ B hml hv
  obtain ⟨rfl, hsz, hP, hK, hD0⟩ := hv
  have hx := B.exec
  have hb := B.bytes
  have hr := B.returns
  have hts := atoms_spec (ws := wsX11_put) B.pre
  have hown : s.vm.findClass RX11 = some m.cls := findClass_of_methodNamed B.named
  have hlocks := B.notSynchronized
  subst hsz
  have hD := hD0.self (sz := s.heap.size)
  generalize hAe : va_A (mW g0 pq cp v fa) s.heap.size = A at hD ⊢
  have hA : ∀ q : Nat, s.heap.size ≤ q → A q := fun q h => by rw [← hAe]; exact Or.inr h
  have hS : va_S A s.heap s.heap [] := va_S.rf
  have hP : va_P (dC, dI) vwCl (mW g0 pq cp v fa) s.heap := hP
  have hl := lv_entry ([.ref g0, .int x1]) (n := 2) (Nat.le_of_ble_eq_true rfl)
  rw [lg_entry_eq]
  generalize (lg_sl ([.ref g0, .int x1]) ++ List.replicate (2 - (lg_sl ([.ref g0, .int x1])).length) Slot.unset).toArray = ls at hl ⊢
  have hl : lv_has ls 2 [(0, .ref g0), (1, .int x1)] := hl
  have iv_1 : 0 ≤ (v 62).toInt ∧ (v 62).toInt ≤ 12 := gV 62
  refine lv_aload_n hx hb dX11_put_0 rfl (lv_at hl 0 rfl) ?_
  refine va_get (D := (dC, dI)) (ci := 11) (v := .int (v 62)) (C := RX11) (T := TX11) (N := 63) hx hb hts in_wsX11_put_X11 hown hK hP 0 rfl rfl 62 (by decide) (hts (.fieldLink RX11 357 "ShipOfficeModel" "rowed" "I") iw_X11_put_1) (fun _ h9 => h9) rfl dX11_put_1 ?_
  refine lv_topi (fun x_2 ex_2 => ?_)
  have hx_2 : 0 ≤ x_2.toInt ∧ x_2.toInt ≤ 12 := iv_of ex_2 (gV 62)
  have gx_2 : x_2.toInt = (v 62).toInt := iv_to ex_2
  clear ex_2
  refine lv_bipush (v := 12) hx hb dX11_put_4 (by decide) ?_
  refine lv_icmp_ne (tgt := 16) hx hb dX11_put_6 (by decide) (fun c_3 => ?_) (fun c_3 => ?_)
  · have dc_3 := c_ne (a := x_2.toInt) (b := 12) rfl (by decide) c_3
    refine lv_aload_n hx hb dX11_put_16 rfl (lv_at hl 0 rfl) ?_
    refine va_get (D := (dC, dI)) (ci := 11) (v := .ref (pq 61)) (C := RX11) (T := TX11) (N := 63) hx hb hts in_wsX11_put_X11 hown hK hP 0 rfl rfl 61 (by decide) (hts (.fieldLink RX11 149 "ShipOfficeModel" "row" "[I") iw_X11_put_2) (fun _ h9 => h9) rfl dX11_put_17 ?_
    refine lv_aload_n hx hb dX11_put_20 rfl (lv_at hl 0 rfl) ?_
    refine va_get (D := (dC, dI)) (ci := 11) (v := .int (v 62)) (C := RX11) (T := TX11) (N := 63) hx hb hts in_wsX11_put_X11 hown hK hP 0 rfl rfl 62 (by decide) (hts (.fieldLink RX11 357 "ShipOfficeModel" "rowed" "I") iw_X11_put_1) (fun _ h9 => h9) rfl dX11_put_21 ?_
    refine lv_topi (fun x_4 ex_4 => ?_)
    have hx_4 : 0 ≤ x_4.toInt ∧ x_4.toInt ≤ 12 := iv_of ex_4 (gV 62)
    have gx_4 : x_4.toInt = (v 62).toInt := iv_to ex_4
    clear ex_4
    refine lv_iload_n hx hb dX11_put_24 rfl (lv_at hl 1 rfl) ?_
    refine va_iast hx hb hK hP hD hS 47 46 rfl rfl (vp_in_iff.mpr (by omega)) dX11_put_25 (fun H locs hP hD hS => ?_)
    have hP : va_P (dC, dI) vwCl (mW g0 pq cp v (upF fa 61 (x_4 : Int32).toNatClampNeg x1)) H := hP
    have hD : va_D A (mW g0 pq cp v (upF fa 61 (x_4 : Int32).toNatClampNeg x1)) := hD
    obtain ⟨fz_5, efz_5⟩ : ∃ zq, zq = (upF fa 61 (x_4 : Int32).toNatClampNeg x1) := ⟨_, rfl⟩
    rw [← efz_5] at hP hD
    have hAfz_5 : mA fz_5 := by rw [efz_5]; exact mA_upF (lo := -2147483648) (hi := 2147483647) gA rfl rfl (iv_all _)
    have hRfz_5 : mX [0, 61, 62] v fa v fz_5 := by rw [efz_5]; exact mX.uF mX.rf (by decide)
    have q0_6 : fz_5 0 = fa 0 := by rw [efz_5]; exact (if_neg (by decide)).trans rfl
    refine lv_aload_n hx hb dX11_put_26 rfl (lv_at hl 0 rfl) ?_
    refine lv_dup hx hb dX11_put_27 rfl ?_
    refine va_get (D := (dC, dI)) (ci := 11) (v := .int (v 62)) (C := RX11) (T := TX11) (N := 63) hx hb hts in_wsX11_put_X11 hown hK hP 0 rfl rfl 62 (by decide) (hts (.fieldLink RX11 357 "ShipOfficeModel" "rowed" "I") iw_X11_put_1) (fun _ h9 => h9) rfl dX11_put_28 ?_
    refine lv_topi (fun x_7 ex_7 => ?_)
    have hx_7 : 0 ≤ x_7.toInt ∧ x_7.toInt ≤ 12 := iv_of ex_7 (gV 62)
    have gx_7 : x_7.toInt = (v 62).toInt := iv_to ex_7
    clear ex_7
    refine lv_iconst (v := 1) hx hb dX11_put_31 (by decide) ?_
    refine lv_iadd hx hb dX11_put_32 ?_
    refine lv_topi (fun x_8 ex_8 => ?_)
    have hx_8 : x_8.toInt = x_7.toInt + 1 := (iv_to ex_8).trans (ad_i rfl (by decide) (by omega) (by omega))
    refine va_put (D := (dC, dI)) (ci := 11) (v := .int x_8) (ty := .int) (C := RX11) (T := TX11) (N := 63) hx hb hts in_wsX11_put_X11 tyX11 tyX11_ok nmX11 hown hK hP hD hS 0 rfl rfl 62 (by decide) (hts (.fieldLink RX11 357 "ShipOfficeModel" "rowed" "I") iw_X11_put_1) (fun _ h9 => h9) rfl (by decide +kernel) rfl rfl (Nat.le_of_ble_eq_true rfl) dX11_put_33 (fun H locs hP hD hS => ?_)
    have hP : va_P (dC, dI) vwCl (mW g0 pq cp (upd v 62 x_8) fz_5) H := hP
    have hD : va_D A (mW g0 pq cp (upd v 62 x_8) fz_5) := hD
    obtain ⟨z_9, ez_9⟩ : ∃ zq, zq = (upd v 62 x_8) := ⟨_, rfl⟩
    rw [← ez_9] at hP hD
    have hVz_9 : mV z_9 := by rw [ez_9]; exact mV_upd (lo := 0) (hi := 12) gV rfl rfl (by omega)
    have hRz_9 : mX [0, 61, 62] v fa z_9 fz_5 := by rw [ez_9]; exact mX.up hRfz_5 (by decide)
    have g_10 : (z_9 62).toInt = x_8.toInt := by rw [ez_9, show upd v 62 x_8 62 = x_8 from if_pos rfl]
    refine lv_aload_n hx hb dX11_put_36 rfl (lv_at hl 0 rfl) ?_
    refine va_get (D := (dC, dI)) (ci := 11) (v := .int (z_9 62)) (C := RX11) (T := TX11) (N := 63) hx hb hts in_wsX11_put_X11 hown hK hP 0 rfl rfl 62 (by decide) (hts (.fieldLink RX11 357 "ShipOfficeModel" "rowed" "I") iw_X11_put_1) (fun _ h9 => h9) rfl dX11_put_37 ?_
    refine lv_topi (fun x_11 ex_11 => ?_)
    have hx_11 : 0 ≤ x_11.toInt ∧ x_11.toInt ≤ 12 := iv_of ex_11 (hVz_9 62)
    have gx_11 : x_11.toInt = (z_9 62).toInt := iv_to ex_11
    clear ex_11
    exact W.iret (v := x_11) hx hb hr (fun t ht hW => ⟨⟨x_11, (z_9, fz_5), rfl, ⟨hVz_9, hAfz_5, hRz_9, ⟨by unfold aPu; omega, Or.inr ⟨by omega, (by dsimp only; exact q0_6), ⟨by dsimp only; omega, (by dsimp only; rw [efz_5, show x_4 = v 62 from Int32.toInt_inj.mp (by omega)]; rfl)⟩⟩⟩⟩, ⟨by rw [ht]; exact hP, va_K.moved hW.alike hK, hD⟩⟩, hS.F ht⟩) hS.2.2 dX11_put_40
  · have dc_3 := c_eq (a := x_2.toInt) (b := 12) rfl (by decide) c_3
    refine lv_aload_n hx hb dX11_put_9 rfl (lv_at hl 0 rfl) ?_
    refine lv_bipush (v := (-6)) hx hb dX11_put_10 (by decide) ?_
    have hFc := va_free (wc := (mW g0 pq cp v fa)) hD hS hA (List.range 48) rfl
    refine va_calli (va_runV (As := [.int (-6)]) (rest := []) ⟨hx, hb, hml, hown, hts⟩ (c_X11_refuse_f l dC dI s.heap.size g0 pq cp v fa (-6) (by unfold vp_in; decide)) (cwV 1 hts gX11_put_X11_refuse rfl rfl rfl (by decide +kernel) ⟨(Nat.le_of_ble_eq_true rfl), (Nat.le_of_ble_eq_true rfl)⟩) (pr_V (r := (RX11, TX11, 63)) hP hK hD 0 11 rfl rfl) rfl rfl hl.1 rfl (lv_room (Nat.le_of_ble_eq_true rfl)) dX11_put_12 ⟨(Nat.le_of_ble_eq_true rfl), (Nat.le_of_ble_eq_true rfl)⟩) hS (fun q _ h => hFc q h) hFc (fun r_13 u t H locs ht hvm w_12 hB hz1 hk1 hS => ?_)
    obtain ⟨v_14, fa_15⟩ := u
    obtain ⟨hP1, hK1, hD1⟩ := hB
    rw [ht] at hP1
    have hP : va_P (dC, dI) vwCl (mW g0 pq cp v_14 fa_15) H := hP1
    have hD : va_D A (mW g0 pq cp v_14 fa_15) := hD1.weaken (fun _ _ _ h => hFc _ h)
    clear hP1 hK1 hD1 hk1 hz1 hvm ht hFc
    obtain ⟨rfl, hs1_16⟩ := w_12
    have hVv_14 : mV v_14 := sm0_V (sm1_0 hs1_16) gV
    have hAv_14 : mA fa_15 := sm0_A (sm1_0 hs1_16) gA
    have g_17 : (v_14 62).toInt = (v 62).toInt := congrArg Int32.toInt (congrFun hs1_16.1 62)
    have hRv_14 : mX [0, 61, 62] v fa v_14 fa_15 := mX.st mX.rf (mX.s0 (sm1_0 hs1_16)) (by decide)
    exact W.iret (v := (-6)) hx hb hr (fun t ht hW => ⟨⟨(-6), (v_14, fa_15), rfl, ⟨hVv_14, hAv_14, hRv_14, ⟨by have rc : ((-6) : Int32).toInt = -6 := (by decide); unfold aPu; omega, Or.inl ⟨by decide, sm2_1 hs1_16⟩⟩⟩, ⟨by rw [ht]; exact hP, va_K.moved hW.alike hK, hD⟩⟩, hS.F ht⟩) hS.2.2 dX11_put_15
