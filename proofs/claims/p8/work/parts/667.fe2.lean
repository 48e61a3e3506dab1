


set_option maxHeartbeats 4000000 in
set_option maxRecDepth 100000 in
theorem c_X11_happens_f (l : Launch) (dC : Nat → ClassId) (dI : Nat → Nat → Nat) (sz : Nat) (g0 : Nat) (pq : Nat → Nat) (cp : Nat → ClassId) (v : Nat → Int32) (fa : Nat → Nat → Int32) (gV : mV v) (gA : mA fa) (x1 : Int32) (x2 : Int32) (x3 : Int32) (x4 : Int32) (x5 : Int32) (hx5 : 0 ≤ x5.toInt ∧ x5.toInt ≤ 9) (x6 : Int32) (hx6 : 0 ≤ x6.toInt ∧ x6.toInt ≤ 3000) : Met l yX11_happens wsX11_happens ({ frames := 1, cells := 0, slots := 0, locals := 21 }) (va_Pc [.ref g0, .int x1, .int x2, .int x3, .int x4, .int x5, .int x6] (pcW (dC, dI) (mT cp) (mW g0 pq cp v fa) sz)) (va_Qi (fun (r : Int32) (u : (Nat → Int32) × (Nat → Nat → Int32)) => mV u.1 ∧ mA u.2 ∧ mX [0, 10, 11, 12, 13, 14, 15, 41] v fa u.1 u.2 ∧ (aHp x3.toInt x6.toInt (v 38).toInt (v 41).toInt r.toInt ∧ rOr v fa u r (hpN v fa x1 x2 x3 x4 x5 u))) (fun u t => va_P (dC, dI) vwCl (mW g0 pq cp u.1 u.2) t.heap ∧ va_K (dC, dI) vwCl (mT cp) t ∧ va_D (va_A (mW g0 pq cp v fa) sz) (mW g0 pq cp u.1 u.2)) (va_A (mW g0 pq cp v fa) sz)) 0 0 (va_A (mW g0 pq cp v fa) sz) := by
  refine Met.ofW (cc := cX11_happens) (maxL := 7) (ret := (some .int)) (by decide +kernel) rfl ?_
  intro p e s m args below meth c s₁ B hml hv
  obtain ⟨rfl, hsz, hP, hK, hD0⟩ := hv
  have hx := B.exec
  have hb := B.bytes
  have hr := B.returns
  have hts := atoms_spec (ws := wsX11_happens) B.pre
  have hown : s.vm.findClass RX11 = some m.cls := findClass_of_methodNamed B.named
  have hlocks := B.notSynchronized
  subst hsz
  have hD := hD0.self (sz := s.heap.size)
  generalize hAe : va_A (mW g0 pq cp v fa) s.heap.size = A at hD ⊢
  have hA : ∀ q : Nat, s.heap.size ≤ q → A q := fun q h => by rw [← hAe]; exact Or.inr h
  have hS : va_S A s.heap s.heap [] := va_S.rf
  have hP : va_P (dC, dI) vwCl (mW g0 pq cp v fa) s.heap := hP
  have hl := lv_entry ([.ref g0, .int x1, .int x2, .int x3, .int x4, .int x5, .int x6]) (n := 7) (Nat.le_of_ble_eq_true rfl)
  rw [lg_entry_eq]
  generalize (lg_sl ([.ref g0, .int x1, .int x2, .int x3, .int x4, .int x5, .int x6]) ++ List.replicate (7 - (lg_sl ([.ref g0, .int x1, .int x2, .int x3, .int x4, .int x5, .int x6])).length) Slot.unset).toArray = ls at hl ⊢
  have hl : lv_has ls 7 [(0, .ref g0), (1, .int x1), (2, .int x2), (3, .int x3), (4, .int x4), (5, .int x5), (6, .int x6)] := hl
  have iv_1 : 0 ≤ (v 38).toInt ∧ (v 38).toInt ≤ 3000 := gV 38
  have iv_2 : 0 ≤ (v 41).toInt ∧ (v 41).toInt ≤ 200 := gV 41
  refine lv_iload_n hx hb dX11_happens_0 rfl (lv_at hl 3 rfl) ?_
  refine lv_iload hx hb dX11_happens_1 (lv_at hl 6 rfl) ?_
  refine lv_icmp_ge (tgt := 13) hx hb dX11_happens_3 (by decide +kernel) (fun c_3 => ?_) (fun c_3 => ?_)
  · have dc_3 := c_le (a := x6.toInt) (b := x3.toInt) rfl rfl c_3
    refine lv_iload_n hx hb dX11_happens_13 rfl (lv_at hl 3 rfl) ?_
    refine lv_aload_n hx hb dX11_happens_14 rfl (lv_at hl 0 rfl) ?_
    refine va_get (D := (dC, dI)) (ci := 11) (v := .int (v 38)) (C := RX11) (T := TX11) (N := 63) hx hb hts in_wsX11_happens_X11 hown hK hP 0 rfl rfl 38 (by decide +kernel) (hts (.fieldLink RX11 171 "ShipOfficeModel" "now" "I") iw_X11_happens_1) (fun _ h9 => h9) rfl dX11_happens_15 ?_
    refine lv_topi (fun x_4 ex_4 => ?_)
    have hx_4 : 0 ≤ x_4.toInt ∧ x_4.toInt ≤ 3000 := iv_of ex_4 (gV 38)
    have gx_4 : x_4.toInt = (v 38).toInt := iv_to ex_4
    clear ex_4
    refine lv_icmp_gt (tgt := 31) hx hb dX11_happens_18 (by decide +kernel) (fun c_5 => ?_) (fun c_5 => ?_)
    · have dc_5 := c_lt (a := x_4.toInt) (b := x3.toInt) rfl rfl c_5
      refine lv_aload_n hx hb dX11_happens_31 rfl (lv_at hl 0 rfl) ?_
      refine lv_bipush (v := (-6)) hx hb dX11_happens_32 (by decide +kernel) ?_
      have hFc := va_free (wc := (mW g0 pq cp v fa)) hD hS hA (List.range 48) rfl
      refine va_calli (va_runV (As := [.int (-6)]) (rest := []) ⟨hx, hb, hml, hown, hts⟩ (c_X11_refuse_f l dC dI s.heap.size g0 pq cp v fa (-6) (by unfold vp_in; decide)) (cwV 1 hts gX11_happens_X11_refuse rfl rfl rfl (by decide +kernel) ⟨(Nat.le_of_ble_eq_true rfl), (Nat.le_of_ble_eq_true rfl)⟩) (pr_V (r := (RX11, TX11, 63)) hP hK hD 0 11 rfl rfl) rfl rfl hl.1 rfl (lv_room (Nat.le_of_ble_eq_true rfl)) dX11_happens_34 ⟨(Nat.le_of_ble_eq_true rfl), (Nat.le_of_ble_eq_true rfl)⟩) hS (fun q _ h => hFc q h) hFc (fun r_7 u t H locs ht hvm w_6 hB hz1 hk1 hS => ?_)
      obtain ⟨v_8, fa_9⟩ := u
      obtain ⟨hP1, hK1, hD1⟩ := hB
      rw [ht] at hP1
      have hP : va_P (dC, dI) vwCl (mW g0 pq cp v_8 fa_9) H := hP1
      have hD : va_D A (mW g0 pq cp v_8 fa_9) := hD1.weaken (fun _ _ _ h => hFc _ h)
      clear hP1 hK1 hD1 hk1 hz1 hvm ht hFc
      obtain ⟨rfl, hs1_10⟩ := w_6
      have hVv_8 : mV v_8 := sm0_V (sm1_0 hs1_10) gV
      have hAv_8 : mA fa_9 := sm0_A (sm1_0 hs1_10) gA
      have g_11 : (v_8 38).toInt = (v 38).toInt := congrArg Int32.toInt (congrFun hs1_10.1 38)
      have g_12 : (v_8 41).toInt = (v 41).toInt := congrArg Int32.toInt (congrFun hs1_10.1 41)
      have hRv_8 : mX [0, 10, 11, 12, 13, 14, 15, 41] v fa v_8 fa_9 := mX.st mX.rf (mX.s0 (sm1_0 hs1_10)) (by decide +kernel)
      exact W.iret (v := (-6)) hx hb hr (fun t ht hW => ⟨⟨(-6), (v_8, fa_9), rfl, ⟨hVv_8, hAv_8, hRv_8, ⟨by have rc : ((-6) : Int32).toInt = -6 := (by decide +kernel); (first | exact Or.inr (Or.inl ⟨by omega, by omega, by omega⟩) | (unfold aHp; omega)), (Or.inl ⟨by decide, hs1_10⟩)⟩⟩, ⟨by rw [ht]; exact hP, va_K.moved hW.alike hK, hD⟩⟩, hS.F ht⟩) hS.2.2 dX11_happens_37
    · have dc_5 := c_nlt (a := x_4.toInt) (b := x3.toInt) rfl rfl c_5
      refine lv_aload_n hx hb dX11_happens_21 rfl (lv_at hl 0 rfl) ?_
      refine va_get (D := (dC, dI)) (ci := 11) (v := .int (v 41)) (C := RX11) (T := TX11) (N := 63) hx hb hts in_wsX11_happens_X11 hown hK hP 0 rfl rfl 41 (by decide +kernel) (hts (.fieldLink RX11 179 "ShipOfficeModel" "happened" "I") iw_X11_happens_2) (fun _ h9 => h9) rfl dX11_happens_22 ?_
      refine lv_topi (fun x_13 ex_13 => ?_)
      have hx_13 : 0 ≤ x_13.toInt ∧ x_13.toInt ≤ 200 := iv_of ex_13 (gV 41)
      have gx_13 : x_13.toInt = (v 41).toInt := iv_to ex_13
      clear ex_13
      refine lv_sipush (v := 200) hx hb dX11_happens_25 (by decide +kernel) ?_
      refine lv_icmp_ne (tgt := 38) hx hb dX11_happens_28 (by decide +kernel) (fun c_14 => ?_) (fun c_14 => ?_)
      · have dc_14 := c_ne (a := x_13.toInt) (b := 200) rfl (by decide +kernel) c_14
        refine lv_aload_n hx hb dX11_happens_38 rfl (lv_at hl 0 rfl) ?_
        refine va_get (D := (dC, dI)) (ci := 11) (v := .ref (pq 10)) (C := RX11) (T := TX11) (N := 63) hx hb hts in_wsX11_happens_X11 hown hK hP 0 rfl rfl 10 (by decide +kernel) (hts (.fieldLink RX11 40 "ShipOfficeModel" "what" "[I") iw_X11_happens_3) (fun _ h9 => h9) rfl dX11_happens_39 ?_
        refine lv_aload_n hx hb dX11_happens_42 rfl (lv_at hl 0 rfl) ?_
        refine va_get (D := (dC, dI)) (ci := 11) (v := .int (v 41)) (C := RX11) (T := TX11) (N := 63) hx hb hts in_wsX11_happens_X11 hown hK hP 0 rfl rfl 41 (by decide +kernel) (hts (.fieldLink RX11 179 "ShipOfficeModel" "happened" "I") iw_X11_happens_2) (fun _ h9 => h9) rfl dX11_happens_43 ?_
        refine lv_topi (fun x_15 ex_15 => ?_)
        have hx_15 : 0 ≤ x_15.toInt ∧ x_15.toInt ≤ 200 := iv_of ex_15 (gV 41)
        have gx_15 : x_15.toInt = (v 41).toInt := iv_to ex_15
        clear ex_15
        refine lv_iload_n hx hb dX11_happens_46 rfl (lv_at hl 1 rfl) ?_
        refine va_iast hx hb hK hP hD hS 11 10 rfl rfl (vp_in_iff.mpr (by omega)) dX11_happens_47 (fun H locs hP hD hS => ?_)
        have hP : va_P (dC, dI) vwCl (mW g0 pq cp v (upF fa 10 (x_15 : Int32).toNatClampNeg x1)) H := hP
        have hD : va_D A (mW g0 pq cp v (upF fa 10 (x_15 : Int32).toNatClampNeg x1)) := hD
        obtain ⟨fz_16, efz_16⟩ : ∃ zq, zq = (upF fa 10 (x_15 : Int32).toNatClampNeg x1) := ⟨_, rfl⟩
        rw [← efz_16] at hP hD
        have hAfz_16 : mA fz_16 := by rw [efz_16]; exact mA_upF (lo := -2147483648) (hi := 2147483647) gA rfl rfl (iv_all _)
        have hRfz_16 : mX [0, 10, 11, 12, 13, 14, 15, 41] v fa v fz_16 := by rw [efz_16]; exact mX.uF mX.rf (by decide +kernel)
        have q0_17 : fz_16 0 = fa 0 := by rw [efz_16]; exact (if_neg (by decide +kernel)).trans rfl
        refine lv_aload_n hx hb dX11_happens_48 rfl (lv_at hl 0 rfl) ?_
        refine va_get (D := (dC, dI)) (ci := 11) (v := .ref (pq 11)) (C := RX11) (T := TX11) (N := 63) hx hb hts in_wsX11_happens_X11 hown hK hP 0 rfl rfl 11 (by decide +kernel) (hts (.fieldLink RX11 43 "ShipOfficeModel" "whose" "[I") iw_X11_happens_4) (fun _ h9 => h9) rfl dX11_happens_49 ?_
        refine lv_aload_n hx hb dX11_happens_52 rfl (lv_at hl 0 rfl) ?_
        refine va_get (D := (dC, dI)) (ci := 11) (v := .int (v 41)) (C := RX11) (T := TX11) (N := 63) hx hb hts in_wsX11_happens_X11 hown hK hP 0 rfl rfl 41 (by decide +kernel) (hts (.fieldLink RX11 179 "ShipOfficeModel" "happened" "I") iw_X11_happens_2) (fun _ h9 => h9) rfl dX11_happens_53 ?_
        refine lv_topi (fun x_18 ex_18 => ?_)
        have hx_18 : 0 ≤ x_18.toInt ∧ x_18.toInt ≤ 200 := iv_of ex_18 (gV 41)
        have gx_18 : x_18.toInt = (v 41).toInt := iv_to ex_18
        clear ex_18
        refine lv_iload_n hx hb dX11_happens_56 rfl (lv_at hl 2 rfl) ?_
        refine va_iast hx hb hK hP hD hS 12 11 rfl rfl (vp_in_iff.mpr (by omega)) dX11_happens_57 (fun H locs hP hD hS => ?_)
        have hP : va_P (dC, dI) vwCl (mW g0 pq cp v (upF fz_16 11 (x_18 : Int32).toNatClampNeg x2)) H := hP
        have hD : va_D A (mW g0 pq cp v (upF fz_16 11 (x_18 : Int32).toNatClampNeg x2)) := hD
        obtain ⟨fz_19, efz_19⟩ : ∃ zq, zq = (upF fz_16 11 (x_18 : Int32).toNatClampNeg x2) := ⟨_, rfl⟩
        rw [← efz_19] at hP hD
        have hAfz_19 : mA fz_19 := by rw [efz_19]; exact mA_upF (lo := -2147483648) (hi := 2147483647) hAfz_16 rfl rfl (iv_all _)
        have hRfz_19 : mX [0, 10, 11, 12, 13, 14, 15, 41] v fa v fz_19 := by rw [efz_19]; exact mX.uF hRfz_16 (by decide +kernel)
        have q0_20 : fz_19 0 = fa 0 := by rw [efz_19]; exact (if_neg (by decide +kernel)).trans q0_17
        refine lv_aload_n hx hb dX11_happens_58 rfl (lv_at hl 0 rfl) ?_
        refine va_get (D := (dC, dI)) (ci := 11) (v := .ref (pq 12)) (C := RX11) (T := TX11) (N := 63) hx hb hts in_wsX11_happens_X11 hown hK hP 0 rfl rfl 12 (by decide +kernel) (hts (.fieldLink RX11 46 "ShipOfficeModel" "day" "[I") iw_X11_happens_5) (fun _ h9 => h9) rfl dX11_happens_59 ?_
        refine lv_aload_n hx hb dX11_happens_62 rfl (lv_at hl 0 rfl) ?_
        refine va_get (D := (dC, dI)) (ci := 11) (v := .int (v 41)) (C := RX11) (T := TX11) (N := 63) hx hb hts in_wsX11_happens_X11 hown hK hP 0 rfl rfl 41 (by decide +kernel) (hts (.fieldLink RX11 179 "ShipOfficeModel" "happened" "I") iw_X11_happens_2) (fun _ h9 => h9) rfl dX11_happens_63 ?_
        refine lv_topi (fun x_21 ex_21 => ?_)
        have hx_21 : 0 ≤ x_21.toInt ∧ x_21.toInt ≤ 200 := iv_of ex_21 (gV 41)
        have gx_21 : x_21.toInt = (v 41).toInt := iv_to ex_21
        clear ex_21
        refine lv_iload_n hx hb dX11_happens_66 rfl (lv_at hl 3 rfl) ?_
        refine va_iast hx hb hK hP hD hS 13 12 rfl rfl (vp_in_iff.mpr (by omega)) dX11_happens_67 (fun H locs hP hD hS => ?_)
        have hP : va_P (dC, dI) vwCl (mW g0 pq cp v (upF fz_19 12 (x_21 : Int32).toNatClampNeg x3)) H := hP
        have hD : va_D A (mW g0 pq cp v (upF fz_19 12 (x_21 : Int32).toNatClampNeg x3)) := hD
        obtain ⟨fz_22, efz_22⟩ : ∃ zq, zq = (upF fz_19 12 (x_21 : Int32).toNatClampNeg x3) := ⟨_, rfl⟩
        rw [← efz_22] at hP hD
        have hAfz_22 : mA fz_22 := by rw [efz_22]; exact mA_upF (lo := 0) (hi := 3000) hAfz_19 rfl rfl (by omega)
        have hRfz_22 : mX [0, 10, 11, 12, 13, 14, 15, 41] v fa v fz_22 := by rw [efz_22]; exact mX.uF hRfz_19 (by decide +kernel)
        have q0_23 : fz_22 0 = fa 0 := by rw [efz_22]; exact (if_neg (by decide +kernel)).trans q0_20
        refine lv_aload_n hx hb dX11_happens_68 rfl (lv_at hl 0 rfl) ?_
        refine va_get (D := (dC, dI)) (ci := 11) (v := .ref (pq 13)) (C := RX11) (T := TX11) (N := 63) hx hb hts in_wsX11_happens_X11 hown hK hP 0 rfl rfl 13 (by decide +kernel) (hts (.fieldLink RX11 49 "ShipOfficeModel" "known" "[I") iw_X11_happens_6) (fun _ h9 => h9) rfl dX11_happens_69 ?_
        refine lv_aload_n hx hb dX11_happens_72 rfl (lv_at hl 0 rfl) ?_
        refine va_get (D := (dC, dI)) (ci := 11) (v := .int (v 41)) (C := RX11) (T := TX11) (N := 63) hx hb hts in_wsX11_happens_X11 hown hK hP 0 rfl rfl 41 (by decide +kernel) (hts (.fieldLink RX11 179 "ShipOfficeModel" "happened" "I") iw_X11_happens_2) (fun _ h9 => h9) rfl dX11_happens_73 ?_
        refine lv_topi (fun x_24 ex_24 => ?_)
        have hx_24 : 0 ≤ x_24.toInt ∧ x_24.toInt ≤ 200 := iv_of ex_24 (gV 41)
        have gx_24 : x_24.toInt = (v 41).toInt := iv_to ex_24
        clear ex_24
        refine lv_aload_n hx hb dX11_happens_76 rfl (lv_at hl 0 rfl) ?_
        refine va_get (D := (dC, dI)) (ci := 11) (v := .int (v 38)) (C := RX11) (T := TX11) (N := 63) hx hb hts in_wsX11_happens_X11 hown hK hP 0 rfl rfl 38 (by decide +kernel) (hts (.fieldLink RX11 171 "ShipOfficeModel" "now" "I") iw_X11_happens_1) (fun _ h9 => h9) rfl dX11_happens_77 ?_
        refine lv_topi (fun x_25 ex_25 => ?_)
        have hx_25 : 0 ≤ x_25.toInt ∧ x_25.toInt ≤ 3000 := iv_of ex_25 (gV 38)
        have gx_25 : x_25.toInt = (v 38).toInt := iv_to ex_25
        clear ex_25
        refine va_iast hx hb hK hP hD hS 14 13 rfl rfl (vp_in_iff.mpr (by omega)) dX11_happens_80 (fun H locs hP hD hS => ?_)
        have hP : va_P (dC, dI) vwCl (mW g0 pq cp v (upF fz_22 13 (x_24 : Int32).toNatClampNeg x_25)) H := hP
        have hD : va_D A (mW g0 pq cp v (upF fz_22 13 (x_24 : Int32).toNatClampNeg x_25)) := hD
        obtain ⟨fz_26, efz_26⟩ : ∃ zq, zq = (upF fz_22 13 (x_24 : Int32).toNatClampNeg x_25) := ⟨_, rfl⟩
        rw [← efz_26] at hP hD
        have hAfz_26 : mA fz_26 := by rw [efz_26]; exact mA_upF (lo := -2147483648) (hi := 2147483647) hAfz_22 rfl rfl (iv_all _)
        have hRfz_26 : mX [0, 10, 11, 12, 13, 14, 15, 41] v fa v fz_26 := by rw [efz_26]; exact mX.uF hRfz_22 (by decide +kernel)
        have q0_27 : fz_26 0 = fa 0 := by rw [efz_26]; exact (if_neg (by decide +kernel)).trans q0_23
        refine lv_aload_n hx hb dX11_happens_81 rfl (lv_at hl 0 rfl) ?_
        refine va_get (D := (dC, dI)) (ci := 11) (v := .ref (pq 14)) (C := RX11) (T := TX11) (N := 63) hx hb hts in_wsX11_happens_X11 hown hK hP 0 rfl rfl 14 (by decide +kernel) (hts (.fieldLink RX11 52 "ShipOfficeModel" "way" "[I") iw_X11_happens_7) (fun _ h9 => h9) rfl dX11_happens_82 ?_
        refine lv_aload_n hx hb dX11_happens_85 rfl (lv_at hl 0 rfl) ?_
        refine va_get (D := (dC, dI)) (ci := 11) (v := .int (v 41)) (C := RX11) (T := TX11) (N := 63) hx hb hts in_wsX11_happens_X11 hown hK hP 0 rfl rfl 41 (by decide +kernel) (hts (.fieldLink RX11 179 "ShipOfficeModel" "happened" "I") iw_X11_happens_2) (fun _ h9 => h9) rfl dX11_happens_86 ?_
        refine lv_topi (fun x_28 ex_28 => ?_)
        have hx_28 : 0 ≤ x_28.toInt ∧ x_28.toInt ≤ 200 := iv_of ex_28 (gV 41)
        have gx_28 : x_28.toInt = (v 41).toInt := iv_to ex_28
        clear ex_28
        refine lv_iload hx hb dX11_happens_89 (lv_at hl 4 rfl) ?_
        refine va_iast hx hb hK hP hD hS 15 14 rfl rfl (vp_in_iff.mpr (by omega)) dX11_happens_91 (fun H locs hP hD hS => ?_)
        have hP : va_P (dC, dI) vwCl (mW g0 pq cp v (upF fz_26 14 (x_28 : Int32).toNatClampNeg x4)) H := hP
        have hD : va_D A (mW g0 pq cp v (upF fz_26 14 (x_28 : Int32).toNatClampNeg x4)) := hD
        obtain ⟨fz_29, efz_29⟩ : ∃ zq, zq = (upF fz_26 14 (x_28 : Int32).toNatClampNeg x4) := ⟨_, rfl⟩
        rw [← efz_29] at hP hD
        have hAfz_29 : mA fz_29 := by rw [efz_29]; exact mA_upF (lo := -2147483648) (hi := 2147483647) hAfz_26 rfl rfl (iv_all _)
        have hRfz_29 : mX [0, 10, 11, 12, 13, 14, 15, 41] v fa v fz_29 := by rw [efz_29]; exact mX.uF hRfz_26 (by decide +kernel)
        have q0_30 : fz_29 0 = fa 0 := by rw [efz_29]; exact (if_neg (by decide +kernel)).trans q0_27
        refine lv_aload_n hx hb dX11_happens_92 rfl (lv_at hl 0 rfl) ?_
        refine va_get (D := (dC, dI)) (ci := 11) (v := .ref (pq 15)) (C := RX11) (T := TX11) (N := 63) hx hb hts in_wsX11_happens_X11 hown hK hP 0 rfl rfl 15 (by decide +kernel) (hts (.fieldLink RX11 55 "ShipOfficeModel" "port" "[I") iw_X11_happens_8) (fun _ h9 => h9) rfl dX11_happens_93 ?_
        refine lv_aload_n hx hb dX11_happens_96 rfl (lv_at hl 0 rfl) ?_
        refine va_get (D := (dC, dI)) (ci := 11) (v := .int (v 41)) (C := RX11) (T := TX11) (N := 63) hx hb hts in_wsX11_happens_X11 hown hK hP 0 rfl rfl 41 (by decide +kernel) (hts (.fieldLink RX11 179 "ShipOfficeModel" "happened" "I") iw_X11_happens_2) (fun _ h9 => h9) rfl dX11_happens_97 ?_
        refine lv_topi (fun x_31 ex_31 => ?_)
        have hx_31 : 0 ≤ x_31.toInt ∧ x_31.toInt ≤ 200 := iv_of ex_31 (gV 41)
        have gx_31 : x_31.toInt = (v 41).toInt := iv_to ex_31
        clear ex_31
        refine lv_iload hx hb dX11_happens_100 (lv_at hl 5 rfl) ?_
        refine va_iast hx hb hK hP hD hS 16 15 rfl rfl (vp_in_iff.mpr (by omega)) dX11_happens_102 (fun H locs hP hD hS => ?_)
        have hP : va_P (dC, dI) vwCl (mW g0 pq cp v (upF fz_29 15 (x_31 : Int32).toNatClampNeg x5)) H := hP
        have hD : va_D A (mW g0 pq cp v (upF fz_29 15 (x_31 : Int32).toNatClampNeg x5)) := hD
        obtain ⟨fz_32, efz_32⟩ : ∃ zq, zq = (upF fz_29 15 (x_31 : Int32).toNatClampNeg x5) := ⟨_, rfl⟩
        rw [← efz_32] at hP hD
        have hAfz_32 : mA fz_32 := by rw [efz_32]; exact mA_upF (lo := 0) (hi := 9) hAfz_29 rfl rfl (by omega)
        have hRfz_32 : mX [0, 10, 11, 12, 13, 14, 15, 41] v fa v fz_32 := by rw [efz_32]; exact mX.uF hRfz_29 (by decide +kernel)
        have q0_33 : fz_32 0 = fa 0 := by rw [efz_32]; exact (if_neg (by decide +kernel)).trans q0_30
        refine lv_aload_n hx hb dX11_happens_103 rfl (lv_at hl 0 rfl) ?_
        refine lv_dup hx hb dX11_happens_104 rfl ?_
        refine va_get (D := (dC, dI)) (ci := 11) (v := .int (v 41)) (C := RX11) (T := TX11) (N := 63) hx hb hts in_wsX11_happens_X11 hown hK hP 0 rfl rfl 41 (by decide +kernel) (hts (.fieldLink RX11 179 "ShipOfficeModel" "happened" "I") iw_X11_happens_2) (fun _ h9 => h9) rfl dX11_happens_105 ?_
        refine lv_topi (fun x_34 ex_34 => ?_)
        have hx_34 : 0 ≤ x_34.toInt ∧ x_34.toInt ≤ 200 := iv_of ex_34 (gV 41)
        have gx_34 : x_34.toInt = (v 41).toInt := iv_to ex_34
        clear ex_34
        refine lv_iconst (v := 1) hx hb dX11_happens_108 (by decide +kernel) ?_
        refine lv_iadd hx hb dX11_happens_109 ?_
        refine lv_topi (fun x_35 ex_35 => ?_)
        have hx_35 : x_35.toInt = x_34.toInt + 1 := (iv_to ex_35).trans (ad_i rfl (by decide +kernel) (by omega) (by omega))
        refine va_put (D := (dC, dI)) (ci := 11) (v := .int x_35) (ty := .int) (C := RX11) (T := TX11) (N := 63) hx hb hts in_wsX11_happens_X11 tyX11 tyX11_ok nmX11 hown hK hP hD hS 0 rfl rfl 41 (by decide +kernel) (hts (.fieldLink RX11 179 "ShipOfficeModel" "happened" "I") iw_X11_happens_2) (fun _ h9 => h9) rfl (by decide +kernel) rfl rfl (Nat.le_of_ble_eq_true rfl) dX11_happens_110 (fun H locs hP hD hS => ?_)
        have hP : va_P (dC, dI) vwCl (mW g0 pq cp (upd v 41 x_35) fz_32) H := hP
        have hD : va_D A (mW g0 pq cp (upd v 41 x_35) fz_32) := hD
        obtain ⟨z_36, ez_36⟩ : ∃ zq, zq = (upd v 41 x_35) := ⟨_, rfl⟩
        rw [← ez_36] at hP hD
        have hVz_36 : mV z_36 := by rw [ez_36]; exact mV_upd (lo := 0) (hi := 200) gV rfl rfl (by omega)
        have hRz_36 : mX [0, 10, 11, 12, 13, 14, 15, 41] v fa z_36 fz_32 := by rw [ez_36]; exact mX.up hRfz_32 (by decide +kernel)
        have g_37 : (z_36 38).toInt = (v 38).toInt := by rw [ez_36]; exact congrArg Int32.toInt (if_neg (by decide +kernel))
        have g_38 : (z_36 41).toInt = x_35.toInt := by rw [ez_36, show upd v 41 x_35 41 = x_35 from if_pos rfl]
        refine lv_aload_n hx hb dX11_happens_113 rfl (lv_at hl 0 rfl) ?_
        refine va_get (D := (dC, dI)) (ci := 11) (v := .int (z_36 41)) (C := RX11) (T := TX11) (N := 63) hx hb hts in_wsX11_happens_X11 hown hK hP 0 rfl rfl 41 (by decide +kernel) (hts (.fieldLink RX11 179 "ShipOfficeModel" "happened" "I") iw_X11_happens_2) (fun _ h9 => h9) rfl dX11_happens_114 ?_
        refine lv_topi (fun x_39 ex_39 => ?_)
        have hx_39 : 0 ≤ x_39.toInt ∧ x_39.toInt ≤ 200 := iv_of ex_39 (hVz_36 41)
        have gx_39 : x_39.toInt = (z_36 41).toInt := iv_to ex_39
        clear ex_39
        exact W.iret (v := x_39) hx hb hr (fun t ht hW => ⟨⟨x_39, (z_36, fz_32), rfl, ⟨hVz_36, hAfz_32, hRz_36, ⟨by (first | exact Or.inr (Or.inr (⟨by omega, by omega, by omega, by omega⟩)) | (unfold aHp; omega)), Or.inr ⟨by omega, (by dsimp only; exact q0_33), by dsimp only; omega, (by dsimp only; rw [efz_32, efz_29, efz_26, efz_22, efz_19, efz_16, show x_15 = v 41 from Int32.toInt_inj.mp (by omega)]; rfl), (by dsimp only; rw [efz_32, efz_29, efz_26, efz_22, efz_19, efz_16, show x_18 = v 41 from Int32.toInt_inj.mp (by omega)]; rfl), (by dsimp only; rw [efz_32, efz_29, efz_26, efz_22, efz_19, efz_16, show x_21 = v 41 from Int32.toInt_inj.mp (by omega)]; rfl), (by dsimp only; rw [efz_32, efz_29, efz_26, efz_22, efz_19, efz_16, show x_24 = v 41 from Int32.toInt_inj.mp (by omega), show x_25 = v 38 from Int32.toInt_inj.mp (by omega)]; rfl), (by dsimp only; rw [efz_32, efz_29, efz_26, efz_22, efz_19, efz_16, show x_28 = v 41 from Int32.toInt_inj.mp (by omega)]; rfl), (by dsimp only; rw [efz_32, efz_29, efz_26, efz_22, efz_19, efz_16, show x_31 = v 41 from Int32.toInt_inj.mp (by omega)]; rfl)⟩⟩⟩, ⟨by rw [ht]; exact hP, va_K.moved hW.alike hK, hD⟩⟩, hS.F ht⟩) hS.2.2 dX11_happens_117
      · have dc_14 := c_eq (a := x_13.toInt) (b := 200) rfl (by decide +kernel) c_14
        refine lv_aload_n hx hb dX11_happens_31 rfl (lv_at hl 0 rfl) ?_
        refine lv_bipush (v := (-6)) hx hb dX11_happens_32 (by decide +kernel) ?_
        have hFc := va_free (wc := (mW g0 pq cp v fa)) hD hS hA (List.range 48) rfl
        refine va_calli (va_runV (As := [.int (-6)]) (rest := []) ⟨hx, hb, hml, hown, hts⟩ (c_X11_refuse_f l dC dI s.heap.size g0 pq cp v fa (-6) (by unfold vp_in; decide)) (cwV 1 hts gX11_happens_X11_refuse rfl rfl rfl (by decide +kernel) ⟨(Nat.le_of_ble_eq_true rfl), (Nat.le_of_ble_eq_true rfl)⟩) (pr_V (r := (RX11, TX11, 63)) hP hK hD 0 11 rfl rfl) rfl rfl hl.1 rfl (lv_room (Nat.le_of_ble_eq_true rfl)) dX11_happens_34 ⟨(Nat.le_of_ble_eq_true rfl), (Nat.le_of_ble_eq_true rfl)⟩) hS (fun q _ h => hFc q h) hFc (fun r_41 u t H locs ht hvm w_40 hB hz1 hk1 hS => ?_)
        obtain ⟨v_42, fa_43⟩ := u
        obtain ⟨hP1, hK1, hD1⟩ := hB
        rw [ht] at hP1
        have hP : va_P (dC, dI) vwCl (mW g0 pq cp v_42 fa_43) H := hP1
        have hD : va_D A (mW g0 pq cp v_42 fa_43) := hD1.weaken (fun _ _ _ h => hFc _ h)
        clear hP1 hK1 hD1 hk1 hz1 hvm ht hFc
        obtain ⟨rfl, hs1_44⟩ := w_40
        have hVv_42 : mV v_42 := sm0_V (sm1_0 hs1_44) gV
        have hAv_42 : mA fa_43 := sm0_A (sm1_0 hs1_44) gA
        have g_45 : (v_42 38).toInt = (v 38).toInt := congrArg Int32.toInt (congrFun hs1_44.1 38)
        have g_46 : (v_42 41).toInt = (v 41).toInt := congrArg Int32.toInt (congrFun hs1_44.1 41)
        have hRv_42 : mX [0, 10, 11, 12, 13, 14, 15, 41] v fa v_42 fa_43 := mX.st mX.rf (mX.s0 (sm1_0 hs1_44)) (by decide +kernel)
        exact W.iret (v := (-6)) hx hb hr (fun t ht hW => ⟨⟨(-6), (v_42, fa_43), rfl, ⟨hVv_42, hAv_42, hRv_42, ⟨by have rc : ((-6) : Int32).toInt = -6 := (by decide +kernel); (first | exact Or.inr (Or.inl ⟨by omega, by omega, by omega⟩) | (unfold aHp; omega)), (Or.inl ⟨by decide, hs1_44⟩)⟩⟩, ⟨by rw [ht]; exact hP, va_K.moved hW.alike hK, hD⟩⟩, hS.F ht⟩) hS.2.2 dX11_happens_37
  · have dc_3 := c_nle (a := x6.toInt) (b := x3.toInt) rfl rfl c_3
    refine lv_aload_n hx hb dX11_happens_6 rfl (lv_at hl 0 rfl) ?_
    refine lv_bipush (v := (-4)) hx hb dX11_happens_7 (by decide +kernel) ?_
    have hFc := va_free (wc := (mW g0 pq cp v fa)) hD hS hA (List.range 48) rfl
    refine va_calli (va_runV (As := [.int (-4)]) (rest := []) ⟨hx, hb, hml, hown, hts⟩ (c_X11_refuse_f l dC dI s.heap.size g0 pq cp v fa (-4) (by unfold vp_in; decide)) (cwV 1 hts gX11_happens_X11_refuse rfl rfl rfl (by decide +kernel) ⟨(Nat.le_of_ble_eq_true rfl), (Nat.le_of_ble_eq_true rfl)⟩) (pr_V (r := (RX11, TX11, 63)) hP hK hD 0 11 rfl rfl) rfl rfl hl.1 rfl (lv_room (Nat.le_of_ble_eq_true rfl)) dX11_happens_9 ⟨(Nat.le_of_ble_eq_true rfl), (Nat.le_of_ble_eq_true rfl)⟩) hS (fun q _ h => hFc q h) hFc (fun r_48 u t H locs ht hvm w_47 hB hz1 hk1 hS => ?_)
    obtain ⟨v_49, fa_50⟩ := u
    obtain ⟨hP1, hK1, hD1⟩ := hB
    rw [ht] at hP1
    have hP : va_P (dC, dI) vwCl (mW g0 pq cp v_49 fa_50) H := hP1
    have hD : va_D A (mW g0 pq cp v_49 fa_50) := hD1.weaken (fun _ _ _ h => hFc _ h)
    clear hP1 hK1 hD1 hk1 hz1 hvm ht hFc
    obtain ⟨rfl, hs1_51⟩ := w_47
    have hVv_49 : mV v_49 := sm0_V (sm1_0 hs1_51) gV
    have hAv_49 : mA fa_50 := sm0_A (sm1_0 hs1_51) gA
    have g_52 : (v_49 38).toInt = (v 38).toInt := congrArg Int32.toInt (congrFun hs1_51.1 38)
    have g_53 : (v_49 41).toInt = (v 41).toInt := congrArg Int32.toInt (congrFun hs1_51.1 41)
    have hRv_49 : mX [0, 10, 11, 12, 13, 14, 15, 41] v fa v_49 fa_50 := mX.st mX.rf (mX.s0 (sm1_0 hs1_51)) (by decide +kernel)
    exact W.iret (v := (-4)) hx hb hr (fun t ht hW => ⟨⟨(-4), (v_49, fa_50), rfl, ⟨hVv_49, hAv_49, hRv_49, ⟨by have rc : ((-4) : Int32).toInt = -4 := (by decide +kernel); (first | exact Or.inl ⟨by omega, by omega⟩ | (unfold aHp; omega)), (Or.inl ⟨by decide, hs1_51⟩)⟩⟩, ⟨by rw [ht]; exact hP, va_K.moved hW.alike hK, hD⟩⟩, hS.F ht⟩) hS.2.2 dX11_happens_12
set_option maxHeartbeats 4000000 in
set_option maxRecDepth 100000 in
theorem c_X11_voyage_f (l : Launch) (dC : Nat → ClassId) (dI : Nat → Nat → Nat) (sz : Nat) (g0 : Nat) (pq : Nat → Nat) (cp : Nat → ClassId) (v : Nat → Int32) (fa : Nat → Nat → Int32) (gV : mV v) (gA : mA fa) (x1 : Int32) (x2 : Int32) : Met l yX11_voyage wsX11_voyage ({ frames := 2, cells := 0, slots := 0, locals := 41 }) (va_Pc [.ref g0, .int x1, .int x2] (pcW (dC, dI) (mT cp) (mW g0 pq cp v fa) sz)) (va_Qi (fun (r : Int32) (u : (Nat → Int32) × (Nat → Nat → Int32)) => mV u.1 ∧ mA u.2 ∧ mX [0, 6, 7, 8, 9, 40] v fa u.1 u.2 ∧ (aVy x1.toInt x2.toInt (hvI v fa x1.toInt) (v 40).toInt r.toInt ∧ rOr v fa u r (vyN v fa x1 x2 u))) (fun u t => va_P (dC, dI) vwCl (mW g0 pq cp u.1 u.2) t.heap ∧ va_K (dC, dI) vwCl (mT cp) t ∧ va_D (va_A (mW g0 pq cp v fa) sz) (mW g0 pq cp u.1 u.2)) (va_A (mW g0 pq cp v fa) sz)) 0 0 (va_A (mW g0 pq cp v fa) sz) := by
  refine Met.ofW (cc := cX11_voyage) (maxL := 4) (ret := (some .int)) (by decide +kernel) rfl ?_
  intro p e s m args below meth c s₁ B hml hv
  obtain ⟨rfl, hsz, hP, hK, hD0⟩ := hv
  have hx := B.exec
  have hb := B.bytes
  have hr := B.returns
  have hts := atoms_spec (ws := wsX11_voyage) B.pre
  have hown : s.vm.findClass RX11 = some m.cls := findClass_of_methodNamed B.named
  have hlocks := B.notSynchronized
  subst hsz
  have hD := hD0.self (sz := s.heap.size)
  generalize hAe : va_A (mW g0 pq cp v fa) s.heap.size = A at hD ⊢
  have hA : ∀ q : Nat, s.heap.size ≤ q → A q := fun q h => by rw [← hAe]; exact Or.inr h
  have hS : va_S A s.heap s.heap [] := va_S.rf
  have hP : va_P (dC, dI) vwCl (mW g0 pq cp v fa) s.heap := hP
  have hl := lv_entry ([.ref g0, .int x1, .int x2]) (n := 4) (Nat.le_of_ble_eq_true rfl)
  rw [lg_entry_eq]
  generalize (lg_sl ([.ref g0, .int x1, .int x2]) ++ List.replicate (4 - (lg_sl ([.ref g0, .int x1, .int x2])).length) Slot.unset).toArray = ls at hl ⊢
  have hl : lv_has ls 4 [(0, .ref g0), (1, .int x1), (2, .int x2)] := hl
  have iv_1 : 0 ≤ (v 38).toInt ∧ (v 38).toInt ≤ 3000 := gV 38
  have iv_2 : 0 ≤ (v 40).toInt ∧ (v 40).toInt ≤ 20 := gV 40
  refine lv_iload_n hx hb dX11_voyage_0 rfl (lv_at hl 1 rfl) ?_
  refine lv_bipush (v := 10) hx hb dX11_voyage_1 (by decide +kernel) ?_
  have hFc : ∀ q, va_A [] s.heap.size q → A q := pu_free hS hA
  have hPc := hP.sub (ws' := []) [] rfl
  have hDc := hD.sub (ws' := []) [] (by decide +kernel) rfl
  have hKc := hK.sub (tys' := []) [] rfl
  refine va_calli (va_runS (As := [.int x1, .int 10]) (rest := []) ⟨hx, hb, hml, hown, hts⟩ (c_X11_isIn l dC dI s.heap.size x1 10) (va_cwS 2 hts gX11_voyage_X11_isIn rfl rfl rfl (by decide +kernel) ⟨(Nat.le_of_ble_eq_true rfl), (Nat.le_of_ble_eq_true rfl)⟩) (pr_S hPc hKc hDc) rfl rfl hl.1 rfl (lv_room (Nat.le_of_ble_eq_true rfl)) dX11_voyage_3 ⟨(Nat.le_of_ble_eq_true rfl), (Nat.le_of_ble_eq_true rfl)⟩) hS (fun q _ h => hFc q h) hFc (fun r_4 u t H locs ht hvm w_3 hB hz1 hk1 hS => ?_)
  have hP := pu_keep hP hk1
  clear hk1 hz1 hvm hB ht hFc hPc hDc hKc
  have hbr_4 : 0 ≤ r_4.toInt ∧ r_4.toInt ≤ 1 := iv_of w_3 (isI_i _ _)
  refine lv_if_eq (tgt := 16) hx hb dX11_voyage_6 (by decide +kernel) (fun c_5 => ?_) (fun c_5 => ?_)
  · have dc_5 := c_eq (a := r_4.toInt) (b := 0) rfl (by decide +kernel) c_5
    have hz_6 := isI_0 (w_3.symm.trans c_5)
    have kc_7 : (10 : Int32).toInt = 10 := by decide
    refine lv_aload_n hx hb dX11_voyage_16 rfl (lv_at hl 0 rfl) ?_
    refine lv_iconst (v := (-1)) hx hb dX11_voyage_17 (by decide +kernel) ?_
    have hFc := va_free (wc := (mW g0 pq cp v fa)) hD hS hA (List.range 48) rfl
    refine va_calli (va_runV (As := [.int (-1)]) (rest := []) ⟨hx, hb, hml, hown, hts⟩ (c_X11_refuse_f l dC dI H.size g0 pq cp v fa (-1) (by unfold vp_in; decide)) (cwV 1 hts gX11_voyage_X11_refuse rfl rfl rfl (by decide +kernel) ⟨(Nat.le_of_ble_eq_true rfl), (Nat.le_of_ble_eq_true rfl)⟩) (pr_V (r := (RX11, TX11, 63)) hP hK hD 0 11 rfl rfl) rfl rfl hl.1 rfl (lv_room (Nat.le_of_ble_eq_true rfl)) dX11_voyage_18 ⟨(Nat.le_of_ble_eq_true rfl), (Nat.le_of_ble_eq_true rfl)⟩) hS (fun q _ h => hFc q h) hFc (fun r_9 u t H locs ht hvm w_8 hB hz1 hk1 hS => ?_)
    obtain ⟨v_10, fa_11⟩ := u
    obtain ⟨hP1, hK1, hD1⟩ := hB
    rw [ht] at hP1
    have hP : va_P (dC, dI) vwCl (mW g0 pq cp v_10 fa_11) H := hP1
    have hD : va_D A (mW g0 pq cp v_10 fa_11) := hD1.weaken (fun _ _ _ h => hFc _ h)
    clear hP1 hK1 hD1 hk1 hz1 hvm ht hFc
    obtain ⟨rfl, hs1_12⟩ := w_8
    have hVv_10 : mV v_10 := sm0_V (sm1_0 hs1_12) gV
    have hAv_10 : mA fa_11 := sm0_A (sm1_0 hs1_12) gA
    have g_13 : (v_10 38).toInt = (v 38).toInt := congrArg Int32.toInt (congrFun hs1_12.1 38)
    have g_14 : (v_10 40).toInt = (v 40).toInt := congrArg Int32.toInt (congrFun hs1_12.1 40)
    have hRv_10 : mX [0, 6, 7, 8, 9, 40] v fa v_10 fa_11 := mX.st mX.rf (mX.s0 (sm1_0 hs1_12)) (by decide +kernel)
    exact W.iret (v := (-1)) hx hb hr (fun t ht hW => ⟨⟨(-1), (v_10, fa_11), rfl, ⟨hVv_10, hAv_10, hRv_10, ⟨by have rc : ((-1) : Int32).toInt = -1 := (by decide +kernel); (first | exact Or.inl ⟨by omega, by omega⟩ | (unfold aVy; omega)), (Or.inl ⟨by decide, hs1_12⟩)⟩⟩, ⟨by rw [ht]; exact hP, va_K.moved hW.alike hK, hD⟩⟩, hS.F ht⟩) hS.2.2 dX11_voyage_21
  · have dc_5 := c_ne (a := r_4.toInt) (b := 0) rfl (by decide +kernel) c_5
    have hi_15 := isI_t w_3 (fun q => c_5 (Int32.toInt_inj.mp q))
    have khi_15 : (10 : Int32).toInt = 10 := by decide
    refine lv_iload_n hx hb dX11_voyage_9 rfl (lv_at hl 2 rfl) ?_
    have hFc : ∀ q, va_A [] H.size q → A q := pu_free hS hA
    have hPc := hP.sub (ws' := []) [] rfl
    have hDc := hD.sub (ws' := []) [] (by decide +kernel) rfl
    have hKc := hK.sub (tys' := []) [] rfl
    refine va_calli (va_runS (As := [.int x2]) (rest := []) ⟨hx, hb, hml, hown, hts⟩ (c_X11_isPort l dC dI H.size x2) (va_cwS 1 hts gX11_voyage_X11_isPort rfl rfl rfl (by decide +kernel) ⟨(Nat.le_of_ble_eq_true rfl), (Nat.le_of_ble_eq_true rfl)⟩) (pr_S hPc hKc hDc) rfl rfl hl.1 rfl (lv_room (Nat.le_of_ble_eq_true rfl)) dX11_voyage_10 ⟨(Nat.le_of_ble_eq_true rfl), (Nat.le_of_ble_eq_true rfl)⟩) hS (fun q _ h => hFc q h) hFc (fun r_17 u t H locs ht hvm w_16 hB hz1 hk1 hS => ?_)
    have hP := pu_keep hP hk1
    clear hk1 hz1 hvm hB ht hFc hPc hDc hKc
    have hbr_17 : 0 ≤ r_17.toInt ∧ r_17.toInt ≤ 1 := iv_of w_16 (isI_i _ _)
    refine lv_if_ne (tgt := 22) hx hb dX11_voyage_13 (by decide +kernel) (fun c_18 => ?_) (fun c_18 => ?_)
    · have dc_18 := c_ne (a := r_17.toInt) (b := 0) rfl (by decide +kernel) c_18
      have hi_19 := isI_t w_16 (fun q => c_18 (Int32.toInt_inj.mp q))
      have khi_19 : (10 : Int32).toInt = 10 := by decide
      refine lv_iconst (v := 0) hx hb dX11_voyage_22 (by decide +kernel) ?_
      refine lv_istore_n (lv' := [(3, .int 0), (0, .ref g0), (1, .int x1), (2, .int x2)]) hx hb dX11_voyage_23 rfl hl (by decide +kernel) rfl (fun ls hl => ?_)
      have cut_20 : ∀ (n : Nat) (y_21 : Int32) (z_22 : Nat → Int32) (fz_23 : Nat → Nat → Int32) (H : Heap) (locs : List Loc) (ls : Array Slot), 20 - y_21.toInt ≤ (n : Int) → (0 ≤ y_21.toInt ∧ y_21.toInt ≤ 20) → (v = z_22 ∧ fa = fz_23) → (∀ j, j < y_21.toNatClampNeg → ¬ ((fa 6 j).toInt = x1.toInt ∧ (fa 9 j).toInt < 0)) → mV z_22 → mA fz_23 → mX [0, 6, 7, 8, 9, 40] v fa z_22 fz_23 → va_P (dC, dI) vwCl (mW g0 pq cp z_22 fz_23) H → va_D A (mW g0 pq cp z_22 fz_23) → va_S A s.heap H locs → (z_22 38).toInt = (v 38).toInt → (z_22 40).toInt = (v 40).toInt → lv_has ls 4 [(3, .int y_21), (0, .ref g0), (1, .int x1), (2, .int x2)] → W p l e (headSpec wsX11_voyage { frames := 2, cells := 0, slots := 0, locals := 41 }).room s m #[Value.ref g0, Value.int x1, Value.int x2] below meth c H locs 0 0 (MQ below (va_Qi (fun (r : Int32) (u : (Nat → Int32) × (Nat → Nat → Int32)) => mV u.1 ∧ mA u.2 ∧ mX [0, 6, 7, 8, 9, 40] v fa u.1 u.2 ∧ (aVy x1.toInt x2.toInt (hvI v fa x1.toInt) (v 40).toInt r.toInt ∧ rOr v fa u r (vyN v fa x1 x2 u))) (fun u t => va_P (dC, dI) vwCl (mW g0 pq cp u.1 u.2) t.heap ∧ va_K (dC, dI) vwCl (mT cp) t ∧ va_D A (mW g0 pq cp u.1 u.2)) A) #[Value.ref g0, Value.int x1, Value.int x2] s 0 0 A) (F0 m 24 ls []) := by
        intro n
        induction n using Nat.strongRecOn with
        | ind n ih =>
          intro y_21 z_22 fz_23 H locs ls hm hy_21 hq0_cut_20 hq1_cut_20 hVz_22 hAz_22 hRz_22 hP hD hS g_24 g_25 hl
          obtain ⟨rfl, rfl⟩ := hq0_cut_20
          refine lv_iload_n hx hb dX11_voyage_24 rfl (lv_at hl 0 rfl) ?_
          refine lv_aload_n hx hb dX11_voyage_25 rfl (lv_at hl 1 rfl) ?_
          refine va_get (D := (dC, dI)) (ci := 11) (v := .int (v 40)) (C := RX11) (T := TX11) (N := 63) hx hb hts in_wsX11_voyage_X11 hown hK hP 0 rfl rfl 40 (by decide +kernel) (hts (.fieldLink RX11 165 "ShipOfficeModel" "voyages" "I") iw_X11_voyage_1) (fun _ h9 => h9) rfl dX11_voyage_26 ?_
          refine lv_topi (fun x_26 ex_26 => ?_)
          have hx_26 : 0 ≤ x_26.toInt ∧ x_26.toInt ≤ 20 := iv_of ex_26 (hVz_22 40)
          have gx_26 : x_26.toInt = (v 40).toInt := iv_to ex_26
          clear ex_26
          refine lv_icmp_ge (tgt := 64) hx hb dX11_voyage_29 (by decide +kernel) (fun c_27 => ?_) (fun c_27 => ?_)
          · have dc_27 := c_le (a := x_26.toInt) (b := y_21.toInt) rfl rfl c_27
            refine lv_aload_n hx hb dX11_voyage_64 rfl (lv_at hl 1 rfl) ?_
            refine va_get (D := (dC, dI)) (ci := 11) (v := .int (v 40)) (C := RX11) (T := TX11) (N := 63) hx hb hts in_wsX11_voyage_X11 hown hK hP 0 rfl rfl 40 (by decide +kernel) (hts (.fieldLink RX11 165 "ShipOfficeModel" "voyages" "I") iw_X11_voyage_1) (fun _ h9 => h9) rfl dX11_voyage_65 ?_
            refine lv_topi (fun x_28 ex_28 => ?_)
            have hx_28 : 0 ≤ x_28.toInt ∧ x_28.toInt ≤ 20 := iv_of ex_28 (hVz_22 40)
            have gx_28 : x_28.toInt = (v 40).toInt := iv_to ex_28
            clear ex_28
            refine lv_bipush (v := 20) hx hb dX11_voyage_68 (by decide +kernel) ?_
            refine lv_icmp_ne (tgt := 80) hx hb dX11_voyage_70 (by decide +kernel) (fun c_29 => ?_) (fun c_29 => ?_)
            · have dc_29 := c_ne (a := x_28.toInt) (b := 20) rfl (by decide +kernel) c_29
              refine lv_aload_n hx hb dX11_voyage_80 rfl (lv_at hl 1 rfl) ?_
              refine va_get (D := (dC, dI)) (ci := 11) (v := .ref (pq 6)) (C := RX11) (T := TX11) (N := 63) hx hb hts in_wsX11_voyage_X11 hown hK hP 0 rfl rfl 6 (by decide +kernel) (hts (.fieldLink RX11 28 "ShipOfficeModel" "ship" "[I") iw_X11_voyage_2) (fun _ h9 => h9) rfl dX11_voyage_81 ?_
              refine lv_aload_n hx hb dX11_voyage_84 rfl (lv_at hl 1 rfl) ?_
              refine va_get (D := (dC, dI)) (ci := 11) (v := .int (v 40)) (C := RX11) (T := TX11) (N := 63) hx hb hts in_wsX11_voyage_X11 hown hK hP 0 rfl rfl 40 (by decide +kernel) (hts (.fieldLink RX11 165 "ShipOfficeModel" "voyages" "I") iw_X11_voyage_1) (fun _ h9 => h9) rfl dX11_voyage_85 ?_
              refine lv_topi (fun x_30 ex_30 => ?_)
              have hx_30 : 0 ≤ x_30.toInt ∧ x_30.toInt ≤ 20 := iv_of ex_30 (hVz_22 40)
              have gx_30 : x_30.toInt = (v 40).toInt := iv_to ex_30
              clear ex_30
              refine lv_iload_n hx hb dX11_voyage_88 rfl (lv_at hl 2 rfl) ?_
              refine va_iast hx hb hK hP hD hS 7 6 rfl rfl (vp_in_iff.mpr (by omega)) dX11_voyage_89 (fun H locs hP hD hS => ?_)
              have hP : va_P (dC, dI) vwCl (mW g0 pq cp v (upF fa 6 (x_30 : Int32).toNatClampNeg x1)) H := hP
              have hD : va_D A (mW g0 pq cp v (upF fa 6 (x_30 : Int32).toNatClampNeg x1)) := hD
              obtain ⟨fz_31, efz_31⟩ : ∃ zq, zq = (upF fa 6 (x_30 : Int32).toNatClampNeg x1) := ⟨_, rfl⟩
              rw [← efz_31] at hP hD
              have hAfz_31 : mA fz_31 := by rw [efz_31]; exact mA_upF (lo := -2147483648) (hi := 2147483647) hAz_22 rfl rfl (iv_all _)
              have hRfz_31 : mX [0, 6, 7, 8, 9, 40] v fa v fz_31 := by rw [efz_31]; exact mX.uF hRz_22 (by decide +kernel)
              have q0_32 : fz_31 0 = fa 0 := by rw [efz_31]; exact (if_neg (by decide +kernel)).trans rfl
              refine lv_aload_n hx hb dX11_voyage_90 rfl (lv_at hl 1 rfl) ?_
              refine va_get (D := (dC, dI)) (ci := 11) (v := .ref (pq 7)) (C := RX11) (T := TX11) (N := 63) hx hb hts in_wsX11_voyage_X11 hown hK hP 0 rfl rfl 7 (by decide +kernel) (hts (.fieldLink RX11 31 "ShipOfficeModel" "opened" "[I") iw_X11_voyage_3) (fun _ h9 => h9) rfl dX11_voyage_91 ?_
              refine lv_aload_n hx hb dX11_voyage_94 rfl (lv_at hl 1 rfl) ?_
              refine va_get (D := (dC, dI)) (ci := 11) (v := .int (v 40)) (C := RX11) (T := TX11) (N := 63) hx hb hts in_wsX11_voyage_X11 hown hK hP 0 rfl rfl 40 (by decide +kernel) (hts (.fieldLink RX11 165 "ShipOfficeModel" "voyages" "I") iw_X11_voyage_1) (fun _ h9 => h9) rfl dX11_voyage_95 ?_
              refine lv_topi (fun x_33 ex_33 => ?_)
              have hx_33 : 0 ≤ x_33.toInt ∧ x_33.toInt ≤ 20 := iv_of ex_33 (hVz_22 40)
              have gx_33 : x_33.toInt = (v 40).toInt := iv_to ex_33
              clear ex_33
              refine lv_aload_n hx hb dX11_voyage_98 rfl (lv_at hl 1 rfl) ?_
              refine va_get (D := (dC, dI)) (ci := 11) (v := .int (v 38)) (C := RX11) (T := TX11) (N := 63) hx hb hts in_wsX11_voyage_X11 hown hK hP 0 rfl rfl 38 (by decide +kernel) (hts (.fieldLink RX11 171 "ShipOfficeModel" "now" "I") iw_X11_voyage_4) (fun _ h9 => h9) rfl dX11_voyage_99 ?_
              refine lv_topi (fun x_34 ex_34 => ?_)
              have hx_34 : 0 ≤ x_34.toInt ∧ x_34.toInt ≤ 3000 := iv_of ex_34 (hVz_22 38)
              have gx_34 : x_34.toInt = (v 38).toInt := iv_to ex_34
              clear ex_34
              refine va_iast hx hb hK hP hD hS 8 7 rfl rfl (vp_in_iff.mpr (by omega)) dX11_voyage_102 (fun H locs hP hD hS => ?_)
              have hP : va_P (dC, dI) vwCl (mW g0 pq cp v (upF fz_31 7 (x_33 : Int32).toNatClampNeg x_34)) H := hP
              have hD : va_D A (mW g0 pq cp v (upF fz_31 7 (x_33 : Int32).toNatClampNeg x_34)) := hD
              obtain ⟨fz_35, efz_35⟩ : ∃ zq, zq = (upF fz_31 7 (x_33 : Int32).toNatClampNeg x_34) := ⟨_, rfl⟩
              rw [← efz_35] at hP hD
              have hAfz_35 : mA fz_35 := by rw [efz_35]; exact mA_upF (lo := 0) (hi := 3000) hAfz_31 rfl rfl (by omega)
              have hRfz_35 : mX [0, 6, 7, 8, 9, 40] v fa v fz_35 := by rw [efz_35]; exact mX.uF hRfz_31 (by decide +kernel)
              have q0_36 : fz_35 0 = fa 0 := by rw [efz_35]; exact (if_neg (by decide +kernel)).trans q0_32
              refine lv_aload_n hx hb dX11_voyage_103 rfl (lv_at hl 1 rfl) ?_
              refine va_get (D := (dC, dI)) (ci := 11) (v := .ref (pq 8)) (C := RX11) (T := TX11) (N := 63) hx hb hts in_wsX11_voyage_X11 hown hK hP 0 rfl rfl 8 (by decide +kernel) (hts (.fieldLink RX11 34 "ShipOfficeModel" "openPort" "[I") iw_X11_voyage_5) (fun _ h9 => h9) rfl dX11_voyage_104 ?_
              refine lv_aload_n hx hb dX11_voyage_107 rfl (lv_at hl 1 rfl) ?_
              refine va_get (D := (dC, dI)) (ci := 11) (v := .int (v 40)) (C := RX11) (T := TX11) (N := 63) hx hb hts in_wsX11_voyage_X11 hown hK hP 0 rfl rfl 40 (by decide +kernel) (hts (.fieldLink RX11 165 "ShipOfficeModel" "voyages" "I") iw_X11_voyage_1) (fun _ h9 => h9) rfl dX11_voyage_108 ?_
              refine lv_topi (fun x_37 ex_37 => ?_)
              have hx_37 : 0 ≤ x_37.toInt ∧ x_37.toInt ≤ 20 := iv_of ex_37 (hVz_22 40)
              have gx_37 : x_37.toInt = (v 40).toInt := iv_to ex_37
              clear ex_37
              refine lv_iload_n hx hb dX11_voyage_111 rfl (lv_at hl 3 rfl) ?_
              refine va_iast hx hb hK hP hD hS 9 8 rfl rfl (vp_in_iff.mpr (by omega)) dX11_voyage_112 (fun H locs hP hD hS => ?_)
              have hP : va_P (dC, dI) vwCl (mW g0 pq cp v (upF fz_35 8 (x_37 : Int32).toNatClampNeg x2)) H := hP
              have hD : va_D A (mW g0 pq cp v (upF fz_35 8 (x_37 : Int32).toNatClampNeg x2)) := hD
              obtain ⟨fz_38, efz_38⟩ : ∃ zq, zq = (upF fz_35 8 (x_37 : Int32).toNatClampNeg x2) := ⟨_, rfl⟩
              rw [← efz_38] at hP hD
              have hAfz_38 : mA fz_38 := by rw [efz_38]; exact mA_upF (lo := 0) (hi := 9) hAfz_35 rfl rfl (by omega)
              have hRfz_38 : mX [0, 6, 7, 8, 9, 40] v fa v fz_38 := by rw [efz_38]; exact mX.uF hRfz_35 (by decide +kernel)
              have q0_39 : fz_38 0 = fa 0 := by rw [efz_38]; exact (if_neg (by decide +kernel)).trans q0_36
              refine lv_aload_n hx hb dX11_voyage_113 rfl (lv_at hl 1 rfl) ?_
              refine va_get (D := (dC, dI)) (ci := 11) (v := .ref (pq 9)) (C := RX11) (T := TX11) (N := 63) hx hb hts in_wsX11_voyage_X11 hown hK hP 0 rfl rfl 9 (by decide +kernel) (hts (.fieldLink RX11 37 "ShipOfficeModel" "endedOn" "[I") iw_X11_voyage_6) (fun _ h9 => h9) rfl dX11_voyage_114 ?_
              refine lv_aload_n hx hb dX11_voyage_117 rfl (lv_at hl 1 rfl) ?_
              refine va_get (D := (dC, dI)) (ci := 11) (v := .int (v 40)) (C := RX11) (T := TX11) (N := 63) hx hb hts in_wsX11_voyage_X11 hown hK hP 0 rfl rfl 40 (by decide +kernel) (hts (.fieldLink RX11 165 "ShipOfficeModel" "voyages" "I") iw_X11_voyage_1) (fun _ h9 => h9) rfl dX11_voyage_118 ?_
              refine lv_topi (fun x_40 ex_40 => ?_)
              have hx_40 : 0 ≤ x_40.toInt ∧ x_40.toInt ≤ 20 := iv_of ex_40 (hVz_22 40)
              have gx_40 : x_40.toInt = (v 40).toInt := iv_to ex_40
              clear ex_40
              refine lv_iconst (v := (-1)) hx hb dX11_voyage_121 (by decide +kernel) ?_
              refine va_iast hx hb hK hP hD hS 10 9 rfl rfl (vp_in_iff.mpr (by omega)) dX11_voyage_122 (fun H locs hP hD hS => ?_)
              have hP : va_P (dC, dI) vwCl (mW g0 pq cp v (upF fz_38 9 (x_40 : Int32).toNatClampNeg (-1))) H := hP
              have hD : va_D A (mW g0 pq cp v (upF fz_38 9 (x_40 : Int32).toNatClampNeg (-1))) := hD
              obtain ⟨fz_41, efz_41⟩ : ∃ zq, zq = (upF fz_38 9 (x_40 : Int32).toNatClampNeg (-1)) := ⟨_, rfl⟩
              rw [← efz_41] at hP hD
              have hAfz_41 : mA fz_41 := by rw [efz_41]; exact mA_upF (lo := -2147483648) (hi := 2147483647) hAfz_38 rfl rfl (iv_all _)
              have hRfz_41 : mX [0, 6, 7, 8, 9, 40] v fa v fz_41 := by rw [efz_41]; exact mX.uF hRfz_38 (by decide +kernel)
              have q0_42 : fz_41 0 = fa 0 := by rw [efz_41]; exact (if_neg (by decide +kernel)).trans q0_39
              refine lv_aload_n hx hb dX11_voyage_123 rfl (lv_at hl 1 rfl) ?_
              refine lv_dup hx hb dX11_voyage_124 rfl ?_
              refine va_get (D := (dC, dI)) (ci := 11) (v := .int (v 40)) (C := RX11) (T := TX11) (N := 63) hx hb hts in_wsX11_voyage_X11 hown hK hP 0 rfl rfl 40 (by decide +kernel) (hts (.fieldLink RX11 165 "ShipOfficeModel" "voyages" "I") iw_X11_voyage_1) (fun _ h9 => h9) rfl dX11_voyage_125 ?_
              refine lv_topi (fun x_43 ex_43 => ?_)
              have hx_43 : 0 ≤ x_43.toInt ∧ x_43.toInt ≤ 20 := iv_of ex_43 (hVz_22 40)
              have gx_43 : x_43.toInt = (v 40).toInt := iv_to ex_43
              clear ex_43
              refine lv_iconst (v := 1) hx hb dX11_voyage_128 (by decide +kernel) ?_
              refine lv_iadd hx hb dX11_voyage_129 ?_
              refine lv_topi (fun x_44 ex_44 => ?_)
              have hx_44 : x_44.toInt = x_43.toInt + 1 := (iv_to ex_44).trans (ad_i rfl (by decide +kernel) (by omega) (by omega))
              refine va_put (D := (dC, dI)) (ci := 11) (v := .int x_44) (ty := .int) (C := RX11) (T := TX11) (N := 63) hx hb hts in_wsX11_voyage_X11 tyX11 tyX11_ok nmX11 hown hK hP hD hS 0 rfl rfl 40 (by decide +kernel) (hts (.fieldLink RX11 165 "ShipOfficeModel" "voyages" "I") iw_X11_voyage_1) (fun _ h9 => h9) rfl (by decide +kernel) rfl rfl (Nat.le_of_ble_eq_true rfl) dX11_voyage_130 (fun H locs hP hD hS => ?_)
              have hP : va_P (dC, dI) vwCl (mW g0 pq cp (upd v 40 x_44) fz_41) H := hP
              have hD : va_D A (mW g0 pq cp (upd v 40 x_44) fz_41) := hD
              obtain ⟨z_45, ez_45⟩ : ∃ zq, zq = (upd v 40 x_44) := ⟨_, rfl⟩
              rw [← ez_45] at hP hD
              have hVz_45 : mV z_45 := by rw [ez_45]; exact mV_upd (lo := 0) (hi := 20) hVz_22 rfl rfl (by omega)
              have hRz_45 : mX [0, 6, 7, 8, 9, 40] v fa z_45 fz_41 := by rw [ez_45]; exact mX.up hRfz_41 (by decide +kernel)
              have g_46 : (z_45 38).toInt = (v 38).toInt := by rw [ez_45]; exact congrArg Int32.toInt (if_neg (by decide +kernel))
              have g_47 : (z_45 40).toInt = x_44.toInt := by rw [ez_45, show upd v 40 x_44 40 = x_44 from if_pos rfl]
              refine lv_aload_n hx hb dX11_voyage_133 rfl (lv_at hl 1 rfl) ?_
              refine va_get (D := (dC, dI)) (ci := 11) (v := .int (z_45 40)) (C := RX11) (T := TX11) (N := 63) hx hb hts in_wsX11_voyage_X11 hown hK hP 0 rfl rfl 40 (by decide +kernel) (hts (.fieldLink RX11 165 "ShipOfficeModel" "voyages" "I") iw_X11_voyage_1) (fun _ h9 => h9) rfl dX11_voyage_134 ?_
              refine lv_topi (fun x_48 ex_48 => ?_)
              have hx_48 : 0 ≤ x_48.toInt ∧ x_48.toInt ≤ 20 := iv_of ex_48 (hVz_45 40)
              have gx_48 : x_48.toInt = (z_45 40).toInt := iv_to ex_48
              clear ex_48
              refine lv_iconst (v := 1) hx hb dX11_voyage_137 (by decide +kernel) ?_
              refine lv_isub hx hb dX11_voyage_138 ?_
              refine lv_topi (fun x_49 ex_49 => ?_)
              have hx_49 : x_49.toInt = x_48.toInt - 1 := (iv_to ex_49).trans (sb_i rfl (by decide +kernel) (by omega) (by omega))
              exact W.iret (v := x_49) hx hb hr (fun t ht hW => ⟨⟨x_49, (z_45, fz_41), rfl, ⟨hVz_45, hAfz_41, hRz_45, ⟨by have hh : hvI v fa x1.toInt = 0 := b01_f (fun ⟨j, hj, hp⟩ => al_e hq1_cut_20 (by omega) j hj hp); (first | exact Or.inr (Or.inr (Or.inr (⟨by omega, by omega, by omega, by omega⟩))) | (unfold aVy; omega)), Or.inr ⟨by omega, (by dsimp only; exact q0_42), by dsimp only; omega, (by dsimp only; rw [efz_41, efz_38, efz_35, efz_31, show x_30 = v 40 from Int32.toInt_inj.mp (by omega)]; rfl), (by dsimp only; rw [efz_41, efz_38, efz_35, efz_31, show x_33 = v 40 from Int32.toInt_inj.mp (by omega), show x_34 = v 38 from Int32.toInt_inj.mp (by omega)]; rfl), (by dsimp only; rw [efz_41, efz_38, efz_35, efz_31, show x_37 = v 40 from Int32.toInt_inj.mp (by omega)]; rfl), (by dsimp only; rw [efz_41, efz_38, efz_35, efz_31, show x_40 = v 40 from Int32.toInt_inj.mp (by omega)]; rfl)⟩⟩⟩, ⟨by rw [ht]; exact hP, va_K.moved hW.alike hK, hD⟩⟩, hS.F ht⟩) hS.2.2 dX11_voyage_139
            · have dc_29 := c_eq (a := x_28.toInt) (b := 20) rfl (by decide +kernel) c_29
              refine lv_aload_n hx hb dX11_voyage_73 rfl (lv_at hl 1 rfl) ?_
              refine lv_bipush (v := (-6)) hx hb dX11_voyage_74 (by decide +kernel) ?_
              have hFc := va_free (wc := (mW g0 pq cp v fa)) hD hS hA (List.range 48) rfl
              refine va_calli (va_runV (As := [.int (-6)]) (rest := []) ⟨hx, hb, hml, hown, hts⟩ (c_X11_refuse_f l dC dI H.size g0 pq cp v fa (-6) (by unfold vp_in; decide)) (cwV 1 hts gX11_voyage_X11_refuse rfl rfl rfl (by decide +kernel) ⟨(Nat.le_of_ble_eq_true rfl), (Nat.le_of_ble_eq_true rfl)⟩) (pr_V (r := (RX11, TX11, 63)) hP hK hD 0 11 rfl rfl) rfl rfl hl.1 rfl (lv_room (Nat.le_of_ble_eq_true rfl)) dX11_voyage_76 ⟨(Nat.le_of_ble_eq_true rfl), (Nat.le_of_ble_eq_true rfl)⟩) hS (fun q _ h => hFc q h) hFc (fun r_51 u t H locs ht hvm w_50 hB hz1 hk1 hS => ?_)
              obtain ⟨v_52, fa_53⟩ := u
              obtain ⟨hP1, hK1, hD1⟩ := hB
              rw [ht] at hP1
              have hP : va_P (dC, dI) vwCl (mW g0 pq cp v_52 fa_53) H := hP1
              have hD : va_D A (mW g0 pq cp v_52 fa_53) := hD1.weaken (fun _ _ _ h => hFc _ h)
              clear hP1 hK1 hD1 hk1 hz1 hvm ht hFc
              obtain ⟨rfl, hs1_54⟩ := w_50
              have hVv_52 : mV v_52 := sm0_V (sm1_0 hs1_54) hVz_22
              have hAv_52 : mA fa_53 := sm0_A (sm1_0 hs1_54) hAz_22
              have g_55 : (v_52 38).toInt = (v 38).toInt := congrArg Int32.toInt (congrFun hs1_54.1 38)
              have g_56 : (v_52 40).toInt = (v 40).toInt := congrArg Int32.toInt (congrFun hs1_54.1 40)
              have hRv_52 : mX [0, 6, 7, 8, 9, 40] v fa v_52 fa_53 := mX.st hRz_22 (mX.s0 (sm1_0 hs1_54)) (by decide +kernel)
              exact W.iret (v := (-6)) hx hb hr (fun t ht hW => ⟨⟨(-6), (v_52, fa_53), rfl, ⟨hVv_52, hAv_52, hRv_52, ⟨by have rc : ((-6) : Int32).toInt = -6 := (by decide +kernel); have hh : hvI v fa x1.toInt = 0 := b01_f (fun ⟨j, hj, hp⟩ => al_e hq1_cut_20 (by omega) j hj hp); (first | exact Or.inr (Or.inr (Or.inl ⟨by omega, by omega, by omega, by omega⟩)) | (unfold aVy; omega)), (Or.inl ⟨by decide, hs1_54⟩)⟩⟩, ⟨by rw [ht]; exact hP, va_K.moved hW.alike hK, hD⟩⟩, hS.F ht⟩) hS.2.2 dX11_voyage_79
          · have dc_27 := c_nle (a := x_26.toInt) (b := y_21.toInt) rfl rfl c_27
            refine lv_aload_n hx hb dX11_voyage_32 rfl (lv_at hl 1 rfl) ?_
            refine va_get (D := (dC, dI)) (ci := 11) (v := .ref (pq 6)) (C := RX11) (T := TX11) (N := 63) hx hb hts in_wsX11_voyage_X11 hown hK hP 0 rfl rfl 6 (by decide +kernel) (hts (.fieldLink RX11 28 "ShipOfficeModel" "ship" "[I") iw_X11_voyage_2) (fun _ h9 => h9) rfl dX11_voyage_33 ?_
            refine lv_iload_n hx hb dX11_voyage_36 rfl (lv_at hl 0 rfl) ?_
            refine va_iald hx hb hK hP 7 6 rfl rfl (vp_in_iff.mpr (by omega)) dX11_voyage_37 ?_
            refine lv_topi (fun x_57 ex_57 => ?_)
            have gx_57 : x_57.toInt = (fa 6 (y_21 : Int32).toNatClampNeg).toInt := iv_to ex_57
            clear ex_57
            refine lv_iload_n hx hb dX11_voyage_38 rfl (lv_at hl 2 rfl) ?_
            refine lv_icmp_ne (tgt := 58) hx hb dX11_voyage_39 (by decide +kernel) (fun c_58 => ?_) (fun c_58 => ?_)
            · have dc_58 := c_ne (a := x_57.toInt) (b := x1.toInt) rfl rfl c_58
              obtain ⟨x_59, ex_59⟩ : ∃ zq : Int32, y_21 + 1 = zq := ⟨_, rfl⟩
              have hx_59 : x_59.toInt = y_21.toInt + 1 := (iv_to ex_59).symm.trans (ad_i rfl (by decide +kernel) (by omega) (by omega))
              refine lv_iinc (v := x_59) (lv' := [(3, .int x_59), (0, .ref g0), (1, .int x1), (2, .int x2)]) hx hb dX11_voyage_58 hl (k := 0) rfl ex_59 (by decide +kernel) rfl (fun ls hl => ?_)
              clear ex_59
              refine lv_goto (tgt := 24) hx hb dX11_voyage_61 (by decide +kernel) ?_
              exact ih (n - 1) (by omega) x_59 v fa _ _ ls (by omega) (by omega) ⟨rfl, rfl⟩ (al_s hq1_cut_20 (fun q => by omega) (by omega) (by omega)) hVz_22 hAz_22 hRz_22 hP hD hS (by omega) (by omega) (lv_sub hl [0, 1, 2, 3] rfl)
            · have dc_58 := c_eq (a := x_57.toInt) (b := x1.toInt) rfl rfl c_58
              refine lv_aload_n hx hb dX11_voyage_42 rfl (lv_at hl 1 rfl) ?_
              refine va_get (D := (dC, dI)) (ci := 11) (v := .ref (pq 9)) (C := RX11) (T := TX11) (N := 63) hx hb hts in_wsX11_voyage_X11 hown hK hP 0 rfl rfl 9 (by decide +kernel) (hts (.fieldLink RX11 37 "ShipOfficeModel" "endedOn" "[I") iw_X11_voyage_6) (fun _ h9 => h9) rfl dX11_voyage_43 ?_
              refine lv_iload_n hx hb dX11_voyage_46 rfl (lv_at hl 0 rfl) ?_
              refine va_iald hx hb hK hP 10 9 rfl rfl (vp_in_iff.mpr (by omega)) dX11_voyage_47 ?_
              refine lv_topi (fun x_60 ex_60 => ?_)
              have gx_60 : x_60.toInt = (fa 9 (y_21 : Int32).toNatClampNeg).toInt := iv_to ex_60
              clear ex_60
              refine lv_if_ge (tgt := 58) hx hb dX11_voyage_48 (by decide +kernel) (fun c_61 => ?_) (fun c_61 => ?_)
              · have dc_61 := c_le (a := 0) (b := x_60.toInt) (by decide +kernel) rfl c_61
                obtain ⟨x_62, ex_62⟩ : ∃ zq : Int32, y_21 + 1 = zq := ⟨_, rfl⟩
                have hx_62 : x_62.toInt = y_21.toInt + 1 := (iv_to ex_62).symm.trans (ad_i rfl (by decide +kernel) (by omega) (by omega))
                refine lv_iinc (v := x_62) (lv' := [(3, .int x_62), (0, .ref g0), (1, .int x1), (2, .int x2)]) hx hb dX11_voyage_58 hl (k := 0) rfl ex_62 (by decide +kernel) rfl (fun ls hl => ?_)
                clear ex_62
                refine lv_goto (tgt := 24) hx hb dX11_voyage_61 (by decide +kernel) ?_
                exact ih (n - 1) (by omega) x_62 v fa _ _ ls (by omega) (by omega) ⟨rfl, rfl⟩ (al_s hq1_cut_20 (fun q => by omega) (by omega) (by omega)) hVz_22 hAz_22 hRz_22 hP hD hS (by omega) (by omega) (lv_sub hl [0, 1, 2, 3] rfl)
              · have dc_61 := c_nle (a := 0) (b := x_60.toInt) (by decide +kernel) rfl c_61
                refine lv_aload_n hx hb dX11_voyage_51 rfl (lv_at hl 1 rfl) ?_
                refine lv_bipush (v := (-3)) hx hb dX11_voyage_52 (by decide +kernel) ?_
                have hFc := va_free (wc := (mW g0 pq cp v fa)) hD hS hA (List.range 48) rfl
                refine va_calli (va_runV (As := [.int (-3)]) (rest := []) ⟨hx, hb, hml, hown, hts⟩ (c_X11_refuse_f l dC dI H.size g0 pq cp v fa (-3) (by unfold vp_in; decide)) (cwV 1 hts gX11_voyage_X11_refuse rfl rfl rfl (by decide +kernel) ⟨(Nat.le_of_ble_eq_true rfl), (Nat.le_of_ble_eq_true rfl)⟩) (pr_V (r := (RX11, TX11, 63)) hP hK hD 0 11 rfl rfl) rfl rfl hl.1 rfl (lv_room (Nat.le_of_ble_eq_true rfl)) dX11_voyage_54 ⟨(Nat.le_of_ble_eq_true rfl), (Nat.le_of_ble_eq_true rfl)⟩) hS (fun q _ h => hFc q h) hFc (fun r_64 u t H locs ht hvm w_63 hB hz1 hk1 hS => ?_)
                obtain ⟨v_65, fa_66⟩ := u
                obtain ⟨hP1, hK1, hD1⟩ := hB
                rw [ht] at hP1
                have hP : va_P (dC, dI) vwCl (mW g0 pq cp v_65 fa_66) H := hP1
                have hD : va_D A (mW g0 pq cp v_65 fa_66) := hD1.weaken (fun _ _ _ h => hFc _ h)
                clear hP1 hK1 hD1 hk1 hz1 hvm ht hFc
                obtain ⟨rfl, hs1_67⟩ := w_63
                have hVv_65 : mV v_65 := sm0_V (sm1_0 hs1_67) hVz_22
                have hAv_65 : mA fa_66 := sm0_A (sm1_0 hs1_67) hAz_22
                have g_68 : (v_65 38).toInt = (v 38).toInt := congrArg Int32.toInt (congrFun hs1_67.1 38)
                have g_69 : (v_65 40).toInt = (v 40).toInt := congrArg Int32.toInt (congrFun hs1_67.1 40)
                have hRv_65 : mX [0, 6, 7, 8, 9, 40] v fa v_65 fa_66 := mX.st hRz_22 (mX.s0 (sm1_0 hs1_67)) (by decide +kernel)
                exact W.iret (v := (-3)) hx hb hr (fun t ht hW => ⟨⟨(-3), (v_65, fa_66), rfl, ⟨hVv_65, hAv_65, hRv_65, ⟨by have rc : ((-3) : Int32).toInt = -3 := (by decide +kernel); have hh : hvI v fa x1.toInt = 1 := b01_t ⟨y_21.toNatClampNeg, ni_lt (by omega) (by omega), by omega, by omega⟩; (first | exact Or.inr (Or.inl ⟨by omega, by omega, by omega⟩) | (unfold aVy; omega)), (Or.inl ⟨by decide, hs1_67⟩)⟩⟩, ⟨by rw [ht]; exact hP, va_K.moved hW.alike hK, hD⟩⟩, hS.F ht⟩) hS.2.2 dX11_voyage_57
      have kc_70 : (0 : Int32).toInt = 0 := by decide
      exact cut_20 21 0 v fa _ _ ls (by omega) (by decide +kernel) ⟨rfl, rfl⟩ (al_0 (by decide +kernel)) gV gA mX.rf hP hD hS (by omega) (by omega) (lv_sub hl [0, 1, 2, 3] rfl)
    · have dc_18 := c_eq (a := r_17.toInt) (b := 0) rfl (by decide +kernel) c_18
      have hz_71 := isI_0 (w_16.symm.trans c_18)
      have kc_72 : (10 : Int32).toInt = 10 := by decide
      refine lv_aload_n hx hb dX11_voyage_16 rfl (lv_at hl 0 rfl) ?_
      refine lv_iconst (v := (-1)) hx hb dX11_voyage_17 (by decide +kernel) ?_
      have hFc := va_free (wc := (mW g0 pq cp v fa)) hD hS hA (List.range 48) rfl
      refine va_calli (va_runV (As := [.int (-1)]) (rest := []) ⟨hx, hb, hml, hown, hts⟩ (c_X11_refuse_f l dC dI H.size g0 pq cp v fa (-1) (by unfold vp_in; decide)) (cwV 1 hts gX11_voyage_X11_refuse rfl rfl rfl (by decide +kernel) ⟨(Nat.le_of_ble_eq_true rfl), (Nat.le_of_ble_eq_true rfl)⟩) (pr_V (r := (RX11, TX11, 63)) hP hK hD 0 11 rfl rfl) rfl rfl hl.1 rfl (lv_room (Nat.le_of_ble_eq_true rfl)) dX11_voyage_18 ⟨(Nat.le_of_ble_eq_true rfl), (Nat.le_of_ble_eq_true rfl)⟩) hS (fun q _ h => hFc q h) hFc (fun r_74 u t H locs ht hvm w_73 hB hz1 hk1 hS => ?_)
      obtain ⟨v_75, fa_76⟩ := u
      obtain ⟨hP1, hK1, hD1⟩ := hB
      rw [ht] at hP1
      have hP : va_P (dC, dI) vwCl (mW g0 pq cp v_75 fa_76) H := hP1
      have hD : va_D A (mW g0 pq cp v_75 fa_76) := hD1.weaken (fun _ _ _ h => hFc _ h)
      clear hP1 hK1 hD1 hk1 hz1 hvm ht hFc
      obtain ⟨rfl, hs1_77⟩ := w_73
      have hVv_75 : mV v_75 := sm0_V (sm1_0 hs1_77) gV
      have hAv_75 : mA fa_76 := sm0_A (sm1_0 hs1_77) gA
      have g_78 : (v_75 38).toInt = (v 38).toInt := congrArg Int32.toInt (congrFun hs1_77.1 38)
      have g_79 : (v_75 40).toInt = (v 40).toInt := congrArg Int32.toInt (congrFun hs1_77.1 40)
      have hRv_75 : mX [0, 6, 7, 8, 9, 40] v fa v_75 fa_76 := mX.st mX.rf (mX.s0 (sm1_0 hs1_77)) (by decide +kernel)
      exact W.iret (v := (-1)) hx hb hr (fun t ht hW => ⟨⟨(-1), (v_75, fa_76), rfl, ⟨hVv_75, hAv_75, hRv_75, ⟨by have rc : ((-1) : Int32).toInt = -1 := (by decide +kernel); (first | exact Or.inl ⟨by omega, by omega⟩ | (unfold aVy; omega)), (Or.inl ⟨by decide, hs1_77⟩)⟩⟩, ⟨by rw [ht]; exact hP, va_K.moved hW.alike hK, hD⟩⟩, hS.F ht⟩) hS.2.2 dX11_voyage_21
set_option maxHeartbeats 4000000 in
set_option maxRecDepth 100000 in
theorem c_X11_happensTo_f (l : Launch) (dC : Nat → ClassId) (dI : Nat → Nat → Nat) (sz : Nat) (g0 : Nat) (pq : Nat → Nat) (cp : Nat → ClassId) (v : Nat → Int32) (fa : Nat → Nat → Int32) (gV : mV v) (gA : mA fa) (x1 : Int32) (hx1 : 0 ≤ x1.toInt ∧ x1.toInt ≤ 2) (x2 : Int32) (x3 : Int32) : Met l yX11_happensTo wsX11_happensTo ({ frames := 2, cells := 0, slots := 0, locals := 47 }) (va_Pc [.ref g0, .int x1, .int x2, .int x3] (pcW (dC, dI) (mT cp) (mW g0 pq cp v fa) sz)) (va_Qi (fun (r : Int32) (u : (Nat → Int32) × (Nat → Nat → Int32)) => mV u.1 ∧ mA u.2 ∧ mX [0, 10, 11, 12, 13, 14, 15, 41] v fa u.1 u.2 ∧ (aHt x2.toInt (v 40).toInt (fa 9 x2.toNatClampNeg).toInt (if x1.toInt = 1 then 0 else tldI v fa x1.toInt x2.toInt) (fa 7 x2.toNatClampNeg).toInt x3.toInt (v 38).toInt (v 41).toInt r.toInt ∧ rOr v fa u r (hpN v fa x1 x2 x3 0 0 u))) (fun u t => va_P (dC, dI) vwCl (mW g0 pq cp u.1 u.2) t.heap ∧ va_K (dC, dI) vwCl (mT cp) t ∧ va_D (va_A (mW g0 pq cp v fa) sz) (mW g0 pq cp u.1 u.2)) (va_A (mW g0 pq cp v fa) sz)) 0 0 (va_A (mW g0 pq cp v fa) sz) := by
  refine Met.ofW (cc := cX11_happensTo) (maxL := 4) (ret := (some .int)) (by decide +kernel) rfl ?_
  intro p e s m args below meth c s₁ B hml hv
  obtain ⟨rfl, hsz, hP, hK, hD0⟩ := hv
  have hx := B.exec
  have hb := B.bytes
  have hr := B.returns
  have hts := atoms_spec (ws := wsX11_happensTo) B.pre
  have hown : s.vm.findClass RX11 = some m.cls := findClass_of_methodNamed B.named
  have hlocks := B.notSynchronized
  subst hsz
  have hD := hD0.self (sz := s.heap.size)
  generalize hAe : va_A (mW g0 pq cp v fa) s.heap.size = A at hD ⊢
  have hA : ∀ q : Nat, s.heap.size ≤ q → A q := fun q h => by rw [← hAe]; exact Or.inr h
  have hS : va_S A s.heap s.heap [] := va_S.rf
  have hP : va_P (dC, dI) vwCl (mW g0 pq cp v fa) s.heap := hP
  have hl := lv_entry ([.ref g0, .int x1, .int x2, .int x3]) (n := 4) (Nat.le_of_ble_eq_true rfl)
  rw [lg_entry_eq]
  generalize (lg_sl ([.ref g0, .int x1, .int x2, .int x3]) ++ List.replicate (4 - (lg_sl ([.ref g0, .int x1, .int x2, .int x3])).length) Slot.unset).toArray = ls at hl ⊢
  have hl : lv_has ls 4 [(0, .ref g0), (1, .int x1), (2, .int x2), (3, .int x3)] := hl
  have iv_1 : 0 ≤ (v 38).toInt ∧ (v 38).toInt ≤ 3000 := gV 38
  have iv_2 : 0 ≤ (v 40).toInt ∧ (v 40).toInt ≤ 20 := gV 40
  have iv_3 : 0 ≤ (v 41).toInt ∧ (v 41).toInt ≤ 200 := gV 41
  refine lv_aload_n hx hb dX11_happensTo_0 rfl (lv_at hl 0 rfl) ?_
  refine lv_iload_n hx hb dX11_happensTo_1 rfl (lv_at hl 2 rfl) ?_
  have hFc : ∀ q, va_A [] s.heap.size q → A q := pu_free hS hA
  refine va_calli (va_runV (As := [.int x2]) (rest := []) ⟨hx, hb, hml, hown, hts⟩ (c_X11_isVoyage l dC dI s.heap.size g0 pq cp v fa x2) (cwV 1 hts gX11_happensTo_X11_isVoyage rfl rfl rfl (by decide +kernel) ⟨(Nat.le_of_ble_eq_true rfl), (Nat.le_of_ble_eq_true rfl)⟩) (pr_V (r := (RX11, TX11, 63)) hP hK hD 0 11 rfl rfl) rfl rfl hl.1 rfl (lv_room (Nat.le_of_ble_eq_true rfl)) dX11_happensTo_2 ⟨(Nat.le_of_ble_eq_true rfl), (Nat.le_of_ble_eq_true rfl)⟩) hS (fun q _ h => hFc q h) hFc (fun r_5 u t H locs ht hvm w_4 hB hz1 hk1 hS => ?_)
  have hP := pu_keep hP hk1
  clear hk1 hz1 hvm hB ht hFc
  have hbr_5 : 0 ≤ r_5.toInt ∧ r_5.toInt ≤ 1 := iv_of w_4 (isI_i _ _)
  refine lv_if_ne (tgt := 14) hx hb dX11_happensTo_5 (by decide +kernel) (fun c_6 => ?_) (fun c_6 => ?_)
  · have dc_6 := c_ne (a := r_5.toInt) (b := 0) rfl (by decide +kernel) c_6
    have hi_7 := isI_t w_4 (fun q => c_6 (Int32.toInt_inj.mp q))
    have khi_7 : (v 40).toInt ≤ 20 := (gV 40).2
    refine lv_aload_n hx hb dX11_happensTo_14 rfl (lv_at hl 0 rfl) ?_
    refine va_get (D := (dC, dI)) (ci := 11) (v := .ref (pq 9)) (C := RX11) (T := TX11) (N := 63) hx hb hts in_wsX11_happensTo_X11 hown hK hP 0 rfl rfl 9 (by decide +kernel) (hts (.fieldLink RX11 37 "ShipOfficeModel" "endedOn" "[I") iw_X11_happensTo_1) (fun _ h9 => h9) rfl dX11_happensTo_15 ?_
    refine lv_iload_n hx hb dX11_happensTo_18 rfl (lv_at hl 2 rfl) ?_
    refine va_iald hx hb hK hP 10 9 rfl rfl (vp_in_iff.mpr (by omega)) dX11_happensTo_19 ?_
    refine lv_topi (fun x_8 ex_8 => ?_)
    have gx_8 : x_8.toInt = (fa 9 (x2 : Int32).toNatClampNeg).toInt := iv_to ex_8
    clear ex_8
    refine lv_if_ge (tgt := 37) hx hb dX11_happensTo_20 (by decide +kernel) (fun c_9 => ?_) (fun c_9 => ?_)
    · have dc_9 := c_le (a := 0) (b := x_8.toInt) (by decide +kernel) rfl c_9
      refine lv_aload_n hx hb dX11_happensTo_37 rfl (lv_at hl 0 rfl) ?_
      refine lv_bipush (v := (-3)) hx hb dX11_happensTo_38 (by decide +kernel) ?_
      have hFc := va_free (wc := (mW g0 pq cp v fa)) hD hS hA (List.range 48) rfl
      refine va_calli (va_runV (As := [.int (-3)]) (rest := []) ⟨hx, hb, hml, hown, hts⟩ (c_X11_refuse_f l dC dI H.size g0 pq cp v fa (-3) (by unfold vp_in; decide)) (cwV 1 hts gX11_happensTo_X11_refuse rfl rfl rfl (by decide +kernel) ⟨(Nat.le_of_ble_eq_true rfl), (Nat.le_of_ble_eq_true rfl)⟩) (pr_V (r := (RX11, TX11, 63)) hP hK hD 0 11 rfl rfl) rfl rfl hl.1 rfl (lv_room (Nat.le_of_ble_eq_true rfl)) dX11_happensTo_40 ⟨(Nat.le_of_ble_eq_true rfl), (Nat.le_of_ble_eq_true rfl)⟩) hS (fun q _ h => hFc q h) hFc (fun r_11 u t H locs ht hvm w_10 hB hz1 hk1 hS => ?_)
      obtain ⟨v_12, fa_13⟩ := u
      obtain ⟨hP1, hK1, hD1⟩ := hB
      rw [ht] at hP1
      have hP : va_P (dC, dI) vwCl (mW g0 pq cp v_12 fa_13) H := hP1
      have hD : va_D A (mW g0 pq cp v_12 fa_13) := hD1.weaken (fun _ _ _ h => hFc _ h)
      clear hP1 hK1 hD1 hk1 hz1 hvm ht hFc
      obtain ⟨rfl, hs1_14⟩ := w_10
      have hVv_12 : mV v_12 := sm0_V (sm1_0 hs1_14) gV
      have hAv_12 : mA fa_13 := sm0_A (sm1_0 hs1_14) gA
      have g_15 : (v_12 38).toInt = (v 38).toInt := congrArg Int32.toInt (congrFun hs1_14.1 38)
      have g_16 : (v_12 40).toInt = (v 40).toInt := congrArg Int32.toInt (congrFun hs1_14.1 40)
      have g_17 : (v_12 41).toInt = (v 41).toInt := congrArg Int32.toInt (congrFun hs1_14.1 41)
      have hRv_12 : mX [0, 10, 11, 12, 13, 14, 15, 41] v fa v_12 fa_13 := mX.st mX.rf (mX.s0 (sm1_0 hs1_14)) (by decide +kernel)
      exact W.iret (v := (-3)) hx hb hr (fun t ht hW => ⟨⟨(-3), (v_12, fa_13), rfl, ⟨hVv_12, hAv_12, hRv_12, ⟨by have rc : ((-3) : Int32).toInt = -3 := (by decide +kernel); (first | (split <;> (first | exact Or.inr (Or.inl ⟨by omega, by omega, by omega⟩))) | (unfold aHt; split <;> omega)), (Or.inl ⟨by decide, hs1_14⟩)⟩⟩, ⟨by rw [ht]; exact hP, va_K.moved hW.alike hK, hD⟩⟩, hS.F ht⟩) hS.2.2 dX11_happensTo_43
    · have dc_9 := c_nle (a := 0) (b := x_8.toInt) (by decide +kernel) rfl c_9
      refine lv_iload_n hx hb dX11_happensTo_23 rfl (lv_at hl 1 rfl) ?_
      refine lv_iconst (v := 1) hx hb dX11_happensTo_24 (by decide +kernel) ?_
      refine lv_icmp_eq (tgt := 44) hx hb dX11_happensTo_25 (by decide +kernel) (fun c_18 => ?_) (fun c_18 => ?_)
      · have dc_18 := c_eq (a := x1.toInt) (b := 1) rfl (by decide +kernel) c_18
        refine lv_aload_n hx hb dX11_happensTo_44 rfl (lv_at hl 0 rfl) ?_
        refine lv_iload_n hx hb dX11_happensTo_45 rfl (lv_at hl 1 rfl) ?_
        refine lv_iload_n hx hb dX11_happensTo_46 rfl (lv_at hl 2 rfl) ?_
        refine lv_iload_n hx hb dX11_happensTo_47 rfl (lv_at hl 3 rfl) ?_
        refine lv_iconst (v := 0) hx hb dX11_happensTo_48 (by decide +kernel) ?_
        refine lv_iconst (v := 0) hx hb dX11_happensTo_49 (by decide +kernel) ?_
        refine lv_aload_n hx hb dX11_happensTo_50 rfl (lv_at hl 0 rfl) ?_
        refine va_get (D := (dC, dI)) (ci := 11) (v := .ref (pq 7)) (C := RX11) (T := TX11) (N := 63) hx hb hts in_wsX11_happensTo_X11 hown hK hP 0 rfl rfl 7 (by decide +kernel) (hts (.fieldLink RX11 31 "ShipOfficeModel" "opened" "[I") iw_X11_happensTo_2) (fun _ h9 => h9) rfl dX11_happensTo_51 ?_
        refine lv_iload_n hx hb dX11_happensTo_54 rfl (lv_at hl 2 rfl) ?_
        refine va_iald hx hb hK hP 8 7 rfl rfl (vp_in_iff.mpr (by omega)) dX11_happensTo_55 ?_
        refine lv_topi (fun x_19 ex_19 => ?_)
        have hx_19 : 0 ≤ x_19.toInt ∧ x_19.toInt ≤ 3000 := iv_of ex_19 (gA 7 _)
        have gx_19 : x_19.toInt = (fa 7 (x2 : Int32).toNatClampNeg).toInt := iv_to ex_19
        clear ex_19
        have hFc := va_free (wc := (mW g0 pq cp v fa)) hD hS hA (List.range 48) rfl
        refine va_calli (va_runV (As := [.int x1, .int x2, .int x3, .int 0, .int 0, .int x_19]) (rest := []) ⟨hx, hb, hml, hown, hts⟩ (c_X11_happens_f l dC dI H.size g0 pq cp v fa gV gA x1 x2 x3 0 0 (by decide +kernel) x_19 (by omega)) (cwV 6 hts gX11_happensTo_X11_happens rfl rfl rfl (by decide +kernel) ⟨(Nat.le_of_ble_eq_true rfl), (Nat.le_of_ble_eq_true rfl)⟩) (pr_V (r := (RX11, TX11, 63)) hP hK hD 0 11 rfl rfl) rfl rfl hl.1 rfl (lv_room (Nat.le_of_ble_eq_true rfl)) dX11_happensTo_56 ⟨(Nat.le_of_ble_eq_true rfl), (Nat.le_of_ble_eq_true rfl)⟩) hS (fun q _ h => hFc q h) hFc (fun r_21 u t H locs ht hvm w_20 hB hz1 hk1 hS => ?_)
        obtain ⟨v_22, fa_23⟩ := u
        obtain ⟨hP1, hK1, hD1⟩ := hB
        rw [ht] at hP1
        have hP : va_P (dC, dI) vwCl (mW g0 pq cp v_22 fa_23) H := hP1
        have hD : va_D A (mW g0 pq cp v_22 fa_23) := hD1.weaken (fun _ _ _ h => hFc _ h)
        clear hP1 hK1 hD1 hk1 hz1 hvm ht hFc
        obtain ⟨hV_24, hA_25, hR_26, hx_27⟩ := w_20
        dsimp only at hV_24 hA_25 hR_26 hx_27
        have g_28 : (v_22 38).toInt = (v 38).toInt := congrArg Int32.toInt (hR_26.1 38 (by decide +kernel))
        have g_29 : (v_22 40).toInt = (v 40).toInt := congrArg Int32.toInt (hR_26.1 40 (by decide +kernel))
        have g_30 : (fa_23 7 (x2 : Int32).toNatClampNeg).toInt = (fa 7 (x2 : Int32).toNatClampNeg).toInt := congrArg (fun h : Nat → Int32 => Int32.toInt (h (x2 : Int32).toNatClampNeg)) (hR_26.2 7 (by decide +kernel))
        have g_31 : (fa_23 9 (x2 : Int32).toNatClampNeg).toInt = (fa 9 (x2 : Int32).toNatClampNeg).toInt := congrArg (fun h : Nat → Int32 => Int32.toInt (h (x2 : Int32).toNatClampNeg)) (hR_26.2 9 (by decide +kernel))
        have R_32 : mX [0, 10, 11, 12, 13, 14, 15, 41] v fa v_22 fa_23 := mX.st mX.rf hR_26 (by decide +kernel)
        try rw [show (0 : Int32).toInt = 0 from (by decide +kernel)] at hx_27
        try rw [show (0 : Int32).toInt = 0 from (by decide +kernel)] at hx_27
        try rw [gx_19] at hx_27
        exact W.iret (v := r_21) hx hb hr (fun t ht hW => ⟨⟨r_21, (v_22, fa_23), rfl, ⟨hV_24, hA_25, R_32, ⟨by obtain ⟨ha, -⟩ := hx_27; (first | (split <;> exact Or.inr (Or.inr (⟨by omega, by omega, by omega, ha⟩))) | (unfold aHt; unfold aHp at *; split <;> omega)), hx_27.2⟩⟩, ⟨by rw [ht]; exact hP, va_K.moved hW.alike hK, hD⟩⟩, hS.F ht⟩) hS.2.2 dX11_happensTo_59
      · have dc_18 := c_ne (a := x1.toInt) (b := 1) rfl (by decide +kernel) c_18
        refine lv_aload_n hx hb dX11_happensTo_28 rfl (lv_at hl 0 rfl) ?_
        refine lv_iload_n hx hb dX11_happensTo_29 rfl (lv_at hl 1 rfl) ?_
        refine lv_iload_n hx hb dX11_happensTo_30 rfl (lv_at hl 2 rfl) ?_
        have hFc : ∀ q, va_A [] H.size q → A q := pu_free hS hA
        refine va_calli (va_runV (As := [.int x1, .int x2]) (rest := []) ⟨hx, hb, hml, hown, hts⟩ (c_X11_wasTold_f l dC dI H.size g0 pq cp v fa gV gA x1 x2) (cwV 2 hts gX11_happensTo_X11_wasTold rfl rfl rfl (by decide +kernel) ⟨(Nat.le_of_ble_eq_true rfl), (Nat.le_of_ble_eq_true rfl)⟩) (pr_V (r := (RX11, TX11, 63)) hP hK hD 0 11 rfl rfl) rfl rfl hl.1 rfl (lv_room (Nat.le_of_ble_eq_true rfl)) dX11_happensTo_31 ⟨(Nat.le_of_ble_eq_true rfl), (Nat.le_of_ble_eq_true rfl)⟩) hS (fun q _ h => hFc q h) hFc (fun r_34 u t H locs ht hvm w_33 hB hz1 hk1 hS => ?_)
        have hP := pu_keep hP hk1
        clear hk1 hz1 hvm hB ht hFc
        obtain ⟨hb_35, hx_36⟩ := w_33
        refine lv_if_eq (tgt := 44) hx hb dX11_happensTo_34 (by decide +kernel) (fun c_37 => ?_) (fun c_37 => ?_)
        · have dc_37 := c_eq (a := r_34.toInt) (b := 0) rfl (by decide +kernel) c_37
          refine lv_aload_n hx hb dX11_happensTo_44 rfl (lv_at hl 0 rfl) ?_
          refine lv_iload_n hx hb dX11_happensTo_45 rfl (lv_at hl 1 rfl) ?_
          refine lv_iload_n hx hb dX11_happensTo_46 rfl (lv_at hl 2 rfl) ?_
          refine lv_iload_n hx hb dX11_happensTo_47 rfl (lv_at hl 3 rfl) ?_
          refine lv_iconst (v := 0) hx hb dX11_happensTo_48 (by decide +kernel) ?_
          refine lv_iconst (v := 0) hx hb dX11_happensTo_49 (by decide +kernel) ?_
          refine lv_aload_n hx hb dX11_happensTo_50 rfl (lv_at hl 0 rfl) ?_
          refine va_get (D := (dC, dI)) (ci := 11) (v := .ref (pq 7)) (C := RX11) (T := TX11) (N := 63) hx hb hts in_wsX11_happensTo_X11 hown hK hP 0 rfl rfl 7 (by decide +kernel) (hts (.fieldLink RX11 31 "ShipOfficeModel" "opened" "[I") iw_X11_happensTo_2) (fun _ h9 => h9) rfl dX11_happensTo_51 ?_
          refine lv_iload_n hx hb dX11_happensTo_54 rfl (lv_at hl 2 rfl) ?_
          refine va_iald hx hb hK hP 8 7 rfl rfl (vp_in_iff.mpr (by omega)) dX11_happensTo_55 ?_
          refine lv_topi (fun x_38 ex_38 => ?_)
          have hx_38 : 0 ≤ x_38.toInt ∧ x_38.toInt ≤ 3000 := iv_of ex_38 (gA 7 _)
          have gx_38 : x_38.toInt = (fa 7 (x2 : Int32).toNatClampNeg).toInt := iv_to ex_38
          clear ex_38
          have hFc := va_free (wc := (mW g0 pq cp v fa)) hD hS hA (List.range 48) rfl
          refine va_calli (va_runV (As := [.int x1, .int x2, .int x3, .int 0, .int 0, .int x_38]) (rest := []) ⟨hx, hb, hml, hown, hts⟩ (c_X11_happens_f l dC dI H.size g0 pq cp v fa gV gA x1 x2 x3 0 0 (by decide +kernel) x_38 (by omega)) (cwV 6 hts gX11_happensTo_X11_happens rfl rfl rfl (by decide +kernel) ⟨(Nat.le_of_ble_eq_true rfl), (Nat.le_of_ble_eq_true rfl)⟩) (pr_V (r := (RX11, TX11, 63)) hP hK hD 0 11 rfl rfl) rfl rfl hl.1 rfl (lv_room (Nat.le_of_ble_eq_true rfl)) dX11_happensTo_56 ⟨(Nat.le_of_ble_eq_true rfl), (Nat.le_of_ble_eq_true rfl)⟩) hS (fun q _ h => hFc q h) hFc (fun r_40 u t H locs ht hvm w_39 hB hz1 hk1 hS => ?_)
          obtain ⟨v_41, fa_42⟩ := u
          obtain ⟨hP1, hK1, hD1⟩ := hB
          rw [ht] at hP1
          have hP : va_P (dC, dI) vwCl (mW g0 pq cp v_41 fa_42) H := hP1
          have hD : va_D A (mW g0 pq cp v_41 fa_42) := hD1.weaken (fun _ _ _ h => hFc _ h)
          clear hP1 hK1 hD1 hk1 hz1 hvm ht hFc
          obtain ⟨hV_43, hA_44, hR_45, hx_46⟩ := w_39
          dsimp only at hV_43 hA_44 hR_45 hx_46
          have g_47 : (v_41 38).toInt = (v 38).toInt := congrArg Int32.toInt (hR_45.1 38 (by decide +kernel))
          have g_48 : (v_41 40).toInt = (v 40).toInt := congrArg Int32.toInt (hR_45.1 40 (by decide +kernel))
          have g_49 : (fa_42 7 (x2 : Int32).toNatClampNeg).toInt = (fa 7 (x2 : Int32).toNatClampNeg).toInt := congrArg (fun h : Nat → Int32 => Int32.toInt (h (x2 : Int32).toNatClampNeg)) (hR_45.2 7 (by decide +kernel))
          have g_50 : (fa_42 9 (x2 : Int32).toNatClampNeg).toInt = (fa 9 (x2 : Int32).toNatClampNeg).toInt := congrArg (fun h : Nat → Int32 => Int32.toInt (h (x2 : Int32).toNatClampNeg)) (hR_45.2 9 (by decide +kernel))
          have R_51 : mX [0, 10, 11, 12, 13, 14, 15, 41] v fa v_41 fa_42 := mX.st mX.rf hR_45 (by decide +kernel)
          try rw [show (0 : Int32).toInt = 0 from (by decide +kernel)] at hx_46
          try rw [show (0 : Int32).toInt = 0 from (by decide +kernel)] at hx_46
          try rw [gx_38] at hx_46
          exact W.iret (v := r_40) hx hb hr (fun t ht hW => ⟨⟨r_40, (v_41, fa_42), rfl, ⟨hV_43, hA_44, R_51, ⟨by obtain ⟨ha, -⟩ := hx_46; (first | (split <;> exact Or.inr (Or.inr (⟨by omega, by omega, by omega, ha⟩))) | (unfold aHt; unfold aHp at *; split <;> omega)), hx_46.2⟩⟩, ⟨by rw [ht]; exact hP, va_K.moved hW.alike hK, hD⟩⟩, hS.F ht⟩) hS.2.2 dX11_happensTo_59
        · have dc_37 := c_ne (a := r_34.toInt) (b := 0) rfl (by decide +kernel) c_37
          refine lv_aload_n hx hb dX11_happensTo_37 rfl (lv_at hl 0 rfl) ?_
          refine lv_bipush (v := (-3)) hx hb dX11_happensTo_38 (by decide +kernel) ?_
          have hFc := va_free (wc := (mW g0 pq cp v fa)) hD hS hA (List.range 48) rfl
          refine va_calli (va_runV (As := [.int (-3)]) (rest := []) ⟨hx, hb, hml, hown, hts⟩ (c_X11_refuse_f l dC dI H.size g0 pq cp v fa (-3) (by unfold vp_in; decide)) (cwV 1 hts gX11_happensTo_X11_refuse rfl rfl rfl (by decide +kernel) ⟨(Nat.le_of_ble_eq_true rfl), (Nat.le_of_ble_eq_true rfl)⟩) (pr_V (r := (RX11, TX11, 63)) hP hK hD 0 11 rfl rfl) rfl rfl hl.1 rfl (lv_room (Nat.le_of_ble_eq_true rfl)) dX11_happensTo_40 ⟨(Nat.le_of_ble_eq_true rfl), (Nat.le_of_ble_eq_true rfl)⟩) hS (fun q _ h => hFc q h) hFc (fun r_53 u t H locs ht hvm w_52 hB hz1 hk1 hS => ?_)
          obtain ⟨v_54, fa_55⟩ := u
          obtain ⟨hP1, hK1, hD1⟩ := hB
          rw [ht] at hP1
          have hP : va_P (dC, dI) vwCl (mW g0 pq cp v_54 fa_55) H := hP1
          have hD : va_D A (mW g0 pq cp v_54 fa_55) := hD1.weaken (fun _ _ _ h => hFc _ h)
          clear hP1 hK1 hD1 hk1 hz1 hvm ht hFc
          obtain ⟨rfl, hs1_56⟩ := w_52
          have hVv_54 : mV v_54 := sm0_V (sm1_0 hs1_56) gV
          have hAv_54 : mA fa_55 := sm0_A (sm1_0 hs1_56) gA
          have g_57 : (v_54 38).toInt = (v 38).toInt := congrArg Int32.toInt (congrFun hs1_56.1 38)
          have g_58 : (v_54 40).toInt = (v 40).toInt := congrArg Int32.toInt (congrFun hs1_56.1 40)
          have g_59 : (v_54 41).toInt = (v 41).toInt := congrArg Int32.toInt (congrFun hs1_56.1 41)
          have hRv_54 : mX [0, 10, 11, 12, 13, 14, 15, 41] v fa v_54 fa_55 := mX.st mX.rf (mX.s0 (sm1_0 hs1_56)) (by decide +kernel)
          exact W.iret (v := (-3)) hx hb hr (fun t ht hW => ⟨⟨(-3), (v_54, fa_55), rfl, ⟨hVv_54, hAv_54, hRv_54, ⟨by have rc : ((-3) : Int32).toInt = -3 := (by decide +kernel); (first | (split <;> (first | exact Or.inr (Or.inl ⟨by omega, by omega, by omega⟩))) | (unfold aHt; split <;> omega)), (Or.inl ⟨by decide, hs1_56⟩)⟩⟩, ⟨by rw [ht]; exact hP, va_K.moved hW.alike hK, hD⟩⟩, hS.F ht⟩) hS.2.2 dX11_happensTo_43
  · have dc_6 := c_eq (a := r_5.toInt) (b := 0) rfl (by decide +kernel) c_6
    have hz_60 := isI_0 (w_4.symm.trans c_6)
    refine lv_aload_n hx hb dX11_happensTo_8 rfl (lv_at hl 0 rfl) ?_
    refine lv_iconst (v := (-1)) hx hb dX11_happensTo_9 (by decide +kernel) ?_
    have hFc := va_free (wc := (mW g0 pq cp v fa)) hD hS hA (List.range 48) rfl
    refine va_calli (va_runV (As := [.int (-1)]) (rest := []) ⟨hx, hb, hml, hown, hts⟩ (c_X11_refuse_f l dC dI H.size g0 pq cp v fa (-1) (by unfold vp_in; decide)) (cwV 1 hts gX11_happensTo_X11_refuse rfl rfl rfl (by decide +kernel) ⟨(Nat.le_of_ble_eq_true rfl), (Nat.le_of_ble_eq_true rfl)⟩) (pr_V (r := (RX11, TX11, 63)) hP hK hD 0 11 rfl rfl) rfl rfl hl.1 rfl (lv_room (Nat.le_of_ble_eq_true rfl)) dX11_happensTo_10 ⟨(Nat.le_of_ble_eq_true rfl), (Nat.le_of_ble_eq_true rfl)⟩) hS (fun q _ h => hFc q h) hFc (fun r_62 u t H locs ht hvm w_61 hB hz1 hk1 hS => ?_)
    obtain ⟨v_63, fa_64⟩ := u
    obtain ⟨hP1, hK1, hD1⟩ := hB
    rw [ht] at hP1
    have hP : va_P (dC, dI) vwCl (mW g0 pq cp v_63 fa_64) H := hP1
    have hD : va_D A (mW g0 pq cp v_63 fa_64) := hD1.weaken (fun _ _ _ h => hFc _ h)
    clear hP1 hK1 hD1 hk1 hz1 hvm ht hFc
    obtain ⟨rfl, hs1_65⟩ := w_61
    have hVv_63 : mV v_63 := sm0_V (sm1_0 hs1_65) gV
    have hAv_63 : mA fa_64 := sm0_A (sm1_0 hs1_65) gA
    have g_66 : (v_63 38).toInt = (v 38).toInt := congrArg Int32.toInt (congrFun hs1_65.1 38)
    have g_67 : (v_63 40).toInt = (v 40).toInt := congrArg Int32.toInt (congrFun hs1_65.1 40)
    have g_68 : (v_63 41).toInt = (v 41).toInt := congrArg Int32.toInt (congrFun hs1_65.1 41)
    have hRv_63 : mX [0, 10, 11, 12, 13, 14, 15, 41] v fa v_63 fa_64 := mX.st mX.rf (mX.s0 (sm1_0 hs1_65)) (by decide +kernel)
    exact W.iret (v := (-1)) hx hb hr (fun t ht hW => ⟨⟨(-1), (v_63, fa_64), rfl, ⟨hVv_63, hAv_63, hRv_63, ⟨by have rc : ((-1) : Int32).toInt = -1 := (by decide +kernel); (first | (split <;> (first | exact Or.inl ⟨by omega, by omega⟩)) | (unfold aHt; split <;> omega)), (Or.inl ⟨by decide, hs1_65⟩)⟩⟩, ⟨by rw [ht]; exact hP, va_K.moved hW.alike hK, hD⟩⟩, hS.F ht⟩) hS.2.2 dX11_happensTo_13
set_option maxHeartbeats 4000000 in
set_option maxRecDepth 100000 in
theorem c_X11_sailed_f (l : Launch) (dC : Nat → ClassId) (dI : Nat → Nat → Nat) (sz : Nat) (g0 : Nat) (pq : Nat → Nat) (cp : Nat → ClassId) (v : Nat → Int32) (fa : Nat → Nat → Int32) (gV : mV v) (gA : mA fa) (x1 : Int32) (x2 : Int32) : Met l yX11_sailed wsX11_sailed ({ frames := 3, cells := 0, slots := 0, locals := 70 }) (va_Pc [.ref g0, .int x1, .int x2] (pcW (dC, dI) (mT cp) (mW g0 pq cp v fa) sz)) (va_Qi (fun (r : Int32) (u : (Nat → Int32) × (Nat → Nat → Int32)) => mV u.1 ∧ mA u.2 ∧ mX [0, 10, 11, 12, 13, 14, 15, 41] v fa u.1 u.2 ∧ (aHt x1.toInt (v 40).toInt (fa 9 x1.toNatClampNeg).toInt (tldI v fa 0 x1.toInt) (fa 7 x1.toNatClampNeg).toInt x2.toInt (v 38).toInt (v 41).toInt r.toInt ∧ rOr v fa u r (hpN v fa 0 x1 x2 0 0 u))) (fun u t => va_P (dC, dI) vwCl (mW g0 pq cp u.1 u.2) t.heap ∧ va_K (dC, dI) vwCl (mT cp) t ∧ va_D (va_A (mW g0 pq cp v fa) sz) (mW g0 pq cp u.1 u.2)) (va_A (mW g0 pq cp v fa) sz)) 0 0 (va_A (mW g0 pq cp v fa) sz) := by
  refine Met.ofW (cc := cX11_sailed) (maxL := 3) (ret := (some .int)) (by decide +kernel) rfl ?_
  intro p e s m args below meth c s₁ B hml hv
  obtain ⟨rfl, hsz, hP, hK, hD0⟩ := hv
  have hx := B.exec
  have hb := B.bytes
  have hr := B.returns
  have hts := atoms_spec (ws := wsX11_sailed) B.pre
  have hown : s.vm.findClass RX11 = some m.cls := findClass_of_methodNamed B.named
  have hlocks := B.notSynchronized
  subst hsz
  have hD := hD0.self (sz := s.heap.size)
  generalize hAe : va_A (mW g0 pq cp v fa) s.heap.size = A at hD ⊢
  have hA : ∀ q : Nat, s.heap.size ≤ q → A q := fun q h => by rw [← hAe]; exact Or.inr h
  have hS : va_S A s.heap s.heap [] := va_S.rf
  have hP : va_P (dC, dI) vwCl (mW g0 pq cp v fa) s.heap := hP
  have hl := lv_entry ([.ref g0, .int x1, .int x2]) (n := 3) (Nat.le_of_ble_eq_true rfl)
  rw [lg_entry_eq]
  generalize (lg_sl ([.ref g0, .int x1, .int x2]) ++ List.replicate (3 - (lg_sl ([.ref g0, .int x1, .int x2])).length) Slot.unset).toArray = ls at hl ⊢
  have hl : lv_has ls 3 [(0, .ref g0), (1, .int x1), (2, .int x2)] := hl
  refine lv_aload_n hx hb dX11_sailed_0 rfl (lv_at hl 0 rfl) ?_
  refine lv_iconst (v := 0) hx hb dX11_sailed_1 (by decide +kernel) ?_
  refine lv_iload_n hx hb dX11_sailed_2 rfl (lv_at hl 1 rfl) ?_
  refine lv_iload_n hx hb dX11_sailed_3 rfl (lv_at hl 2 rfl) ?_
  have hFc := va_free (wc := (mW g0 pq cp v fa)) hD hS hA (List.range 48) rfl
  refine va_calli (va_runV (As := [.int 0, .int x1, .int x2]) (rest := []) ⟨hx, hb, hml, hown, hts⟩ (c_X11_happensTo_f l dC dI s.heap.size g0 pq cp v fa gV gA 0 (by decide +kernel) x1 x2) (cwV 3 hts gX11_sailed_X11_happensTo rfl rfl rfl (by decide +kernel) ⟨(Nat.le_of_ble_eq_true rfl), (Nat.le_of_ble_eq_true rfl)⟩) (pr_V (r := (RX11, TX11, 63)) hP hK hD 0 11 rfl rfl) rfl rfl hl.1 rfl (lv_room (Nat.le_of_ble_eq_true rfl)) dX11_sailed_4 ⟨(Nat.le_of_ble_eq_true rfl), (Nat.le_of_ble_eq_true rfl)⟩) hS (fun q _ h => hFc q h) hFc (fun r_2 u t H locs ht hvm w_1 hB hz1 hk1 hS => ?_)
  obtain ⟨v_3, fa_4⟩ := u
  obtain ⟨hP1, hK1, hD1⟩ := hB
  rw [ht] at hP1
  have hP : va_P (dC, dI) vwCl (mW g0 pq cp v_3 fa_4) H := hP1
  have hD : va_D A (mW g0 pq cp v_3 fa_4) := hD1.weaken (fun _ _ _ h => hFc _ h)
  clear hP1 hK1 hD1 hk1 hz1 hvm ht hFc
  obtain ⟨hV_5, hA_6, hR_7, hx_8⟩ := w_1
  dsimp only at hV_5 hA_6 hR_7 hx_8
  have R_9 : mX [0, 10, 11, 12, 13, 14, 15, 41] v fa v_3 fa_4 := mX.st mX.rf hR_7 (by decide +kernel)
  try rw [show (0 : Int32).toInt = 0 from (by decide +kernel)] at hx_8
  exact W.iret (v := r_2) hx hb hr (fun t ht hW => ⟨⟨r_2, (v_3, fa_4), rfl, ⟨hV_5, hA_6, R_9, (by have h9 := hx_8; exact h9)⟩, ⟨by rw [ht]; exact hP, va_K.moved hW.alike hK, hD⟩⟩, hS.F ht⟩) hS.2.2 dX11_sailed_7
set_option maxHeartbeats 4000000 in
set_option maxRecDepth 100000 in
theorem c_X11_heard_f (l : Launch) (dC : Nat → ClassId) (dI : Nat → Nat → Nat) (sz : Nat) (g0 : Nat) (pq : Nat → Nat) (cp : Nat → ClassId) (v : Nat → Int32) (fa : Nat → Nat → Int32) (gV : mV v) (gA : mA fa) (x1 : Int32) (x2 : Int32) : Met l yX11_heard wsX11_heard ({ frames := 3, cells := 0, slots := 0, locals := 70 }) (va_Pc [.ref g0, .int x1, .int x2] (pcW (dC, dI) (mT cp) (mW g0 pq cp v fa) sz)) (va_Qi (fun (r : Int32) (u : (Nat → Int32) × (Nat → Nat → Int32)) => mV u.1 ∧ mA u.2 ∧ mX [0, 10, 11, 12, 13, 14, 15, 41] v fa u.1 u.2 ∧ (aHt x1.toInt (v 40).toInt (fa 9 x1.toNatClampNeg).toInt 0 (fa 7 x1.toNatClampNeg).toInt x2.toInt (v 38).toInt (v 41).toInt r.toInt ∧ rOr v fa u r (hpN v fa 1 x1 x2 0 0 u))) (fun u t => va_P (dC, dI) vwCl (mW g0 pq cp u.1 u.2) t.heap ∧ va_K (dC, dI) vwCl (mT cp) t ∧ va_D (va_A (mW g0 pq cp v fa) sz) (mW g0 pq cp u.1 u.2)) (va_A (mW g0 pq cp v fa) sz)) 0 0 (va_A (mW g0 pq cp v fa) sz) := by
  refine Met.ofW (cc := cX11_heard) (maxL := 3) (ret := (some .int)) (by decide +kernel) rfl ?_
  intro p e s m args below meth c s₁ B hml hv
  obtain ⟨rfl, hsz, hP, hK, hD0⟩ := hv
  have hx := B.exec
  have hb := B.bytes
  have hr := B.returns
  have hts := atoms_spec (ws := wsX11_heard) B.pre
  have hown : s.vm.findClass RX11 = some m.cls := findClass_of_methodNamed B.named
  have hlocks := B.notSynchronized
  subst hsz
  have hD := hD0.self (sz := s.heap.size)
  generalize hAe : va_A (mW g0 pq cp v fa) s.heap.size = A at hD ⊢
  have hA : ∀ q : Nat, s.heap.size ≤ q → A q := fun q h => by rw [← hAe]; exact Or.inr h
  have hS : va_S A s.heap s.heap [] := va_S.rf
  have hP : va_P (dC, dI) vwCl (mW g0 pq cp v fa) s.heap := hP
  have hl := lv_entry ([.ref g0, .int x1, .int x2]) (n := 3) (Nat.le_of_ble_eq_true rfl)
  rw [lg_entry_eq]
  generalize (lg_sl ([.ref g0, .int x1, .int x2]) ++ List.replicate (3 - (lg_sl ([.ref g0, .int x1, .int x2])).length) Slot.unset).toArray = ls at hl ⊢
  have hl : lv_has ls 3 [(0, .ref g0), (1, .int x1), (2, .int x2)] := hl
  refine lv_aload_n hx hb dX11_heard_0 rfl (lv_at hl 0 rfl) ?_
  refine lv_iconst (v := 1) hx hb dX11_heard_1 (by decide +kernel) ?_
  refine lv_iload_n hx hb dX11_heard_2 rfl (lv_at hl 1 rfl) ?_
  refine lv_iload_n hx hb dX11_heard_3 rfl (lv_at hl 2 rfl) ?_
  have hFc := va_free (wc := (mW g0 pq cp v fa)) hD hS hA (List.range 48) rfl
  refine va_calli (va_runV (As := [.int 1, .int x1, .int x2]) (rest := []) ⟨hx, hb, hml, hown, hts⟩ (c_X11_happensTo_f l dC dI s.heap.size g0 pq cp v fa gV gA 1 (by decide +kernel) x1 x2) (cwV 3 hts gX11_heard_X11_happensTo rfl rfl rfl (by decide +kernel) ⟨(Nat.le_of_ble_eq_true rfl), (Nat.le_of_ble_eq_true rfl)⟩) (pr_V (r := (RX11, TX11, 63)) hP hK hD 0 11 rfl rfl) rfl rfl hl.1 rfl (lv_room (Nat.le_of_ble_eq_true rfl)) dX11_heard_4 ⟨(Nat.le_of_ble_eq_true rfl), (Nat.le_of_ble_eq_true rfl)⟩) hS (fun q _ h => hFc q h) hFc (fun r_2 u t H locs ht hvm w_1 hB hz1 hk1 hS => ?_)
  obtain ⟨v_3, fa_4⟩ := u
  obtain ⟨hP1, hK1, hD1⟩ := hB
  rw [ht] at hP1
  have hP : va_P (dC, dI) vwCl (mW g0 pq cp v_3 fa_4) H := hP1
  have hD : va_D A (mW g0 pq cp v_3 fa_4) := hD1.weaken (fun _ _ _ h => hFc _ h)
  clear hP1 hK1 hD1 hk1 hz1 hvm ht hFc
  obtain ⟨hV_5, hA_6, hR_7, hx_8⟩ := w_1
  dsimp only at hV_5 hA_6 hR_7 hx_8
  have R_9 : mX [0, 10, 11, 12, 13, 14, 15, 41] v fa v_3 fa_4 := mX.st mX.rf hR_7 (by decide +kernel)
  try rw [show (1 : Int32).toInt = 1 from (by decide +kernel)] at hx_8
  exact W.iret (v := r_2) hx hb hr (fun t ht hW => ⟨⟨r_2, (v_3, fa_4), rfl, ⟨hV_5, hA_6, R_9, (by have h9 := hx_8; exact h9)⟩, ⟨by rw [ht]; exact hP, va_K.moved hW.alike hK, hD⟩⟩, hS.F ht⟩) hS.2.2 dX11_heard_7
set_option maxHeartbeats 4000000 in
set_option maxRecDepth 100000 in
theorem c_X11_lost_f (l : Launch) (dC : Nat → ClassId) (dI : Nat → Nat → Nat) (sz : Nat) (g0 : Nat) (pq : Nat → Nat) (cp : Nat → ClassId) (v : Nat → Int32) (fa : Nat → Nat → Int32) (gV : mV v) (gA : mA fa) (x1 : Int32) (x2 : Int32) : Met l yX11_lost wsX11_lost ({ frames := 3, cells := 0, slots := 0, locals := 70 }) (va_Pc [.ref g0, .int x1, .int x2] (pcW (dC, dI) (mT cp) (mW g0 pq cp v fa) sz)) (va_Qi (fun (r : Int32) (u : (Nat → Int32) × (Nat → Nat → Int32)) => mV u.1 ∧ mA u.2 ∧ mX [0, 10, 11, 12, 13, 14, 15, 41] v fa u.1 u.2 ∧ (aHt x1.toInt (v 40).toInt (fa 9 x1.toNatClampNeg).toInt (tldI v fa 2 x1.toInt) (fa 7 x1.toNatClampNeg).toInt x2.toInt (v 38).toInt (v 41).toInt r.toInt ∧ rOr v fa u r (hpN v fa 2 x1 x2 0 0 u))) (fun u t => va_P (dC, dI) vwCl (mW g0 pq cp u.1 u.2) t.heap ∧ va_K (dC, dI) vwCl (mT cp) t ∧ va_D (va_A (mW g0 pq cp v fa) sz) (mW g0 pq cp u.1 u.2)) (va_A (mW g0 pq cp v fa) sz)) 0 0 (va_A (mW g0 pq cp v fa) sz) := by
  refine Met.ofW (cc := cX11_lost) (maxL := 3) (ret := (some .int)) (by decide +kernel) rfl ?_
  intro p e s m args below meth c s₁ B hml hv
  obtain ⟨rfl, hsz, hP, hK, hD0⟩ := hv
  have hx := B.exec
  have hb := B.bytes
  have hr := B.returns
  have hts := atoms_spec (ws := wsX11_lost) B.pre
  have hown : s.vm.findClass RX11 = some m.cls := findClass_of_methodNamed B.named
  have hlocks := B.notSynchronized
  subst hsz
  have hD := hD0.self (sz := s.heap.size)
  generalize hAe : va_A (mW g0 pq cp v fa) s.heap.size = A at hD ⊢
  have hA : ∀ q : Nat, s.heap.size ≤ q → A q := fun q h => by rw [← hAe]; exact Or.inr h
  have hS : va_S A s.heap s.heap [] := va_S.rf
  have hP : va_P (dC, dI) vwCl (mW g0 pq cp v fa) s.heap := hP
  have hl := lv_entry ([.ref g0, .int x1, .int x2]) (n := 3) (Nat.le_of_ble_eq_true rfl)
  rw [lg_entry_eq]
  generalize (lg_sl ([.ref g0, .int x1, .int x2]) ++ List.replicate (3 - (lg_sl ([.ref g0, .int x1, .int x2])).length) Slot.unset).toArray = ls at hl ⊢
  have hl : lv_has ls 3 [(0, .ref g0), (1, .int x1), (2, .int x2)] := hl
  refine lv_aload_n hx hb dX11_lost_0 rfl (lv_at hl 0 rfl) ?_
  refine lv_iconst (v := 2) hx hb dX11_lost_1 (by decide +kernel) ?_
  refine lv_iload_n hx hb dX11_lost_2 rfl (lv_at hl 1 rfl) ?_
  refine lv_iload_n hx hb dX11_lost_3 rfl (lv_at hl 2 rfl) ?_
  have hFc := va_free (wc := (mW g0 pq cp v fa)) hD hS hA (List.range 48) rfl
  refine va_calli (va_runV (As := [.int 2, .int x1, .int x2]) (rest := []) ⟨hx, hb, hml, hown, hts⟩ (c_X11_happensTo_f l dC dI s.heap.size g0 pq cp v fa gV gA 2 (by decide +kernel) x1 x2) (cwV 3 hts gX11_lost_X11_happensTo rfl rfl rfl (by decide +kernel) ⟨(Nat.le_of_ble_eq_true rfl), (Nat.le_of_ble_eq_true rfl)⟩) (pr_V (r := (RX11, TX11, 63)) hP hK hD 0 11 rfl rfl) rfl rfl hl.1 rfl (lv_room (Nat.le_of_ble_eq_true rfl)) dX11_lost_4 ⟨(Nat.le_of_ble_eq_true rfl), (Nat.le_of_ble_eq_true rfl)⟩) hS (fun q _ h => hFc q h) hFc (fun r_2 u t H locs ht hvm w_1 hB hz1 hk1 hS => ?_)
  obtain ⟨v_3, fa_4⟩ := u
  obtain ⟨hP1, hK1, hD1⟩ := hB
  rw [ht] at hP1
  have hP : va_P (dC, dI) vwCl (mW g0 pq cp v_3 fa_4) H := hP1
  have hD : va_D A (mW g0 pq cp v_3 fa_4) := hD1.weaken (fun _ _ _ h => hFc _ h)
  clear hP1 hK1 hD1 hk1 hz1 hvm ht hFc
  obtain ⟨hV_5, hA_6, hR_7, hx_8⟩ := w_1
  dsimp only at hV_5 hA_6 hR_7 hx_8
  have R_9 : mX [0, 10, 11, 12, 13, 14, 15, 41] v fa v_3 fa_4 := mX.st mX.rf hR_7 (by decide +kernel)
  try rw [show (2 : Int32).toInt = 2 from (by decide +kernel)] at hx_8
  exact W.iret (v := r_2) hx hb hr (fun t ht hW => ⟨⟨r_2, (v_3, fa_4), rfl, ⟨hV_5, hA_6, R_9, (by have h9 := hx_8; exact h9)⟩, ⟨by rw [ht]; exact hP, va_K.moved hW.alike hK, hD⟩⟩, hS.F ht⟩) hS.2.2 dX11_lost_7
set_option maxHeartbeats 4000000 in
set_option maxRecDepth 100000 in
theorem c_X11_happensOf_f (l : Launch) (dC : Nat → ClassId) (dI : Nat → Nat → Nat) (sz : Nat) (g0 : Nat) (pq : Nat → Nat) (cp : Nat → ClassId) (v : Nat → Int32) (fa : Nat → Nat → Int32) (gV : mV v) (gA : mA fa) (x1 : Int32) (hx1 : 4 ≤ x1.toInt ∧ x1.toInt ≤ 5) (x2 : Int32) (x3 : Int32) : Met l yX11_happensOf wsX11_happensOf ({ frames := 2, cells := 0, slots := 0, locals := 47 }) (va_Pc [.ref g0, .int x1, .int x2, .int x3] (pcW (dC, dI) (mT cp) (mW g0 pq cp v fa) sz)) (va_Qi (fun (r : Int32) (u : (Nat → Int32) × (Nat → Nat → Int32)) => mV u.1 ∧ mA u.2 ∧ mX [0, 10, 11, 12, 13, 14, 15, 41] v fa u.1 u.2 ∧ (aHo x2.toInt (v 43).toInt (fa 26 x2.toNatClampNeg).toInt (fa 25 x2.toNatClampNeg).toInt x3.toInt (v 38).toInt (v 41).toInt r.toInt ∧ rOr v fa u r (hpN v fa x1 x2 x3 0 0 u))) (fun u t => va_P (dC, dI) vwCl (mW g0 pq cp u.1 u.2) t.heap ∧ va_K (dC, dI) vwCl (mT cp) t ∧ va_D (va_A (mW g0 pq cp v fa) sz) (mW g0 pq cp u.1 u.2)) (va_A (mW g0 pq cp v fa) sz)) 0 0 (va_A (mW g0 pq cp v fa) sz) := by
  refine Met.ofW (cc := cX11_happensOf) (maxL := 4) (ret := (some .int)) (by decide +kernel) rfl ?_
  intro p e s m args below meth c s₁ B hml hv
  obtain ⟨rfl, hsz, hP, hK, hD0⟩ := hv
  have hx := B.exec
  have hb := B.bytes
  have hr := B.returns
  have hts := atoms_spec (ws := wsX11_happensOf) B.pre
  have hown : s.vm.findClass RX11 = some m.cls := findClass_of_methodNamed B.named
  have hlocks := B.notSynchronized
  subst hsz
  have hD := hD0.self (sz := s.heap.size)
  generalize hAe : va_A (mW g0 pq cp v fa) s.heap.size = A at hD ⊢
  have hA : ∀ q : Nat, s.heap.size ≤ q → A q := fun q h => by rw [← hAe]; exact Or.inr h
  have hS : va_S A s.heap s.heap [] := va_S.rf
  have hP : va_P (dC, dI) vwCl (mW g0 pq cp v fa) s.heap := hP
  have hl := lv_entry ([.ref g0, .int x1, .int x2, .int x3]) (n := 4) (Nat.le_of_ble_eq_true rfl)
  rw [lg_entry_eq]
  generalize (lg_sl ([.ref g0, .int x1, .int x2, .int x3]) ++ List.replicate (4 - (lg_sl ([.ref g0, .int x1, .int x2, .int x3])).length) Slot.unset).toArray = ls at hl ⊢
  have hl : lv_has ls 4 [(0, .ref g0), (1, .int x1), (2, .int x2), (3, .int x3)] := hl
  have iv_1 : 0 ≤ (v 38).toInt ∧ (v 38).toInt ≤ 3000 := gV 38
  have iv_2 : 0 ≤ (v 41).toInt ∧ (v 41).toInt ≤ 200 := gV 41
  have iv_3 : 0 ≤ (v 43).toInt ∧ (v 43).toInt ≤ 60 := gV 43
  refine lv_aload_n hx hb dX11_happensOf_0 rfl (lv_at hl 0 rfl) ?_
  refine lv_iload_n hx hb dX11_happensOf_1 rfl (lv_at hl 2 rfl) ?_
  have hFc : ∀ q, va_A [] s.heap.size q → A q := pu_free hS hA
  refine va_calli (va_runV (As := [.int x2]) (rest := []) ⟨hx, hb, hml, hown, hts⟩ (c_X11_isAgreement l dC dI s.heap.size g0 pq cp v fa x2) (cwV 1 hts gX11_happensOf_X11_isAgreement rfl rfl rfl (by decide +kernel) ⟨(Nat.le_of_ble_eq_true rfl), (Nat.le_of_ble_eq_true rfl)⟩) (pr_V (r := (RX11, TX11, 63)) hP hK hD 0 11 rfl rfl) rfl rfl hl.1 rfl (lv_room (Nat.le_of_ble_eq_true rfl)) dX11_happensOf_2 ⟨(Nat.le_of_ble_eq_true rfl), (Nat.le_of_ble_eq_true rfl)⟩) hS (fun q _ h => hFc q h) hFc (fun r_5 u t H locs ht hvm w_4 hB hz1 hk1 hS => ?_)
  have hP := pu_keep hP hk1
  clear hk1 hz1 hvm hB ht hFc
  have hbr_5 : 0 ≤ r_5.toInt ∧ r_5.toInt ≤ 1 := iv_of w_4 (isI_i _ _)
  refine lv_if_ne (tgt := 14) hx hb dX11_happensOf_5 (by decide +kernel) (fun c_6 => ?_) (fun c_6 => ?_)
  · have dc_6 := c_ne (a := r_5.toInt) (b := 0) rfl (by decide +kernel) c_6
    have hi_7 := isI_t w_4 (fun q => c_6 (Int32.toInt_inj.mp q))
    have khi_7 : (v 43).toInt ≤ 60 := (gV 43).2
    refine lv_aload_n hx hb dX11_happensOf_14 rfl (lv_at hl 0 rfl) ?_
    refine va_get (D := (dC, dI)) (ci := 11) (v := .ref (pq 26)) (C := RX11) (T := TX11) (N := 63) hx hb hts in_wsX11_happensOf_X11 hown hK hP 0 rfl rfl 26 (by decide +kernel) (hts (.fieldLink RX11 88 "ShipOfficeModel" "offOn" "[I") iw_X11_happensOf_1) (fun _ h9 => h9) rfl dX11_happensOf_15 ?_
    refine lv_iload_n hx hb dX11_happensOf_18 rfl (lv_at hl 2 rfl) ?_
    refine va_iald hx hb hK hP 27 26 rfl rfl (vp_in_iff.mpr (by omega)) dX11_happensOf_19 ?_
    refine lv_topi (fun x_8 ex_8 => ?_)
    have gx_8 : x_8.toInt = (fa 26 (x2 : Int32).toNatClampNeg).toInt := iv_to ex_8
    clear ex_8
    refine lv_if_lt (tgt := 32) hx hb dX11_happensOf_20 (by decide +kernel) (fun c_9 => ?_) (fun c_9 => ?_)
    · have dc_9 := c_lt (a := x_8.toInt) (b := 0) rfl (by decide +kernel) c_9
      refine lv_aload_n hx hb dX11_happensOf_32 rfl (lv_at hl 0 rfl) ?_
      refine lv_iload_n hx hb dX11_happensOf_33 rfl (lv_at hl 1 rfl) ?_
      refine lv_iload_n hx hb dX11_happensOf_34 rfl (lv_at hl 2 rfl) ?_
      refine lv_iload_n hx hb dX11_happensOf_35 rfl (lv_at hl 3 rfl) ?_
      refine lv_iconst (v := 0) hx hb dX11_happensOf_36 (by decide +kernel) ?_
      refine lv_iconst (v := 0) hx hb dX11_happensOf_37 (by decide +kernel) ?_
      refine lv_aload_n hx hb dX11_happensOf_38 rfl (lv_at hl 0 rfl) ?_
      refine va_get (D := (dC, dI)) (ci := 11) (v := .ref (pq 25)) (C := RX11) (T := TX11) (N := 63) hx hb hts in_wsX11_happensOf_X11 hown hK hP 0 rfl rfl 25 (by decide +kernel) (hts (.fieldLink RX11 85 "ShipOfficeModel" "signed" "[I") iw_X11_happensOf_2) (fun _ h9 => h9) rfl dX11_happensOf_39 ?_
      refine lv_iload_n hx hb dX11_happensOf_42 rfl (lv_at hl 2 rfl) ?_
      refine va_iald hx hb hK hP 26 25 rfl rfl (vp_in_iff.mpr (by omega)) dX11_happensOf_43 ?_
      refine lv_topi (fun x_10 ex_10 => ?_)
      have hx_10 : 0 ≤ x_10.toInt ∧ x_10.toInt ≤ 3000 := iv_of ex_10 (gA 25 _)
      have gx_10 : x_10.toInt = (fa 25 (x2 : Int32).toNatClampNeg).toInt := iv_to ex_10
      clear ex_10
      have hFc := va_free (wc := (mW g0 pq cp v fa)) hD hS hA (List.range 48) rfl
      refine va_calli (va_runV (As := [.int x1, .int x2, .int x3, .int 0, .int 0, .int x_10]) (rest := []) ⟨hx, hb, hml, hown, hts⟩ (c_X11_happens_f l dC dI H.size g0 pq cp v fa gV gA x1 x2 x3 0 0 (by decide +kernel) x_10 (by omega)) (cwV 6 hts gX11_happensOf_X11_happens rfl rfl rfl (by decide +kernel) ⟨(Nat.le_of_ble_eq_true rfl), (Nat.le_of_ble_eq_true rfl)⟩) (pr_V (r := (RX11, TX11, 63)) hP hK hD 0 11 rfl rfl) rfl rfl hl.1 rfl (lv_room (Nat.le_of_ble_eq_true rfl)) dX11_happensOf_44 ⟨(Nat.le_of_ble_eq_true rfl), (Nat.le_of_ble_eq_true rfl)⟩) hS (fun q _ h => hFc q h) hFc (fun r_12 u t H locs ht hvm w_11 hB hz1 hk1 hS => ?_)
      obtain ⟨v_13, fa_14⟩ := u
      obtain ⟨hP1, hK1, hD1⟩ := hB
      rw [ht] at hP1
      have hP : va_P (dC, dI) vwCl (mW g0 pq cp v_13 fa_14) H := hP1
      have hD : va_D A (mW g0 pq cp v_13 fa_14) := hD1.weaken (fun _ _ _ h => hFc _ h)
      clear hP1 hK1 hD1 hk1 hz1 hvm ht hFc
      obtain ⟨hV_15, hA_16, hR_17, hx_18⟩ := w_11
      dsimp only at hV_15 hA_16 hR_17 hx_18
      have g_19 : (v_13 38).toInt = (v 38).toInt := congrArg Int32.toInt (hR_17.1 38 (by decide +kernel))
      have g_20 : (v_13 43).toInt = (v 43).toInt := congrArg Int32.toInt (hR_17.1 43 (by decide +kernel))
      have g_21 : (fa_14 25 (x2 : Int32).toNatClampNeg).toInt = (fa 25 (x2 : Int32).toNatClampNeg).toInt := congrArg (fun h : Nat → Int32 => Int32.toInt (h (x2 : Int32).toNatClampNeg)) (hR_17.2 25 (by decide +kernel))
      have g_22 : (fa_14 26 (x2 : Int32).toNatClampNeg).toInt = (fa 26 (x2 : Int32).toNatClampNeg).toInt := congrArg (fun h : Nat → Int32 => Int32.toInt (h (x2 : Int32).toNatClampNeg)) (hR_17.2 26 (by decide +kernel))
      have R_23 : mX [0, 10, 11, 12, 13, 14, 15, 41] v fa v_13 fa_14 := mX.st mX.rf hR_17 (by decide +kernel)
      try rw [show (0 : Int32).toInt = 0 from (by decide +kernel)] at hx_18
      try rw [show (0 : Int32).toInt = 0 from (by decide +kernel)] at hx_18
      try rw [gx_10] at hx_18
      exact W.iret (v := r_12) hx hb hr (fun t ht hW => ⟨⟨r_12, (v_13, fa_14), rfl, ⟨hV_15, hA_16, R_23, ⟨by obtain ⟨ha, -⟩ := hx_18; (first | exact Or.inr (Or.inr (⟨by omega, by omega, ha⟩)) | (unfold aHo; unfold aHp at *; omega)), hx_18.2⟩⟩, ⟨by rw [ht]; exact hP, va_K.moved hW.alike hK, hD⟩⟩, hS.F ht⟩) hS.2.2 dX11_happensOf_47
    · have dc_9 := c_nlt (a := x_8.toInt) (b := 0) rfl (by decide +kernel) c_9
      refine lv_aload_n hx hb dX11_happensOf_23 rfl (lv_at hl 0 rfl) ?_
      refine lv_bipush (v := (-3)) hx hb dX11_happensOf_24 (by decide +kernel) ?_
      have hFc := va_free (wc := (mW g0 pq cp v fa)) hD hS hA (List.range 48) rfl
      refine va_calli (va_runV (As := [.int (-3)]) (rest := []) ⟨hx, hb, hml, hown, hts⟩ (c_X11_refuse_f l dC dI H.size g0 pq cp v fa (-3) (by unfold vp_in; decide)) (cwV 1 hts gX11_happensOf_X11_refuse rfl rfl rfl (by decide +kernel) ⟨(Nat.le_of_ble_eq_true rfl), (Nat.le_of_ble_eq_true rfl)⟩) (pr_V (r := (RX11, TX11, 63)) hP hK hD 0 11 rfl rfl) rfl rfl hl.1 rfl (lv_room (Nat.le_of_ble_eq_true rfl)) dX11_happensOf_26 ⟨(Nat.le_of_ble_eq_true rfl), (Nat.le_of_ble_eq_true rfl)⟩) hS (fun q _ h => hFc q h) hFc (fun r_25 u t H locs ht hvm w_24 hB hz1 hk1 hS => ?_)
      obtain ⟨v_26, fa_27⟩ := u
      obtain ⟨hP1, hK1, hD1⟩ := hB
      rw [ht] at hP1
      have hP : va_P (dC, dI) vwCl (mW g0 pq cp v_26 fa_27) H := hP1
      have hD : va_D A (mW g0 pq cp v_26 fa_27) := hD1.weaken (fun _ _ _ h => hFc _ h)
      clear hP1 hK1 hD1 hk1 hz1 hvm ht hFc
      obtain ⟨rfl, hs1_28⟩ := w_24
      have hVv_26 : mV v_26 := sm0_V (sm1_0 hs1_28) gV
      have hAv_26 : mA fa_27 := sm0_A (sm1_0 hs1_28) gA
      have g_29 : (v_26 38).toInt = (v 38).toInt := congrArg Int32.toInt (congrFun hs1_28.1 38)
      have g_30 : (v_26 41).toInt = (v 41).toInt := congrArg Int32.toInt (congrFun hs1_28.1 41)
      have g_31 : (v_26 43).toInt = (v 43).toInt := congrArg Int32.toInt (congrFun hs1_28.1 43)
      have hRv_26 : mX [0, 10, 11, 12, 13, 14, 15, 41] v fa v_26 fa_27 := mX.st mX.rf (mX.s0 (sm1_0 hs1_28)) (by decide +kernel)
      refine lv_goto (tgt := 47) hx hb dX11_happensOf_29 (by decide +kernel) ?_
      exact W.iret (v := (-3)) hx hb hr (fun t ht hW => ⟨⟨(-3), (v_26, fa_27), rfl, ⟨hVv_26, hAv_26, hRv_26, ⟨by have rc : ((-3) : Int32).toInt = -3 := (by decide +kernel); (first | exact Or.inr (Or.inl ⟨by omega, by omega, by omega⟩) | (unfold aHo; omega)), (Or.inl ⟨by decide, hs1_28⟩)⟩⟩, ⟨by rw [ht]; exact hP, va_K.moved hW.alike hK, hD⟩⟩, hS.F ht⟩) hS.2.2 dX11_happensOf_47
  · have dc_6 := c_eq (a := r_5.toInt) (b := 0) rfl (by decide +kernel) c_6
    have hz_32 := isI_0 (w_4.symm.trans c_6)
    refine lv_aload_n hx hb dX11_happensOf_8 rfl (lv_at hl 0 rfl) ?_
    refine lv_iconst (v := (-1)) hx hb dX11_happensOf_9 (by decide +kernel) ?_
    have hFc := va_free (wc := (mW g0 pq cp v fa)) hD hS hA (List.range 48) rfl
    refine va_calli (va_runV (As := [.int (-1)]) (rest := []) ⟨hx, hb, hml, hown, hts⟩ (c_X11_refuse_f l dC dI H.size g0 pq cp v fa (-1) (by unfold vp_in; decide)) (cwV 1 hts gX11_happensOf_X11_refuse rfl rfl rfl (by decide +kernel) ⟨(Nat.le_of_ble_eq_true rfl), (Nat.le_of_ble_eq_true rfl)⟩) (pr_V (r := (RX11, TX11, 63)) hP hK hD 0 11 rfl rfl) rfl rfl hl.1 rfl (lv_room (Nat.le_of_ble_eq_true rfl)) dX11_happensOf_10 ⟨(Nat.le_of_ble_eq_true rfl), (Nat.le_of_ble_eq_true rfl)⟩) hS (fun q _ h => hFc q h) hFc (fun r_34 u t H locs ht hvm w_33 hB hz1 hk1 hS => ?_)
    obtain ⟨v_35, fa_36⟩ := u
    obtain ⟨hP1, hK1, hD1⟩ := hB
    rw [ht] at hP1
    have hP : va_P (dC, dI) vwCl (mW g0 pq cp v_35 fa_36) H := hP1
    have hD : va_D A (mW g0 pq cp v_35 fa_36) := hD1.weaken (fun _ _ _ h => hFc _ h)
    clear hP1 hK1 hD1 hk1 hz1 hvm ht hFc
    obtain ⟨rfl, hs1_37⟩ := w_33
    have hVv_35 : mV v_35 := sm0_V (sm1_0 hs1_37) gV
    have hAv_35 : mA fa_36 := sm0_A (sm1_0 hs1_37) gA
    have g_38 : (v_35 38).toInt = (v 38).toInt := congrArg Int32.toInt (congrFun hs1_37.1 38)
    have g_39 : (v_35 41).toInt = (v 41).toInt := congrArg Int32.toInt (congrFun hs1_37.1 41)
    have g_40 : (v_35 43).toInt = (v 43).toInt := congrArg Int32.toInt (congrFun hs1_37.1 43)
    have hRv_35 : mX [0, 10, 11, 12, 13, 14, 15, 41] v fa v_35 fa_36 := mX.st mX.rf (mX.s0 (sm1_0 hs1_37)) (by decide +kernel)
    exact W.iret (v := (-1)) hx hb hr (fun t ht hW => ⟨⟨(-1), (v_35, fa_36), rfl, ⟨hVv_35, hAv_35, hRv_35, ⟨by have rc : ((-1) : Int32).toInt = -1 := (by decide +kernel); (first | exact Or.inl ⟨by omega, by omega⟩ | (unfold aHo; omega)), (Or.inl ⟨by decide, hs1_37⟩)⟩⟩, ⟨by rw [ht]; exact hP, va_K.moved hW.alike hK, hD⟩⟩, hS.F ht⟩) hS.2.2 dX11_happensOf_13
set_option maxHeartbeats 4000000 in
set_option maxRecDepth 100000 in
theorem c_X11_died_f (l : Launch) (dC : Nat → ClassId) (dI : Nat → Nat → Nat) (sz : Nat) (g0 : Nat) (pq : Nat → Nat) (cp : Nat → ClassId) (v : Nat → Int32) (fa : Nat → Nat → Int32) (gV : mV v) (gA : mA fa) (x1 : Int32) (x2 : Int32) : Met l yX11_died wsX11_died ({ frames := 3, cells := 0, slots := 0, locals := 70 }) (va_Pc [.ref g0, .int x1, .int x2] (pcW (dC, dI) (mT cp) (mW g0 pq cp v fa) sz)) (va_Qi (fun (r : Int32) (u : (Nat → Int32) × (Nat → Nat → Int32)) => mV u.1 ∧ mA u.2 ∧ mX [0, 10, 11, 12, 13, 14, 15, 41] v fa u.1 u.2 ∧ (aHo x1.toInt (v 43).toInt (fa 26 x1.toNatClampNeg).toInt (fa 25 x1.toNatClampNeg).toInt x2.toInt (v 38).toInt (v 41).toInt r.toInt ∧ rOr v fa u r (hpN v fa 4 x1 x2 0 0 u))) (fun u t => va_P (dC, dI) vwCl (mW g0 pq cp u.1 u.2) t.heap ∧ va_K (dC, dI) vwCl (mT cp) t ∧ va_D (va_A (mW g0 pq cp v fa) sz) (mW g0 pq cp u.1 u.2)) (va_A (mW g0 pq cp v fa) sz)) 0 0 (va_A (mW g0 pq cp v fa) sz) := by
  refine Met.ofW (cc := cX11_died) (maxL := 3) (ret := (some .int)) (by decide +kernel) rfl ?_
  intro p e s m args below meth c s₁ B hml hv
  obtain ⟨rfl, hsz, hP, hK, hD0⟩ := hv
  have hx := B.exec
  have hb := B.bytes
  have hr := B.returns
  have hts := atoms_spec (ws := wsX11_died) B.pre
  have hown : s.vm.findClass RX11 = some m.cls := findClass_of_methodNamed B.named
  have hlocks := B.notSynchronized
  subst hsz
  have hD := hD0.self (sz := s.heap.size)
  generalize hAe : va_A (mW g0 pq cp v fa) s.heap.size = A at hD ⊢
  have hA : ∀ q : Nat, s.heap.size ≤ q → A q := fun q h => by rw [← hAe]; exact Or.inr h
  have hS : va_S A s.heap s.heap [] := va_S.rf
  have hP : va_P (dC, dI) vwCl (mW g0 pq cp v fa) s.heap := hP
  have hl := lv_entry ([.ref g0, .int x1, .int x2]) (n := 3) (Nat.le_of_ble_eq_true rfl)
  rw [lg_entry_eq]
  generalize (lg_sl ([.ref g0, .int x1, .int x2]) ++ List.replicate (3 - (lg_sl ([.ref g0, .int x1, .int x2])).length) Slot.unset).toArray = ls at hl ⊢
  have hl : lv_has ls 3 [(0, .ref g0), (1, .int x1), (2, .int x2)] := hl
  refine lv_aload_n hx hb dX11_died_0 rfl (lv_at hl 0 rfl) ?_
  refine lv_iconst (v := 4) hx hb dX11_died_1 (by decide +kernel) ?_
  refine lv_iload_n hx hb dX11_died_2 rfl (lv_at hl 1 rfl) ?_
  refine lv_iload_n hx hb dX11_died_3 rfl (lv_at hl 2 rfl) ?_
  have hFc := va_free (wc := (mW g0 pq cp v fa)) hD hS hA (List.range 48) rfl
  refine va_calli (va_runV (As := [.int 4, .int x1, .int x2]) (rest := []) ⟨hx, hb, hml, hown, hts⟩ (c_X11_happensOf_f l dC dI s.heap.size g0 pq cp v fa gV gA 4 (by decide +kernel) x1 x2) (cwV 3 hts gX11_died_X11_happensOf rfl rfl rfl (by decide +kernel) ⟨(Nat.le_of_ble_eq_true rfl), (Nat.le_of_ble_eq_true rfl)⟩) (pr_V (r := (RX11, TX11, 63)) hP hK hD 0 11 rfl rfl) rfl rfl hl.1 rfl (lv_room (Nat.le_of_ble_eq_true rfl)) dX11_died_4 ⟨(Nat.le_of_ble_eq_true rfl), (Nat.le_of_ble_eq_true rfl)⟩) hS (fun q _ h => hFc q h) hFc (fun r_2 u t H locs ht hvm w_1 hB hz1 hk1 hS => ?_)
  obtain ⟨v_3, fa_4⟩ := u
  obtain ⟨hP1, hK1, hD1⟩ := hB
  rw [ht] at hP1
  have hP : va_P (dC, dI) vwCl (mW g0 pq cp v_3 fa_4) H := hP1
  have hD : va_D A (mW g0 pq cp v_3 fa_4) := hD1.weaken (fun _ _ _ h => hFc _ h)
  clear hP1 hK1 hD1 hk1 hz1 hvm ht hFc
  obtain ⟨hV_5, hA_6, hR_7, hx_8⟩ := w_1
  dsimp only at hV_5 hA_6 hR_7 hx_8
  have R_9 : mX [0, 10, 11, 12, 13, 14, 15, 41] v fa v_3 fa_4 := mX.st mX.rf hR_7 (by decide +kernel)
  try rw [show (4 : Int32).toInt = 4 from (by decide +kernel)] at hx_8
  exact W.iret (v := r_2) hx hb hr (fun t ht hW => ⟨⟨r_2, (v_3, fa_4), rfl, ⟨hV_5, hA_6, R_9, hx_8⟩, ⟨by rw [ht]; exact hP, va_K.moved hW.alike hK, hD⟩⟩, hS.F ht⟩) hS.2.2 dX11_died_7
set_option maxHeartbeats 4000000 in
set_option maxRecDepth 100000 in
theorem c_X11_back_f (l : Launch) (dC : Nat → ClassId) (dI : Nat → Nat → Nat) (sz : Nat) (g0 : Nat) (pq : Nat → Nat) (cp : Nat → ClassId) (v : Nat → Int32) (fa : Nat → Nat → Int32) (gV : mV v) (gA : mA fa) (x1 : Int32) (x2 : Int32) : Met l yX11_back wsX11_back ({ frames := 3, cells := 0, slots := 0, locals := 70 }) (va_Pc [.ref g0, .int x1, .int x2] (pcW (dC, dI) (mT cp) (mW g0 pq cp v fa) sz)) (va_Qi (fun (r : Int32) (u : (Nat → Int32) × (Nat → Nat → Int32)) => mV u.1 ∧ mA u.2 ∧ mX [0, 10, 11, 12, 13, 14, 15, 41] v fa u.1 u.2 ∧ (aHo x1.toInt (v 43).toInt (fa 26 x1.toNatClampNeg).toInt (fa 25 x1.toNatClampNeg).toInt x2.toInt (v 38).toInt (v 41).toInt r.toInt ∧ rOr v fa u r (hpN v fa 5 x1 x2 0 0 u))) (fun u t => va_P (dC, dI) vwCl (mW g0 pq cp u.1 u.2) t.heap ∧ va_K (dC, dI) vwCl (mT cp) t ∧ va_D (va_A (mW g0 pq cp v fa) sz) (mW g0 pq cp u.1 u.2)) (va_A (mW g0 pq cp v fa) sz)) 0 0 (va_A (mW g0 pq cp v fa) sz) := by
  refine Met.ofW (cc := cX11_back) (maxL := 3) (ret := (some .int)) (by decide +kernel) rfl ?_
  intro p e s m args below meth c s₁ B hml hv
  obtain ⟨rfl, hsz, hP, hK, hD0⟩ := hv
  have hx := B.exec
  have hb := B.bytes
  have hr := B.returns
  have hts := atoms_spec (ws := wsX11_back) B.pre
  have hown : s.vm.findClass RX11 = some m.cls := findClass_of_methodNamed B.named
  have hlocks := B.notSynchronized
  subst hsz
  have hD := hD0.self (sz := s.heap.size)
  generalize hAe : va_A (mW g0 pq cp v fa) s.heap.size = A at hD ⊢
  have hA : ∀ q : Nat, s.heap.size ≤ q → A q := fun q h => by rw [← hAe]; exact Or.inr h
  have hS : va_S A s.heap s.heap [] := va_S.rf
  have hP : va_P (dC, dI) vwCl (mW g0 pq cp v fa) s.heap := hP
  have hl := lv_entry ([.ref g0, .int x1, .int x2]) (n := 3) (Nat.le_of_ble_eq_true rfl)
  rw [lg_entry_eq]
  generalize (lg_sl ([.ref g0, .int x1, .int x2]) ++ List.replicate (3 - (lg_sl ([.ref g0, .int x1, .int x2])).length) Slot.unset).toArray = ls at hl ⊢
  have hl : lv_has ls 3 [(0, .ref g0), (1, .int x1), (2, .int x2)] := hl
  refine lv_aload_n hx hb dX11_back_0 rfl (lv_at hl 0 rfl) ?_
  refine lv_iconst (v := 5) hx hb dX11_back_1 (by decide +kernel) ?_
  refine lv_iload_n hx hb dX11_back_2 rfl (lv_at hl 1 rfl) ?_
  refine lv_iload_n hx hb dX11_back_3 rfl (lv_at hl 2 rfl) ?_
  have hFc := va_free (wc := (mW g0 pq cp v fa)) hD hS hA (List.range 48) rfl
  refine va_calli (va_runV (As := [.int 5, .int x1, .int x2]) (rest := []) ⟨hx, hb, hml, hown, hts⟩ (c_X11_happensOf_f l dC dI s.heap.size g0 pq cp v fa gV gA 5 (by decide +kernel) x1 x2) (cwV 3 hts gX11_back_X11_happensOf rfl rfl rfl (by decide +kernel) ⟨(Nat.le_of_ble_eq_true rfl), (Nat.le_of_ble_eq_true rfl)⟩) (pr_V (r := (RX11, TX11, 63)) hP hK hD 0 11 rfl rfl) rfl rfl hl.1 rfl (lv_room (Nat.le_of_ble_eq_true rfl)) dX11_back_4 ⟨(Nat.le_of_ble_eq_true rfl), (Nat.le_of_ble_eq_true rfl)⟩) hS (fun q _ h => hFc q h) hFc (fun r_2 u t H locs ht hvm w_1 hB hz1 hk1 hS => ?_)
  obtain ⟨v_3, fa_4⟩ := u
  obtain ⟨hP1, hK1, hD1⟩ := hB
  rw [ht] at hP1
  have hP : va_P (dC, dI) vwCl (mW g0 pq cp v_3 fa_4) H := hP1
  have hD : va_D A (mW g0 pq cp v_3 fa_4) := hD1.weaken (fun _ _ _ h => hFc _ h)
  clear hP1 hK1 hD1 hk1 hz1 hvm ht hFc
  obtain ⟨hV_5, hA_6, hR_7, hx_8⟩ := w_1
  dsimp only at hV_5 hA_6 hR_7 hx_8
  have R_9 : mX [0, 10, 11, 12, 13, 14, 15, 41] v fa v_3 fa_4 := mX.st mX.rf hR_7 (by decide +kernel)
  try rw [show (5 : Int32).toInt = 5 from (by decide +kernel)] at hx_8
  exact W.iret (v := r_2) hx hb hr (fun t ht hW => ⟨⟨r_2, (v_3, fa_4), rfl, ⟨hV_5, hA_6, R_9, hx_8⟩, ⟨by rw [ht]; exact hP, va_K.moved hW.alike hK, hD⟩⟩, hS.F ht⟩) hS.2.2 dX11_back_7
set_option maxHeartbeats 4000000 in
set_option maxRecDepth 100000 in
theorem c_X11_left_f (l : Launch) (dC : Nat → ClassId) (dI : Nat → Nat → Nat) (sz : Nat) (g0 : Nat) (pq : Nat → Nat) (cp : Nat → ClassId) (v : Nat → Int32) (fa : Nat → Nat → Int32) (gV : mV v) (gA : mA fa) (x1 : Int32) (x2 : Int32) (x3 : Int32) (x4 : Int32) : Met l yX11_left wsX11_left ({ frames := 2, cells := 0, slots := 0, locals := 47 }) (va_Pc [.ref g0, .int x1, .int x2, .int x3, .int x4] (pcW (dC, dI) (mT cp) (mW g0 pq cp v fa) sz)) (va_Qi (fun (r : Int32) (u : (Nat → Int32) × (Nat → Nat → Int32)) => mV u.1 ∧ mA u.2 ∧ mX [0, 10, 11, 12, 13, 14, 15, 41] v fa u.1 u.2 ∧ (aLe x1.toInt (v 43).toInt x4.toInt x3.toInt (fa 26 x1.toNatClampNeg).toInt (fa 25 x1.toNatClampNeg).toInt x2.toInt (v 38).toInt (v 41).toInt r.toInt ∧ rOr v fa u r (hpN v fa 3 x1 x2 x3 x4 u))) (fun u t => va_P (dC, dI) vwCl (mW g0 pq cp u.1 u.2) t.heap ∧ va_K (dC, dI) vwCl (mT cp) t ∧ va_D (va_A (mW g0 pq cp v fa) sz) (mW g0 pq cp u.1 u.2)) (va_A (mW g0 pq cp v fa) sz)) 0 0 (va_A (mW g0 pq cp v fa) sz) := by
  refine Met.ofW (cc := cX11_left) (maxL := 5) (ret := (some .int)) (by decide +kernel) rfl ?_
  intro p e s m args below meth c s₁ B hml hv
  obtain ⟨rfl, hsz, hP, hK, hD0⟩ := hv
  have hx := B.exec
  have hb := B.bytes
  have hr := B.returns
  have hts := atoms_spec (ws := wsX11_left) B.pre
  have hown : s.vm.findClass RX11 = some m.cls := findClass_of_methodNamed B.named
  have hlocks := B.notSynchronized
  subst hsz
  have hD := hD0.self (sz := s.heap.size)
  generalize hAe : va_A (mW g0 pq cp v fa) s.heap.size = A at hD ⊢
  have hA : ∀ q : Nat, s.heap.size ≤ q → A q := fun q h => by rw [← hAe]; exact Or.inr h
  have hS : va_S A s.heap s.heap [] := va_S.rf
  have hP : va_P (dC, dI) vwCl (mW g0 pq cp v fa) s.heap := hP
  have hl := lv_entry ([.ref g0, .int x1, .int x2, .int x3, .int x4]) (n := 5) (Nat.le_of_ble_eq_true rfl)
  rw [lg_entry_eq]
  generalize (lg_sl ([.ref g0, .int x1, .int x2, .int x3, .int x4]) ++ List.replicate (5 - (lg_sl ([.ref g0, .int x1, .int x2, .int x3, .int x4])).length) Slot.unset).toArray = ls at hl ⊢
  have hl : lv_has ls 5 [(0, .ref g0), (1, .int x1), (2, .int x2), (3, .int x3), (4, .int x4)] := hl
  have iv_1 : 0 ≤ (v 38).toInt ∧ (v 38).toInt ≤ 3000 := gV 38
  have iv_2 : 0 ≤ (v 41).toInt ∧ (v 41).toInt ≤ 200 := gV 41
  have iv_3 : 0 ≤ (v 43).toInt ∧ (v 43).toInt ≤ 60 := gV 43
  refine lv_aload_n hx hb dX11_left_0 rfl (lv_at hl 0 rfl) ?_
  refine lv_iload_n hx hb dX11_left_1 rfl (lv_at hl 1 rfl) ?_
  have hFc : ∀ q, va_A [] s.heap.size q → A q := pu_free hS hA
  refine va_calli (va_runV (As := [.int x1]) (rest := []) ⟨hx, hb, hml, hown, hts⟩ (c_X11_isAgreement l dC dI s.heap.size g0 pq cp v fa x1) (cwV 1 hts gX11_left_X11_isAgreement rfl rfl rfl (by decide +kernel) ⟨(Nat.le_of_ble_eq_true rfl), (Nat.le_of_ble_eq_true rfl)⟩) (pr_V (r := (RX11, TX11, 63)) hP hK hD 0 11 rfl rfl) rfl rfl hl.1 rfl (lv_room (Nat.le_of_ble_eq_true rfl)) dX11_left_2 ⟨(Nat.le_of_ble_eq_true rfl), (Nat.le_of_ble_eq_true rfl)⟩) hS (fun q _ h => hFc q h) hFc (fun r_5 u t H locs ht hvm w_4 hB hz1 hk1 hS => ?_)
  have hP := pu_keep hP hk1
  clear hk1 hz1 hvm hB ht hFc
  have hbr_5 : 0 ≤ r_5.toInt ∧ r_5.toInt ≤ 1 := iv_of w_4 (isI_i _ _)
  refine lv_if_eq (tgt := 16) hx hb dX11_left_5 (by decide +kernel) (fun c_6 => ?_) (fun c_6 => ?_)
  · have dc_6 := c_eq (a := r_5.toInt) (b := 0) rfl (by decide +kernel) c_6
    have hz_7 := isI_0 (w_4.symm.trans c_6)
    refine lv_aload_n hx hb dX11_left_16 rfl (lv_at hl 0 rfl) ?_
    refine lv_iconst (v := (-1)) hx hb dX11_left_17 (by decide +kernel) ?_
    have hFc := va_free (wc := (mW g0 pq cp v fa)) hD hS hA (List.range 48) rfl
    refine va_calli (va_runV (As := [.int (-1)]) (rest := []) ⟨hx, hb, hml, hown, hts⟩ (c_X11_refuse_f l dC dI H.size g0 pq cp v fa (-1) (by unfold vp_in; decide)) (cwV 1 hts gX11_left_X11_refuse rfl rfl rfl (by decide +kernel) ⟨(Nat.le_of_ble_eq_true rfl), (Nat.le_of_ble_eq_true rfl)⟩) (pr_V (r := (RX11, TX11, 63)) hP hK hD 0 11 rfl rfl) rfl rfl hl.1 rfl (lv_room (Nat.le_of_ble_eq_true rfl)) dX11_left_18 ⟨(Nat.le_of_ble_eq_true rfl), (Nat.le_of_ble_eq_true rfl)⟩) hS (fun q _ h => hFc q h) hFc (fun r_9 u t H locs ht hvm w_8 hB hz1 hk1 hS => ?_)
    obtain ⟨v_10, fa_11⟩ := u
    obtain ⟨hP1, hK1, hD1⟩ := hB
    rw [ht] at hP1
    have hP : va_P (dC, dI) vwCl (mW g0 pq cp v_10 fa_11) H := hP1
    have hD : va_D A (mW g0 pq cp v_10 fa_11) := hD1.weaken (fun _ _ _ h => hFc _ h)
    clear hP1 hK1 hD1 hk1 hz1 hvm ht hFc
    obtain ⟨rfl, hs1_12⟩ := w_8
    have hVv_10 : mV v_10 := sm0_V (sm1_0 hs1_12) gV
    have hAv_10 : mA fa_11 := sm0_A (sm1_0 hs1_12) gA
    have g_13 : (v_10 38).toInt = (v 38).toInt := congrArg Int32.toInt (congrFun hs1_12.1 38)
    have g_14 : (v_10 41).toInt = (v 41).toInt := congrArg Int32.toInt (congrFun hs1_12.1 41)
    have g_15 : (v_10 43).toInt = (v 43).toInt := congrArg Int32.toInt (congrFun hs1_12.1 43)
    have hRv_10 : mX [0, 10, 11, 12, 13, 14, 15, 41] v fa v_10 fa_11 := mX.st mX.rf (mX.s0 (sm1_0 hs1_12)) (by decide +kernel)
    exact W.iret (v := (-1)) hx hb hr (fun t ht hW => ⟨⟨(-1), (v_10, fa_11), rfl, ⟨hVv_10, hAv_10, hRv_10, ⟨by have rc : ((-1) : Int32).toInt = -1 := (by decide +kernel); (first | exact Or.inl ⟨by omega, by omega⟩ | (unfold aLe; omega)), (Or.inl ⟨by decide, hs1_12⟩)⟩⟩, ⟨by rw [ht]; exact hP, va_K.moved hW.alike hK, hD⟩⟩, hS.F ht⟩) hS.2.2 dX11_left_21
  · have dc_6 := c_ne (a := r_5.toInt) (b := 0) rfl (by decide +kernel) c_6
    have hi_16 := isI_t w_4 (fun q => c_6 (Int32.toInt_inj.mp q))
    have khi_16 : (v 43).toInt ≤ 60 := (gV 43).2
    refine lv_iload hx hb dX11_left_8 (lv_at hl 4 rfl) ?_
    have hFc : ∀ q, va_A [] H.size q → A q := pu_free hS hA
    have hPc := hP.sub (ws' := []) [] rfl
    have hDc := hD.sub (ws' := []) [] (by decide +kernel) rfl
    have hKc := hK.sub (tys' := []) [] rfl
    refine va_calli (va_runS (As := [.int x4]) (rest := []) ⟨hx, hb, hml, hown, hts⟩ (c_X11_isPort l dC dI H.size x4) (va_cwS 1 hts gX11_left_X11_isPort rfl rfl rfl (by decide +kernel) ⟨(Nat.le_of_ble_eq_true rfl), (Nat.le_of_ble_eq_true rfl)⟩) (pr_S hPc hKc hDc) rfl rfl hl.1 rfl (lv_room (Nat.le_of_ble_eq_true rfl)) dX11_left_10 ⟨(Nat.le_of_ble_eq_true rfl), (Nat.le_of_ble_eq_true rfl)⟩) hS (fun q _ h => hFc q h) hFc (fun r_18 u t H locs ht hvm w_17 hB hz1 hk1 hS => ?_)
    have hP := pu_keep hP hk1
    clear hk1 hz1 hvm hB ht hFc hPc hDc hKc
    have hbr_18 : 0 ≤ r_18.toInt ∧ r_18.toInt ≤ 1 := iv_of w_17 (isI_i _ _)
    refine lv_if_ne (tgt := 22) hx hb dX11_left_13 (by decide +kernel) (fun c_19 => ?_) (fun c_19 => ?_)
    · have dc_19 := c_ne (a := r_18.toInt) (b := 0) rfl (by decide +kernel) c_19
      have hi_20 := isI_t w_17 (fun q => c_19 (Int32.toInt_inj.mp q))
      have khi_20 : (10 : Int32).toInt = 10 := by decide
      refine lv_iload_n hx hb dX11_left_22 rfl (lv_at hl 3 rfl) ?_
      refine lv_iconst (v := 3) hx hb dX11_left_23 (by decide +kernel) ?_
      have hFc : ∀ q, va_A [] H.size q → A q := pu_free hS hA
      have hPc := hP.sub (ws' := []) [] rfl
      have hDc := hD.sub (ws' := []) [] (by decide +kernel) rfl
      have hKc := hK.sub (tys' := []) [] rfl
      refine va_calli (va_runS (As := [.int x3, .int 3]) (rest := []) ⟨hx, hb, hml, hown, hts⟩ (c_X11_isIn l dC dI H.size x3 3) (va_cwS 2 hts gX11_left_X11_isIn rfl rfl rfl (by decide +kernel) ⟨(Nat.le_of_ble_eq_true rfl), (Nat.le_of_ble_eq_true rfl)⟩) (pr_S hPc hKc hDc) rfl rfl hl.1 rfl (lv_room (Nat.le_of_ble_eq_true rfl)) dX11_left_24 ⟨(Nat.le_of_ble_eq_true rfl), (Nat.le_of_ble_eq_true rfl)⟩) hS (fun q _ h => hFc q h) hFc (fun r_22 u t H locs ht hvm w_21 hB hz1 hk1 hS => ?_)
      have hP := pu_keep hP hk1
      clear hk1 hz1 hvm hB ht hFc hPc hDc hKc
      have hbr_22 : 0 ≤ r_22.toInt ∧ r_22.toInt ≤ 1 := iv_of w_21 (isI_i _ _)
      refine lv_if_ne (tgt := 37) hx hb dX11_left_27 (by decide +kernel) (fun c_23 => ?_) (fun c_23 => ?_)
      · have dc_23 := c_ne (a := r_22.toInt) (b := 0) rfl (by decide +kernel) c_23
        have hi_24 := isI_t w_21 (fun q => c_23 (Int32.toInt_inj.mp q))
        have khi_24 : (3 : Int32).toInt = 3 := by decide
        refine lv_aload_n hx hb dX11_left_37 rfl (lv_at hl 0 rfl) ?_
        refine va_get (D := (dC, dI)) (ci := 11) (v := .ref (pq 26)) (C := RX11) (T := TX11) (N := 63) hx hb hts in_wsX11_left_X11 hown hK hP 0 rfl rfl 26 (by decide +kernel) (hts (.fieldLink RX11 88 "ShipOfficeModel" "offOn" "[I") iw_X11_left_1) (fun _ h9 => h9) rfl dX11_left_38 ?_
        refine lv_iload_n hx hb dX11_left_41 rfl (lv_at hl 1 rfl) ?_
        refine va_iald hx hb hK hP 27 26 rfl rfl (vp_in_iff.mpr (by omega)) dX11_left_42 ?_
        refine lv_topi (fun x_25 ex_25 => ?_)
        have gx_25 : x_25.toInt = (fa 26 (x1 : Int32).toNatClampNeg).toInt := iv_to ex_25
        clear ex_25
        refine lv_if_lt (tgt := 55) hx hb dX11_left_43 (by decide +kernel) (fun c_26 => ?_) (fun c_26 => ?_)
        · have dc_26 := c_lt (a := x_25.toInt) (b := 0) rfl (by decide +kernel) c_26
          refine lv_aload_n hx hb dX11_left_55 rfl (lv_at hl 0 rfl) ?_
          refine lv_iconst (v := 3) hx hb dX11_left_56 (by decide +kernel) ?_
          refine lv_iload_n hx hb dX11_left_57 rfl (lv_at hl 1 rfl) ?_
          refine lv_iload_n hx hb dX11_left_58 rfl (lv_at hl 2 rfl) ?_
          refine lv_iload_n hx hb dX11_left_59 rfl (lv_at hl 3 rfl) ?_
          refine lv_iload hx hb dX11_left_60 (lv_at hl 4 rfl) ?_
          refine lv_aload_n hx hb dX11_left_62 rfl (lv_at hl 0 rfl) ?_
          refine va_get (D := (dC, dI)) (ci := 11) (v := .ref (pq 25)) (C := RX11) (T := TX11) (N := 63) hx hb hts in_wsX11_left_X11 hown hK hP 0 rfl rfl 25 (by decide +kernel) (hts (.fieldLink RX11 85 "ShipOfficeModel" "signed" "[I") iw_X11_left_2) (fun _ h9 => h9) rfl dX11_left_63 ?_
          refine lv_iload_n hx hb dX11_left_66 rfl (lv_at hl 1 rfl) ?_
          refine va_iald hx hb hK hP 26 25 rfl rfl (vp_in_iff.mpr (by omega)) dX11_left_67 ?_
          refine lv_topi (fun x_27 ex_27 => ?_)
          have hx_27 : 0 ≤ x_27.toInt ∧ x_27.toInt ≤ 3000 := iv_of ex_27 (gA 25 _)
          have gx_27 : x_27.toInt = (fa 25 (x1 : Int32).toNatClampNeg).toInt := iv_to ex_27
          clear ex_27
          have hFc := va_free (wc := (mW g0 pq cp v fa)) hD hS hA (List.range 48) rfl
          refine va_calli (va_runV (As := [.int 3, .int x1, .int x2, .int x3, .int x4, .int x_27]) (rest := []) ⟨hx, hb, hml, hown, hts⟩ (c_X11_happens_f l dC dI H.size g0 pq cp v fa gV gA 3 x1 x2 x3 x4 (by omega) x_27 (by omega)) (cwV 6 hts gX11_left_X11_happens rfl rfl rfl (by decide +kernel) ⟨(Nat.le_of_ble_eq_true rfl), (Nat.le_of_ble_eq_true rfl)⟩) (pr_V (r := (RX11, TX11, 63)) hP hK hD 0 11 rfl rfl) rfl rfl hl.1 rfl (lv_room (Nat.le_of_ble_eq_true rfl)) dX11_left_68 ⟨(Nat.le_of_ble_eq_true rfl), (Nat.le_of_ble_eq_true rfl)⟩) hS (fun q _ h => hFc q h) hFc (fun r_29 u t H locs ht hvm w_28 hB hz1 hk1 hS => ?_)
          obtain ⟨v_30, fa_31⟩ := u
          obtain ⟨hP1, hK1, hD1⟩ := hB
          rw [ht] at hP1
          have hP : va_P (dC, dI) vwCl (mW g0 pq cp v_30 fa_31) H := hP1
          have hD : va_D A (mW g0 pq cp v_30 fa_31) := hD1.weaken (fun _ _ _ h => hFc _ h)
          clear hP1 hK1 hD1 hk1 hz1 hvm ht hFc
          obtain ⟨hV_32, hA_33, hR_34, hx_35⟩ := w_28
          dsimp only at hV_32 hA_33 hR_34 hx_35
          have g_36 : (v_30 38).toInt = (v 38).toInt := congrArg Int32.toInt (hR_34.1 38 (by decide +kernel))
          have g_37 : (v_30 43).toInt = (v 43).toInt := congrArg Int32.toInt (hR_34.1 43 (by decide +kernel))
          have g_38 : (fa_31 25 (x1 : Int32).toNatClampNeg).toInt = (fa 25 (x1 : Int32).toNatClampNeg).toInt := congrArg (fun h : Nat → Int32 => Int32.toInt (h (x1 : Int32).toNatClampNeg)) (hR_34.2 25 (by decide +kernel))
          have g_39 : (fa_31 26 (x1 : Int32).toNatClampNeg).toInt = (fa 26 (x1 : Int32).toNatClampNeg).toInt := congrArg (fun h : Nat → Int32 => Int32.toInt (h (x1 : Int32).toNatClampNeg)) (hR_34.2 26 (by decide +kernel))
          have R_40 : mX [0, 10, 11, 12, 13, 14, 15, 41] v fa v_30 fa_31 := mX.st mX.rf hR_34 (by decide +kernel)
          try rw [show (3 : Int32).toInt = 3 from (by decide +kernel)] at hx_35
          try rw [gx_27] at hx_35
          exact W.iret (v := r_29) hx hb hr (fun t ht hW => ⟨⟨r_29, (v_30, fa_31), rfl, ⟨hV_32, hA_33, R_40, ⟨by obtain ⟨ha, -⟩ := hx_35; (first | exact Or.inr (Or.inr (Or.inr (⟨by omega, by omega, by omega, ha⟩))) | (unfold aLe; unfold aHp at *; omega)), hx_35.2⟩⟩, ⟨by rw [ht]; exact hP, va_K.moved hW.alike hK, hD⟩⟩, hS.F ht⟩) hS.2.2 dX11_left_71
        · have dc_26 := c_nlt (a := x_25.toInt) (b := 0) rfl (by decide +kernel) c_26
          refine lv_aload_n hx hb dX11_left_46 rfl (lv_at hl 0 rfl) ?_
          refine lv_bipush (v := (-3)) hx hb dX11_left_47 (by decide +kernel) ?_
          have hFc := va_free (wc := (mW g0 pq cp v fa)) hD hS hA (List.range 48) rfl
          refine va_calli (va_runV (As := [.int (-3)]) (rest := []) ⟨hx, hb, hml, hown, hts⟩ (c_X11_refuse_f l dC dI H.size g0 pq cp v fa (-3) (by unfold vp_in; decide)) (cwV 1 hts gX11_left_X11_refuse rfl rfl rfl (by decide +kernel) ⟨(Nat.le_of_ble_eq_true rfl), (Nat.le_of_ble_eq_true rfl)⟩) (pr_V (r := (RX11, TX11, 63)) hP hK hD 0 11 rfl rfl) rfl rfl hl.1 rfl (lv_room (Nat.le_of_ble_eq_true rfl)) dX11_left_49 ⟨(Nat.le_of_ble_eq_true rfl), (Nat.le_of_ble_eq_true rfl)⟩) hS (fun q _ h => hFc q h) hFc (fun r_42 u t H locs ht hvm w_41 hB hz1 hk1 hS => ?_)
          obtain ⟨v_43, fa_44⟩ := u
          obtain ⟨hP1, hK1, hD1⟩ := hB
          rw [ht] at hP1
          have hP : va_P (dC, dI) vwCl (mW g0 pq cp v_43 fa_44) H := hP1
          have hD : va_D A (mW g0 pq cp v_43 fa_44) := hD1.weaken (fun _ _ _ h => hFc _ h)
          clear hP1 hK1 hD1 hk1 hz1 hvm ht hFc
          obtain ⟨rfl, hs1_45⟩ := w_41
          have hVv_43 : mV v_43 := sm0_V (sm1_0 hs1_45) gV
          have hAv_43 : mA fa_44 := sm0_A (sm1_0 hs1_45) gA
          have g_46 : (v_43 38).toInt = (v 38).toInt := congrArg Int32.toInt (congrFun hs1_45.1 38)
          have g_47 : (v_43 41).toInt = (v 41).toInt := congrArg Int32.toInt (congrFun hs1_45.1 41)
          have g_48 : (v_43 43).toInt = (v 43).toInt := congrArg Int32.toInt (congrFun hs1_45.1 43)
          have hRv_43 : mX [0, 10, 11, 12, 13, 14, 15, 41] v fa v_43 fa_44 := mX.st mX.rf (mX.s0 (sm1_0 hs1_45)) (by decide +kernel)
          refine lv_goto (tgt := 71) hx hb dX11_left_52 (by decide +kernel) ?_
          exact W.iret (v := (-3)) hx hb hr (fun t ht hW => ⟨⟨(-3), (v_43, fa_44), rfl, ⟨hVv_43, hAv_43, hRv_43, ⟨by have rc : ((-3) : Int32).toInt = -3 := (by decide +kernel); (first | exact Or.inr (Or.inr (Or.inl ⟨by omega, by omega, by omega, by omega⟩)) | (unfold aLe; omega)), (Or.inl ⟨by decide, hs1_45⟩)⟩⟩, ⟨by rw [ht]; exact hP, va_K.moved hW.alike hK, hD⟩⟩, hS.F ht⟩) hS.2.2 dX11_left_71
      · have dc_23 := c_eq (a := r_22.toInt) (b := 0) rfl (by decide +kernel) c_23
        have hz_49 := isI_0 (w_21.symm.trans c_23)
        have kc_50 : (3 : Int32).toInt = 3 := by decide
        refine lv_aload_n hx hb dX11_left_30 rfl (lv_at hl 0 rfl) ?_
        refine lv_bipush (v := (-2)) hx hb dX11_left_31 (by decide +kernel) ?_
        have hFc := va_free (wc := (mW g0 pq cp v fa)) hD hS hA (List.range 48) rfl
        refine va_calli (va_runV (As := [.int (-2)]) (rest := []) ⟨hx, hb, hml, hown, hts⟩ (c_X11_refuse_f l dC dI H.size g0 pq cp v fa (-2) (by unfold vp_in; decide)) (cwV 1 hts gX11_left_X11_refuse rfl rfl rfl (by decide +kernel) ⟨(Nat.le_of_ble_eq_true rfl), (Nat.le_of_ble_eq_true rfl)⟩) (pr_V (r := (RX11, TX11, 63)) hP hK hD 0 11 rfl rfl) rfl rfl hl.1 rfl (lv_room (Nat.le_of_ble_eq_true rfl)) dX11_left_33 ⟨(Nat.le_of_ble_eq_true rfl), (Nat.le_of_ble_eq_true rfl)⟩) hS (fun q _ h => hFc q h) hFc (fun r_52 u t H locs ht hvm w_51 hB hz1 hk1 hS => ?_)
        obtain ⟨v_53, fa_54⟩ := u
        obtain ⟨hP1, hK1, hD1⟩ := hB
        rw [ht] at hP1
        have hP : va_P (dC, dI) vwCl (mW g0 pq cp v_53 fa_54) H := hP1
        have hD : va_D A (mW g0 pq cp v_53 fa_54) := hD1.weaken (fun _ _ _ h => hFc _ h)
        clear hP1 hK1 hD1 hk1 hz1 hvm ht hFc
        obtain ⟨rfl, hs1_55⟩ := w_51
        have hVv_53 : mV v_53 := sm0_V (sm1_0 hs1_55) gV
        have hAv_53 : mA fa_54 := sm0_A (sm1_0 hs1_55) gA
        have g_56 : (v_53 38).toInt = (v 38).toInt := congrArg Int32.toInt (congrFun hs1_55.1 38)
        have g_57 : (v_53 41).toInt = (v 41).toInt := congrArg Int32.toInt (congrFun hs1_55.1 41)
        have g_58 : (v_53 43).toInt = (v 43).toInt := congrArg Int32.toInt (congrFun hs1_55.1 43)
        have hRv_53 : mX [0, 10, 11, 12, 13, 14, 15, 41] v fa v_53 fa_54 := mX.st mX.rf (mX.s0 (sm1_0 hs1_55)) (by decide +kernel)
        exact W.iret (v := (-2)) hx hb hr (fun t ht hW => ⟨⟨(-2), (v_53, fa_54), rfl, ⟨hVv_53, hAv_53, hRv_53, ⟨by have rc : ((-2) : Int32).toInt = -2 := (by decide +kernel); (first | exact Or.inr (Or.inl ⟨by omega, by omega, by omega⟩) | (unfold aLe; omega)), (Or.inl ⟨by decide, hs1_55⟩)⟩⟩, ⟨by rw [ht]; exact hP, va_K.moved hW.alike hK, hD⟩⟩, hS.F ht⟩) hS.2.2 dX11_left_36
    · have dc_19 := c_eq (a := r_18.toInt) (b := 0) rfl (by decide +kernel) c_19
      have hz_59 := isI_0 (w_17.symm.trans c_19)
      have kc_60 : (10 : Int32).toInt = 10 := by decide
      refine lv_aload_n hx hb dX11_left_16 rfl (lv_at hl 0 rfl) ?_
      refine lv_iconst (v := (-1)) hx hb dX11_left_17 (by decide +kernel) ?_
      have hFc := va_free (wc := (mW g0 pq cp v fa)) hD hS hA (List.range 48) rfl
      refine va_calli (va_runV (As := [.int (-1)]) (rest := []) ⟨hx, hb, hml, hown, hts⟩ (c_X11_refuse_f l dC dI H.size g0 pq cp v fa (-1) (by unfold vp_in; decide)) (cwV 1 hts gX11_left_X11_refuse rfl rfl rfl (by decide +kernel) ⟨(Nat.le_of_ble_eq_true rfl), (Nat.le_of_ble_eq_true rfl)⟩) (pr_V (r := (RX11, TX11, 63)) hP hK hD 0 11 rfl rfl) rfl rfl hl.1 rfl (lv_room (Nat.le_of_ble_eq_true rfl)) dX11_left_18 ⟨(Nat.le_of_ble_eq_true rfl), (Nat.le_of_ble_eq_true rfl)⟩) hS (fun q _ h => hFc q h) hFc (fun r_62 u t H locs ht hvm w_61 hB hz1 hk1 hS => ?_)
      obtain ⟨v_63, fa_64⟩ := u
      obtain ⟨hP1, hK1, hD1⟩ := hB
      rw [ht] at hP1
      have hP : va_P (dC, dI) vwCl (mW g0 pq cp v_63 fa_64) H := hP1
      have hD : va_D A (mW g0 pq cp v_63 fa_64) := hD1.weaken (fun _ _ _ h => hFc _ h)
      clear hP1 hK1 hD1 hk1 hz1 hvm ht hFc
      obtain ⟨rfl, hs1_65⟩ := w_61
      have hVv_63 : mV v_63 := sm0_V (sm1_0 hs1_65) gV
      have hAv_63 : mA fa_64 := sm0_A (sm1_0 hs1_65) gA
      have g_66 : (v_63 38).toInt = (v 38).toInt := congrArg Int32.toInt (congrFun hs1_65.1 38)
      have g_67 : (v_63 41).toInt = (v 41).toInt := congrArg Int32.toInt (congrFun hs1_65.1 41)
      have g_68 : (v_63 43).toInt = (v 43).toInt := congrArg Int32.toInt (congrFun hs1_65.1 43)
      have hRv_63 : mX [0, 10, 11, 12, 13, 14, 15, 41] v fa v_63 fa_64 := mX.st mX.rf (mX.s0 (sm1_0 hs1_65)) (by decide +kernel)
      exact W.iret (v := (-1)) hx hb hr (fun t ht hW => ⟨⟨(-1), (v_63, fa_64), rfl, ⟨hVv_63, hAv_63, hRv_63, ⟨by have rc : ((-1) : Int32).toInt = -1 := (by decide +kernel); (first | exact Or.inl ⟨by omega, by omega⟩ | (unfold aLe; omega)), (Or.inl ⟨by decide, hs1_65⟩)⟩⟩, ⟨by rw [ht]; exact hP, va_K.moved hW.alike hK, hD⟩⟩, hS.F ht⟩) hS.2.2 dX11_left_21
