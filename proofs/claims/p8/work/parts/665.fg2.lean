


def adF (Z u : oS) (o rw : Nat) (x : Int32) : Prop := (oI u o 1).toInt = (oI Z o 1).toInt + 1 ∧ oI u rw = upd (oI Z rw) (oI Z o 1).toNatClampNeg x
theorem tP_i {Z u : oS} {o cd : Nat} {r : Int32} {R : Nat × Bool × List Int32} (h : tP Z u o cd r R) : (bI R.2.1 = 1 ∧ (oI Z o 1).toInt ≤ (R.1 : Int) ∧ r.toInt = -1) ∨ (¬ (bI R.2.1 = 1 ∧ (oI Z o 1).toInt ≤ (R.1 : Int)) ∧ r.toInt = (R.1 : Int) ∧ r.toInt ≤ 60) := by
  rcases h with ⟨h1, h2, h3, -⟩ | ⟨h1, h2, h5⟩
  · exact Or.inl ⟨by rw [h1]; decide, h2, h3⟩
  · refine Or.inr ⟨fun k => h1 ⟨?_, k.2⟩, h2, h5⟩
    rcases R with ⟨q, w, E⟩
    cases w with
    | true => rfl
    | false => exact absurd (show bI false = 1 from k.1) (by decide +kernel)
set_option maxHeartbeats 4000000 in
set_option maxRecDepth 100000 in
theorem c_X8_add_f (l : Launch) (dC : Nat → ClassId) (dI : Nat → Nat → Nat) (sz : Nat) (cq : Nat → ClassId) (Z : oS) (gI : oInv Z) (o : Nat) (to : oty Z o 8) (x1 : Int32) (rw : Nat) (hrw : oP Z o 0 = some rw) : Met l yX8_add wsX8_add ({ frames := 0, cells := 0, slots := 0, locals := 0 }) (va_Pc [.ref o, .int x1] (pcW (dC, dI) (oT cq) (oW cq Z) sz)) (va_Qv (fun (u : oS) => oInv u ∧ oX [801, 2160] Z u ∧ ((oI Z o 1).toInt < 60 → adF Z u o rw x1)) (fun u t => va_P (dC, dI) vwCl (oW cq u) t.heap ∧ va_K (dC, dI) vwCl (oT cq) t ∧ va_D (va_A (oW cq Z) sz) (oW cq u)) (va_A (oW cq Z) sz)) 0 0 (va_A (oW cq Z) sz) := by
  refine Met.ofW (cc := cX8_add) (maxL := 2) (ret := none) (by decide +kernel) rfl ?_
  intro p e s m args below meth c s₁ B hml hv
  obtain ⟨rfl, hsz, hP, hK, hD0⟩ := hv
  have hx := B.exec
  have hb := B.bytes
  have hr := B.returns
  have hts := atoms_spec (ws := wsX8_add) B.pre
  have hown : s.vm.findClass RX8 = some m.cls := findClass_of_methodNamed B.named
  have hlocks := B.notSynchronized
  subst hsz
  have hD := hD0.self (sz := s.heap.size)
  generalize hAe : va_A (oW cq Z) s.heap.size = A at hD ⊢
  have hA : ∀ q : Nat, s.heap.size ≤ q → A q := fun q h => by rw [← hAe]; exact Or.inr h
  have hS : va_S A s.heap s.heap [] := va_S.rf
  have hP : va_P (dC, dI) vwCl (oW cq Z) s.heap := hP
  have hl := lv_entry ([.ref o, .int x1]) (n := 2) (Nat.le_of_ble_eq_true rfl)
  rw [lg_entry_eq]
  generalize (lg_sl ([.ref o, .int x1]) ++ List.replicate (2 - (lg_sl ([.ref o, .int x1])).length) Slot.unset).toArray = ls at hl ⊢
  have hl : lv_has ls 2 [(0, .ref o), (1, .int x1)] := hl
  have trw : oty Z rw 160 := oInv.rd gI to.2 hrw rfl rfl
  refine lv_aload_n hx hb dX8_add_0 rfl (lv_at hl 0 rfl) ?_
  obtain ⟨q_1, hq_1⟩ := og (cq := cq) to.1 (oE_8 to.2)
  refine va_get (D := (dC, dI)) (ci := 8) (v := .int (oI Z o 1)) (C := RX8) (T := TX8) (N := 6) hx hb hts in_wsX8_add_X8 hown hK hP q_1 hq_1 rfl 1 (by decide +kernel) (hts (.fieldLink RX8 18 "ShipOffice$Tape" "size" "I") iw_X8_add_1) (fun _ h9 => h9) rfl dX8_add_1 ?_
  refine lv_topi (fun x_2 ex_2 => ?_)
  have hx_2 : 0 ≤ x_2.toInt ∧ x_2.toInt ≤ 60 := iv_of ex_2 (oInv.iv gI to.2 rfl rfl)
  have gx_2 : x_2.toInt = (oI Z o 1).toInt := iv_to ex_2
  clear ex_2
  refine lv_bipush (v := 60) hx hb dX8_add_4 (by decide +kernel) ?_
  refine lv_icmp_ge (tgt := 29) hx hb dX8_add_6 (by decide +kernel) (fun c_3 => ?_) (fun c_3 => ?_)
  · have dc_3 := c_le (a := 60) (b := x_2.toInt) (by decide +kernel) rfl c_3
    exact W.vret hx hb hr (fun t ht hW => ⟨⟨Z, rfl, ⟨gI, oX.rf, (fun h => by exfalso; omega)⟩, ⟨by rw [ht]; exact hP, va_K.moved hW.alike hK, hD⟩⟩, hS.F ht⟩) hS.2.2 dX8_add_29
  · have dc_3 := c_nle (a := 60) (b := x_2.toInt) (by decide +kernel) rfl c_3
    refine lv_aload_n hx hb dX8_add_9 rfl (lv_at hl 0 rfl) ?_
    refine va_get (D := (dC, dI)) (ci := 8) (v := .ref rw) (C := RX8) (T := TX8) (N := 6) hx hb hts in_wsX8_add_X8 hown hK hP q_1 hq_1 rfl 0 (by decide +kernel) (hts (.fieldLink RX8 9 "ShipOffice$Tape" "bytes" "[I") iw_X8_add_2) (fun _ h9 => h9) (o_rd hrw) dX8_add_10 ?_
    refine lv_aload_n hx hb dX8_add_13 rfl (lv_at hl 0 rfl) ?_
    refine va_get (D := (dC, dI)) (ci := 8) (v := .int (oI Z o 1)) (C := RX8) (T := TX8) (N := 6) hx hb hts in_wsX8_add_X8 hown hK hP q_1 hq_1 rfl 1 (by decide +kernel) (hts (.fieldLink RX8 18 "ShipOffice$Tape" "size" "I") iw_X8_add_1) (fun _ h9 => h9) rfl dX8_add_14 ?_
    refine lv_topi (fun x_4 ex_4 => ?_)
    have hx_4 : 0 ≤ x_4.toInt ∧ x_4.toInt ≤ 60 := iv_of ex_4 (oInv.iv gI to.2 rfl rfl)
    have gx_4 : x_4.toInt = (oI Z o 1).toInt := iv_to ex_4
    clear ex_4
    refine lv_iload_n hx hb dX8_add_17 rfl (lv_at hl 1 rfl) ?_
    obtain ⟨q_5, hq_5⟩ := og (cq := cq) trw.1 (oE_a1 (n := 60) trw.2 (by decide +kernel))
    refine va_iast hx hb hK hP hD hS q_5 0 hq_5 rfl (vp_in_iff.mpr (by omega)) dX8_add_18 (fun H locs hP1 hD1 hS => ?_)
    obtain ⟨S_6, eS_6⟩ : ∃ zq, zq = setI Z rw (x_4 : Int32).toNatClampNeg x1 := ⟨_, rfl⟩
    have hP : va_P (dC, dI) vwCl (oW cq S_6) H := by rw [eS_6]; exact cP (oset trw.1 hq_5 hD rfl (he_a1 (n := 60) trw.2 (by decide +kernel)) neI) hP1
    have hD : va_D A (oW cq S_6) := by rw [eS_6]; exact cD (oset trw.1 hq_5 hD rfl (he_a1 (n := 60) trw.2 (by decide +kernel)) neI) hD1
    clear hP1 hD1
    have hIS_6 : oInv S_6 := by rw [eS_6]; exact oInv.A (k := 160) gI trw.2 (by decide +kernel)
    have XS_6 : oX [2160] Z S_6 := by rw [eS_6]; exact oX.I (k := 160) (key := 2160) trw.2 rfl (List.mem_singleton.mpr rfl)
    have pk_7 : oP S_6 o 0 = some rw := by rw [eS_6]; exact hrw
    have X_8 : oX [801, 2160] Z S_6 := oX.st oX.rf XS_6 (by decide +kernel)
    have g_9 : (oI S_6 o 1).toInt = (oI Z o 1).toInt := by rw [eS_6, setI_oth (ty_ne to trw (by decide +kernel))]
    refine lv_aload_n hx hb dX8_add_19 rfl (lv_at hl 0 rfl) ?_
    refine lv_dup hx hb dX8_add_20 rfl ?_
    have t_10 : oty S_6 o 8 := (oX.ty XS_6 to)
    obtain ⟨q_11, hq_11⟩ := og (cq := cq) t_10.1 (oE_8 t_10.2)
    refine va_get (D := (dC, dI)) (ci := 8) (v := .int (oI S_6 o 1)) (C := RX8) (T := TX8) (N := 6) hx hb hts in_wsX8_add_X8 hown hK hP q_11 hq_11 rfl 1 (by decide +kernel) (hts (.fieldLink RX8 18 "ShipOffice$Tape" "size" "I") iw_X8_add_1) (fun _ h9 => h9) rfl dX8_add_21 ?_
    refine lv_topi (fun x_12 ex_12 => ?_)
    have hx_12 : 0 ≤ x_12.toInt ∧ x_12.toInt ≤ 60 := iv_of ex_12 (oInv.iv hIS_6 t_10.2 rfl rfl)
    have gx_12 : x_12.toInt = (oI S_6 o 1).toInt := iv_to ex_12
    clear ex_12
    refine lv_iconst (v := 1) hx hb dX8_add_24 (by decide +kernel) ?_
    refine lv_iadd hx hb dX8_add_25 ?_
    refine lv_topi (fun x_13 ex_13 => ?_)
    have hx_13 : x_13.toInt = x_12.toInt + 1 := (iv_to ex_13).trans (ad_i rfl (by decide +kernel) (by omega) (by omega))
    clear ex_13
    refine va_put (D := (dC, dI)) (ci := 8) (v := .int x_13) (ty := .int) (C := RX8) (T := TX8) (N := 6) hx hb hts in_wsX8_add_X8 tyX8 tyX8_ok nmX8 hown hK hP hD hS q_11 hq_11 rfl 1 (by decide +kernel) (hts (.fieldLink RX8 18 "ShipOffice$Tape" "size" "I") iw_X8_add_1) (fun _ h9 => h9) rfl (by decide +kernel) rfl rfl (Nat.le_of_ble_eq_true rfl) dX8_add_26 (fun H locs hP1 hD1 hS => ?_)
    obtain ⟨S_14, eS_14⟩ : ∃ zq, zq = setI S_6 o 1 x_13 := ⟨_, rfl⟩
    have hP : va_P (dC, dI) vwCl (oW cq S_14) H := by rw [eS_14]; exact cP (oset t_10.1 hq_11 hD rfl (he_8_1 t_10.2) neI) hP1
    have hD : va_D A (oW cq S_14) := by rw [eS_14]; exact cD (oset t_10.1 hq_11 hD rfl (he_8_1 t_10.2) neI) hD1
    clear hP1 hD1
    have hIS_14 : oInv S_14 := by rw [eS_14]; exact oInv.I0 (k := 8) (lo := 0) (hi := 60) hIS_6 t_10.2 (by decide +kernel) rfl rfl rfl (by omega)
    have XS_14 : oX [801] S_6 S_14 := by rw [eS_14]; exact oX.I (k := 8) (key := 801) t_10.2 rfl (List.mem_singleton.mpr rfl)
    have pk_15 : oP S_14 o 0 = some rw := by rw [eS_14]; exact pk_7
    have X_16 : oX [801, 2160] Z S_14 := oX.st X_8 XS_14 (by decide +kernel)
    have g_17 : (oI S_14 o 1).toInt = x_13.toInt := by rw [eS_14, setI_same]
    exact W.vret hx hb hr (fun t ht hW => ⟨⟨S_14, rfl, ⟨hIS_14, X_16, (fun _ => ⟨by omega, by rw [eS_14, setI_oth (ty_ne (oX.ty XS_6 trw) (oX.ty XS_6 to) (by decide +kernel)), eS_6, setI_fun]; exact congrArg (fun k => upd (oI Z rw) k x1) (show (x_4 : Int32).toNatClampNeg = (oI Z o 1).toNatClampNeg from congrArg Int32.toNatClampNeg (Int32.toInt_inj.mp (by omega)))⟩)⟩, ⟨by rw [ht]; exact hP, va_K.moved hW.alike hK, hD⟩⟩, hS.F ht⟩) hS.2.2 dX8_add_29
set_option maxHeartbeats 4000000 in
set_option maxRecDepth 100000 in
theorem c_X10_feed_f (l : Launch) (dC : Nat → ClassId) (dI : Nat → Nat → Nat) (sz : Nat) (cq : Nat → ClassId) (Z : oS) (gI : oInv Z) (o : Nat) (to : oty Z o 10) (x1 : Int32) (x2 : Int64) (tp rw : Nat) (htp : oP Z o 9 = some tp) (hrw : oP Z tp 0 = some rw) : Met l yX10_feed wsX10_feed ({ frames := 1, cells := 0, slots := 0, locals := 21 }) (va_Pc [.ref o, .int x1, .long x2] (pcW (dC, dI) (oT cq) (oW cq Z) sz)) (va_Qi (fun (r : Int32) (u : oS) => oInv u ∧ oX [801, 2107, 2160] Z u ∧ (gfd (oI Z tp 1).toInt x1.toInt x2 (oI Z rw) r.toInt (oI u tp 1).toInt (oI u rw))) (fun u t => va_P (dC, dI) vwCl (oW cq u) t.heap ∧ va_K (dC, dI) vwCl (oT cq) t ∧ va_D (va_A (oW cq Z) sz) (oW cq u)) (va_A (oW cq Z) sz)) 0 0 (va_A (oW cq Z) sz) := by
  refine Met.ofW (cc := cX10_feed) (maxL := 5) (ret := (some .int)) (by decide +kernel) rfl ?_
  intro p e s m args below meth c s₁ B hml hv
  obtain ⟨rfl, hsz, hP, hK, hD0⟩ := hv
  have hx := B.exec
  have hb := B.bytes
  have hr := B.returns
  have hts := atoms_spec (ws := wsX10_feed) B.pre
  have hown : s.vm.findClass RX10 = some m.cls := findClass_of_methodNamed B.named
  have hlocks := B.notSynchronized
  subst hsz
  have hD := hD0.self (sz := s.heap.size)
  generalize hAe : va_A (oW cq Z) s.heap.size = A at hD ⊢
  have hA : ∀ q : Nat, s.heap.size ≤ q → A q := fun q h => by rw [← hAe]; exact Or.inr h
  have hS : va_S A s.heap s.heap [] := va_S.rf
  have hP : va_P (dC, dI) vwCl (oW cq Z) s.heap := hP
  have hl := lv_entry ([.ref o, .int x1, .long x2]) (n := 5) (Nat.le_of_ble_eq_true rfl)
  rw [lg_entry_eq]
  generalize (lg_sl ([.ref o, .int x1, .long x2]) ++ List.replicate (5 - (lg_sl ([.ref o, .int x1, .long x2])).length) Slot.unset).toArray = ls at hl ⊢
  have hl : lv_has ls 5 [(0, .ref o), (1, .int x1), (2, .long x2)] := hl
  have ttp : oty Z tp 8 := oInv.rd gI to.2 htp rfl rfl
  have trw : oty Z rw 160 := oInv.rd gI ttp.2 hrw rfl rfl
  have iv_1 : 0 ≤ (oI Z tp 1).toInt ∧ (oI Z tp 1).toInt ≤ 60 := oInv.iv gI ttp.2 rfl rfl
  refine lv_iload_n hx hb dX10_feed_0 rfl (lv_at hl 1 rfl) ?_
  refine lv_iconst (v := 1) hx hb dX10_feed_1 (by decide +kernel) ?_
  refine lv_icmp_ge (tgt := 12) hx hb dX10_feed_2 (by decide +kernel) (fun c_2 => ?_) (fun c_2 => ?_)
  · have dc_2 := c_le (a := 1) (b := x1.toInt) (by decide +kernel) rfl c_2
    refine lv_iload_n hx hb dX10_feed_12 rfl (lv_at hl 1 rfl) ?_
    refine lv_bipush (v := 8) hx hb dX10_feed_13 (by decide +kernel) ?_
    refine lv_icmp_gt (tgt := 32) hx hb dX10_feed_15 (by decide +kernel) (fun c_3 => ?_) (fun c_3 => ?_)
    · have dc_3 := c_lt (a := 8) (b := x1.toInt) (by decide +kernel) rfl c_3
      refine lv_aload_n hx hb dX10_feed_32 rfl (lv_at hl 0 rfl) ?_
      refine lv_bipush (v := (-6)) hx hb dX10_feed_33 (by decide +kernel) ?_
      have hFc := o_free hD hS hA
      obtain ⟨q_4, hq_4⟩ := og (cq := cq) to.1 (oE_10 to.2)
      refine va_calli (va_runV (As := [.int (-6)]) (rest := []) ⟨hx, hb, hml, hown, hts⟩ (c_X10_refuse l dC dI s.heap.size cq Z gI o to (-6) (by decide +kernel)) (cwV 1 hts gX10_feed_X10_refuse rfl rfl rfl (by decide +kernel) ⟨(Nat.le_of_ble_eq_true rfl), (Nat.le_of_ble_eq_true rfl)⟩) (pr_V (r := (RX10, TX10, 16)) hP hK hD q_4 10 rfl hq_4) rfl rfl hl.1 rfl (lv_room (Nat.le_of_ble_eq_true rfl)) dX10_feed_35 ⟨(Nat.le_of_ble_eq_true rfl), (Nat.le_of_ble_eq_true rfl)⟩) hS (fun q _ h => hFc q h) hFc (fun r_6 u t H locs ht hvm w_5 hB hz1 hk1 hS => ?_)
      obtain ⟨S_7, rfl⟩ : ∃ z, z = u := ⟨_, rfl⟩
      obtain ⟨hP1, hK1, hD1⟩ := hB
      rw [ht] at hP1
      have hP : va_P (dC, dI) vwCl (oW cq S_7) H := hP1
      have hD : va_D A (oW cq S_7) := hD1.weaken (fun _ _ _ h => hFc _ h)
      clear hP1 hK1 hD1 hk1 hz1 hvm ht hFc
      obtain ⟨hIS_7, XS_7, hb_8, hx_9⟩ := w_5
      have X_10 : oX [801, 2107, 2160] Z S_7 := oX.st oX.rf XS_7 (by decide +kernel)
      have g_11 : (oI S_7 tp 1).toInt = (oI Z tp 1).toInt := by rw [oX.i XS_7 ttp (by decide +kernel)]
      have pk_12 : oP S_7 o 9 = some tp := by rw [oX.p XS_7 to (by decide +kernel)]; exact htp
      have pk_13 : oP S_7 tp 0 = some rw := by rw [oX.p XS_7 ttp (by decide +kernel)]; exact hrw
      have rf_14 : r_6.toInt = -6 := by rw [hx_9]; decide
      exact W.iret (v := r_6) hx hb hr (fun t ht hW => ⟨⟨r_6, S_7, rfl, ⟨hIS_7, X_10, (by have e1 : oI S_7 rw = oI Z rw := oX.f XS_7 trw (fun _ => nkw (by decide +kernel) (by decide +kernel) (by decide +kernel)); rw [e1]; unfold gfd; first | exact Or.inl ⟨by omega, by omega, by omega, rfl⟩ | exact Or.inr (Or.inl ⟨by omega, by omega, by omega, by omega, rfl⟩))⟩, ⟨by rw [ht]; exact hP, va_K.moved hW.alike hK, hD⟩⟩, hS.F ht⟩) hS.2.2 dX10_feed_38
    · have dc_3 := c_nlt (a := 8) (b := x1.toInt) (by decide +kernel) rfl c_3
      refine lv_iload_n hx hb dX10_feed_18 rfl (lv_at hl 1 rfl) ?_
      refine lv_bipush (v := 60) hx hb dX10_feed_19 (by decide +kernel) ?_
      refine lv_aload_n hx hb dX10_feed_21 rfl (lv_at hl 0 rfl) ?_
      obtain ⟨q_15, hq_15⟩ := og (cq := cq) to.1 (oE_10 to.2)
      refine va_get (D := (dC, dI)) (ci := 10) (v := .ref tp) (C := RX10) (T := TX10) (N := 16) hx hb hts in_wsX10_feed_X10 hown hK hP q_15 hq_15 rfl 9 (by decide +kernel) (hts (.fieldLink RX10 37 "ShipOffice" "tape" "LShipOffice$Tape;") iw_X10_feed_1) (fun _ h9 => h9) (o_rd htp) dX10_feed_22 ?_
      obtain ⟨q_16, hq_16⟩ := og (cq := cq) ttp.1 (oE_8 ttp.2)
      refine va_get (D := (dC, dI)) (ci := 8) (v := .int (oI Z tp 1)) (C := RX8) (T := TX8) (N := 6) hx hb hts in_wsX10_feed_X8 hown hK hP q_16 hq_16 rfl 1 (by decide +kernel) (hts (.fieldLink RX10 169 "ShipOffice$Tape" "size" "I") iw_X10_feed_2) (fun _ h9 => h9) rfl dX10_feed_25 ?_
      refine lv_topi (fun x_17 ex_17 => ?_)
      have hx_17 : 0 ≤ x_17.toInt ∧ x_17.toInt ≤ 60 := iv_of ex_17 (oInv.iv gI ttp.2 rfl rfl)
      have gx_17 : x_17.toInt = (oI Z tp 1).toInt := iv_to ex_17
      clear ex_17
      refine lv_isub hx hb dX10_feed_28 ?_
      refine lv_topi (fun x_18 ex_18 => ?_)
      have hx_18 : x_18.toInt = 60 - x_17.toInt := (iv_to ex_18).trans (sb_i (by decide +kernel) rfl (by omega) (by omega))
      refine lv_icmp_le (tgt := 39) hx hb dX10_feed_29 (by decide +kernel) (fun c_19 => ?_) (fun c_19 => ?_)
      · have dc_19 := c_le (a := x1.toInt) (b := x_18.toInt) rfl rfl c_19
        refine lv_iconst (v := 0) hx hb dX10_feed_39 (by decide +kernel) ?_
        refine lv_istore (lv' := [(4, .int 0), (0, .ref o), (1, .int x1), (2, .long x2)]) hx hb dX10_feed_40 hl (by decide +kernel) rfl (fun ls hl => ?_)
        have cut_20 : ∀ (n : Nat) (y_21 : Int32) (S_22 : oS) (H : Heap) (locs : List Loc) (ls : Array Slot), 8 - y_21.toInt ≤ (n : Int) → (0 ≤ y_21.toInt ∧ y_21.toInt ≤ 8) → ((oI S_22 tp 1).toInt = (oI Z tp 1).toInt + y_21.toInt ∧ y_21.toInt ≤ x1.toInt) → fdI (oI Z rw) x2 (oI Z tp 1).toNatClampNeg y_21.toNatClampNeg (oI S_22 rw) → oInv S_22 → oX [801, 2107, 2160] Z S_22 → va_P (dC, dI) vwCl (oW cq S_22) H → va_D A (oW cq S_22) → va_S A s.heap H locs → oP S_22 o 9 = some tp → oP S_22 tp 0 = some rw → lv_has ls 5 [(4, .int y_21), (0, .ref o), (1, .int x1), (2, .long x2)] → W p l e (headSpec wsX10_feed { frames := 1, cells := 0, slots := 0, locals := 21 }).room s m #[Value.ref o, Value.int x1, Value.long x2] below meth c H locs 0 0 (MQ below (va_Qi (fun (r : Int32) (u : oS) => oInv u ∧ oX [801, 2107, 2160] Z u ∧ (gfd (oI Z tp 1).toInt x1.toInt x2 (oI Z rw) r.toInt (oI u tp 1).toInt (oI u rw))) (fun u t => va_P (dC, dI) vwCl (oW cq u) t.heap ∧ va_K (dC, dI) vwCl (oT cq) t ∧ va_D A (oW cq u)) A) #[Value.ref o, Value.int x1, Value.long x2] s 0 0 A) (F0 m 42 ls []) := by
          intro n
          induction n using Nat.strongRecOn with
          | ind n ih =>
            intro y_21 S_22 H locs ls hm hy_21 hq0_cut_20 hq1_cut_20 hIS_22 XS_22 hP hD hS pk_23 pk_24 hl
            have YS_22 : oX [801, 2107, 2160] Z S_22 := oX.st oX.rf XS_22 (fun _ q => q)
            refine lv_iload hx hb dX10_feed_42 (lv_at hl 0 rfl) ?_
            refine lv_iload_n hx hb dX10_feed_44 rfl (lv_at hl 2 rfl) ?_
            refine lv_icmp_ge (tgt := 73) hx hb dX10_feed_45 (by decide +kernel) (fun c_25 => ?_) (fun c_25 => ?_)
            · have dc_25 := c_le (a := x1.toInt) (b := y_21.toInt) rfl rfl c_25
              refine lv_aload_n hx hb dX10_feed_73 rfl (lv_at hl 1 rfl) ?_
              have t_26 : oty S_22 o 10 := (oX.ty XS_22 to)
              obtain ⟨q_27, hq_27⟩ := og (cq := cq) t_26.1 (oE_10 t_26.2)
              refine va_get (D := (dC, dI)) (ci := 10) (v := .ref tp) (C := RX10) (T := TX10) (N := 16) hx hb hts in_wsX10_feed_X10 hown hK hP q_27 hq_27 rfl 9 (by decide +kernel) (hts (.fieldLink RX10 37 "ShipOffice" "tape" "LShipOffice$Tape;") iw_X10_feed_1) (fun _ h9 => h9) (o_rd pk_23) dX10_feed_74 ?_
              have t_28 : oty S_22 tp 8 := (oX.ty XS_22 ttp)
              obtain ⟨q_29, hq_29⟩ := og (cq := cq) t_28.1 (oE_8 t_28.2)
              refine va_get (D := (dC, dI)) (ci := 8) (v := .int (oI S_22 tp 1)) (C := RX8) (T := TX8) (N := 6) hx hb hts in_wsX10_feed_X8 hown hK hP q_29 hq_29 rfl 1 (by decide +kernel) (hts (.fieldLink RX10 169 "ShipOffice$Tape" "size" "I") iw_X10_feed_2) (fun _ h9 => h9) rfl dX10_feed_77 ?_
              refine lv_topi (fun x_30 ex_30 => ?_)
              have hx_30 : 0 ≤ x_30.toInt ∧ x_30.toInt ≤ 60 := iv_of ex_30 (oInv.iv hIS_22 t_28.2 rfl rfl)
              have gx_30 : x_30.toInt = (oI S_22 tp 1).toInt := iv_to ex_30
              clear ex_30
              exact W.iret (v := x_30) hx hb hr (fun t ht hW => ⟨⟨x_30, S_22, rfl, ⟨hIS_22, YS_22, (by have e1 : y_21 = x1 := Int32.toInt_inj.mp (by omega); have g := hq1_cut_20; rw [e1] at g; exact Or.inr (Or.inr ⟨by omega, by omega, by omega, by omega, by omega, g⟩))⟩, ⟨by rw [ht]; exact hP, va_K.moved hW.alike hK, hD⟩⟩, hS.F ht⟩) hS.2.2 dX10_feed_80
            · have dc_25 := c_nle (a := x1.toInt) (b := y_21.toInt) rfl rfl c_25
              refine lv_aload_n hx hb dX10_feed_48 rfl (lv_at hl 1 rfl) ?_
              have t_31 : oty S_22 o 10 := (oX.ty XS_22 to)
              obtain ⟨q_32, hq_32⟩ := og (cq := cq) t_31.1 (oE_10 t_31.2)
              refine va_get (D := (dC, dI)) (ci := 10) (v := .ref tp) (C := RX10) (T := TX10) (N := 16) hx hb hts in_wsX10_feed_X10 hown hK hP q_32 hq_32 rfl 9 (by decide +kernel) (hts (.fieldLink RX10 37 "ShipOffice" "tape" "LShipOffice$Tape;") iw_X10_feed_1) (fun _ h9 => h9) (o_rd pk_23) dX10_feed_49 ?_
              refine lv_lload_n hx hb dX10_feed_52 rfl (lv_at hl 3 rfl) ?_
              refine lv_bipush (v := 8) hx hb dX10_feed_53 (by decide +kernel) ?_
              refine lv_iload hx hb dX10_feed_55 (lv_at hl 0 rfl) ?_
              refine lv_imul hx hb dX10_feed_57 ?_
              refine lv_topi (fun x_33 ex_33 => ?_)
              have hx_33 : x_33.toInt = 8 * y_21.toInt := (iv_to ex_33).trans (mu_i (by decide +kernel) rfl (by omega) (by omega))
              refine lv_lshr (v := x2 >>> ((x_33 : Int32).toInt64 &&& 63)) hx hb dX10_feed_58 rfl ?_
              refine lv_ldc2 (v := 255) hx hb hown (hts (.constantLong RX10 172 (255)) (by decide +kernel)) dX10_feed_59 ?_
              refine lv_land hx hb dX10_feed_62 ?_
              refine lv_l2i (v := ((x2 >>> ((x_33 : Int32).toInt64 &&& 63)) &&& 255 : Int64).toInt32) hx hb dX10_feed_63 rfl ?_
              refine lv_topi (fun x_34 ex_34 => ?_)
              have t_35 : oty S_22 tp 8 := (oX.ty XS_22 ttp)
              have hFc := o_free hD hS hA
              obtain ⟨q_36, hq_36⟩ := og (cq := cq) t_35.1 (oE_8 t_35.2)
              refine va_callv (va_runV (As := [.int x_34]) (rest := []) ⟨hx, hb, hml, hown, hts⟩ (c_X8_add_f l dC dI H.size cq S_22 hIS_22 tp t_35 x_34 rw pk_24) (cwV 1 hts gX10_feed_X8_add rfl rfl rfl (by decide +kernel) ⟨(Nat.le_of_ble_eq_true rfl), (Nat.le_of_ble_eq_true rfl)⟩) (pr_V (r := (RX8, TX8, 6)) hP hK hD q_36 8 rfl hq_36) rfl rfl hl.1 rfl (lv_room (Nat.le_of_ble_eq_true rfl)) dX10_feed_64 ⟨(Nat.le_of_ble_eq_true rfl), (Nat.le_of_ble_eq_true rfl)⟩) hS (fun q _ h => hFc q h) hFc (fun u t H locs ht hvm w_37 hB hz1 hk1 hS => ?_)
              obtain ⟨S_39, rfl⟩ : ∃ z, z = u := ⟨_, rfl⟩
              obtain ⟨hP1, hK1, hD1⟩ := hB
              rw [ht] at hP1
              have hP : va_P (dC, dI) vwCl (oW cq S_39) H := hP1
              have hD : va_D A (oW cq S_39) := hD1.weaken (fun _ _ _ h => hFc _ h)
              clear hP1 hK1 hD1 hk1 hz1 hvm ht hFc
              obtain ⟨hIS_39, XS_39, hx_40⟩ := w_37
              have X_41 : oX [801, 2107, 2160] Z S_39 := oX.st YS_22 XS_39 (by decide +kernel)
              have pk_42 : oP S_39 o 9 = some tp := by rw [oX.p XS_39 t_31 (by decide +kernel)]; exact pk_23
              have pk_43 : oP S_39 tp 0 = some rw := by rw [oX.p XS_39 t_35 (by decide +kernel)]; exact pk_24
              obtain ⟨x_44, ex_44⟩ : ∃ zq : Int32, y_21 + 1 = zq := ⟨_, rfl⟩
              have hx_44 : x_44.toInt = y_21.toInt + 1 := (iv_to ex_44).symm.trans (ad_i rfl (by decide +kernel) (by omega) (by omega))
              refine lv_iinc (v := x_44) (lv' := [(4, .int x_44), (0, .ref o), (1, .int x1), (2, .long x2)]) hx hb dX10_feed_67 hl (k := 0) rfl ex_44 (by decide +kernel) rfl (fun ls hl => ?_)
              clear ex_44
              refine lv_goto (tgt := 42) hx hb dX10_feed_70 (by decide +kernel) ?_
              exact ih (n - 1) (by omega) x_44 S_39 _ _ ls (by omega) (by omega) (by have g := (hx_40 (by omega)).1; omega) (fd_s (x := oI S_22 tp 1) hq1_cut_20 ((hx_40 (by omega)).2) (by have n0 : (oI Z tp 1).toNatClampNeg = (oI Z tp 1).toInt.toNat := rfl; omega) (by omega) (by omega) ex_33 ex_34) hIS_39 (oX.st (oX.st oX.rf XS_22 (by decide +kernel)) XS_39 (by decide +kernel)) hP hD hS pk_42 pk_43 (lv_sub hl [0, 1, 2, 3] rfl)
        have kc_45 : (0 : Int32).toInt = 0 := by decide
        exact cut_20 9 0 Z _ _ ls (by omega) (by decide +kernel) (by omega) (fd_0 (by decide +kernel)) gI oX.rf hP hD hS htp hrw (lv_sub hl [0, 1, 2, 3] rfl)
      · have dc_19 := c_nle (a := x1.toInt) (b := x_18.toInt) rfl rfl c_19
        refine lv_aload_n hx hb dX10_feed_32 rfl (lv_at hl 0 rfl) ?_
        refine lv_bipush (v := (-6)) hx hb dX10_feed_33 (by decide +kernel) ?_
        have hFc := o_free hD hS hA
        refine va_calli (va_runV (As := [.int (-6)]) (rest := []) ⟨hx, hb, hml, hown, hts⟩ (c_X10_refuse l dC dI s.heap.size cq Z gI o to (-6) (by decide +kernel)) (cwV 1 hts gX10_feed_X10_refuse rfl rfl rfl (by decide +kernel) ⟨(Nat.le_of_ble_eq_true rfl), (Nat.le_of_ble_eq_true rfl)⟩) (pr_V (r := (RX10, TX10, 16)) hP hK hD q_15 10 rfl hq_15) rfl rfl hl.1 rfl (lv_room (Nat.le_of_ble_eq_true rfl)) dX10_feed_35 ⟨(Nat.le_of_ble_eq_true rfl), (Nat.le_of_ble_eq_true rfl)⟩) hS (fun q _ h => hFc q h) hFc (fun r_47 u t H locs ht hvm w_46 hB hz1 hk1 hS => ?_)
        obtain ⟨S_48, rfl⟩ : ∃ z, z = u := ⟨_, rfl⟩
        obtain ⟨hP1, hK1, hD1⟩ := hB
        rw [ht] at hP1
        have hP : va_P (dC, dI) vwCl (oW cq S_48) H := hP1
        have hD : va_D A (oW cq S_48) := hD1.weaken (fun _ _ _ h => hFc _ h)
        clear hP1 hK1 hD1 hk1 hz1 hvm ht hFc
        obtain ⟨hIS_48, XS_48, hb_49, hx_50⟩ := w_46
        have X_51 : oX [801, 2107, 2160] Z S_48 := oX.st oX.rf XS_48 (by decide +kernel)
        have g_52 : (oI S_48 tp 1).toInt = (oI Z tp 1).toInt := by rw [oX.i XS_48 ttp (by decide +kernel)]
        have pk_53 : oP S_48 o 9 = some tp := by rw [oX.p XS_48 to (by decide +kernel)]; exact htp
        have pk_54 : oP S_48 tp 0 = some rw := by rw [oX.p XS_48 ttp (by decide +kernel)]; exact hrw
        have rf_55 : r_47.toInt = -6 := by rw [hx_50]; decide
        exact W.iret (v := r_47) hx hb hr (fun t ht hW => ⟨⟨r_47, S_48, rfl, ⟨hIS_48, X_51, (by have e1 : oI S_48 rw = oI Z rw := oX.f XS_48 trw (fun _ => nkw (by decide +kernel) (by decide +kernel) (by decide +kernel)); rw [e1]; unfold gfd; first | exact Or.inl ⟨by omega, by omega, by omega, rfl⟩ | exact Or.inr (Or.inl ⟨by omega, by omega, by omega, by omega, rfl⟩))⟩, ⟨by rw [ht]; exact hP, va_K.moved hW.alike hK, hD⟩⟩, hS.F ht⟩) hS.2.2 dX10_feed_38
  · have dc_2 := c_nle (a := 1) (b := x1.toInt) (by decide +kernel) rfl c_2
    refine lv_aload_n hx hb dX10_feed_5 rfl (lv_at hl 0 rfl) ?_
    refine lv_bipush (v := (-4)) hx hb dX10_feed_6 (by decide +kernel) ?_
    have hFc := o_free hD hS hA
    obtain ⟨q_56, hq_56⟩ := og (cq := cq) to.1 (oE_10 to.2)
    refine va_calli (va_runV (As := [.int (-4)]) (rest := []) ⟨hx, hb, hml, hown, hts⟩ (c_X10_refuse l dC dI s.heap.size cq Z gI o to (-4) (by decide +kernel)) (cwV 1 hts gX10_feed_X10_refuse rfl rfl rfl (by decide +kernel) ⟨(Nat.le_of_ble_eq_true rfl), (Nat.le_of_ble_eq_true rfl)⟩) (pr_V (r := (RX10, TX10, 16)) hP hK hD q_56 10 rfl hq_56) rfl rfl hl.1 rfl (lv_room (Nat.le_of_ble_eq_true rfl)) dX10_feed_8 ⟨(Nat.le_of_ble_eq_true rfl), (Nat.le_of_ble_eq_true rfl)⟩) hS (fun q _ h => hFc q h) hFc (fun r_58 u t H locs ht hvm w_57 hB hz1 hk1 hS => ?_)
    obtain ⟨S_59, rfl⟩ : ∃ z, z = u := ⟨_, rfl⟩
    obtain ⟨hP1, hK1, hD1⟩ := hB
    rw [ht] at hP1
    have hP : va_P (dC, dI) vwCl (oW cq S_59) H := hP1
    have hD : va_D A (oW cq S_59) := hD1.weaken (fun _ _ _ h => hFc _ h)
    clear hP1 hK1 hD1 hk1 hz1 hvm ht hFc
    obtain ⟨hIS_59, XS_59, hb_60, hx_61⟩ := w_57
    have X_62 : oX [801, 2107, 2160] Z S_59 := oX.st oX.rf XS_59 (by decide +kernel)
    have g_63 : (oI S_59 tp 1).toInt = (oI Z tp 1).toInt := by rw [oX.i XS_59 ttp (by decide +kernel)]
    have pk_64 : oP S_59 o 9 = some tp := by rw [oX.p XS_59 to (by decide +kernel)]; exact htp
    have pk_65 : oP S_59 tp 0 = some rw := by rw [oX.p XS_59 ttp (by decide +kernel)]; exact hrw
    have rf_66 : r_58.toInt = -4 := by rw [hx_61]; decide
    exact W.iret (v := r_58) hx hb hr (fun t ht hW => ⟨⟨r_58, S_59, rfl, ⟨hIS_59, X_62, (by have e1 : oI S_59 rw = oI Z rw := oX.f XS_59 trw (fun _ => nkw (by decide +kernel) (by decide +kernel) (by decide +kernel)); rw [e1]; unfold gfd; first | exact Or.inl ⟨by omega, by omega, by omega, rfl⟩ | exact Or.inr (Or.inl ⟨by omega, by omega, by omega, by omega, rfl⟩))⟩, ⟨by rw [ht]; exact hP, va_K.moved hW.alike hK, hD⟩⟩, hS.F ht⟩) hS.2.2 dX10_feed_11
