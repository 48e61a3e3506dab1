


def adF (Z u : oS) (o rw : Nat) (x : Int32) : Prop := (oI u o 1).toInt = (oI Z o 1).toInt + 1 ∧ oI u rw = upd (oI Z rw) (oI Z o 1).toNatClampNeg x
theorem tP_i {Z u : oS} {o cd : Nat} {r : Int32} {R : Nat × Bool × List Int32} (h : tP Z u o cd r R) : (bI R.2.1 = 1 ∧ (oI Z o 1).toInt ≤ (R.1 : Int) ∧ r.toInt = -1) ∨ (¬ (bI R.2.1 = 1 ∧ (oI Z o 1).toInt ≤ (R.1 : Int)) ∧ r.toInt = (R.1 : Int) ∧ r.toInt ≤ 60) := by
  rcases h with ⟨h1, h2, h3, -⟩ | ⟨h1, h2, h5⟩
  · exact Or.inl ⟨by rw [h1]; decide, h2, h3⟩
  · refine Or.inr ⟨fun k => h1 ⟨?_, k.2⟩, h2, h5⟩
    rcases R with ⟨q, w, E⟩
    cases w with
    | true => rfl
    | false => exact absurd (show bI false = 1 from k.1) (by decide)
set_option maxHeartbeats 4000000 in
set_option maxRecDepth 100000 in
theorem c_X8_add_f (l : Launch) (dC : Nat → ClassId) (dI : Nat → Nat → Nat) (sz : Nat) (cq : Nat → ClassId) (Z : oS) (gI : oInv Z) (o : Nat) (to : oty Z o 8) (x1 : Int32) (rw : Nat) (hrw : oP Z o 0 = some rw) : Met l yX8_add wsX8_add ({ frames := 0, cells := 0, slots := 0, locals := 0 }) (va_Pc [.ref o, .int x1] (pcW (dC, dI) (oT cq) (oW cq Z) sz)) (va_Qv (fun (u : oS) => oInv u ∧ oX [801, 2160] Z u ∧ ((oI Z o 1).toInt < 60 → adF Z u o rw x1)) (fun u t => va_P (dC, dI) vwCl (oW cq u) t.heap ∧ va_K (dC, dI) vwCl (oT cq) t ∧ va_D (va_A (oW cq Z) sz) (oW cq u)) (va_A (oW cq Z) sz)) 0 0 (va_A (oW cq Z) sz) := by
  refine Met.ofW (cc := cX8_add) (maxL := 2) (ret := none) (by decide) rfl ?_
  intro p e s m args below meth c s₁ B hml hv
  obtain ⟨rfl, hsz, hP, hK, hD0⟩ := hv
  have hx := B.exec
  have hb := B.bytes
  have hr := B.returns
  have hts := atoms_spec (ws := wsX8_add) B.pre
  have hown : s.vm.findClass RX8 = some m.cls := findClass_of_methodNamed B.named
  have hlocks := B.notSynchronized
  subst hsz
  have hD := hD0.self (sz := s.heap.size)
  generalize hAe : va_A (oW cq Z) s.heap.size = A at hD ⊢
  have hA : ∀ q : Nat, s.heap.size ≤ q → A q := fun q h => by rw [← hAe]; exact Or.inr h
  have hS : va_S A s.heap s.heap [] := va_S.rf
  have hP : va_P (dC, dI) vwCl (oW cq Z) s.heap := hP
  have hl := lv_entry ([.ref o, .int x1]) (n := 2) (Nat.le_of_ble_eq_true rfl)
  rw [lg_entry_eq]
  generalize (lg_sl ([.ref o, .int x1]) ++ List.replicate (2 - (lg_sl ([.ref o, .int x1])).length) Slot.unset).toArray = ls at hl ⊢
  have hl : lv_has ls 2 [(0, .ref o), (1, .int x1)] := hl
  have trw : oty Z rw 160 := oInv.rd gI to.2 hrw rfl rfl
  refine lv_aload_n hx hb dX8_add_0 rfl (lv_at hl 0 rfl) ?_
  obtain ⟨q_1, hq_1⟩ := og (cq := cq) to.1 (oE_8 to.2)
  refine va_get (D := (dC, dI)) (ci := 8) (v := .int (oI Z o 1)) (C := RX8) (T := TX8) (N := 6) hx hb hts in_wsX8_add_X8 hown hK hP q_1 hq_1 rfl 1 (by decide) (hts (.fieldLink RX8 18 "ShipOffice$Tape" "size" "I") iw_X8_add_1) (fun _ h9 => h9) rfl dX8_add_1 ?_
  refine lv_topi (fun x_2 ex_2 => ?_)
  have hx_2 : 0 ≤ x_2.toInt ∧ x_2.toInt ≤ 60 := iv_of ex_2 (oInv.iv gI to.2 rfl rfl)
  have gx_2 : x_2.toInt = (oI Z o 1).toInt := iv_to ex_2
  clear ex_2
  refine lv_bipush (v := 60) hx hb dX8_add_4 (by decide) ?_
  refine lv_icmp_ge (tgt := 29) hx hb dX8_add_6 (by decide) (fun c_3 => ?_) (fun c_3 => ?_)
  · have dc_3 := c_le (a := 60) (b := x_2.toInt) (by decide) rfl c_3
    exact W.vret hx hb hr (fun t ht hW => ⟨⟨Z, rfl, ⟨gI, oX.rf, (fun h => by exfalso; omega)⟩, ⟨by rw [ht]; exact hP, va_K.moved hW.alike hK, hD⟩⟩, hS.F ht⟩) hS.2.2 dX8_add_29
  · have dc_3 := c_nle (a := 60) (b := x_2.toInt) (by decide) rfl c_3
    refine lv_aload_n hx hb dX8_add_9 rfl (lv_at hl 0 rfl) ?_
    refine va_get (D := (dC, dI)) (ci := 8) (v := .ref rw) (C := RX8) (T := TX8) (N := 6) hx hb hts in_wsX8_add_X8 hown hK hP q_1 hq_1 rfl 0 (by decide) (hts (.fieldLink RX8 9 "ShipOffice$Tape" "bytes" "[I") iw_X8_add_2) (fun _ h9 => h9) (o_rd hrw) dX8_add_10 ?_
    refine lv_aload_n hx hb dX8_add_13 rfl (lv_at hl 0 rfl) ?_
    refine va_get (D := (dC, dI)) (ci := 8) (v := .int (oI Z o 1)) (C := RX8) (T := TX8) (N := 6) hx hb hts in_wsX8_add_X8 hown hK hP q_1 hq_1 rfl 1 (by decide) (hts (.fieldLink RX8 18 "ShipOffice$Tape" "size" "I") iw_X8_add_1) (fun _ h9 => h9) rfl dX8_add_14 ?_
    refine lv_topi (fun x_4 ex_4 => ?_)
    have hx_4 : 0 ≤ x_4.toInt ∧ x_4.toInt ≤ 60 := iv_of ex_4 (oInv.iv gI to.2 rfl rfl)
    have gx_4 : x_4.toInt = (oI Z o 1).toInt := iv_to ex_4
    clear ex_4
    refine lv_iload_n hx hb dX8_add_17 rfl (lv_at hl 1 rfl) ?_
    obtain ⟨q_5, hq_5⟩ := og (cq := cq) trw.1 (oE_a1 (n := 60) trw.2 (by decide))
    refine va_iast hx hb hK hP hD hS q_5 0 hq_5 rfl (vp_in_iff.mpr (by omega)) dX8_add_18 (fun H locs hP1 hD1 hS => ?_)
    obtain ⟨S_6, eS_6⟩ : ∃ zq, zq = setI Z rw (x_4 : Int32).toNatClampNeg x1 := ⟨_, rfl⟩
    have hP : va_P (dC, dI) vwCl (oW cq S_6) H := by rw [eS_6]; exact cP (oset trw.1 hq_5 hD rfl (he_a1 (n := 60) trw.2 (by decide)) neI) hP1
    have hD : va_D A (oW cq S_6) := by rw [eS_6]; exact cD (oset trw.1 hq_5 hD rfl (he_a1 (n := 60) trw.2 (by decide)) neI) hD1
    clear hP1 hD1
    have hIS_6 : oInv S_6 := by rw [eS_6]; exact oInv.A (k := 160) gI trw.2 (by decide)
    have XS_6 : oX [2160] Z S_6 := by rw [eS_6]; exact oX.I (k := 160) (key := 2160) trw.2 rfl (List.mem_singleton.mpr rfl)
    have pk_7 : oP S_6 o 0 = some rw := by rw [eS_6]; exact hrw
    have X_8 : oX [801, 2160] Z S_6 := oX.st oX.rf XS_6 (by decide)
    have g_9 : (oI S_6 o 1).toInt = (oI Z o 1).toInt := by rw [eS_6, setI_oth (ty_ne to trw (by decide))]
    refine lv_aload_n hx hb dX8_add_19 rfl (lv_at hl 0 rfl) ?_
    refine lv_dup hx hb dX8_add_20 rfl ?_
    have t_10 : oty S_6 o 8 := (oX.ty XS_6 to)
    obtain ⟨q_11, hq_11⟩ := og (cq := cq) t_10.1 (oE_8 t_10.2)
    refine va_get (D := (dC, dI)) (ci := 8) (v := .int (oI S_6 o 1)) (C := RX8) (T := TX8) (N := 6) hx hb hts in_wsX8_add_X8 hown hK hP q_11 hq_11 rfl 1 (by decide) (hts (.fieldLink RX8 18 "ShipOffice$Tape" "size" "I") iw_X8_add_1) (fun _ h9 => h9) rfl dX8_add_21 ?_
    refine lv_topi (fun x_12 ex_12 => ?_)
    have hx_12 : 0 ≤ x_12.toInt ∧ x_12.toInt ≤ 60 := iv_of ex_12 (oInv.iv hIS_6 t_10.2 rfl rfl)
    have gx_12 : x_12.toInt = (oI S_6 o 1).toInt := iv_to ex_12
    clear ex_12
    refine lv_iconst (v := 1) hx hb dX8_add_24 (by decide) ?_
    refine lv_iadd hx hb dX8_add_25 ?_
    refine lv_topi (fun x_13 ex_13 => ?_)
    have hx_13 : x_13.toInt = x_12.toInt + 1 := (iv_to ex_13).trans (ad_i rfl (by decide) (by omega) (by omega))
    clear ex_13
    refine va_put (D := (dC, dI)) (ci := 8) (v := .int x_13) (ty := .int) (C := RX8) (T := TX8) (N := 6) hx hb hts in_wsX8_add_X8 tyX8 tyX8_ok nmX8 hown hK hP hD hS q_11 hq_11 rfl 1 (by decide) (hts (.fieldLink RX8 18 "ShipOffice$Tape" "size" "I") iw_X8_add_1) (fun _ h9 => h9) rfl (by decide +kernel) rfl rfl (Nat.le_of_ble_eq_true rfl) dX8_add_26 (fun H locs hP1 hD1 hS => ?_)
    obtain ⟨S_14, eS_14⟩ : ∃ zq, zq = setI S_6 o 1 x_13 := ⟨_, rfl⟩
    have hP : va_P (dC, dI) vwCl (oW cq S_14) H := by rw [eS_14]; exact cP (oset t_10.1 hq_11 hD rfl (he_8_1 t_10.2) neI) hP1
    have hD : va_D A (oW cq S_14) := by rw [eS_14]; exact cD (oset t_10.1 hq_11 hD rfl (he_8_1 t_10.2) neI) hD1
    clear hP1 hD1
    have hIS_14 : oInv S_14 := by rw [eS_14]; exact oInv.I0 (k := 8) (lo := 0) (hi := 60) hIS_6 t_10.2 (by decide) rfl rfl rfl (by omega)
    have XS_14 : oX [801] S_6 S_14 := by rw [eS_14]; exact oX.I (k := 8) (key := 801) t_10.2 rfl (List.mem_singleton.mpr rfl)
    have pk_15 : oP S_14 o 0 = some rw := by rw [eS_14]; exact pk_7
    have X_16 : oX [801, 2160] Z S_14 := oX.st X_8 XS_14 (by decide)
    have g_17 : (oI S_14 o 1).toInt = x_13.toInt := by rw [eS_14, setI_same]
    exact W.vret hx hb hr (fun t ht hW => ⟨⟨S_14, rfl, ⟨hIS_14, X_16, (fun _ => ⟨by omega, by rw [eS_14, setI_oth (ty_ne (oX.ty XS_6 trw) (oX.ty XS_6 to) (by decide)), eS_6, setI_fun]; exact congrArg (fun k => upd (oI Z rw) k x1) (show (x_4 : Int32).toNatClampNeg = (oI Z o 1).toNatClampNeg from congrArg Int32.toNatClampNeg (Int32.toInt_inj.mp (by omega)))⟩)⟩, ⟨by rw [ht]; exact hP, va_K.moved hW.alike hK, hD⟩⟩, hS.F ht⟩) hS.2.2 dX8_add_29