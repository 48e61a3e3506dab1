

/-- an act more: the law's row, the new act, its code -/
def acO (Z : oS) (lw : Nat) (p d : Int32) (E : List Int32) (u : oS) : Prop := ∃ q, q ∉ oL Z ∧ oty u q 0 ∧ acN u q p d E ∧ oP u (oQ Z lw 0) = va_up (oP Z (oQ Z lw 0)) (oI Z lw 2).toNatClampNeg (some q)
theorem acN_o {W : List Nat} {S u : oS} {b : Nat} {p d : Int32} {E : List Int32} (X : oX W S u) (tb : oty S b 0) (hk : ∀ k ∈ [0, 1, 2, 3, 4, 5000], k ∉ W) (h : acN S b p d E) : acN u b p d E := by
  obtain ⟨⟨h1, h2⟩, h3, h4⟩ := h
  exact ⟨⟨by rw [X.i (i := 0) tb (hk 0 (by decide +kernel))]; exact h1, by rw [X.i (i := 1) tb (hk 1 (by decide +kernel))]; exact h2⟩, rCd_o X tb (hk 3 (by decide +kernel)) (hk 4 (by decide +kernel)) (hk 5000 (by decide +kernel)) h3, fun x hx => by rw [X.i (i := 2) tb (hk 2 (by decide +kernel))]; exact h4 x hx⟩
theorem tP_w {Z u : oS} {o cd : Nat} {r : Int32} {R : Nat × Bool × List Int32} (h : tP Z u o cd r R) (hr : r.toInt < 0) : R.2.1 = true ∧ tN u o = R.2.2.length ∧ isE u cd R.2.2 := by
  rcases h with ⟨h1, h2, h3, h4, h5⟩ | ⟨h1, h2, h5⟩
  · exact ⟨h1, h4, h5⟩
  · omega
set_option maxHeartbeats 4000000 in
set_option maxRecDepth 100000 in
theorem c_X10_act_g (l : Launch) (dC : Nat → ClassId) (dI : Nat → Nat → Nat) (sz : Nat) (tL tS tG : Nat) (cq : Nat → ClassId) (Z : oS) (gI : oInv Z) (o : Nat) (to : oty Z o 10) (x1 : Int32) (x2 : Int32) (tp rw cd lw : Nat) (htp : oP Z o 9 = some tp) (hrw : oP Z tp 0 = some rw) (hcd : oP Z tp 2 = some cd) (hlw : oP Z o 8 = some lw) : Met l yX10_act wsX10_act ({ frames := 26, cells := 4, slots := 134, locals := 581 }) (va_Pc [.ref o, .int x1, .int x2] (pcO (dC, dI) (oT cq) (oW cq Z) sz tL tS tG (oW cq Z))) (va_Qi (fun (r : Int32) (u : oS) => oInv u ∧ oX [502, 801, 803, 804, 805, 2012, 2063, 2107, 5001] Z u ∧ (gac (oI Z o 0).toInt (oI Z lw 2).toInt (oI Z tp 1).toInt x1.toInt x2.toInt ((cS (tC Z tp rw) 5 0).1 : Int) (bI (cS (tC Z tp rw) 5 0).2.1) r.toInt (oI u lw 2).toInt (oI u tp 1).toInt ∧ (1 ≤ r.toInt → (cS (tC Z tp rw) 5 0).2.1 = true ∧ acO Z lw x1 x2 (cS (tC Z tp rw) 5 0).2.2 u) ∧ (r.toInt < 1 → oX [801, 803, 804, 805, 2063, 2107] Z u))) (fun u t => va_P (dC, dI) vwCl (oW cq u) t.heap ∧ va_K (dC, dI) vwCl (oT cq) t ∧ va_D (va_A (oW cq Z) sz) (oW cq u)) (va_A (oW cq Z) sz)) 4 134 (va_A (oW cq Z) sz) := by
  refine Met.ofW (cc := cX10_act) (maxL := 4) (ret := (some .int)) (by decide +kernel) rfl ?_
  intro p e s m args below meth c s₁ B hml hv
  obtain ⟨rfl, ⟨hsz, hP, hK, hD0⟩, hZ⟩ := hv
  have hx := B.exec
  have hb := B.bytes
  have hr := B.returns
  have hts := atoms_spec (ws := wsX10_act) B.pre
  have hown : s.vm.findClass RX10 = some m.cls := findClass_of_methodNamed B.named
  have hlocks := B.notSynchronized
  subst hsz
  have hD := hD0.self (sz := s.heap.size)
  generalize hAe : va_A (oW cq Z) s.heap.size = A at hD hZ ⊢
  have hA : ∀ q : Nat, s.heap.size ≤ q → A q := fun q h => by rw [← hAe]; exact Or.inr h
  have hS : va_S A s.heap s.heap [] := va_S.rf
  have hP : va_P (dC, dI) vwCl (oW cq Z) s.heap := hP
  have hl := lv_entry ([.ref o, .int x1, .int x2]) (n := 4) (Nat.le_of_ble_eq_true rfl)
  rw [lg_entry_eq]
  generalize (lg_sl ([.ref o, .int x1, .int x2]) ++ List.replicate (4 - (lg_sl ([.ref o, .int x1, .int x2])).length) Slot.unset).toArray = ls at hl ⊢
  have hl : lv_has ls 4 [(0, .ref o), (1, .int x1), (2, .int x2)] := hl
  have ttp : oty Z tp 8 := oInv.rd gI to.2 htp rfl rfl
  have trw : oty Z rw 160 := oInv.rd gI ttp.2 hrw rfl rfl
  have tcd : oty Z cd 63 := oInv.rd gI ttp.2 hcd rfl rfl
  have tlw : oty Z lw 5 := oInv.rd gI to.2 hlw rfl rfl
  have iv_1 : 0 ≤ (oI Z o 0).toInt ∧ (oI Z o 0).toInt ≤ 3000 := oInv.iv gI to.2 rfl rfl
  have iv_2 : 0 ≤ (oI Z lw 2).toInt ∧ (oI Z lw 2).toInt ≤ 30 := oInv.iv gI tlw.2 rfl rfl
  have iv_3 : 0 ≤ (oI Z tp 1).toInt ∧ (oI Z tp 1).toInt ≤ 60 := oInv.iv gI ttp.2 rfl rfl
  refine lv_iload_n hx hb dX10_act_0 rfl (lv_at hl 1 rfl) ?_
  refine lv_if_lt (tgt := 9) hx hb dX10_act_1 (by decide +kernel) (fun c_4 => ?_) (fun c_4 => ?_)
  · have dc_4 := c_lt (a := x1.toInt) (b := 0) rfl (by decide +kernel) c_4
    refine lv_aload_n hx hb dX10_act_9 rfl (lv_at hl 0 rfl) ?_
    refine lv_bipush (v := (-2)) hx hb dX10_act_10 (by decide +kernel) ?_
    have hFc := o_free hD hS hA
    obtain ⟨q_5, hq_5⟩ := og (cq := cq) to.1 (oE_10 to.2)
    refine va_calli (va_runV (As := [.int (-2)]) (rest := []) ⟨hx, hb, hml, hown, hts⟩ (c_X10_refuse_c l dC dI s.heap.size cq Z gI o to (-2) (by decide +kernel)) (cwV 1 hts gX10_act_X10_refuse rfl rfl rfl (by decide +kernel) ⟨(Nat.le_of_ble_eq_true rfl), (Nat.le_of_ble_eq_true rfl)⟩) (pr_V (r := (RX10, TX10, 16)) hP hK hD q_5 10 rfl hq_5) rfl rfl hl.1 rfl (lv_room (Nat.le_of_ble_eq_true rfl)) dX10_act_12 ⟨(Nat.le_of_ble_eq_true rfl), (Nat.le_of_ble_eq_true rfl)⟩) hS (fun q _ h => hFc q h) hFc (fun r_7 u t H locs ht hvm w_6 hB hz1 hk1 hS => ?_)
    obtain ⟨S_8, rfl⟩ : ∃ z, z = u := ⟨_, rfl⟩
    obtain ⟨hP1, hK1, hD1⟩ := hB
    rw [ht] at hP1
    have hP : va_P (dC, dI) vwCl (oW cq S_8) H := hP1
    have hD : va_D A (oW cq S_8) := hD1.weaken (fun _ _ _ h => hFc _ h)
    clear hP1 hK1 hD1 hk1 hz1 hvm ht hFc
    obtain ⟨hIS_8, XS_8, hb_9, hx_10⟩ := w_6
    have X_11 : oX [502, 801, 803, 804, 805, 2012, 2063, 2107, 5001] Z S_8 := oX.st oX.rf XS_8 (by decide +kernel)
    have g_12 : (oI S_8 lw 2).toInt = (oI Z lw 2).toInt := by rw [oX.i XS_8 tlw (by decide +kernel)]
    have g_13 : (oI S_8 o 0).toInt = (oI Z o 0).toInt := by rw [oX.i XS_8 to (by decide +kernel)]
    have g_14 : (oI S_8 tp 1).toInt = (oI Z tp 1).toInt := by rw [oX.i XS_8 ttp (by decide +kernel)]
    have pk_15 : oP S_8 o 9 = some tp := by rw [oX.p XS_8 to (by decide +kernel)]; exact htp
    have pk_16 : oP S_8 tp 0 = some rw := by rw [oX.p XS_8 ttp (by decide +kernel)]; exact hrw
    have pk_17 : oP S_8 tp 2 = some cd := by rw [oX.p XS_8 ttp (by decide +kernel)]; exact hcd
    have pk_18 : oP S_8 o 8 = some lw := by rw [oX.p XS_8 to (by decide +kernel)]; exact hlw
    have rf_19 : r_7.toInt = -2 := by rw [hx_10.1]; decide
    refine W.widen (k := 4) (n := 134) (Nat.le_of_ble_eq_true rfl) (Nat.le_of_ble_eq_true rfl) ?_
    exact W.iret (v := r_7) hx hb hr (fun t ht hW => ⟨⟨r_7, S_8, rfl, ⟨hIS_8, X_11, ⟨(by first | exact Or.inl ⟨by omega, by omega, by omega, by omega⟩ | (unfold gac; omega)), fun h => by exfalso; omega, fun _ => (oX.st oX.rf XS_8 (by decide +kernel))⟩⟩, ⟨by rw [ht]; exact hP, va_K.moved hW.alike hK, hD⟩⟩, hS.F ht⟩) hS.2.2 dX10_act_15
  · have dc_4 := c_nlt (a := x1.toInt) (b := 0) rfl (by decide +kernel) c_4
    refine lv_iload_n hx hb dX10_act_4 rfl (lv_at hl 1 rfl) ?_
    refine lv_iconst (v := 5) hx hb dX10_act_5 (by decide +kernel) ?_
    refine lv_icmp_lt (tgt := 16) hx hb dX10_act_6 (by decide +kernel) (fun c_20 => ?_) (fun c_20 => ?_)
    · have dc_20 := c_lt (a := x1.toInt) (b := 5) rfl (by decide +kernel) c_20
      refine lv_iload_n hx hb dX10_act_16 rfl (lv_at hl 2 rfl) ?_
      refine lv_aload_n hx hb dX10_act_17 rfl (lv_at hl 0 rfl) ?_
      obtain ⟨q_21, hq_21⟩ := og (cq := cq) to.1 (oE_10 to.2)
      refine va_get (D := (dC, dI)) (ci := 10) (v := .int (oI Z o 0)) (C := RX10) (T := TX10) (N := 16) hx hb hts in_wsX10_act_X10 hown hK hP q_21 hq_21 rfl 0 (by decide +kernel) (hts (.fieldLink RX10 73 "ShipOffice" "now" "I") iw_X10_act_1) (fun _ h9 => h9) rfl dX10_act_18 ?_
      refine lv_topi (fun x_22 ex_22 => ?_)
      have hx_22 : 0 ≤ x_22.toInt ∧ x_22.toInt ≤ 3000 := iv_of ex_22 (oInv.iv gI to.2 rfl rfl)
      have gx_22 : x_22.toInt = (oI Z o 0).toInt := iv_to ex_22
      clear ex_22
      refine lv_icmp_ge (tgt := 31) hx hb dX10_act_21 (by decide +kernel) (fun c_23 => ?_) (fun c_23 => ?_)
      · have dc_23 := c_le (a := x_22.toInt) (b := x2.toInt) rfl rfl c_23
        refine lv_iload_n hx hb dX10_act_31 rfl (lv_at hl 2 rfl) ?_
        refine lv_sipush (v := 3000) hx hb dX10_act_32 (by decide +kernel) ?_
        refine lv_icmp_gt (tgt := 50) hx hb dX10_act_35 (by decide +kernel) (fun c_24 => ?_) (fun c_24 => ?_)
        · have dc_24 := c_lt (a := 3000) (b := x2.toInt) (by decide +kernel) rfl c_24
          refine lv_aload_n hx hb dX10_act_50 rfl (lv_at hl 0 rfl) ?_
          refine lv_bipush (v := (-6)) hx hb dX10_act_51 (by decide +kernel) ?_
          have hFc := o_free hD hS hA
          refine va_calli (va_runV (As := [.int (-6)]) (rest := []) ⟨hx, hb, hml, hown, hts⟩ (c_X10_refuse_c l dC dI s.heap.size cq Z gI o to (-6) (by decide +kernel)) (cwV 1 hts gX10_act_X10_refuse rfl rfl rfl (by decide +kernel) ⟨(Nat.le_of_ble_eq_true rfl), (Nat.le_of_ble_eq_true rfl)⟩) (pr_V (r := (RX10, TX10, 16)) hP hK hD q_21 10 rfl hq_21) rfl rfl hl.1 rfl (lv_room (Nat.le_of_ble_eq_true rfl)) dX10_act_53 ⟨(Nat.le_of_ble_eq_true rfl), (Nat.le_of_ble_eq_true rfl)⟩) hS (fun q _ h => hFc q h) hFc (fun r_26 u t H locs ht hvm w_25 hB hz1 hk1 hS => ?_)
          obtain ⟨S_27, rfl⟩ : ∃ z, z = u := ⟨_, rfl⟩
          obtain ⟨hP1, hK1, hD1⟩ := hB
          rw [ht] at hP1
          have hP : va_P (dC, dI) vwCl (oW cq S_27) H := hP1
          have hD : va_D A (oW cq S_27) := hD1.weaken (fun _ _ _ h => hFc _ h)
          clear hP1 hK1 hD1 hk1 hz1 hvm ht hFc
          obtain ⟨hIS_27, XS_27, hb_28, hx_29⟩ := w_25
          have X_30 : oX [502, 801, 803, 804, 805, 2012, 2063, 2107, 5001] Z S_27 := oX.st oX.rf XS_27 (by decide +kernel)
          have g_31 : (oI S_27 lw 2).toInt = (oI Z lw 2).toInt := by rw [oX.i XS_27 tlw (by decide +kernel)]
          have g_32 : (oI S_27 o 0).toInt = (oI Z o 0).toInt := by rw [oX.i XS_27 to (by decide +kernel)]
          have g_33 : (oI S_27 tp 1).toInt = (oI Z tp 1).toInt := by rw [oX.i XS_27 ttp (by decide +kernel)]
          have pk_34 : oP S_27 o 9 = some tp := by rw [oX.p XS_27 to (by decide +kernel)]; exact htp
          have pk_35 : oP S_27 tp 0 = some rw := by rw [oX.p XS_27 ttp (by decide +kernel)]; exact hrw
          have pk_36 : oP S_27 tp 2 = some cd := by rw [oX.p XS_27 ttp (by decide +kernel)]; exact hcd
          have pk_37 : oP S_27 o 8 = some lw := by rw [oX.p XS_27 to (by decide +kernel)]; exact hlw
          have rf_38 : r_26.toInt = -6 := by rw [hx_29.1]; decide
          refine W.widen (k := 4) (n := 134) (Nat.le_of_ble_eq_true rfl) (Nat.le_of_ble_eq_true rfl) ?_
          exact W.iret (v := r_26) hx hb hr (fun t ht hW => ⟨⟨r_26, S_27, rfl, ⟨hIS_27, X_30, ⟨(by first | exact Or.inr (Or.inr (Or.inl ⟨by omega, by omega, by omega, by omega, by omega, by omega⟩)) | (unfold gac; omega)), fun h => by exfalso; omega, fun _ => (oX.st oX.rf XS_27 (by decide +kernel))⟩⟩, ⟨by rw [ht]; exact hP, va_K.moved hW.alike hK, hD⟩⟩, hS.F ht⟩) hS.2.2 dX10_act_56
        · have dc_24 := c_nlt (a := 3000) (b := x2.toInt) (by decide +kernel) rfl c_24
          refine lv_aload_n hx hb dX10_act_38 rfl (lv_at hl 0 rfl) ?_
          refine va_get (D := (dC, dI)) (ci := 10) (v := .ref lw) (C := RX10) (T := TX10) (N := 16) hx hb hts in_wsX10_act_X10 hown hK hP q_21 hq_21 rfl 8 (by decide +kernel) (hts (.fieldLink RX10 30 "ShipOffice" "law" "LShipOffice$Law;") iw_X10_act_2) (fun _ h9 => h9) (o_rd hlw) dX10_act_39 ?_
          obtain ⟨q_39, hq_39⟩ := og (cq := cq) tlw.1 (oE_5 tlw.2)
          refine va_get (D := (dC, dI)) (ci := 5) (v := .int (oI Z lw 2)) (C := RX5) (T := TX5) (N := 3) hx hb hts in_wsX10_act_X5 hown hK hP q_39 hq_39 rfl 2 (by decide +kernel) (hts (.fieldLink RX10 178 "ShipOffice$Law" "actCount" "I") iw_X10_act_3) (fun _ h9 => h9) rfl dX10_act_42 ?_
          refine lv_topi (fun x_40 ex_40 => ?_)
          have hx_40 : 0 ≤ x_40.toInt ∧ x_40.toInt ≤ 30 := iv_of ex_40 (oInv.iv gI tlw.2 rfl rfl)
          have gx_40 : x_40.toInt = (oI Z lw 2).toInt := iv_to ex_40
          clear ex_40
          refine lv_bipush (v := 30) hx hb dX10_act_45 (by decide +kernel) ?_
          refine lv_icmp_lt (tgt := 57) hx hb dX10_act_47 (by decide +kernel) (fun c_41 => ?_) (fun c_41 => ?_)
          · have dc_41 := c_lt (a := x_40.toInt) (b := 30) rfl (by decide +kernel) c_41
            refine lv_aload_n hx hb dX10_act_57 rfl (lv_at hl 0 rfl) ?_
            refine va_get (D := (dC, dI)) (ci := 10) (v := .ref tp) (C := RX10) (T := TX10) (N := 16) hx hb hts in_wsX10_act_X10 hown hK hP q_21 hq_21 rfl 9 (by decide +kernel) (hts (.fieldLink RX10 37 "ShipOffice" "tape" "LShipOffice$Tape;") iw_X10_act_4) (fun _ h9 => h9) (o_rd htp) dX10_act_58 ?_
            have hFc := o_free hD hS hA
            obtain ⟨q_42, hq_42⟩ := og (cq := cq) ttp.1 (oE_8 ttp.2)
            refine va_calli (va_runV (As := []) (rest := []) ⟨hx, hb, hml, hown, hts⟩ (c_X8_parse_f l dC dI s.heap.size tL tS tG cq Z gI tp ttp rw hrw cd hcd) (cwV 0 hts gX10_act_X8_parse rfl rfl rfl (by decide +kernel) ⟨(Nat.le_of_ble_eq_true rfl), (Nat.le_of_ble_eq_true rfl)⟩) (pr_VO (r := (RX8, TX8, 6)) hP hK hD q_42 8 rfl hq_42 (hZ.go hS hFc)) rfl rfl hl.1 rfl (lv_room (Nat.le_of_ble_eq_true rfl)) dX10_act_61 ⟨(Nat.le_of_ble_eq_true rfl), (Nat.le_of_ble_eq_true rfl)⟩) hS (fun q _ h => hFc q h) hFc (fun r_44 u t H locs ht hvm w_43 hB hz1 hk1 hS => ?_)
            obtain ⟨S_45, rfl⟩ : ∃ z, z = u := ⟨_, rfl⟩
            obtain ⟨hP1, hK1, hD1⟩ := hB
            rw [ht] at hP1
            have hP : va_P (dC, dI) vwCl (oW cq S_45) H := hP1
            have hD : va_D A (oW cq S_45) := hD1.weaken (fun _ _ _ h => hFc _ h)
            clear hP1 hK1 hD1 hk1 hz1 hvm ht hFc
            obtain ⟨hIS_45, XS_45, hx_46⟩ := w_43
            have X_47 : oX [502, 801, 803, 804, 805, 2012, 2063, 2107, 5001] Z S_45 := oX.st oX.rf XS_45 (by decide +kernel)
            have g_48 : (oI S_45 lw 2).toInt = (oI Z lw 2).toInt := by rw [oX.i XS_45 tlw (by decide +kernel)]
            have g_49 : (oI S_45 o 0).toInt = (oI Z o 0).toInt := by rw [oX.i XS_45 to (by decide +kernel)]
            have g_50 : (oI S_45 tp 1).toInt = (oI Z tp 1).toInt := by rw [oX.i XS_45 ttp (by decide +kernel)]
            have pk_51 : oP S_45 o 9 = some tp := by rw [oX.p XS_45 to (by decide +kernel)]; exact htp
            have pk_52 : oP S_45 tp 0 = some rw := by rw [oX.p XS_45 ttp (by decide +kernel)]; exact hrw
            have pk_53 : oP S_45 tp 2 = some cd := by rw [oX.p XS_45 ttp (by decide +kernel)]; exact hcd
            have pk_54 : oP S_45 o 8 = some lw := by rw [oX.p XS_45 to (by decide +kernel)]; exact hlw
            have hti := tP_i hx_46
            refine lv_istore_n (lv' := [(3, .int r_44), (0, .ref o), (1, .int x1), (2, .int x2)]) hx hb dX10_act_64 rfl hl (by decide +kernel) rfl (fun ls hl => ?_)
            refine lv_iload_n hx hb dX10_act_65 rfl (lv_at hl 0 rfl) ?_
            refine lv_if_ge (tgt := 102) hx hb dX10_act_66 (by decide +kernel) (fun c_55 => ?_) (fun c_55 => ?_)
            · have dc_55 := c_le (a := 0) (b := r_44.toInt) (by decide +kernel) rfl c_55
              refine lv_aload_n hx hb dX10_act_102 rfl (lv_at hl 1 rfl) ?_
              have t_56 : oty S_45 o 10 := (oX.ty XS_45 to)
              obtain ⟨q_57, hq_57⟩ := og (cq := cq) t_56.1 (oE_10 t_56.2)
              refine va_get (D := (dC, dI)) (ci := 10) (v := .ref tp) (C := RX10) (T := TX10) (N := 16) hx hb hts in_wsX10_act_X10 hown hK hP q_57 hq_57 rfl 9 (by decide +kernel) (hts (.fieldLink RX10 37 "ShipOffice" "tape" "LShipOffice$Tape;") iw_X10_act_4) (fun _ h9 => h9) (o_rd pk_51) dX10_act_103 ?_
              refine lv_iconst (v := 0) hx hb dX10_act_106 (by decide +kernel) ?_
              have t_58 : oty S_45 tp 8 := (oX.ty XS_45 ttp)
              obtain ⟨q_59, hq_59⟩ := og (cq := cq) t_58.1 (oE_8 t_58.2)
              refine va_put (D := (dC, dI)) (ci := 8) (v := .int 0) (ty := .int) (C := RX8) (T := TX8) (N := 6) hx hb hts in_wsX10_act_X8 tyX8 tyX8_ok nmX8 hown hK hP hD hS q_59 hq_59 rfl 1 (by decide +kernel) (hts (.fieldLink RX10 169 "ShipOffice$Tape" "size" "I") iw_X10_act_5) (fun _ h9 => h9) rfl (by decide +kernel) rfl rfl (Nat.le_of_ble_eq_true rfl) dX10_act_107 (fun H locs hP1 hD1 hS => ?_)
              obtain ⟨S_60, eS_60⟩ : ∃ zq, zq = setI S_45 tp 1 0 := ⟨_, rfl⟩
              have hP : va_P (dC, dI) vwCl (oW cq S_60) H := by rw [eS_60]; exact cP (oset t_58.1 hq_59 hD rfl (he_8_1 t_58.2) neI) hP1
              have hD : va_D A (oW cq S_60) := by rw [eS_60]; exact cD (oset t_58.1 hq_59 hD rfl (he_8_1 t_58.2) neI) hD1
              clear hP1 hD1
              have hIS_60 : oInv S_60 := by rw [eS_60]; exact oInv.I0 (k := 8) (lo := 0) (hi := 60) hIS_45 t_58.2 (by decide +kernel) rfl rfl rfl (by decide +kernel)
              have XS_60 : oX [801] S_45 S_60 := by rw [eS_60]; exact oX.I (k := 8) (key := 801) t_58.2 rfl (List.mem_singleton.mpr rfl)
              have pk_61 : oP S_60 o 9 = some tp := by rw [eS_60]; exact pk_51
              have pk_62 : oP S_60 tp 0 = some rw := by rw [eS_60]; exact pk_52
              have pk_63 : oP S_60 tp 2 = some cd := by rw [eS_60]; exact pk_53
              have pk_64 : oP S_60 o 8 = some lw := by rw [eS_60]; exact pk_54
              have X_65 : oX [502, 801, 803, 804, 805, 2012, 2063, 2107, 5001] Z S_60 := oX.st X_47 XS_60 (by decide +kernel)
              have g_66 : (oI S_60 lw 2).toInt = (oI S_45 lw 2).toInt := by rw [eS_60, setI_oth (ty_ne (oX.ty XS_45 tlw) t_58 (by decide +kernel))]
              have g_67 : (oI S_60 o 0).toInt = (oI S_45 o 0).toInt := by rw [eS_60, setI_oth (ty_ne t_56 t_58 (by decide +kernel))]
              have g_68 : (oI S_60 tp 1).toInt = 0 := by rw [eS_60, setI_same]; decide
              refine lv_iload_n hx hb dX10_act_110 rfl (lv_at hl 0 rfl) ?_
              refine lv_if_ge (tgt := 124) hx hb dX10_act_111 (by decide +kernel) (fun c_69 => ?_) (fun c_69 => ?_)
              · have dc_69 := c_le (a := 0) (b := r_44.toInt) (by decide +kernel) rfl c_69
                refine lv_bipush (v := (-20)) hx hb dX10_act_124 (by decide +kernel) ?_
                refine lv_iload_n hx hb dX10_act_126 rfl (lv_at hl 0 rfl) ?_
                refine lv_isub hx hb dX10_act_127 ?_
                refine lv_topi (fun x_70 ex_70 => ?_)
                have hx_70 : x_70.toInt = (-20) - r_44.toInt := (iv_to ex_70).trans (sb_i (by decide +kernel) rfl (by omega) (by omega))
                clear ex_70
                refine W.widen (k := 4) (n := 134) (Nat.le_of_ble_eq_true rfl) (Nat.le_of_ble_eq_true rfl) ?_
                exact W.iret (v := x_70) hx hb hr (fun t ht hW => ⟨⟨x_70, S_60, rfl, ⟨hIS_60, X_65, ⟨(by first | exact Or.inr (Or.inr (Or.inr (Or.inl ⟨by omega, by omega, by omega, by omega, by omega, by omega, by omega, by omega⟩))) | (unfold gac; omega)), fun h => by exfalso; omega, fun _ => (oX.st (oX.st oX.rf XS_45 (by decide +kernel)) XS_60 (by decide +kernel))⟩⟩, ⟨by rw [ht]; exact hP, va_K.moved hW.alike hK, hD⟩⟩, hS.F ht⟩) hS.2.2 dX10_act_128
              · have dc_69 := c_nle (a := 0) (b := r_44.toInt) (by decide +kernel) rfl c_69
                exfalso; omega
            · have dc_55 := c_nle (a := 0) (b := r_44.toInt) (by decide +kernel) rfl c_55
              have hpw := tP_w hx_46 (by omega)
              have t_72 : oty S_45 tp 8 := (oX.ty XS_45 ttp)
              have iv_71 : 0 ≤ (oI S_45 tp 3).toInt ∧ (oI S_45 tp 3).toInt ≤ 60 := oInv.iv hIS_45 t_72.2 rfl rfl
              refine lv_aload_n hx hb dX10_act_69 rfl (lv_at hl 1 rfl) ?_
              have t_73 : oty S_45 o 10 := (oX.ty XS_45 to)
              obtain ⟨q_74, hq_74⟩ := og (cq := cq) t_73.1 (oE_10 t_73.2)
              refine va_get (D := (dC, dI)) (ci := 10) (v := .ref lw) (C := RX10) (T := TX10) (N := 16) hx hb hts in_wsX10_act_X10 hown hK hP q_74 hq_74 rfl 8 (by decide +kernel) (hts (.fieldLink RX10 30 "ShipOffice" "law" "LShipOffice$Law;") iw_X10_act_2) (fun _ h9 => h9) (o_rd pk_54) dX10_act_70 ?_
              refine va_new (ci := 0) (fs := [.int 0, .int 0, .int 0, .null, .null]) (C := RX0) (T := TX0) (N := 5) hx hb hts in_wsX10_act_X0 tyX0 tyX0_ok hown (hts (.classLink RX10 185 RX0) iw_X10_act_6) (hts (.instantiable RX0 5) iw_X10_act_7) (hts (.initialized RX0) iw_X10_act_8) hK hP hD hS hA rfl (fun j hj => by rcases (show j = 0 ∨ j = 1 ∨ j = 2 ∨ j = 3 ∨ j = 4 by omega) with rfl | rfl | rfl | rfl | rfl <;> rfl) (Nat.le_of_ble_eq_true rfl) (Nat.le_of_ble_eq_true rfl) dX10_act_73 (fun q_75 H hP1 hD1 hS => ?_)
              have hnq_75 := add_q hD1
              obtain ⟨S_76, eS_76⟩ : ∃ zq, zq = addO S_45 q_75 30 := ⟨_, rfl⟩
              have hP : va_P (dC, dI) vwCl (oW cq S_76) H := by rw [eS_76]; exact cP (onew hD1 (by rw [oE_30 add_K, add_I, add_P]; rfl)) hP1
              have hD : va_D A (oW cq S_76) := by rw [eS_76]; exact cD (onew hD1 (by rw [oE_30 add_K, add_I, add_P]; rfl)) hD1
              clear hP1 hD1
              have hIS_76 : oInv S_76 := by rw [eS_76]; exact oInv.add hIS_45 hnq_75 (by decide +kernel)
              have XS_76 : oX [] S_45 S_76 := by rw [eS_76]; exact oX.add hnq_75
              have nzq_75 : q_75 ∉ oL Z := oX.nin X_47 hnq_75
              have pk_77 : oP S_76 o 9 = some tp := by rw [eS_76, add_Pn hnq_75 t_73.1]; exact pk_51
              have pk_78 : oP S_76 tp 0 = some rw := by rw [eS_76, add_Pn hnq_75 t_72.1]; exact pk_52
              have pk_79 : oP S_76 tp 2 = some cd := by rw [eS_76, add_Pn hnq_75 t_72.1]; exact pk_53
              have pk_80 : oP S_76 o 8 = some lw := by rw [eS_76, add_Pn hnq_75 t_73.1]; exact pk_54
              have g_81 : (oI S_76 lw 2).toInt = (oI S_45 lw 2).toInt := by rw [eS_76, add_In hnq_75 (oX.ty XS_45 tlw).1]
              have g_82 : (oI S_76 o 0).toInt = (oI S_45 o 0).toInt := by rw [eS_76, add_In hnq_75 t_73.1]
              have g_83 : (oI S_76 tp 1).toInt = (oI S_45 tp 1).toInt := by rw [eS_76, add_In hnq_75 t_72.1]
              have g_84 : (oI S_76 tp 3).toInt = (oI S_45 tp 3).toInt := by rw [eS_76, add_In hnq_75 t_72.1]
              have X_85 : oX [502, 801, 803, 804, 805, 2012, 2063, 2107, 5001] Z S_76 := oX.st X_47 XS_76 (by decide +kernel)
              have tq_75 : oty S_76 q_75 30 := by rw [eS_76]; exact add_ty
              refine W.widen (k := 1) (n := 5) (Nat.le_of_ble_eq_true rfl) (Nat.le_of_ble_eq_true rfl) ?_
              refine lv_dup hx hb dX10_act_76 rfl ?_
              refine lv_iload_n hx hb dX10_act_77 rfl (lv_at hl 2 rfl) ?_
              refine lv_iload_n hx hb dX10_act_78 rfl (lv_at hl 3 rfl) ?_
              refine lv_aload_n hx hb dX10_act_79 rfl (lv_at hl 1 rfl) ?_
              have t_86 : oty S_76 o 10 := (oX.ty XS_76 t_73)
              obtain ⟨q_87, hq_87⟩ := og (cq := cq) t_86.1 (oE_10 t_86.2)
              refine va_get (D := (dC, dI)) (ci := 10) (v := .ref tp) (C := RX10) (T := TX10) (N := 16) hx hb hts in_wsX10_act_X10 hown hK hP q_87 hq_87 rfl 9 (by decide +kernel) (hts (.fieldLink RX10 37 "ShipOffice" "tape" "LShipOffice$Tape;") iw_X10_act_4) (fun _ h9 => h9) (o_rd pk_77) dX10_act_80 ?_
              have t_88 : oty S_76 tp 8 := (oX.ty XS_76 t_72)
              obtain ⟨q_89, hq_89⟩ := og (cq := cq) t_88.1 (oE_8 t_88.2)
              refine va_get (D := (dC, dI)) (ci := 8) (v := .ref cd) (C := RX8) (T := TX8) (N := 6) hx hb hts in_wsX10_act_X8 hown hK hP q_89 hq_89 rfl 2 (by decide +kernel) (hts (.fieldLink RX10 187 "ShipOffice$Tape" "code" "[I") iw_X10_act_9) (fun _ h9 => h9) (o_rd pk_79) dX10_act_83 ?_
              refine lv_aload_n hx hb dX10_act_86 rfl (lv_at hl 1 rfl) ?_
              refine va_get (D := (dC, dI)) (ci := 10) (v := .ref tp) (C := RX10) (T := TX10) (N := 16) hx hb hts in_wsX10_act_X10 hown hK hP q_87 hq_87 rfl 9 (by decide +kernel) (hts (.fieldLink RX10 37 "ShipOffice" "tape" "LShipOffice$Tape;") iw_X10_act_4) (fun _ h9 => h9) (o_rd pk_77) dX10_act_87 ?_
              refine va_get (D := (dC, dI)) (ci := 8) (v := .int (oI S_76 tp 3)) (C := RX8) (T := TX8) (N := 6) hx hb hts in_wsX10_act_X8 hown hK hP q_89 hq_89 rfl 3 (by decide +kernel) (hts (.fieldLink RX10 190 "ShipOffice$Tape" "codeSize" "I") iw_X10_act_10) (fun _ h9 => h9) rfl dX10_act_90 ?_
              refine lv_topi (fun x_90 ex_90 => ?_)
              have hx_90 : 0 ≤ x_90.toInt ∧ x_90.toInt ≤ 60 := iv_of ex_90 (oInv.iv hIS_76 t_88.2 rfl rfl)
              have gx_90 : x_90.toInt = (oI S_76 tp 3).toInt := iv_to ex_90
              clear ex_90
              have t_91 : oty S_76 cd 63 := (oX.ty XS_76 (oX.ty XS_45 tcd))
              have hFc := o_free hD hS hA
              refine va_callq (va_runS (As := [.ref cd, .int x_90]) (rest := [.int x2, .int x1, .ref q_75, .ref q_75, .ref lw]) ⟨hx, hb, hml, hown, hts⟩ (c_J7_copyOf_59c91_c l dC dI H.size tL tS tG cq S_76 hIS_76 cd t_91 x_90 (by omega)) (va_cwS 2 hts gX10_act_J7_copyOf_59c91 rfl rfl rfl (by decide +kernel) ⟨(Nat.le_of_ble_eq_true rfl), (Nat.le_of_ble_eq_true rfl)⟩) (pr_SO hP hK hD (hZ.go hS hFc)) rfl rfl hl.1 rfl (lv_room (Nat.le_of_ble_eq_true rfl)) dX10_act_93 ⟨(Nat.le_of_ble_eq_true rfl), (Nat.le_of_ble_eq_true rfl)⟩) hS (fun q _ h => hFc q h) hFc (fun r_93 u t H locs ht hvm w_92 hB hz1 hk1 hS => ?_)
              obtain ⟨S_94, rfl⟩ : ∃ z, z = u := ⟨_, rfl⟩
              obtain ⟨hP1, hK1, hD1⟩ := hB
              rw [ht] at hP1
              have hP : va_P (dC, dI) vwCl (oW cq S_94) H := hP1
              have hD : va_D A (oW cq S_94) := hD1.weaken (fun _ _ _ h => hFc _ h)
              clear hP1 hK1 hD1 hk1 hz1 hvm ht hFc
              refine W.widen (k := 2) (n := 65) (Nat.le_of_ble_eq_true rfl) (Nat.le_of_ble_eq_true rfl) ?_
              obtain ⟨hIS_94, XS_94, hk_95, hx_96⟩ := w_92
              have X_97 : oX [502, 801, 803, 804, 805, 2012, 2063, 2107, 5001] Z S_94 := oX.st X_85 XS_94 (by decide +kernel)
              have g_98 : (oI S_94 lw 2).toInt = (oI S_76 lw 2).toInt := by rw [oX.i XS_94 (oX.ty XS_76 (oX.ty XS_45 tlw)) (by decide +kernel)]
              have g_99 : (oI S_94 o 0).toInt = (oI S_76 o 0).toInt := by rw [oX.i XS_94 t_86 (by decide +kernel)]
              have g_100 : (oI S_94 tp 1).toInt = (oI S_76 tp 1).toInt := by rw [oX.i XS_94 t_88 (by decide +kernel)]
              have g_101 : (oI S_94 tp 3).toInt = (oI S_76 tp 3).toInt := by rw [oX.i XS_94 t_88 (by decide +kernel)]
              have pk_102 : oP S_94 o 9 = some tp := by rw [oX.p XS_94 t_86 (by decide +kernel)]; exact pk_77
              have pk_103 : oP S_94 tp 0 = some rw := by rw [oX.p XS_94 t_88 (by decide +kernel)]; exact pk_78
              have pk_104 : oP S_94 tp 2 = some cd := by rw [oX.p XS_94 t_88 (by decide +kernel)]; exact pk_79
              have pk_105 : oP S_94 o 8 = some lw := by rw [oX.p XS_94 t_86 (by decide +kernel)]; exact pk_80
              obtain ⟨b_106, rfl, tb_106⟩ := hk_95
              refine W.eq (g2 := F0 m 96 ls [.ref b_106, .int x2, .int x1, .ref q_75, .ref q_75, .ref lw]) rfl ?_
              have hzb_106 : x_90.toNatClampNeg = x_90.toInt.toNat := rfl
              have hEq : isE S_94 b_106 (cS (tC Z tp rw) 5 0).2.2 := fun j hj => by rw [(hx_96 _ rfl).2 j (by have n9 : tN S_45 tp = (oI S_45 tp 3).toInt.toNat := rfl; have n8 : x_90.toNatClampNeg = x_90.toInt.toNat := rfl; have n7 := hpw.2.1; omega), show oI S_76 cd = oI S_45 cd from oX.f (W := []) (oX.st oX.rf XS_76 (by decide +kernel)) (oX.ty XS_45 tcd) (fun _ => by simp)]; exact hpw.2.2 j hj
              have hlq : (cS (tC Z tp rw) 5 0).2.2.length = x_90.toNatClampNeg := by have n9 : tN S_45 tp = (oI S_45 tp 3).toInt.toNat := rfl; have n8 : x_90.toNatClampNeg = x_90.toInt.toNat := rfl; have n7 := hpw.2.1; omega
              have t_107 : oty S_94 q_75 30 := (oX.ty XS_94 tq_75)
              have hFc := o_free hD hS hA
              refine va_callv (va_runI (As := [.int x1, .int x2, .ref b_106]) (rest := [.ref q_75, .ref lw]) ⟨hx, hb, hml, hown, hts⟩ (c_X0_init_c l dC dI H.size tL tS tG cq S_94 hIS_94 q_75 t_107 x1 x2 x_90.toNatClampNeg (by omega) b_106 tb_106 (cS (tC Z tp rw) 5 0).2.2 hlq hEq) (cwI 3 hts gX10_act_X0_init rfl rfl rfl (hts (.initialized RX0) iw_X10_act_8) (hts (.methodLink RX10 199 yX0_init) iw_X10_act_11) (hts (.instanceMethod yX0_init) iw_X10_act_12) rfl (by decide +kernel) ⟨(Nat.le_of_ble_eq_true rfl), (Nat.le_of_ble_eq_true rfl)⟩) (pr_SO hP hK hD (hZ.go hS hFc)) rfl rfl hl.1 rfl (lv_room (Nat.le_of_ble_eq_true rfl)) dX10_act_96 ⟨(Nat.le_of_ble_eq_true rfl), (Nat.le_of_ble_eq_true rfl)⟩) hS (fun q _ h => hFc q h) hFc (fun u t H locs ht hvm w_108 hB hz1 hk1 hS => ?_)
              obtain ⟨S_110, rfl⟩ : ∃ z, z = u := ⟨_, rfl⟩
              obtain ⟨hP1, hK1, hD1⟩ := hB
              rw [ht] at hP1
              have hP : va_P (dC, dI) vwCl (oW cq S_110) H := hP1
              have hD : va_D A (oW cq S_110) := hD1.weaken (fun _ _ _ h => hFc _ h)
              clear hP1 hK1 hD1 hk1 hz1 hvm ht hFc
              refine W.widen (k := 4) (n := 134) (Nat.le_of_ble_eq_true rfl) (Nat.le_of_ble_eq_true rfl) ?_
              obtain ⟨hIS_110, XS_110, hx_111⟩ := w_108
              obtain ⟨hxS_110, hcS_110⟩ := hx_111
              have X_112 : oX [502, 801, 803, 804, 805, 2012, 2063, 2107, 5001] Z S_110 := oX.c X_97 XS_110 nzq_75 (by decide +kernel)
              have g_113 : (oI S_110 lw 2).toInt = (oI S_94 lw 2).toInt := by rw [oXc.i XS_110 (ty_ne (oX.ty XS_94 (oX.ty XS_76 (oX.ty XS_45 tlw))) t_107 (by decide +kernel)) (oX.ty XS_94 (oX.ty XS_76 (oX.ty XS_45 tlw))) (by decide +kernel)]
              have g_114 : (oI S_110 o 0).toInt = (oI S_94 o 0).toInt := by rw [oXc.i XS_110 (ty_ne (oX.ty XS_94 t_86) t_107 (by decide +kernel)) (oX.ty XS_94 t_86) (by decide +kernel)]
              have g_115 : (oI S_110 tp 1).toInt = (oI S_94 tp 1).toInt := by rw [oXc.i XS_110 (ty_ne (oX.ty XS_94 t_88) t_107 (by decide +kernel)) (oX.ty XS_94 t_88) (by decide +kernel)]
              have g_116 : (oI S_110 tp 3).toInt = (oI S_94 tp 3).toInt := by rw [oXc.i XS_110 (ty_ne (oX.ty XS_94 t_88) t_107 (by decide +kernel)) (oX.ty XS_94 t_88) (by decide +kernel)]
              have pk_117 : oP S_110 o 9 = some tp := by rw [oXc.p XS_110 (ty_ne (oX.ty XS_94 t_86) t_107 (by decide +kernel)) (oX.ty XS_94 t_86) (by decide +kernel)]; exact pk_102
              have pk_118 : oP S_110 tp 0 = some rw := by rw [oXc.p XS_110 (ty_ne (oX.ty XS_94 t_88) t_107 (by decide +kernel)) (oX.ty XS_94 t_88) (by decide +kernel)]; exact pk_103
              have pk_119 : oP S_110 tp 2 = some cd := by rw [oXc.p XS_110 (ty_ne (oX.ty XS_94 t_88) t_107 (by decide +kernel)) (oX.ty XS_94 t_88) (by decide +kernel)]; exact pk_104
              have pk_120 : oP S_110 o 8 = some lw := by rw [oXc.p XS_110 (ty_ne (oX.ty XS_94 t_86) t_107 (by decide +kernel)) (oX.ty XS_94 t_86) (by decide +kernel)]; exact pk_105
              have t_121 : oty S_110 lw 5 := (oXc.ty XS_110 (ty_ne (oX.ty XS_94 (oX.ty XS_76 (oX.ty XS_45 tlw))) t_107 (by decide +kernel)) (oX.ty XS_94 (oX.ty XS_76 (oX.ty XS_45 tlw))))
              have hFc := o_free hD hS hA
              obtain ⟨q_122, hq_122⟩ := og (cq := cq) t_121.1 (oE_5 t_121.2)
              refine va_callv (va_runV (As := [.ref q_75]) (rest := []) ⟨hx, hb, hml, hown, hts⟩ (c_X5_add_g l dC dI H.size cq S_110 hIS_110 lw t_121 q_75 hxS_110) (cwV 1 hts gX10_act_X5_add rfl rfl rfl (by decide +kernel) ⟨(Nat.le_of_ble_eq_true rfl), (Nat.le_of_ble_eq_true rfl)⟩) (pr_V (r := (RX5, TX5, 3)) hP hK hD q_122 5 rfl hq_122) rfl rfl hl.1 rfl (lv_room (Nat.le_of_ble_eq_true rfl)) dX10_act_99 ⟨(Nat.le_of_ble_eq_true rfl), (Nat.le_of_ble_eq_true rfl)⟩) hS (fun q _ h => hFc q h) hFc (fun u t H locs ht hvm w_123 hB hz1 hk1 hS => ?_)
              obtain ⟨S_125, rfl⟩ : ∃ z, z = u := ⟨_, rfl⟩
              obtain ⟨hP1, hK1, hD1⟩ := hB
              rw [ht] at hP1
              have hP : va_P (dC, dI) vwCl (oW cq S_125) H := hP1
              have hD : va_D A (oW cq S_125) := hD1.weaken (fun _ _ _ h => hFc _ h)
              clear hP1 hK1 hD1 hk1 hz1 hvm ht hFc
              obtain ⟨hIS_125, XS_125, hx_126⟩ := w_123
              have X_127 : oX [502, 801, 803, 804, 805, 2012, 2063, 2107, 5001] Z S_125 := oX.st X_112 XS_125 (by decide +kernel)
              have g_128 : (oI S_125 o 0).toInt = (oI S_110 o 0).toInt := by rw [oX.i XS_125 (oXc.ty XS_110 (ty_ne (oX.ty XS_94 t_86) t_107 (by decide +kernel)) (oX.ty XS_94 t_86)) (by decide +kernel)]
              have g_129 : (oI S_125 tp 1).toInt = (oI S_110 tp 1).toInt := by rw [oX.i XS_125 (oXc.ty XS_110 (ty_ne (oX.ty XS_94 t_88) t_107 (by decide +kernel)) (oX.ty XS_94 t_88)) (by decide +kernel)]
              have g_130 : (oI S_125 tp 3).toInt = (oI S_110 tp 3).toInt := by rw [oX.i XS_125 (oXc.ty XS_110 (ty_ne (oX.ty XS_94 t_88) t_107 (by decide +kernel)) (oX.ty XS_94 t_88)) (by decide +kernel)]
              have pk_131 : oP S_125 o 9 = some tp := by rw [oX.p XS_125 (oXc.ty XS_110 (ty_ne (oX.ty XS_94 t_86) t_107 (by decide +kernel)) (oX.ty XS_94 t_86)) (by decide +kernel)]; exact pk_117
              have pk_132 : oP S_125 tp 0 = some rw := by rw [oX.p XS_125 (oXc.ty XS_110 (ty_ne (oX.ty XS_94 t_88) t_107 (by decide +kernel)) (oX.ty XS_94 t_88)) (by decide +kernel)]; exact pk_118
              have pk_133 : oP S_125 tp 2 = some cd := by rw [oX.p XS_125 (oXc.ty XS_110 (ty_ne (oX.ty XS_94 t_88) t_107 (by decide +kernel)) (oX.ty XS_94 t_88)) (by decide +kernel)]; exact pk_119
              have pk_134 : oP S_125 o 8 = some lw := by rw [oX.p XS_125 (oXc.ty XS_110 (ty_ne (oX.ty XS_94 t_86) t_107 (by decide +kernel)) (oX.ty XS_94 t_86)) (by decide +kernel)]; exact pk_120
              obtain ⟨yad, had1, had2⟩ := hx_126 (by omega)
              have hla : (oI S_125 lw 2).toInt = yad.toInt := by rw [had2, setI_same]
              clear hx_126
              refine lv_aload_n hx hb dX10_act_102 rfl (lv_at hl 1 rfl) ?_
              have t_135 : oty S_125 o 10 := (oX.ty XS_125 (oXc.ty XS_110 (ty_ne (oX.ty XS_94 t_86) t_107 (by decide +kernel)) (oX.ty XS_94 t_86)))
              obtain ⟨q_136, hq_136⟩ := og (cq := cq) t_135.1 (oE_10 t_135.2)
              refine va_get (D := (dC, dI)) (ci := 10) (v := .ref tp) (C := RX10) (T := TX10) (N := 16) hx hb hts in_wsX10_act_X10 hown hK hP q_136 hq_136 rfl 9 (by decide +kernel) (hts (.fieldLink RX10 37 "ShipOffice" "tape" "LShipOffice$Tape;") iw_X10_act_4) (fun _ h9 => h9) (o_rd pk_131) dX10_act_103 ?_
              refine lv_iconst (v := 0) hx hb dX10_act_106 (by decide +kernel) ?_
              have t_137 : oty S_125 tp 8 := (oX.ty XS_125 (oXc.ty XS_110 (ty_ne (oX.ty XS_94 t_88) t_107 (by decide +kernel)) (oX.ty XS_94 t_88)))
              obtain ⟨q_138, hq_138⟩ := og (cq := cq) t_137.1 (oE_8 t_137.2)
              refine va_put (D := (dC, dI)) (ci := 8) (v := .int 0) (ty := .int) (C := RX8) (T := TX8) (N := 6) hx hb hts in_wsX10_act_X8 tyX8 tyX8_ok nmX8 hown hK hP hD hS q_138 hq_138 rfl 1 (by decide +kernel) (hts (.fieldLink RX10 169 "ShipOffice$Tape" "size" "I") iw_X10_act_5) (fun _ h9 => h9) rfl (by decide +kernel) rfl rfl (Nat.le_of_ble_eq_true rfl) dX10_act_107 (fun H locs hP1 hD1 hS => ?_)
              obtain ⟨S_139, eS_139⟩ : ∃ zq, zq = setI S_125 tp 1 0 := ⟨_, rfl⟩
              have hP : va_P (dC, dI) vwCl (oW cq S_139) H := by rw [eS_139]; exact cP (oset t_137.1 hq_138 hD rfl (he_8_1 t_137.2) neI) hP1
              have hD : va_D A (oW cq S_139) := by rw [eS_139]; exact cD (oset t_137.1 hq_138 hD rfl (he_8_1 t_137.2) neI) hD1
              clear hP1 hD1
              have hIS_139 : oInv S_139 := by rw [eS_139]; exact oInv.I0 (k := 8) (lo := 0) (hi := 60) hIS_125 t_137.2 (by decide +kernel) rfl rfl rfl (by decide +kernel)
              have XS_139 : oX [801] S_125 S_139 := by rw [eS_139]; exact oX.I (k := 8) (key := 801) t_137.2 rfl (List.mem_singleton.mpr rfl)
              have pk_140 : oP S_139 o 9 = some tp := by rw [eS_139]; exact pk_131
              have pk_141 : oP S_139 tp 0 = some rw := by rw [eS_139]; exact pk_132
              have pk_142 : oP S_139 tp 2 = some cd := by rw [eS_139]; exact pk_133
              have pk_143 : oP S_139 o 8 = some lw := by rw [eS_139]; exact pk_134
              have X_144 : oX [502, 801, 803, 804, 805, 2012, 2063, 2107, 5001] Z S_139 := oX.st X_127 XS_139 (by decide +kernel)
              have g_145 : (oI S_139 lw 2).toInt = (oI S_125 lw 2).toInt := by rw [eS_139, setI_oth (ty_ne (oX.ty XS_125 t_121) t_137 (by decide +kernel))]
              have g_146 : (oI S_139 o 0).toInt = (oI S_125 o 0).toInt := by rw [eS_139, setI_oth (ty_ne t_135 t_137 (by decide +kernel))]
              have g_147 : (oI S_139 tp 1).toInt = 0 := by rw [eS_139, setI_same]; decide
              have g_148 : (oI S_139 tp 3).toInt = (oI S_125 tp 3).toInt := by rw [eS_139, setI_ne (by decide +kernel)]
              refine lv_iload_n hx hb dX10_act_110 rfl (lv_at hl 0 rfl) ?_
              refine lv_if_ge (tgt := 124) hx hb dX10_act_111 (by decide +kernel) (fun c_149 => ?_) (fun c_149 => ?_)
              · have dc_149 := c_le (a := 0) (b := r_44.toInt) (by decide +kernel) rfl c_149
                exfalso; omega
              · have dc_149 := c_nle (a := 0) (b := r_44.toInt) (by decide +kernel) rfl c_149
                refine lv_aload_n hx hb dX10_act_114 rfl (lv_at hl 1 rfl) ?_
                have t_150 : oty S_139 o 10 := (oX.ty XS_139 t_135)
                obtain ⟨q_151, hq_151⟩ := og (cq := cq) t_150.1 (oE_10 t_150.2)
                refine va_get (D := (dC, dI)) (ci := 10) (v := .ref lw) (C := RX10) (T := TX10) (N := 16) hx hb hts in_wsX10_act_X10 hown hK hP q_151 hq_151 rfl 8 (by decide +kernel) (hts (.fieldLink RX10 30 "ShipOffice" "law" "LShipOffice$Law;") iw_X10_act_2) (fun _ h9 => h9) (o_rd pk_143) dX10_act_115 ?_
                have t_152 : oty S_139 lw 5 := (oX.ty XS_139 (oX.ty XS_125 t_121))
                obtain ⟨q_153, hq_153⟩ := og (cq := cq) t_152.1 (oE_5 t_152.2)
                refine va_get (D := (dC, dI)) (ci := 5) (v := .int (oI S_139 lw 2)) (C := RX5) (T := TX5) (N := 3) hx hb hts in_wsX10_act_X5 hown hK hP q_153 hq_153 rfl 2 (by decide +kernel) (hts (.fieldLink RX10 178 "ShipOffice$Law" "actCount" "I") iw_X10_act_3) (fun _ h9 => h9) rfl dX10_act_118 ?_
                refine lv_topi (fun x_154 ex_154 => ?_)
                have hx_154 : 0 ≤ x_154.toInt ∧ x_154.toInt ≤ 30 := iv_of ex_154 (oInv.iv hIS_139 t_152.2 rfl rfl)
                have gx_154 : x_154.toInt = (oI S_139 lw 2).toInt := iv_to ex_154
                clear ex_154
                refine lv_goto (tgt := 128) hx hb dX10_act_121 (by decide +kernel) ?_
                have hl0 := ro_e (p := 0) (kr := 12) gI tlw rfl rfl rfl
                have XZa : oX [502, 801, 803, 804, 805, 2063, 2107, 5001] Z S_110 := (oX.c (oX.st (oX.st (oX.st oX.rf XS_45 (by decide +kernel)) XS_76 (by decide +kernel)) XS_94 (by decide +kernel)) XS_110 nzq_75 (by decide +kernel))
                have hq0 : oQ S_110 lw 0 = oQ Z lw 0 := by show (oP S_110 lw 0).getD 0 = (oP Z lw 0).getD 0; rw [oX.p XZa tlw (by decide +kernel)]
                have hn0 : (oI S_110 lw 2).toNatClampNeg = (oI Z lw 2).toNatClampNeg := cn_c (by omega)
                have ho1 : oP S_125 (oQ Z lw 0) = va_up (oP Z (oQ Z lw 0)) (oI Z lw 2).toNatClampNeg (some q_75) := by rw [had2, hq0, hn0]; show oP (setP S_110 (oQ Z lw 0) (oI Z lw 2).toNatClampNeg (some q_75)) (oQ Z lw 0) = _; rw [setP_fun, oX.fp XZa hl0.2 (fun _ => nkw (by decide +kernel) (by decide +kernel) (by decide +kernel))]
                have X1e : oX [801] S_125 S_139 := (oX.st oX.rf XS_139 (by decide +kernel))
                exact W.iret (v := x_154) hx hb hr (fun t ht hW => ⟨⟨x_154, S_139, rfl, ⟨hIS_139, X_144, ⟨(by unfold gac; rw [show bI (cS (tC Z tp rw) 5 0).2.1 = 1 from (by rw [hpw.1]; rfl)]; first | exact Or.inr (Or.inr (Or.inr (Or.inr (⟨by omega, by omega, by omega, by omega, by omega, by omega, by omega, by omega⟩)))) | omega), fun _ => ⟨hpw.1, q_75, nzq_75, (oX.ty XS_139 (oX.ty XS_125 hxS_110)), acN_o (W := [502, 801, 2012]) (oX.st (oX.st oX.rf XS_125 (by decide +kernel)) XS_139 (by decide +kernel)) hxS_110 (by decide +kernel) hcS_110, (by rw [oX.fp X1e (oX.ty (show oX [502, 2012] S_110 S_125 from XS_125) (oX.ty XZa hl0.2)) (fun _ => nkw (by decide +kernel) (by decide +kernel) (by decide +kernel))]; exact ho1)⟩, fun h => by exfalso; omega⟩⟩, ⟨by rw [ht]; exact hP, va_K.moved hW.alike hK, hD⟩⟩, hS.F ht⟩) hS.2.2 dX10_act_128
          · have dc_41 := c_nlt (a := x_40.toInt) (b := 30) rfl (by decide +kernel) c_41
            refine lv_aload_n hx hb dX10_act_50 rfl (lv_at hl 0 rfl) ?_
            refine lv_bipush (v := (-6)) hx hb dX10_act_51 (by decide +kernel) ?_
            have hFc := o_free hD hS hA
            refine va_calli (va_runV (As := [.int (-6)]) (rest := []) ⟨hx, hb, hml, hown, hts⟩ (c_X10_refuse_c l dC dI s.heap.size cq Z gI o to (-6) (by decide +kernel)) (cwV 1 hts gX10_act_X10_refuse rfl rfl rfl (by decide +kernel) ⟨(Nat.le_of_ble_eq_true rfl), (Nat.le_of_ble_eq_true rfl)⟩) (pr_V (r := (RX10, TX10, 16)) hP hK hD q_21 10 rfl hq_21) rfl rfl hl.1 rfl (lv_room (Nat.le_of_ble_eq_true rfl)) dX10_act_53 ⟨(Nat.le_of_ble_eq_true rfl), (Nat.le_of_ble_eq_true rfl)⟩) hS (fun q _ h => hFc q h) hFc (fun r_156 u t H locs ht hvm w_155 hB hz1 hk1 hS => ?_)
            obtain ⟨S_157, rfl⟩ : ∃ z, z = u := ⟨_, rfl⟩
            obtain ⟨hP1, hK1, hD1⟩ := hB
            rw [ht] at hP1
            have hP : va_P (dC, dI) vwCl (oW cq S_157) H := hP1
            have hD : va_D A (oW cq S_157) := hD1.weaken (fun _ _ _ h => hFc _ h)
            clear hP1 hK1 hD1 hk1 hz1 hvm ht hFc
            obtain ⟨hIS_157, XS_157, hb_158, hx_159⟩ := w_155
            have X_160 : oX [502, 801, 803, 804, 805, 2012, 2063, 2107, 5001] Z S_157 := oX.st oX.rf XS_157 (by decide +kernel)
            have g_161 : (oI S_157 lw 2).toInt = (oI Z lw 2).toInt := by rw [oX.i XS_157 tlw (by decide +kernel)]
            have g_162 : (oI S_157 o 0).toInt = (oI Z o 0).toInt := by rw [oX.i XS_157 to (by decide +kernel)]
            have g_163 : (oI S_157 tp 1).toInt = (oI Z tp 1).toInt := by rw [oX.i XS_157 ttp (by decide +kernel)]
            have pk_164 : oP S_157 o 9 = some tp := by rw [oX.p XS_157 to (by decide +kernel)]; exact htp
            have pk_165 : oP S_157 tp 0 = some rw := by rw [oX.p XS_157 ttp (by decide +kernel)]; exact hrw
            have pk_166 : oP S_157 tp 2 = some cd := by rw [oX.p XS_157 ttp (by decide +kernel)]; exact hcd
            have pk_167 : oP S_157 o 8 = some lw := by rw [oX.p XS_157 to (by decide +kernel)]; exact hlw
            have rf_168 : r_156.toInt = -6 := by rw [hx_159.1]; decide
            refine W.widen (k := 4) (n := 134) (Nat.le_of_ble_eq_true rfl) (Nat.le_of_ble_eq_true rfl) ?_
            exact W.iret (v := r_156) hx hb hr (fun t ht hW => ⟨⟨r_156, S_157, rfl, ⟨hIS_157, X_160, ⟨(by first | exact Or.inr (Or.inr (Or.inl ⟨by omega, by omega, by omega, by omega, by omega, by omega⟩)) | (unfold gac; omega)), fun h => by exfalso; omega, fun _ => (oX.st oX.rf XS_157 (by decide +kernel))⟩⟩, ⟨by rw [ht]; exact hP, va_K.moved hW.alike hK, hD⟩⟩, hS.F ht⟩) hS.2.2 dX10_act_56
      · have dc_23 := c_nle (a := x_22.toInt) (b := x2.toInt) rfl rfl c_23
        refine lv_aload_n hx hb dX10_act_24 rfl (lv_at hl 0 rfl) ?_
        refine lv_bipush (v := (-4)) hx hb dX10_act_25 (by decide +kernel) ?_
        have hFc := o_free hD hS hA
        refine va_calli (va_runV (As := [.int (-4)]) (rest := []) ⟨hx, hb, hml, hown, hts⟩ (c_X10_refuse_c l dC dI s.heap.size cq Z gI o to (-4) (by decide +kernel)) (cwV 1 hts gX10_act_X10_refuse rfl rfl rfl (by decide +kernel) ⟨(Nat.le_of_ble_eq_true rfl), (Nat.le_of_ble_eq_true rfl)⟩) (pr_V (r := (RX10, TX10, 16)) hP hK hD q_21 10 rfl hq_21) rfl rfl hl.1 rfl (lv_room (Nat.le_of_ble_eq_true rfl)) dX10_act_27 ⟨(Nat.le_of_ble_eq_true rfl), (Nat.le_of_ble_eq_true rfl)⟩) hS (fun q _ h => hFc q h) hFc (fun r_170 u t H locs ht hvm w_169 hB hz1 hk1 hS => ?_)
        obtain ⟨S_171, rfl⟩ : ∃ z, z = u := ⟨_, rfl⟩
        obtain ⟨hP1, hK1, hD1⟩ := hB
        rw [ht] at hP1
        have hP : va_P (dC, dI) vwCl (oW cq S_171) H := hP1
        have hD : va_D A (oW cq S_171) := hD1.weaken (fun _ _ _ h => hFc _ h)
        clear hP1 hK1 hD1 hk1 hz1 hvm ht hFc
        obtain ⟨hIS_171, XS_171, hb_172, hx_173⟩ := w_169
        have X_174 : oX [502, 801, 803, 804, 805, 2012, 2063, 2107, 5001] Z S_171 := oX.st oX.rf XS_171 (by decide +kernel)
        have g_175 : (oI S_171 lw 2).toInt = (oI Z lw 2).toInt := by rw [oX.i XS_171 tlw (by decide +kernel)]
        have g_176 : (oI S_171 o 0).toInt = (oI Z o 0).toInt := by rw [oX.i XS_171 to (by decide +kernel)]
        have g_177 : (oI S_171 tp 1).toInt = (oI Z tp 1).toInt := by rw [oX.i XS_171 ttp (by decide +kernel)]
        have pk_178 : oP S_171 o 9 = some tp := by rw [oX.p XS_171 to (by decide +kernel)]; exact htp
        have pk_179 : oP S_171 tp 0 = some rw := by rw [oX.p XS_171 ttp (by decide +kernel)]; exact hrw
        have pk_180 : oP S_171 tp 2 = some cd := by rw [oX.p XS_171 ttp (by decide +kernel)]; exact hcd
        have pk_181 : oP S_171 o 8 = some lw := by rw [oX.p XS_171 to (by decide +kernel)]; exact hlw
        have rf_182 : r_170.toInt = -4 := by rw [hx_173.1]; decide
        refine W.widen (k := 4) (n := 134) (Nat.le_of_ble_eq_true rfl) (Nat.le_of_ble_eq_true rfl) ?_
        exact W.iret (v := r_170) hx hb hr (fun t ht hW => ⟨⟨r_170, S_171, rfl, ⟨hIS_171, X_174, ⟨(by first | exact Or.inr (Or.inl ⟨by omega, by omega, by omega, by omega, by omega⟩) | (unfold gac; omega)), fun h => by exfalso; omega, fun _ => (oX.st oX.rf XS_171 (by decide +kernel))⟩⟩, ⟨by rw [ht]; exact hP, va_K.moved hW.alike hK, hD⟩⟩, hS.F ht⟩) hS.2.2 dX10_act_30
    · have dc_20 := c_nlt (a := x1.toInt) (b := 5) rfl (by decide +kernel) c_20
      refine lv_aload_n hx hb dX10_act_9 rfl (lv_at hl 0 rfl) ?_
      refine lv_bipush (v := (-2)) hx hb dX10_act_10 (by decide +kernel) ?_
      have hFc := o_free hD hS hA
      obtain ⟨q_183, hq_183⟩ := og (cq := cq) to.1 (oE_10 to.2)
      refine va_calli (va_runV (As := [.int (-2)]) (rest := []) ⟨hx, hb, hml, hown, hts⟩ (c_X10_refuse_c l dC dI s.heap.size cq Z gI o to (-2) (by decide +kernel)) (cwV 1 hts gX10_act_X10_refuse rfl rfl rfl (by decide +kernel) ⟨(Nat.le_of_ble_eq_true rfl), (Nat.le_of_ble_eq_true rfl)⟩) (pr_V (r := (RX10, TX10, 16)) hP hK hD q_183 10 rfl hq_183) rfl rfl hl.1 rfl (lv_room (Nat.le_of_ble_eq_true rfl)) dX10_act_12 ⟨(Nat.le_of_ble_eq_true rfl), (Nat.le_of_ble_eq_true rfl)⟩) hS (fun q _ h => hFc q h) hFc (fun r_185 u t H locs ht hvm w_184 hB hz1 hk1 hS => ?_)
      obtain ⟨S_186, rfl⟩ : ∃ z, z = u := ⟨_, rfl⟩
      obtain ⟨hP1, hK1, hD1⟩ := hB
      rw [ht] at hP1
      have hP : va_P (dC, dI) vwCl (oW cq S_186) H := hP1
      have hD : va_D A (oW cq S_186) := hD1.weaken (fun _ _ _ h => hFc _ h)
      clear hP1 hK1 hD1 hk1 hz1 hvm ht hFc
      obtain ⟨hIS_186, XS_186, hb_187, hx_188⟩ := w_184
      have X_189 : oX [502, 801, 803, 804, 805, 2012, 2063, 2107, 5001] Z S_186 := oX.st oX.rf XS_186 (by decide +kernel)
      have g_190 : (oI S_186 lw 2).toInt = (oI Z lw 2).toInt := by rw [oX.i XS_186 tlw (by decide +kernel)]
      have g_191 : (oI S_186 o 0).toInt = (oI Z o 0).toInt := by rw [oX.i XS_186 to (by decide +kernel)]
      have g_192 : (oI S_186 tp 1).toInt = (oI Z tp 1).toInt := by rw [oX.i XS_186 ttp (by decide +kernel)]
      have pk_193 : oP S_186 o 9 = some tp := by rw [oX.p XS_186 to (by decide +kernel)]; exact htp
      have pk_194 : oP S_186 tp 0 = some rw := by rw [oX.p XS_186 ttp (by decide +kernel)]; exact hrw
      have pk_195 : oP S_186 tp 2 = some cd := by rw [oX.p XS_186 ttp (by decide +kernel)]; exact hcd
      have pk_196 : oP S_186 o 8 = some lw := by rw [oX.p XS_186 to (by decide +kernel)]; exact hlw
      have rf_197 : r_185.toInt = -2 := by rw [hx_188.1]; decide
      refine W.widen (k := 4) (n := 134) (Nat.le_of_ble_eq_true rfl) (Nat.le_of_ble_eq_true rfl) ?_
      exact W.iret (v := r_185) hx hb hr (fun t ht hW => ⟨⟨r_185, S_186, rfl, ⟨hIS_186, X_189, ⟨(by first | exact Or.inl ⟨by omega, by omega, by omega, by omega⟩ | (unfold gac; omega)), fun h => by exfalso; omega, fun _ => (oX.st oX.rf XS_186 (by decide +kernel))⟩⟩, ⟨by rw [ht]; exact hP, va_K.moved hW.alike hK, hD⟩⟩, hS.F ht⟩) hS.2.2 dX10_act_15
