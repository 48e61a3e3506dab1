


set_option maxHeartbeats 4000000 in
set_option maxRecDepth 100000 in
theorem c_X8_sees_f (l : Launch) (dC : Nat → ClassId) (dI : Nat → Nat → Nat) (sz : Nat) (cq : Nat → ClassId) (Z : oS) (gI : oInv Z) (o : Nat) (to : oty Z o 8) (x1 : Int32) (rw : Nat) (hrw : oP Z o 0 = some rw) (hxm : ¬ x1 = -1) : Met l yX8_sees wsX8_sees ({ frames := 0, cells := 0, slots := 0, locals := 0 }) (va_Pc [.ref o, .int x1] (pcW (dC, dI) (oT cq) (oW cq Z) sz)) (va_Qi (fun (r : Int32) (u : Unit) => (0 ≤ r.toInt ∧ r.toInt ≤ 1) ∧ ((r = 1 ∧ tC Z o rw (tA Z o) = x1) ∨ (r = 0 ∧ ¬ tC Z o rw (tA Z o) = x1))) (fun _ _ => True) (va_A [] sz)) 0 0 (va_A [] sz) := by
  refine Met.ofW (cc := cX8_sees) (maxL := 2) (ret := (some .boolean)) (by decide +kernel) rfl ?_
  intro p e s m args below meth c s₁ B hml hv
  obtain ⟨rfl, hsz, hP, hK, hD0⟩ := hv
  have hx := B.exec
  have hb := B.bytes
  have hr := B.returns
  have hts := atoms_spec (ws := wsX8_sees) B.pre
  have hown : s.vm.findClass RX8 = some m.cls := findClass_of_methodNamed B.named
  have hlocks := B.notSynchronized
  subst hsz
  have hD := hD0
  generalize hAe : va_A [] s.heap.size = A at ⊢
  have hA : ∀ q : Nat, s.heap.size ≤ q → A q := fun q h => by rw [← hAe]; exact Or.inr h
  have hS : va_S A s.heap s.heap [] := va_S.rf
  have hP : va_P (dC, dI) vwCl (oW cq Z) s.heap := hP
  have hl := lv_entry ([.ref o, .int x1]) (n := 2) (Nat.le_of_ble_eq_true rfl)
  rw [lg_entry_eq]
  generalize (lg_sl ([.ref o, .int x1]) ++ List.replicate (2 - (lg_sl ([.ref o, .int x1])).length) Slot.unset).toArray = ls at hl ⊢
  have hl : lv_has ls 2 [(0, .ref o), (1, .int x1)] := hl
  have trw : oty Z rw 160 := oInv.rd gI to.2 hrw rfl rfl
  refine lv_aload_n hx hb dX8_sees_0 rfl (lv_at hl 0 rfl) ?_
  obtain ⟨q_1, hq_1⟩ := og (cq := cq) to.1 (oE_8 to.2)
  refine va_get (D := (dC, dI)) (ci := 8) (v := .int (oI Z o 4)) (C := RX8) (T := TX8) (N := 6) hx hb hts in_wsX8_sees_X8 hown hK hP q_1 hq_1 rfl 4 (by decide +kernel) (hts (.fieldLink RX8 22 "ShipOffice$Tape" "at" "I") iw_X8_sees_1) (fun _ h9 => h9) rfl dX8_sees_1 ?_
  refine lv_topi (fun x_2 ex_2 => ?_)
  have hx_2 : 0 ≤ x_2.toInt ∧ x_2.toInt ≤ 60 := iv_of ex_2 (oInv.iv gI to.2 rfl rfl)
  have gx_2 : x_2.toInt = (oI Z o 4).toInt := iv_to ex_2
  clear ex_2
  refine lv_aload_n hx hb dX8_sees_4 rfl (lv_at hl 0 rfl) ?_
  refine va_get (D := (dC, dI)) (ci := 8) (v := .int (oI Z o 1)) (C := RX8) (T := TX8) (N := 6) hx hb hts in_wsX8_sees_X8 hown hK hP q_1 hq_1 rfl 1 (by decide +kernel) (hts (.fieldLink RX8 18 "ShipOffice$Tape" "size" "I") iw_X8_sees_2) (fun _ h9 => h9) rfl dX8_sees_5 ?_
  refine lv_topi (fun x_3 ex_3 => ?_)
  have hx_3 : 0 ≤ x_3.toInt ∧ x_3.toInt ≤ 60 := iv_of ex_3 (oInv.iv gI to.2 rfl rfl)
  have gx_3 : x_3.toInt = (oI Z o 1).toInt := iv_to ex_3
  clear ex_3
  refine lv_icmp_ge (tgt := 28) hx hb dX8_sees_8 (by decide +kernel) (fun c_4 => ?_) (fun c_4 => ?_)
  · have dc_4 := c_le (a := x_3.toInt) (b := x_2.toInt) rfl rfl c_4
    refine lv_iconst (v := 0) hx hb dX8_sees_28 (by decide +kernel) ?_
    exact W.zret (v := 0) hx hb hr rfl (fun t ht hW => ⟨⟨0, (), rfl, ⟨(by decide +kernel), (Or.inr ⟨rfl, fun h => hxm (h.symm.trans (sf_0 (by omega) (by omega)))⟩)⟩, trivial⟩, hS.F ht⟩) hS.2.2 dX8_sees_29
  · have dc_4 := c_nle (a := x_3.toInt) (b := x_2.toInt) rfl rfl c_4
    refine lv_aload_n hx hb dX8_sees_11 rfl (lv_at hl 0 rfl) ?_
    refine va_get (D := (dC, dI)) (ci := 8) (v := .ref rw) (C := RX8) (T := TX8) (N := 6) hx hb hts in_wsX8_sees_X8 hown hK hP q_1 hq_1 rfl 0 (by decide +kernel) (hts (.fieldLink RX8 9 "ShipOffice$Tape" "bytes" "[I") iw_X8_sees_3) (fun _ h9 => h9) (o_rd hrw) dX8_sees_12 ?_
    refine lv_aload_n hx hb dX8_sees_15 rfl (lv_at hl 0 rfl) ?_
    refine va_get (D := (dC, dI)) (ci := 8) (v := .int (oI Z o 4)) (C := RX8) (T := TX8) (N := 6) hx hb hts in_wsX8_sees_X8 hown hK hP q_1 hq_1 rfl 4 (by decide +kernel) (hts (.fieldLink RX8 22 "ShipOffice$Tape" "at" "I") iw_X8_sees_1) (fun _ h9 => h9) rfl dX8_sees_16 ?_
    refine lv_topi (fun x_5 ex_5 => ?_)
    have hx_5 : 0 ≤ x_5.toInt ∧ x_5.toInt ≤ 60 := iv_of ex_5 (oInv.iv gI to.2 rfl rfl)
    have gx_5 : x_5.toInt = (oI Z o 4).toInt := iv_to ex_5
    clear ex_5
    obtain ⟨q_6, hq_6⟩ := og (cq := cq) trw.1 (oE_a1 (n := 60) trw.2 (by decide +kernel))
    refine va_iald hx hb hK hP q_6 0 hq_6 rfl (vp_in_iff.mpr (by omega)) dX8_sees_19 ?_
    refine lv_topi (fun x_7 ex_7 => ?_)
    refine lv_iload_n hx hb dX8_sees_20 rfl (lv_at hl 1 rfl) ?_
    refine lv_icmp_ne (tgt := 28) hx hb dX8_sees_21 (by decide +kernel) (fun c_8 => ?_) (fun c_8 => ?_)
    · have dc_8 := c_ne (a := x_7.toInt) (b := x1.toInt) rfl rfl c_8
      refine lv_iconst (v := 0) hx hb dX8_sees_28 (by decide +kernel) ?_
      exact W.zret (v := 0) hx hb hr rfl (fun t ht hW => ⟨⟨0, (), rfl, ⟨(by decide +kernel), (Or.inr ⟨rfl, fun h => c_8 ((sf_e (y := x_5) (by omega) (by omega) (by omega) ex_7).symm.trans h)⟩)⟩, trivial⟩, hS.F ht⟩) hS.2.2 dX8_sees_29
    · have dc_8 := c_eq (a := x_7.toInt) (b := x1.toInt) rfl rfl c_8
      refine lv_iconst (v := 1) hx hb dX8_sees_24 (by decide +kernel) ?_
      refine lv_goto (tgt := 29) hx hb dX8_sees_25 (by decide +kernel) ?_
      exact W.zret (v := 1) hx hb hr rfl (fun t ht hW => ⟨⟨1, (), rfl, ⟨(by decide +kernel), (Or.inl ⟨rfl, (sf_e (y := x_5) (by omega) (by omega) (by omega) ex_7).trans c_8⟩)⟩, trivial⟩, hS.F ht⟩) hS.2.2 dX8_sees_29
set_option maxHeartbeats 4000000 in
set_option maxRecDepth 100000 in
theorem c_X8_seesDigit_f (l : Launch) (dC : Nat → ClassId) (dI : Nat → Nat → Nat) (sz : Nat) (cq : Nat → ClassId) (Z : oS) (gI : oInv Z) (o : Nat) (to : oty Z o 8) (rw : Nat) (hrw : oP Z o 0 = some rw) : Met l yX8_seesDigit wsX8_seesDigit ({ frames := 0, cells := 0, slots := 0, locals := 0 }) (va_Pc [.ref o] (pcW (dC, dI) (oT cq) (oW cq Z) sz)) (va_Qi (fun (r : Int32) (u : Unit) => (0 ≤ r.toInt ∧ r.toInt ≤ 1) ∧ ((r = 1 ∧ 48 ≤ tC Z o rw (tA Z o) ∧ tC Z o rw (tA Z o) ≤ 57) ∨ (r = 0 ∧ ¬ (48 ≤ tC Z o rw (tA Z o) ∧ tC Z o rw (tA Z o) ≤ 57)))) (fun _ _ => True) (va_A [] sz)) 0 0 (va_A [] sz) := by
  refine Met.ofW (cc := cX8_seesDigit) (maxL := 1) (ret := (some .boolean)) (by decide +kernel) rfl ?_
  intro p e s m args below meth c s₁ B hml hv
  obtain ⟨rfl, hsz, hP, hK, hD0⟩ := hv
  have hx := B.exec
  have hb := B.bytes
  have hr := B.returns
  have hts := atoms_spec (ws := wsX8_seesDigit) B.pre
  have hown : s.vm.findClass RX8 = some m.cls := findClass_of_methodNamed B.named
  have hlocks := B.notSynchronized
  subst hsz
  have hD := hD0
  generalize hAe : va_A [] s.heap.size = A at ⊢
  have hA : ∀ q : Nat, s.heap.size ≤ q → A q := fun q h => by rw [← hAe]; exact Or.inr h
  have hS : va_S A s.heap s.heap [] := va_S.rf
  have hP : va_P (dC, dI) vwCl (oW cq Z) s.heap := hP
  have hl := lv_entry ([.ref o]) (n := 1) (Nat.le_of_ble_eq_true rfl)
  rw [lg_entry_eq]
  generalize (lg_sl ([.ref o]) ++ List.replicate (1 - (lg_sl ([.ref o])).length) Slot.unset).toArray = ls at hl ⊢
  have hl : lv_has ls 1 [(0, .ref o)] := hl
  have trw : oty Z rw 160 := oInv.rd gI to.2 hrw rfl rfl
  refine lv_aload_n hx hb dX8_seesDigit_0 rfl (lv_at hl 0 rfl) ?_
  obtain ⟨q_1, hq_1⟩ := og (cq := cq) to.1 (oE_8 to.2)
  refine va_get (D := (dC, dI)) (ci := 8) (v := .int (oI Z o 4)) (C := RX8) (T := TX8) (N := 6) hx hb hts in_wsX8_seesDigit_X8 hown hK hP q_1 hq_1 rfl 4 (by decide +kernel) (hts (.fieldLink RX8 22 "ShipOffice$Tape" "at" "I") iw_X8_seesDigit_1) (fun _ h9 => h9) rfl dX8_seesDigit_1 ?_
  refine lv_topi (fun x_2 ex_2 => ?_)
  have hx_2 : 0 ≤ x_2.toInt ∧ x_2.toInt ≤ 60 := iv_of ex_2 (oInv.iv gI to.2 rfl rfl)
  have gx_2 : x_2.toInt = (oI Z o 4).toInt := iv_to ex_2
  clear ex_2
  refine lv_aload_n hx hb dX8_seesDigit_4 rfl (lv_at hl 0 rfl) ?_
  refine va_get (D := (dC, dI)) (ci := 8) (v := .int (oI Z o 1)) (C := RX8) (T := TX8) (N := 6) hx hb hts in_wsX8_seesDigit_X8 hown hK hP q_1 hq_1 rfl 1 (by decide +kernel) (hts (.fieldLink RX8 18 "ShipOffice$Tape" "size" "I") iw_X8_seesDigit_2) (fun _ h9 => h9) rfl dX8_seesDigit_5 ?_
  refine lv_topi (fun x_3 ex_3 => ?_)
  have hx_3 : 0 ≤ x_3.toInt ∧ x_3.toInt ≤ 60 := iv_of ex_3 (oInv.iv gI to.2 rfl rfl)
  have gx_3 : x_3.toInt = (oI Z o 1).toInt := iv_to ex_3
  clear ex_3
  refine lv_icmp_ge (tgt := 43) hx hb dX8_seesDigit_8 (by decide +kernel) (fun c_4 => ?_) (fun c_4 => ?_)
  · have dc_4 := c_le (a := x_3.toInt) (b := x_2.toInt) rfl rfl c_4
    refine lv_iconst (v := 0) hx hb dX8_seesDigit_43 (by decide +kernel) ?_
    exact W.zret (v := 0) hx hb hr rfl (fun t ht hW => ⟨⟨0, (), rfl, ⟨(by decide +kernel), (Or.inr ⟨rfl, fun h => absurd (show (48 : Int32) ≤ -1 by have g := h.1; rw [sf_0 (by omega) (by omega)] at g; exact g) (by decide +kernel)⟩)⟩, trivial⟩, hS.F ht⟩) hS.2.2 dX8_seesDigit_44
  · have dc_4 := c_nle (a := x_3.toInt) (b := x_2.toInt) rfl rfl c_4
    refine lv_aload_n hx hb dX8_seesDigit_11 rfl (lv_at hl 0 rfl) ?_
    refine va_get (D := (dC, dI)) (ci := 8) (v := .ref rw) (C := RX8) (T := TX8) (N := 6) hx hb hts in_wsX8_seesDigit_X8 hown hK hP q_1 hq_1 rfl 0 (by decide +kernel) (hts (.fieldLink RX8 9 "ShipOffice$Tape" "bytes" "[I") iw_X8_seesDigit_3) (fun _ h9 => h9) (o_rd hrw) dX8_seesDigit_12 ?_
    refine lv_aload_n hx hb dX8_seesDigit_15 rfl (lv_at hl 0 rfl) ?_
    refine va_get (D := (dC, dI)) (ci := 8) (v := .int (oI Z o 4)) (C := RX8) (T := TX8) (N := 6) hx hb hts in_wsX8_seesDigit_X8 hown hK hP q_1 hq_1 rfl 4 (by decide +kernel) (hts (.fieldLink RX8 22 "ShipOffice$Tape" "at" "I") iw_X8_seesDigit_1) (fun _ h9 => h9) rfl dX8_seesDigit_16 ?_
    refine lv_topi (fun x_5 ex_5 => ?_)
    have hx_5 : 0 ≤ x_5.toInt ∧ x_5.toInt ≤ 60 := iv_of ex_5 (oInv.iv gI to.2 rfl rfl)
    have gx_5 : x_5.toInt = (oI Z o 4).toInt := iv_to ex_5
    clear ex_5
    obtain ⟨q_6, hq_6⟩ := og (cq := cq) trw.1 (oE_a1 (n := 60) trw.2 (by decide +kernel))
    refine va_iald hx hb hK hP q_6 0 hq_6 rfl (vp_in_iff.mpr (by omega)) dX8_seesDigit_19 ?_
    refine lv_topi (fun x_7 ex_7 => ?_)
    refine lv_bipush (v := 48) hx hb dX8_seesDigit_20 (by decide +kernel) ?_
    refine lv_icmp_lt (tgt := 43) hx hb dX8_seesDigit_22 (by decide +kernel) (fun c_8 => ?_) (fun c_8 => ?_)
    · have dc_8 := c_lt (a := x_7.toInt) (b := 48) rfl (by decide +kernel) c_8
      refine lv_iconst (v := 0) hx hb dX8_seesDigit_43 (by decide +kernel) ?_
      exact W.zret (v := 0) hx hb hr rfl (fun t ht hW => ⟨⟨0, (), rfl, ⟨(by decide +kernel), (Or.inr ⟨rfl, fun h => absurd c_8 (Int32.not_lt.mpr (by have g := h.1; rw [sf_e (y := x_5) (by omega) (by omega) (by omega) ex_7] at g; exact g))⟩)⟩, trivial⟩, hS.F ht⟩) hS.2.2 dX8_seesDigit_44
    · have dc_8 := c_nlt (a := x_7.toInt) (b := 48) rfl (by decide +kernel) c_8
      refine lv_aload_n hx hb dX8_seesDigit_25 rfl (lv_at hl 0 rfl) ?_
      refine va_get (D := (dC, dI)) (ci := 8) (v := .ref rw) (C := RX8) (T := TX8) (N := 6) hx hb hts in_wsX8_seesDigit_X8 hown hK hP q_1 hq_1 rfl 0 (by decide +kernel) (hts (.fieldLink RX8 9 "ShipOffice$Tape" "bytes" "[I") iw_X8_seesDigit_3) (fun _ h9 => h9) (o_rd hrw) dX8_seesDigit_26 ?_
      refine lv_aload_n hx hb dX8_seesDigit_29 rfl (lv_at hl 0 rfl) ?_
      refine va_get (D := (dC, dI)) (ci := 8) (v := .int (oI Z o 4)) (C := RX8) (T := TX8) (N := 6) hx hb hts in_wsX8_seesDigit_X8 hown hK hP q_1 hq_1 rfl 4 (by decide +kernel) (hts (.fieldLink RX8 22 "ShipOffice$Tape" "at" "I") iw_X8_seesDigit_1) (fun _ h9 => h9) rfl dX8_seesDigit_30 ?_
      refine lv_topi (fun x_9 ex_9 => ?_)
      have hx_9 : 0 ≤ x_9.toInt ∧ x_9.toInt ≤ 60 := iv_of ex_9 (oInv.iv gI to.2 rfl rfl)
      have gx_9 : x_9.toInt = (oI Z o 4).toInt := iv_to ex_9
      clear ex_9
      refine va_iald hx hb hK hP q_6 0 hq_6 rfl (vp_in_iff.mpr (by omega)) dX8_seesDigit_33 ?_
      refine lv_topi (fun x_10 ex_10 => ?_)
      refine lv_bipush (v := 57) hx hb dX8_seesDigit_34 (by decide +kernel) ?_
      refine lv_icmp_gt (tgt := 43) hx hb dX8_seesDigit_36 (by decide +kernel) (fun c_11 => ?_) (fun c_11 => ?_)
      · have dc_11 := c_lt (a := 57) (b := x_10.toInt) (by decide +kernel) rfl c_11
        refine lv_iconst (v := 0) hx hb dX8_seesDigit_43 (by decide +kernel) ?_
        exact W.zret (v := 0) hx hb hr rfl (fun t ht hW => ⟨⟨0, (), rfl, ⟨(by decide +kernel), (Or.inr ⟨rfl, fun h => absurd c_11 (Int32.not_lt.mpr (by have g := h.2; rw [sf_e (y := x_9) (by omega) (by omega) (by omega) ex_10] at g; exact g))⟩)⟩, trivial⟩, hS.F ht⟩) hS.2.2 dX8_seesDigit_44
      · have dc_11 := c_nlt (a := 57) (b := x_10.toInt) (by decide +kernel) rfl c_11
        refine lv_iconst (v := 1) hx hb dX8_seesDigit_39 (by decide +kernel) ?_
        refine lv_goto (tgt := 44) hx hb dX8_seesDigit_40 (by decide +kernel) ?_
        exact W.zret (v := 1) hx hb hr rfl (fun t ht hW => ⟨⟨1, (), rfl, ⟨(by decide +kernel), (Or.inl ⟨rfl, by rw [sf_e (y := x_5) (by omega) (by omega) (by omega) ex_7]; exact Int32.not_lt.mp c_8, by rw [sf_e (y := x_9) (by omega) (by omega) (by omega) ex_10]; exact Int32.not_lt.mp c_11⟩)⟩, trivial⟩, hS.F ht⟩) hS.2.2 dX8_seesDigit_44
set_option maxHeartbeats 4000000 in
set_option maxRecDepth 100000 in
theorem c_X8_letterHere_f (l : Launch) (dC : Nat → ClassId) (dI : Nat → Nat → Nat) (sz : Nat) (tL tS tG : Nat) (cq : Nat → ClassId) (Z : oS) (gI : oInv Z) (o : Nat) (to : oty Z o 8) (rw : Nat) (hrw : oP Z o 0 = some rw) : Met l yX8_letterHere wsX8_letterHere ({ frames := 1, cells := 0, slots := 0, locals := 21 }) (va_Pc [.ref o] (pcO (dC, dI) (oT cq) (oW cq Z) sz tL tS tG [])) (va_Qi (fun (r : Int32) (u : Unit) => (-1 ≤ r.toInt ∧ r.toInt ≤ 7) ∧ ((r = -1 ∧ ¬ isLt (tC Z o rw (tA Z o))) ∨ (0 ≤ r.toInt ∧ isLt (tC Z o rw (tA Z o)) ∧ cLt (tC Z o rw (tA Z o)) = [-1 - r]))) (fun _ _ => True) (va_A [] sz)) 0 0 (va_A [] sz) := by
  refine Met.ofW (cc := cX8_letterHere) (maxL := 2) (ret := (some .int)) (by decide +kernel) rfl ?_
  intro p e s m args below meth c s₁ B hml hv
  obtain ⟨rfl, ⟨hsz, hP, hK, hD0⟩, hZ⟩ := hv
  have hx := B.exec
  have hb := B.bytes
  have hr := B.returns
  have hts := atoms_spec (ws := wsX8_letterHere) B.pre
  have hown : s.vm.findClass RX8 = some m.cls := findClass_of_methodNamed B.named
  have hlocks := B.notSynchronized
  subst hsz
  have hD := hD0
  generalize hAe : va_A [] s.heap.size = A at hZ ⊢
  have hA : ∀ q : Nat, s.heap.size ≤ q → A q := fun q h => by rw [← hAe]; exact Or.inr h
  have hS : va_S A s.heap s.heap [] := va_S.rf
  have hP : va_P (dC, dI) vwCl (oW cq Z) s.heap := hP
  have hl := lv_entry ([.ref o]) (n := 2) (Nat.le_of_ble_eq_true rfl)
  rw [lg_entry_eq]
  generalize (lg_sl ([.ref o]) ++ List.replicate (2 - (lg_sl ([.ref o])).length) Slot.unset).toArray = ls at hl ⊢
  have hl : lv_has ls 2 [(0, .ref o)] := hl
  have trw : oty Z rw 160 := oInv.rd gI to.2 hrw rfl rfl
  refine lv_iconst (v := 0) hx hb dX8_letterHere_0 (by decide +kernel) ?_
  refine lv_istore_n (lv' := [(1, .int 0), (0, .ref o)]) hx hb dX8_letterHere_1 rfl hl (by decide +kernel) rfl (fun ls hl => ?_)
  refine lv_iload_n hx hb dX8_letterHere_2 rfl (lv_at hl 0 rfl) ?_
  refine va_getsN hx hb hZ.1.1 hS hown (va_Nw.use rfl hZ.1.2.2.2.2.2.1) (fun _ h9 => h9) dX8_letterHere_3 ?_
  refine va_tlen (v := 8) hx hb hZ.1.2.1 hS rfl dX8_letterHere_6 ?_
  refine lv_icmp_ge (tgt := 30) hx hb dX8_letterHere_7 (by decide +kernel) (fun c_1 => absurd c_1 (by decide +kernel)) (fun _ => ?_)
  refine lv_aload_n hx hb dX8_letterHere_10 rfl (lv_at hl 1 rfl) ?_
  refine va_getsN hx hb hZ.1.1 hS hown (va_Nw.use rfl hZ.1.2.2.2.2.2.1) (fun _ h9 => h9) dX8_letterHere_11 ?_
  refine lv_iload_n hx hb dX8_letterHere_14 rfl (lv_at hl 0 rfl) ?_
  refine va_tc hx hb hZ.1.2.1 hS (by unfold vp_in; decide) (v := .int 119) rfl dX8_letterHere_15 ?_
  have hFc : ∀ q, va_A [] s.heap.size q → A q := pu_free hS hA
  obtain ⟨q_2, hq_2⟩ := og (cq := cq) to.1 (oE_8 to.2)
  refine va_calli (va_runV (As := [.int 119]) (rest := []) ⟨hx, hb, hml, hown, hts⟩ (c_X8_sees_f l dC dI s.heap.size cq Z gI o to 119 rw hrw (by decide +kernel)) (cwV 1 hts gX8_letterHere_X8_sees rfl rfl rfl (by decide +kernel) ⟨(Nat.le_of_ble_eq_true rfl), (Nat.le_of_ble_eq_true rfl)⟩) (pr_V (r := (RX8, TX8, 6)) hP hK hD q_2 8 rfl hq_2) rfl rfl hl.1 rfl (lv_room (Nat.le_of_ble_eq_true rfl)) dX8_letterHere_16 ⟨(Nat.le_of_ble_eq_true rfl), (Nat.le_of_ble_eq_true rfl)⟩) hS (fun q _ h => hFc q h) hFc (fun r_4 u t H locs ht hvm w_3 hB hz1 hk1 hS => ?_)
  have hP := pu_keep hP hk1
  clear hk1 hz1 hvm hB ht hFc
  obtain ⟨hb_5, hx_6⟩ := w_3
  refine lv_if_eq (tgt := 24) hx hb dX8_letterHere_19 (by decide +kernel) (fun c_7 => ?_) (fun c_7 => ?_)
  · have dc_7 := c_eq (a := r_4.toInt) (b := 0) rfl (by decide +kernel) c_7
    have bz_8 := bz0 hx_6 c_7
    refine lv_iinc (v := 1) (lv' := [(1, .int 1), (0, .ref o)]) hx hb dX8_letterHere_24 hl (k := 0) rfl (by decide +kernel) (by decide +kernel) rfl (fun ls hl => ?_)
    refine lv_goto (tgt := 2) hx hb dX8_letterHere_27 (by decide +kernel) ?_
    refine lv_iload_n hx hb dX8_letterHere_2 rfl (lv_at hl 0 rfl) ?_
    refine va_getsN hx hb hZ.1.1 hS hown (va_Nw.use rfl hZ.1.2.2.2.2.2.1) (fun _ h9 => h9) dX8_letterHere_3 ?_
    refine va_tlen (v := 8) hx hb hZ.1.2.1 hS rfl dX8_letterHere_6 ?_
    refine lv_icmp_ge (tgt := 30) hx hb dX8_letterHere_7 (by decide +kernel) (fun c_9 => absurd c_9 (by decide +kernel)) (fun _ => ?_)
    refine lv_aload_n hx hb dX8_letterHere_10 rfl (lv_at hl 1 rfl) ?_
    refine va_getsN hx hb hZ.1.1 hS hown (va_Nw.use rfl hZ.1.2.2.2.2.2.1) (fun _ h9 => h9) dX8_letterHere_11 ?_
    refine lv_iload_n hx hb dX8_letterHere_14 rfl (lv_at hl 0 rfl) ?_
    refine va_tc hx hb hZ.1.2.1 hS (by unfold vp_in; decide) (v := .int 114) rfl dX8_letterHere_15 ?_
    have hFc : ∀ q, va_A [] H.size q → A q := pu_free hS hA
    refine va_calli (va_runV (As := [.int 114]) (rest := []) ⟨hx, hb, hml, hown, hts⟩ (c_X8_sees_f l dC dI H.size cq Z gI o to 114 rw hrw (by decide +kernel)) (cwV 1 hts gX8_letterHere_X8_sees rfl rfl rfl (by decide +kernel) ⟨(Nat.le_of_ble_eq_true rfl), (Nat.le_of_ble_eq_true rfl)⟩) (pr_V (r := (RX8, TX8, 6)) hP hK hD q_2 8 rfl hq_2) rfl rfl hl.1 rfl (lv_room (Nat.le_of_ble_eq_true rfl)) dX8_letterHere_16 ⟨(Nat.le_of_ble_eq_true rfl), (Nat.le_of_ble_eq_true rfl)⟩) hS (fun q _ h => hFc q h) hFc (fun r_11 u t H locs ht hvm w_10 hB hz1 hk1 hS => ?_)
    have hP := pu_keep hP hk1
    clear hk1 hz1 hvm hB ht hFc
    obtain ⟨hb_12, hx_13⟩ := w_10
    refine lv_if_eq (tgt := 24) hx hb dX8_letterHere_19 (by decide +kernel) (fun c_14 => ?_) (fun c_14 => ?_)
    · have dc_14 := c_eq (a := r_11.toInt) (b := 0) rfl (by decide +kernel) c_14
      have bz_15 := bz0 hx_13 c_14
      refine lv_iinc (v := 2) (lv' := [(1, .int 2), (0, .ref o)]) hx hb dX8_letterHere_24 hl (k := 0) rfl (by decide +kernel) (by decide +kernel) rfl (fun ls hl => ?_)
      refine lv_goto (tgt := 2) hx hb dX8_letterHere_27 (by decide +kernel) ?_
      refine lv_iload_n hx hb dX8_letterHere_2 rfl (lv_at hl 0 rfl) ?_
      refine va_getsN hx hb hZ.1.1 hS hown (va_Nw.use rfl hZ.1.2.2.2.2.2.1) (fun _ h9 => h9) dX8_letterHere_3 ?_
      refine va_tlen (v := 8) hx hb hZ.1.2.1 hS rfl dX8_letterHere_6 ?_
      refine lv_icmp_ge (tgt := 30) hx hb dX8_letterHere_7 (by decide +kernel) (fun c_16 => absurd c_16 (by decide +kernel)) (fun _ => ?_)
      refine lv_aload_n hx hb dX8_letterHere_10 rfl (lv_at hl 1 rfl) ?_
      refine va_getsN hx hb hZ.1.1 hS hown (va_Nw.use rfl hZ.1.2.2.2.2.2.1) (fun _ h9 => h9) dX8_letterHere_11 ?_
      refine lv_iload_n hx hb dX8_letterHere_14 rfl (lv_at hl 0 rfl) ?_
      refine va_tc hx hb hZ.1.2.1 hS (by unfold vp_in; decide) (v := .int 97) rfl dX8_letterHere_15 ?_
      have hFc : ∀ q, va_A [] H.size q → A q := pu_free hS hA
      refine va_calli (va_runV (As := [.int 97]) (rest := []) ⟨hx, hb, hml, hown, hts⟩ (c_X8_sees_f l dC dI H.size cq Z gI o to 97 rw hrw (by decide +kernel)) (cwV 1 hts gX8_letterHere_X8_sees rfl rfl rfl (by decide +kernel) ⟨(Nat.le_of_ble_eq_true rfl), (Nat.le_of_ble_eq_true rfl)⟩) (pr_V (r := (RX8, TX8, 6)) hP hK hD q_2 8 rfl hq_2) rfl rfl hl.1 rfl (lv_room (Nat.le_of_ble_eq_true rfl)) dX8_letterHere_16 ⟨(Nat.le_of_ble_eq_true rfl), (Nat.le_of_ble_eq_true rfl)⟩) hS (fun q _ h => hFc q h) hFc (fun r_18 u t H locs ht hvm w_17 hB hz1 hk1 hS => ?_)
      have hP := pu_keep hP hk1
      clear hk1 hz1 hvm hB ht hFc
      obtain ⟨hb_19, hx_20⟩ := w_17
      refine lv_if_eq (tgt := 24) hx hb dX8_letterHere_19 (by decide +kernel) (fun c_21 => ?_) (fun c_21 => ?_)
      · have dc_21 := c_eq (a := r_18.toInt) (b := 0) rfl (by decide +kernel) c_21
        have bz_22 := bz0 hx_20 c_21
        refine lv_iinc (v := 3) (lv' := [(1, .int 3), (0, .ref o)]) hx hb dX8_letterHere_24 hl (k := 0) rfl (by decide +kernel) (by decide +kernel) rfl (fun ls hl => ?_)
        refine lv_goto (tgt := 2) hx hb dX8_letterHere_27 (by decide +kernel) ?_
        refine lv_iload_n hx hb dX8_letterHere_2 rfl (lv_at hl 0 rfl) ?_
        refine va_getsN hx hb hZ.1.1 hS hown (va_Nw.use rfl hZ.1.2.2.2.2.2.1) (fun _ h9 => h9) dX8_letterHere_3 ?_
        refine va_tlen (v := 8) hx hb hZ.1.2.1 hS rfl dX8_letterHere_6 ?_
        refine lv_icmp_ge (tgt := 30) hx hb dX8_letterHere_7 (by decide +kernel) (fun c_23 => absurd c_23 (by decide +kernel)) (fun _ => ?_)
        refine lv_aload_n hx hb dX8_letterHere_10 rfl (lv_at hl 1 rfl) ?_
        refine va_getsN hx hb hZ.1.1 hS hown (va_Nw.use rfl hZ.1.2.2.2.2.2.1) (fun _ h9 => h9) dX8_letterHere_11 ?_
        refine lv_iload_n hx hb dX8_letterHere_14 rfl (lv_at hl 0 rfl) ?_
        refine va_tc hx hb hZ.1.2.1 hS (by unfold vp_in; decide) (v := .int 100) rfl dX8_letterHere_15 ?_
        have hFc : ∀ q, va_A [] H.size q → A q := pu_free hS hA
        refine va_calli (va_runV (As := [.int 100]) (rest := []) ⟨hx, hb, hml, hown, hts⟩ (c_X8_sees_f l dC dI H.size cq Z gI o to 100 rw hrw (by decide +kernel)) (cwV 1 hts gX8_letterHere_X8_sees rfl rfl rfl (by decide +kernel) ⟨(Nat.le_of_ble_eq_true rfl), (Nat.le_of_ble_eq_true rfl)⟩) (pr_V (r := (RX8, TX8, 6)) hP hK hD q_2 8 rfl hq_2) rfl rfl hl.1 rfl (lv_room (Nat.le_of_ble_eq_true rfl)) dX8_letterHere_16 ⟨(Nat.le_of_ble_eq_true rfl), (Nat.le_of_ble_eq_true rfl)⟩) hS (fun q _ h => hFc q h) hFc (fun r_25 u t H locs ht hvm w_24 hB hz1 hk1 hS => ?_)
        have hP := pu_keep hP hk1
        clear hk1 hz1 hvm hB ht hFc
        obtain ⟨hb_26, hx_27⟩ := w_24
        refine lv_if_eq (tgt := 24) hx hb dX8_letterHere_19 (by decide +kernel) (fun c_28 => ?_) (fun c_28 => ?_)
        · have dc_28 := c_eq (a := r_25.toInt) (b := 0) rfl (by decide +kernel) c_28
          have bz_29 := bz0 hx_27 c_28
          refine lv_iinc (v := 4) (lv' := [(1, .int 4), (0, .ref o)]) hx hb dX8_letterHere_24 hl (k := 0) rfl (by decide +kernel) (by decide +kernel) rfl (fun ls hl => ?_)
          refine lv_goto (tgt := 2) hx hb dX8_letterHere_27 (by decide +kernel) ?_
          refine lv_iload_n hx hb dX8_letterHere_2 rfl (lv_at hl 0 rfl) ?_
          refine va_getsN hx hb hZ.1.1 hS hown (va_Nw.use rfl hZ.1.2.2.2.2.2.1) (fun _ h9 => h9) dX8_letterHere_3 ?_
          refine va_tlen (v := 8) hx hb hZ.1.2.1 hS rfl dX8_letterHere_6 ?_
          refine lv_icmp_ge (tgt := 30) hx hb dX8_letterHere_7 (by decide +kernel) (fun c_30 => absurd c_30 (by decide +kernel)) (fun _ => ?_)
          refine lv_aload_n hx hb dX8_letterHere_10 rfl (lv_at hl 1 rfl) ?_
          refine va_getsN hx hb hZ.1.1 hS hown (va_Nw.use rfl hZ.1.2.2.2.2.2.1) (fun _ h9 => h9) dX8_letterHere_11 ?_
          refine lv_iload_n hx hb dX8_letterHere_14 rfl (lv_at hl 0 rfl) ?_
          refine va_tc hx hb hZ.1.2.1 hS (by unfold vp_in; decide) (v := .int 110) rfl dX8_letterHere_15 ?_
          have hFc : ∀ q, va_A [] H.size q → A q := pu_free hS hA
          refine va_calli (va_runV (As := [.int 110]) (rest := []) ⟨hx, hb, hml, hown, hts⟩ (c_X8_sees_f l dC dI H.size cq Z gI o to 110 rw hrw (by decide +kernel)) (cwV 1 hts gX8_letterHere_X8_sees rfl rfl rfl (by decide +kernel) ⟨(Nat.le_of_ble_eq_true rfl), (Nat.le_of_ble_eq_true rfl)⟩) (pr_V (r := (RX8, TX8, 6)) hP hK hD q_2 8 rfl hq_2) rfl rfl hl.1 rfl (lv_room (Nat.le_of_ble_eq_true rfl)) dX8_letterHere_16 ⟨(Nat.le_of_ble_eq_true rfl), (Nat.le_of_ble_eq_true rfl)⟩) hS (fun q _ h => hFc q h) hFc (fun r_32 u t H locs ht hvm w_31 hB hz1 hk1 hS => ?_)
          have hP := pu_keep hP hk1
          clear hk1 hz1 hvm hB ht hFc
          obtain ⟨hb_33, hx_34⟩ := w_31
          refine lv_if_eq (tgt := 24) hx hb dX8_letterHere_19 (by decide +kernel) (fun c_35 => ?_) (fun c_35 => ?_)
          · have dc_35 := c_eq (a := r_32.toInt) (b := 0) rfl (by decide +kernel) c_35
            have bz_36 := bz0 hx_34 c_35
            refine lv_iinc (v := 5) (lv' := [(1, .int 5), (0, .ref o)]) hx hb dX8_letterHere_24 hl (k := 0) rfl (by decide +kernel) (by decide +kernel) rfl (fun ls hl => ?_)
            refine lv_goto (tgt := 2) hx hb dX8_letterHere_27 (by decide +kernel) ?_
            refine lv_iload_n hx hb dX8_letterHere_2 rfl (lv_at hl 0 rfl) ?_
            refine va_getsN hx hb hZ.1.1 hS hown (va_Nw.use rfl hZ.1.2.2.2.2.2.1) (fun _ h9 => h9) dX8_letterHere_3 ?_
            refine va_tlen (v := 8) hx hb hZ.1.2.1 hS rfl dX8_letterHere_6 ?_
            refine lv_icmp_ge (tgt := 30) hx hb dX8_letterHere_7 (by decide +kernel) (fun c_37 => absurd c_37 (by decide +kernel)) (fun _ => ?_)
            refine lv_aload_n hx hb dX8_letterHere_10 rfl (lv_at hl 1 rfl) ?_
            refine va_getsN hx hb hZ.1.1 hS hown (va_Nw.use rfl hZ.1.2.2.2.2.2.1) (fun _ h9 => h9) dX8_letterHere_11 ?_
            refine lv_iload_n hx hb dX8_letterHere_14 rfl (lv_at hl 0 rfl) ?_
            refine va_tc hx hb hZ.1.2.1 hS (by unfold vp_in; decide) (v := .int 115) rfl dX8_letterHere_15 ?_
            have hFc : ∀ q, va_A [] H.size q → A q := pu_free hS hA
            refine va_calli (va_runV (As := [.int 115]) (rest := []) ⟨hx, hb, hml, hown, hts⟩ (c_X8_sees_f l dC dI H.size cq Z gI o to 115 rw hrw (by decide +kernel)) (cwV 1 hts gX8_letterHere_X8_sees rfl rfl rfl (by decide +kernel) ⟨(Nat.le_of_ble_eq_true rfl), (Nat.le_of_ble_eq_true rfl)⟩) (pr_V (r := (RX8, TX8, 6)) hP hK hD q_2 8 rfl hq_2) rfl rfl hl.1 rfl (lv_room (Nat.le_of_ble_eq_true rfl)) dX8_letterHere_16 ⟨(Nat.le_of_ble_eq_true rfl), (Nat.le_of_ble_eq_true rfl)⟩) hS (fun q _ h => hFc q h) hFc (fun r_39 u t H locs ht hvm w_38 hB hz1 hk1 hS => ?_)
            have hP := pu_keep hP hk1
            clear hk1 hz1 hvm hB ht hFc
            obtain ⟨hb_40, hx_41⟩ := w_38
            refine lv_if_eq (tgt := 24) hx hb dX8_letterHere_19 (by decide +kernel) (fun c_42 => ?_) (fun c_42 => ?_)
            · have dc_42 := c_eq (a := r_39.toInt) (b := 0) rfl (by decide +kernel) c_42
              have bz_43 := bz0 hx_41 c_42
              refine lv_iinc (v := 6) (lv' := [(1, .int 6), (0, .ref o)]) hx hb dX8_letterHere_24 hl (k := 0) rfl (by decide +kernel) (by decide +kernel) rfl (fun ls hl => ?_)
              refine lv_goto (tgt := 2) hx hb dX8_letterHere_27 (by decide +kernel) ?_
              refine lv_iload_n hx hb dX8_letterHere_2 rfl (lv_at hl 0 rfl) ?_
              refine va_getsN hx hb hZ.1.1 hS hown (va_Nw.use rfl hZ.1.2.2.2.2.2.1) (fun _ h9 => h9) dX8_letterHere_3 ?_
              refine va_tlen (v := 8) hx hb hZ.1.2.1 hS rfl dX8_letterHere_6 ?_
              refine lv_icmp_ge (tgt := 30) hx hb dX8_letterHere_7 (by decide +kernel) (fun c_44 => absurd c_44 (by decide +kernel)) (fun _ => ?_)
              refine lv_aload_n hx hb dX8_letterHere_10 rfl (lv_at hl 1 rfl) ?_
              refine va_getsN hx hb hZ.1.1 hS hown (va_Nw.use rfl hZ.1.2.2.2.2.2.1) (fun _ h9 => h9) dX8_letterHere_11 ?_
              refine lv_iload_n hx hb dX8_letterHere_14 rfl (lv_at hl 0 rfl) ?_
              refine va_tc hx hb hZ.1.2.1 hS (by unfold vp_in; decide) (v := .int 108) rfl dX8_letterHere_15 ?_
              have hFc : ∀ q, va_A [] H.size q → A q := pu_free hS hA
              refine va_calli (va_runV (As := [.int 108]) (rest := []) ⟨hx, hb, hml, hown, hts⟩ (c_X8_sees_f l dC dI H.size cq Z gI o to 108 rw hrw (by decide +kernel)) (cwV 1 hts gX8_letterHere_X8_sees rfl rfl rfl (by decide +kernel) ⟨(Nat.le_of_ble_eq_true rfl), (Nat.le_of_ble_eq_true rfl)⟩) (pr_V (r := (RX8, TX8, 6)) hP hK hD q_2 8 rfl hq_2) rfl rfl hl.1 rfl (lv_room (Nat.le_of_ble_eq_true rfl)) dX8_letterHere_16 ⟨(Nat.le_of_ble_eq_true rfl), (Nat.le_of_ble_eq_true rfl)⟩) hS (fun q _ h => hFc q h) hFc (fun r_46 u t H locs ht hvm w_45 hB hz1 hk1 hS => ?_)
              have hP := pu_keep hP hk1
              clear hk1 hz1 hvm hB ht hFc
              obtain ⟨hb_47, hx_48⟩ := w_45
              refine lv_if_eq (tgt := 24) hx hb dX8_letterHere_19 (by decide +kernel) (fun c_49 => ?_) (fun c_49 => ?_)
              · have dc_49 := c_eq (a := r_46.toInt) (b := 0) rfl (by decide +kernel) c_49
                have bz_50 := bz0 hx_48 c_49
                refine lv_iinc (v := 7) (lv' := [(1, .int 7), (0, .ref o)]) hx hb dX8_letterHere_24 hl (k := 0) rfl (by decide +kernel) (by decide +kernel) rfl (fun ls hl => ?_)
                refine lv_goto (tgt := 2) hx hb dX8_letterHere_27 (by decide +kernel) ?_
                refine lv_iload_n hx hb dX8_letterHere_2 rfl (lv_at hl 0 rfl) ?_
                refine va_getsN hx hb hZ.1.1 hS hown (va_Nw.use rfl hZ.1.2.2.2.2.2.1) (fun _ h9 => h9) dX8_letterHere_3 ?_
                refine va_tlen (v := 8) hx hb hZ.1.2.1 hS rfl dX8_letterHere_6 ?_
                refine lv_icmp_ge (tgt := 30) hx hb dX8_letterHere_7 (by decide +kernel) (fun c_51 => absurd c_51 (by decide +kernel)) (fun _ => ?_)
                refine lv_aload_n hx hb dX8_letterHere_10 rfl (lv_at hl 1 rfl) ?_
                refine va_getsN hx hb hZ.1.1 hS hown (va_Nw.use rfl hZ.1.2.2.2.2.2.1) (fun _ h9 => h9) dX8_letterHere_11 ?_
                refine lv_iload_n hx hb dX8_letterHere_14 rfl (lv_at hl 0 rfl) ?_
                refine va_tc hx hb hZ.1.2.1 hS (by unfold vp_in; decide) (v := .int 120) rfl dX8_letterHere_15 ?_
                have hFc : ∀ q, va_A [] H.size q → A q := pu_free hS hA
                refine va_calli (va_runV (As := [.int 120]) (rest := []) ⟨hx, hb, hml, hown, hts⟩ (c_X8_sees_f l dC dI H.size cq Z gI o to 120 rw hrw (by decide +kernel)) (cwV 1 hts gX8_letterHere_X8_sees rfl rfl rfl (by decide +kernel) ⟨(Nat.le_of_ble_eq_true rfl), (Nat.le_of_ble_eq_true rfl)⟩) (pr_V (r := (RX8, TX8, 6)) hP hK hD q_2 8 rfl hq_2) rfl rfl hl.1 rfl (lv_room (Nat.le_of_ble_eq_true rfl)) dX8_letterHere_16 ⟨(Nat.le_of_ble_eq_true rfl), (Nat.le_of_ble_eq_true rfl)⟩) hS (fun q _ h => hFc q h) hFc (fun r_53 u t H locs ht hvm w_52 hB hz1 hk1 hS => ?_)
                have hP := pu_keep hP hk1
                clear hk1 hz1 hvm hB ht hFc
                obtain ⟨hb_54, hx_55⟩ := w_52
                refine lv_if_eq (tgt := 24) hx hb dX8_letterHere_19 (by decide +kernel) (fun c_56 => ?_) (fun c_56 => ?_)
                · have dc_56 := c_eq (a := r_53.toInt) (b := 0) rfl (by decide +kernel) c_56
                  have bz_57 := bz0 hx_55 c_56
                  refine lv_iinc (v := 8) (lv' := [(1, .int 8), (0, .ref o)]) hx hb dX8_letterHere_24 hl (k := 0) rfl (by decide +kernel) (by decide +kernel) rfl (fun ls hl => ?_)
                  refine lv_goto (tgt := 2) hx hb dX8_letterHere_27 (by decide +kernel) ?_
                  refine lv_iload_n hx hb dX8_letterHere_2 rfl (lv_at hl 0 rfl) ?_
                  refine va_getsN hx hb hZ.1.1 hS hown (va_Nw.use rfl hZ.1.2.2.2.2.2.1) (fun _ h9 => h9) dX8_letterHere_3 ?_
                  refine va_tlen (v := 8) hx hb hZ.1.2.1 hS rfl dX8_letterHere_6 ?_
                  refine lv_icmp_ge (tgt := 30) hx hb dX8_letterHere_7 (by decide +kernel) (fun _ => ?_) (fun c_58 => absurd c_58 (by decide +kernel))
                  refine lv_iconst (v := (-1)) hx hb dX8_letterHere_30 (by decide +kernel) ?_
                  exact W.iret (v := (-1)) hx hb hr (fun t ht hW => ⟨⟨(-1), (), rfl, ⟨(by decide +kernel), (Or.inl ⟨rfl, (fun h => h.elim bz_8 (fun h => h.elim bz_15 (fun h => h.elim bz_22 (fun h => h.elim bz_29 (fun h => h.elim bz_36 (fun h => h.elim bz_43 (fun h => h.elim bz_50 bz_57)))))))⟩)⟩, trivial⟩, hS.F ht⟩) hS.2.2 dX8_letterHere_31
                · have dc_56 := c_ne (a := r_53.toInt) (b := 0) rfl (by decide +kernel) c_56
                  have bz_59 := bz1 hx_55 c_56
                  have iv_60 : 0 ≤ (oI Z o 4).toInt ∧ (oI Z o 4).toInt ≤ 60 := oInv.iv gI to.2 rfl rfl
                  have iv_61 : 0 ≤ (oI Z o 1).toInt ∧ (oI Z o 1).toInt ≤ 60 := oInv.iv gI to.2 rfl rfl
                  have lt_62 := sf_lt (by decide +kernel) bz_59 (by omega)
                  refine lv_iload_n hx hb dX8_letterHere_22 rfl (lv_at hl 0 rfl) ?_
                  exact W.iret (v := 7) hx hb hr (fun t ht hW => ⟨⟨7, (), rfl, ⟨(by decide +kernel), (Or.inr ⟨by decide, (Or.inr (Or.inr (Or.inr (Or.inr (Or.inr (Or.inr (Or.inr bz_59))))))), by rw [bz_59]; decide⟩)⟩, trivial⟩, hS.F ht⟩) hS.2.2 dX8_letterHere_23
              · have dc_49 := c_ne (a := r_46.toInt) (b := 0) rfl (by decide +kernel) c_49
                have bz_63 := bz1 hx_48 c_49
                have iv_64 : 0 ≤ (oI Z o 4).toInt ∧ (oI Z o 4).toInt ≤ 60 := oInv.iv gI to.2 rfl rfl
                have iv_65 : 0 ≤ (oI Z o 1).toInt ∧ (oI Z o 1).toInt ≤ 60 := oInv.iv gI to.2 rfl rfl
                have lt_66 := sf_lt (by decide +kernel) bz_63 (by omega)
                refine lv_iload_n hx hb dX8_letterHere_22 rfl (lv_at hl 0 rfl) ?_
                exact W.iret (v := 6) hx hb hr (fun t ht hW => ⟨⟨6, (), rfl, ⟨(by decide +kernel), (Or.inr ⟨by decide, (Or.inr (Or.inr (Or.inr (Or.inr (Or.inr (Or.inr (Or.inl bz_63))))))), by rw [bz_63]; decide⟩)⟩, trivial⟩, hS.F ht⟩) hS.2.2 dX8_letterHere_23
            · have dc_42 := c_ne (a := r_39.toInt) (b := 0) rfl (by decide +kernel) c_42
              have bz_67 := bz1 hx_41 c_42
              have iv_68 : 0 ≤ (oI Z o 4).toInt ∧ (oI Z o 4).toInt ≤ 60 := oInv.iv gI to.2 rfl rfl
              have iv_69 : 0 ≤ (oI Z o 1).toInt ∧ (oI Z o 1).toInt ≤ 60 := oInv.iv gI to.2 rfl rfl
              have lt_70 := sf_lt (by decide +kernel) bz_67 (by omega)
              refine lv_iload_n hx hb dX8_letterHere_22 rfl (lv_at hl 0 rfl) ?_
              exact W.iret (v := 5) hx hb hr (fun t ht hW => ⟨⟨5, (), rfl, ⟨(by decide +kernel), (Or.inr ⟨by decide, (Or.inr (Or.inr (Or.inr (Or.inr (Or.inr (Or.inl bz_67)))))), by rw [bz_67]; decide⟩)⟩, trivial⟩, hS.F ht⟩) hS.2.2 dX8_letterHere_23
          · have dc_35 := c_ne (a := r_32.toInt) (b := 0) rfl (by decide +kernel) c_35
            have bz_71 := bz1 hx_34 c_35
            have iv_72 : 0 ≤ (oI Z o 4).toInt ∧ (oI Z o 4).toInt ≤ 60 := oInv.iv gI to.2 rfl rfl
            have iv_73 : 0 ≤ (oI Z o 1).toInt ∧ (oI Z o 1).toInt ≤ 60 := oInv.iv gI to.2 rfl rfl
            have lt_74 := sf_lt (by decide +kernel) bz_71 (by omega)
            refine lv_iload_n hx hb dX8_letterHere_22 rfl (lv_at hl 0 rfl) ?_
            exact W.iret (v := 4) hx hb hr (fun t ht hW => ⟨⟨4, (), rfl, ⟨(by decide +kernel), (Or.inr ⟨by decide, (Or.inr (Or.inr (Or.inr (Or.inr (Or.inl bz_71))))), by rw [bz_71]; decide⟩)⟩, trivial⟩, hS.F ht⟩) hS.2.2 dX8_letterHere_23
        · have dc_28 := c_ne (a := r_25.toInt) (b := 0) rfl (by decide +kernel) c_28
          have bz_75 := bz1 hx_27 c_28
          have iv_76 : 0 ≤ (oI Z o 4).toInt ∧ (oI Z o 4).toInt ≤ 60 := oInv.iv gI to.2 rfl rfl
          have iv_77 : 0 ≤ (oI Z o 1).toInt ∧ (oI Z o 1).toInt ≤ 60 := oInv.iv gI to.2 rfl rfl
          have lt_78 := sf_lt (by decide +kernel) bz_75 (by omega)
          refine lv_iload_n hx hb dX8_letterHere_22 rfl (lv_at hl 0 rfl) ?_
          exact W.iret (v := 3) hx hb hr (fun t ht hW => ⟨⟨3, (), rfl, ⟨(by decide +kernel), (Or.inr ⟨by decide, (Or.inr (Or.inr (Or.inr (Or.inl bz_75)))), by rw [bz_75]; decide⟩)⟩, trivial⟩, hS.F ht⟩) hS.2.2 dX8_letterHere_23
      · have dc_21 := c_ne (a := r_18.toInt) (b := 0) rfl (by decide +kernel) c_21
        have bz_79 := bz1 hx_20 c_21
        have iv_80 : 0 ≤ (oI Z o 4).toInt ∧ (oI Z o 4).toInt ≤ 60 := oInv.iv gI to.2 rfl rfl
        have iv_81 : 0 ≤ (oI Z o 1).toInt ∧ (oI Z o 1).toInt ≤ 60 := oInv.iv gI to.2 rfl rfl
        have lt_82 := sf_lt (by decide +kernel) bz_79 (by omega)
        refine lv_iload_n hx hb dX8_letterHere_22 rfl (lv_at hl 0 rfl) ?_
        exact W.iret (v := 2) hx hb hr (fun t ht hW => ⟨⟨2, (), rfl, ⟨(by decide +kernel), (Or.inr ⟨by decide, (Or.inr (Or.inr (Or.inl bz_79))), by rw [bz_79]; decide⟩)⟩, trivial⟩, hS.F ht⟩) hS.2.2 dX8_letterHere_23
    · have dc_14 := c_ne (a := r_11.toInt) (b := 0) rfl (by decide +kernel) c_14
      have bz_83 := bz1 hx_13 c_14
      have iv_84 : 0 ≤ (oI Z o 4).toInt ∧ (oI Z o 4).toInt ≤ 60 := oInv.iv gI to.2 rfl rfl
      have iv_85 : 0 ≤ (oI Z o 1).toInt ∧ (oI Z o 1).toInt ≤ 60 := oInv.iv gI to.2 rfl rfl
      have lt_86 := sf_lt (by decide +kernel) bz_83 (by omega)
      refine lv_iload_n hx hb dX8_letterHere_22 rfl (lv_at hl 0 rfl) ?_
      exact W.iret (v := 1) hx hb hr (fun t ht hW => ⟨⟨1, (), rfl, ⟨(by decide +kernel), (Or.inr ⟨by decide, (Or.inr (Or.inl bz_83)), by rw [bz_83]; decide⟩)⟩, trivial⟩, hS.F ht⟩) hS.2.2 dX8_letterHere_23
  · have dc_7 := c_ne (a := r_4.toInt) (b := 0) rfl (by decide +kernel) c_7
    have bz_87 := bz1 hx_6 c_7
    have iv_88 : 0 ≤ (oI Z o 4).toInt ∧ (oI Z o 4).toInt ≤ 60 := oInv.iv gI to.2 rfl rfl
    have iv_89 : 0 ≤ (oI Z o 1).toInt ∧ (oI Z o 1).toInt ≤ 60 := oInv.iv gI to.2 rfl rfl
    have lt_90 := sf_lt (by decide +kernel) bz_87 (by omega)
    refine lv_iload_n hx hb dX8_letterHere_22 rfl (lv_at hl 0 rfl) ?_
    exact W.iret (v := 0) hx hb hr (fun t ht hW => ⟨⟨0, (), rfl, ⟨(by decide +kernel), (Or.inr ⟨by decide, (Or.inl bz_87), by rw [bz_87]; decide⟩)⟩, trivial⟩, hS.F ht⟩) hS.2.2 dX8_letterHere_23
set_option maxHeartbeats 4000000 in
set_option maxRecDepth 100000 in
theorem c_X8_emit_f (l : Launch) (dC : Nat → ClassId) (dI : Nat → Nat → Nat) (sz : Nat) (cq : Nat → ClassId) (Z : oS) (gI : oInv Z) (o : Nat) (to : oty Z o 8) (x1 : Int32) (cd : Nat) (hcd : oP Z o 2 = some cd) : Met l yX8_emit wsX8_emit ({ frames := 0, cells := 0, slots := 0, locals := 0 }) (va_Pc [.ref o, .int x1] (pcW (dC, dI) (oT cq) (oW cq Z) sz)) (va_Qv (fun (u : oS) => oInv u ∧ oX [803, 2063] Z u ∧ ((oI Z o 3).toInt < 60 → emF Z u o cd x1)) (fun u t => va_P (dC, dI) vwCl (oW cq u) t.heap ∧ va_K (dC, dI) vwCl (oT cq) t ∧ va_D (va_A (oW cq Z) sz) (oW cq u)) (va_A (oW cq Z) sz)) 0 0 (va_A (oW cq Z) sz) := by
  refine Met.ofW (cc := cX8_emit) (maxL := 2) (ret := none) (by decide +kernel) rfl ?_
  intro p e s m args below meth c s₁ B hml hv
  obtain ⟨rfl, hsz, hP, hK, hD0⟩ := hv
  have hx := B.exec
  have hb := B.bytes
  have hr := B.returns
  have hts := atoms_spec (ws := wsX8_emit) B.pre
  have hown : s.vm.findClass RX8 = some m.cls := findClass_of_methodNamed B.named
  have hlocks := B.notSynchronized
  subst hsz
  have hD := hD0.self (sz := s.heap.size)
  generalize hAe : va_A (oW cq Z) s.heap.size = A at hD ⊢
  have hA : ∀ q : Nat, s.heap.size ≤ q → A q := fun q h => by rw [← hAe]; exact Or.inr h
  have hS : va_S A s.heap s.heap [] := va_S.rf
  have hP : va_P (dC, dI) vwCl (oW cq Z) s.heap := hP
  have hl := lv_entry ([.ref o, .int x1]) (n := 2) (Nat.le_of_ble_eq_true rfl)
  rw [lg_entry_eq]
  generalize (lg_sl ([.ref o, .int x1]) ++ List.replicate (2 - (lg_sl ([.ref o, .int x1])).length) Slot.unset).toArray = ls at hl ⊢
  have hl : lv_has ls 2 [(0, .ref o), (1, .int x1)] := hl
  have tcd : oty Z cd 63 := oInv.rd gI to.2 hcd rfl rfl
  refine lv_aload_n hx hb dX8_emit_0 rfl (lv_at hl 0 rfl) ?_
  obtain ⟨q_1, hq_1⟩ := og (cq := cq) to.1 (oE_8 to.2)
  refine va_get (D := (dC, dI)) (ci := 8) (v := .int (oI Z o 3)) (C := RX8) (T := TX8) (N := 6) hx hb hts in_wsX8_emit_X8 hown hK hP q_1 hq_1 rfl 3 (by decide +kernel) (hts (.fieldLink RX8 25 "ShipOffice$Tape" "codeSize" "I") iw_X8_emit_1) (fun _ h9 => h9) rfl dX8_emit_1 ?_
  refine lv_topi (fun x_2 ex_2 => ?_)
  have hx_2 : 0 ≤ x_2.toInt ∧ x_2.toInt ≤ 60 := iv_of ex_2 (oInv.iv gI to.2 rfl rfl)
  have gx_2 : x_2.toInt = (oI Z o 3).toInt := iv_to ex_2
  clear ex_2
  refine lv_bipush (v := 60) hx hb dX8_emit_4 (by decide +kernel) ?_
  refine lv_icmp_ge (tgt := 29) hx hb dX8_emit_6 (by decide +kernel) (fun c_3 => ?_) (fun c_3 => ?_)
  · have dc_3 := c_le (a := 60) (b := x_2.toInt) (by decide +kernel) rfl c_3
    exact W.vret hx hb hr (fun t ht hW => ⟨⟨Z, rfl, ⟨gI, oX.rf, (fun h => by exfalso; omega)⟩, ⟨by rw [ht]; exact hP, va_K.moved hW.alike hK, hD⟩⟩, hS.F ht⟩) hS.2.2 dX8_emit_29
  · have dc_3 := c_nle (a := 60) (b := x_2.toInt) (by decide +kernel) rfl c_3
    refine lv_aload_n hx hb dX8_emit_9 rfl (lv_at hl 0 rfl) ?_
    refine va_get (D := (dC, dI)) (ci := 8) (v := .ref cd) (C := RX8) (T := TX8) (N := 6) hx hb hts in_wsX8_emit_X8 hown hK hP q_1 hq_1 rfl 2 (by decide +kernel) (hts (.fieldLink RX8 15 "ShipOffice$Tape" "code" "[I") iw_X8_emit_2) (fun _ h9 => h9) (o_rd hcd) dX8_emit_10 ?_
    refine lv_aload_n hx hb dX8_emit_13 rfl (lv_at hl 0 rfl) ?_
    refine va_get (D := (dC, dI)) (ci := 8) (v := .int (oI Z o 3)) (C := RX8) (T := TX8) (N := 6) hx hb hts in_wsX8_emit_X8 hown hK hP q_1 hq_1 rfl 3 (by decide +kernel) (hts (.fieldLink RX8 25 "ShipOffice$Tape" "codeSize" "I") iw_X8_emit_1) (fun _ h9 => h9) rfl dX8_emit_14 ?_
    refine lv_topi (fun x_4 ex_4 => ?_)
    have hx_4 : 0 ≤ x_4.toInt ∧ x_4.toInt ≤ 60 := iv_of ex_4 (oInv.iv gI to.2 rfl rfl)
    have gx_4 : x_4.toInt = (oI Z o 3).toInt := iv_to ex_4
    clear ex_4
    refine lv_iload_n hx hb dX8_emit_17 rfl (lv_at hl 1 rfl) ?_
    obtain ⟨q_5, hq_5⟩ := og (cq := cq) tcd.1 (oE_63 tcd.2)
    refine va_iast hx hb hK hP hD hS q_5 0 hq_5 rfl (vp_in_iff.mpr (by omega)) dX8_emit_18 (fun H locs hP1 hD1 hS => ?_)
    obtain ⟨S_6, eS_6⟩ : ∃ zq, zq = setI Z cd (x_4 : Int32).toNatClampNeg x1 := ⟨_, rfl⟩
    have hP : va_P (dC, dI) vwCl (oW cq S_6) H := by rw [eS_6]; exact cP (oset tcd.1 hq_5 hD rfl (he_63 tcd.2) neI) hP1
    have hD : va_D A (oW cq S_6) := by rw [eS_6]; exact cD (oset tcd.1 hq_5 hD rfl (he_63 tcd.2) neI) hD1
    clear hP1 hD1
    have hIS_6 : oInv S_6 := by rw [eS_6]; exact oInv.A (k := 63) gI tcd.2 (by decide +kernel)
    have XS_6 : oX [2063] Z S_6 := by rw [eS_6]; exact oX.I (k := 63) (key := 2063) tcd.2 rfl (List.mem_singleton.mpr rfl)
    have pk_7 : oP S_6 o 2 = some cd := by rw [eS_6]; exact hcd
    have X_8 : oX [803, 2063] Z S_6 := oX.st oX.rf XS_6 (by decide +kernel)
    have g_9 : (oI S_6 o 3).toInt = (oI Z o 3).toInt := by rw [eS_6, setI_oth (ty_ne to tcd (by decide +kernel))]
    refine lv_aload_n hx hb dX8_emit_19 rfl (lv_at hl 0 rfl) ?_
    refine lv_dup hx hb dX8_emit_20 rfl ?_
    have t_10 : oty S_6 o 8 := (oX.ty XS_6 to)
    obtain ⟨q_11, hq_11⟩ := og (cq := cq) t_10.1 (oE_8 t_10.2)
    refine va_get (D := (dC, dI)) (ci := 8) (v := .int (oI S_6 o 3)) (C := RX8) (T := TX8) (N := 6) hx hb hts in_wsX8_emit_X8 hown hK hP q_11 hq_11 rfl 3 (by decide +kernel) (hts (.fieldLink RX8 25 "ShipOffice$Tape" "codeSize" "I") iw_X8_emit_1) (fun _ h9 => h9) rfl dX8_emit_21 ?_
    refine lv_topi (fun x_12 ex_12 => ?_)
    have hx_12 : 0 ≤ x_12.toInt ∧ x_12.toInt ≤ 60 := iv_of ex_12 (oInv.iv hIS_6 t_10.2 rfl rfl)
    have gx_12 : x_12.toInt = (oI S_6 o 3).toInt := iv_to ex_12
    clear ex_12
    refine lv_iconst (v := 1) hx hb dX8_emit_24 (by decide +kernel) ?_
    refine lv_iadd hx hb dX8_emit_25 ?_
    refine lv_topi (fun x_13 ex_13 => ?_)
    have hx_13 : x_13.toInt = x_12.toInt + 1 := (iv_to ex_13).trans (ad_i rfl (by decide +kernel) (by omega) (by omega))
    clear ex_13
    refine va_put (D := (dC, dI)) (ci := 8) (v := .int x_13) (ty := .int) (C := RX8) (T := TX8) (N := 6) hx hb hts in_wsX8_emit_X8 tyX8 tyX8_ok nmX8 hown hK hP hD hS q_11 hq_11 rfl 3 (by decide +kernel) (hts (.fieldLink RX8 25 "ShipOffice$Tape" "codeSize" "I") iw_X8_emit_1) (fun _ h9 => h9) rfl (by decide +kernel) rfl rfl (Nat.le_of_ble_eq_true rfl) dX8_emit_26 (fun H locs hP1 hD1 hS => ?_)
    obtain ⟨S_14, eS_14⟩ : ∃ zq, zq = setI S_6 o 3 x_13 := ⟨_, rfl⟩
    have hP : va_P (dC, dI) vwCl (oW cq S_14) H := by rw [eS_14]; exact cP (oset t_10.1 hq_11 hD rfl (he_8_3 t_10.2) neI) hP1
    have hD : va_D A (oW cq S_14) := by rw [eS_14]; exact cD (oset t_10.1 hq_11 hD rfl (he_8_3 t_10.2) neI) hD1
    clear hP1 hD1
    have hIS_14 : oInv S_14 := by rw [eS_14]; exact oInv.I0 (k := 8) (lo := 0) (hi := 60) hIS_6 t_10.2 (by decide +kernel) rfl rfl rfl (by omega)
    have XS_14 : oX [803] S_6 S_14 := by rw [eS_14]; exact oX.I (k := 8) (key := 803) t_10.2 rfl (List.mem_singleton.mpr rfl)
    have pk_15 : oP S_14 o 2 = some cd := by rw [eS_14]; exact pk_7
    have X_16 : oX [803, 2063] Z S_14 := oX.st X_8 XS_14 (by decide +kernel)
    have g_17 : (oI S_14 o 3).toInt = x_13.toInt := by rw [eS_14, setI_same]
    exact W.vret hx hb hr (fun t ht hW => ⟨⟨S_14, rfl, ⟨hIS_14, X_16, (fun _ => ⟨by have h1 := tN_i Z o; have h2 := tN_i S_14 o; omega, by rw [eS_14, setI_oth (ty_ne (oX.ty XS_6 tcd) (oX.ty XS_6 to) (by decide +kernel)), eS_6, setI_fun]; exact congrArg (fun k => upd (oI Z cd) k x1) (show (x_4 : Int32).toNatClampNeg = (oI Z o 3).toNatClampNeg from congrArg Int32.toNatClampNeg (Int32.toInt_inj.mp (by omega)))⟩)⟩, ⟨by rw [ht]; exact hP, va_K.moved hW.alike hK, hD⟩⟩, hS.F ht⟩) hS.2.2 dX8_emit_29
set_option maxHeartbeats 4000000 in
set_option maxRecDepth 100000 in
theorem c_X8_emitSign_f (l : Launch) (dC : Nat → ClassId) (dI : Nat → Nat → Nat) (sz : Nat) (tL tS tG : Nat) (cq : Nat → ClassId) (Z : oS) (gI : oInv Z) (o : Nat) (to : oty Z o 8) (x1 : Int32) (cd : Nat) (hcd : oP Z o 2 = some cd) (hs : x1.toInt = 43 ∨ x1.toInt = 45 ∨ x1.toInt = 42 ∨ x1.toInt = 47 ∨ x1.toInt = 60 ∨ x1.toInt = 61 ∨ x1.toInt = 62) : Met l yX8_emitSign wsX8_emitSign ({ frames := 1, cells := 0, slots := 0, locals := 21 }) (va_Pc [.ref o, .int x1] (pcO (dC, dI) (oT cq) (oW cq Z) sz tL tS tG (oW cq Z))) (va_Qv (fun (u : oS) => oInv u ∧ oX [803, 2063] Z u ∧ ((oI Z o 3).toInt < 60 → emF Z u o cd (scd x1))) (fun u t => va_P (dC, dI) vwCl (oW cq u) t.heap ∧ va_K (dC, dI) vwCl (oT cq) t ∧ va_D (va_A (oW cq Z) sz) (oW cq u)) (va_A (oW cq Z) sz)) 0 0 (va_A (oW cq Z) sz) := by
  refine Met.ofW (cc := cX8_emitSign) (maxL := 3) (ret := none) (by decide +kernel) rfl ?_
  intro p e s m args below meth c s₁ B hml hv
  obtain ⟨rfl, ⟨hsz, hP, hK, hD0⟩, hZ⟩ := hv
  have hx := B.exec
  have hb := B.bytes
  have hr := B.returns
  have hts := atoms_spec (ws := wsX8_emitSign) B.pre
  have hown : s.vm.findClass RX8 = some m.cls := findClass_of_methodNamed B.named
  have hlocks := B.notSynchronized
  subst hsz
  have hD := hD0.self (sz := s.heap.size)
  generalize hAe : va_A (oW cq Z) s.heap.size = A at hD hZ ⊢
  have hA : ∀ q : Nat, s.heap.size ≤ q → A q := fun q h => by rw [← hAe]; exact Or.inr h
  have hS : va_S A s.heap s.heap [] := va_S.rf
  have hP : va_P (dC, dI) vwCl (oW cq Z) s.heap := hP
  have hl := lv_entry ([.ref o, .int x1]) (n := 3) (Nat.le_of_ble_eq_true rfl)
  rw [lg_entry_eq]
  generalize (lg_sl ([.ref o, .int x1]) ++ List.replicate (3 - (lg_sl ([.ref o, .int x1])).length) Slot.unset).toArray = ls at hl ⊢
  have hl : lv_has ls 3 [(0, .ref o), (1, .int x1)] := hl
  have tcd : oty Z cd 63 := oInv.rd gI to.2 hcd rfl rfl
  refine lv_iconst (v := 0) hx hb dX8_emitSign_0 (by decide +kernel) ?_
  refine lv_istore_n (lv' := [(2, .int 0), (0, .ref o), (1, .int x1)]) hx hb dX8_emitSign_1 rfl hl (by decide +kernel) rfl (fun ls hl => ?_)
  refine lv_iload_n hx hb dX8_emitSign_2 rfl (lv_at hl 0 rfl) ?_
  refine va_gets hx hb hZ.2.1 hS hown (hts (.fieldLink RX8 71 "ShipOffice$Act" "SIGNS" "[C") iw_X8_emitSign_1) (fun _ h9 => h9) dX8_emitSign_3 ?_
  refine va_tlen (v := 7) hx hb hZ.2.2.1 hS rfl dX8_emitSign_6 ?_
  refine lv_icmp_ge (tgt := 33) hx hb dX8_emitSign_7 (by decide +kernel) (fun c_1 => absurd c_1 (by decide +kernel)) (fun _ => ?_)
  refine va_gets hx hb hZ.2.1 hS hown (hts (.fieldLink RX8 71 "ShipOffice$Act" "SIGNS" "[C") iw_X8_emitSign_1) (fun _ h9 => h9) dX8_emitSign_10 ?_
  refine lv_iload_n hx hb dX8_emitSign_13 rfl (lv_at hl 0 rfl) ?_
  refine va_tc hx hb hZ.2.2.1 hS (by unfold vp_in; decide) (v := .int 43) rfl dX8_emitSign_14 ?_
  refine lv_iload_n hx hb dX8_emitSign_15 rfl (lv_at hl 2 rfl) ?_
  refine lv_icmp_ne (tgt := 27) hx hb dX8_emitSign_16 (by decide +kernel) (fun c_2 => ?_) (fun c_2 => ?_)
  · have dc_2 := c_ne (a := 43) (b := x1.toInt) (by decide +kernel) rfl c_2
    refine lv_iinc (v := 1) (lv' := [(2, .int 1), (0, .ref o), (1, .int x1)]) hx hb dX8_emitSign_27 hl (k := 0) rfl (by decide +kernel) (by decide +kernel) rfl (fun ls hl => ?_)
    refine lv_goto (tgt := 2) hx hb dX8_emitSign_30 (by decide +kernel) ?_
    refine lv_iload_n hx hb dX8_emitSign_2 rfl (lv_at hl 0 rfl) ?_
    refine va_gets hx hb hZ.2.1 hS hown (hts (.fieldLink RX8 71 "ShipOffice$Act" "SIGNS" "[C") iw_X8_emitSign_1) (fun _ h9 => h9) dX8_emitSign_3 ?_
    refine va_tlen (v := 7) hx hb hZ.2.2.1 hS rfl dX8_emitSign_6 ?_
    refine lv_icmp_ge (tgt := 33) hx hb dX8_emitSign_7 (by decide +kernel) (fun c_3 => absurd c_3 (by decide +kernel)) (fun _ => ?_)
    refine va_gets hx hb hZ.2.1 hS hown (hts (.fieldLink RX8 71 "ShipOffice$Act" "SIGNS" "[C") iw_X8_emitSign_1) (fun _ h9 => h9) dX8_emitSign_10 ?_
    refine lv_iload_n hx hb dX8_emitSign_13 rfl (lv_at hl 0 rfl) ?_
    refine va_tc hx hb hZ.2.2.1 hS (by unfold vp_in; decide) (v := .int 45) rfl dX8_emitSign_14 ?_
    refine lv_iload_n hx hb dX8_emitSign_15 rfl (lv_at hl 2 rfl) ?_
    refine lv_icmp_ne (tgt := 27) hx hb dX8_emitSign_16 (by decide +kernel) (fun c_4 => ?_) (fun c_4 => ?_)
    · have dc_4 := c_ne (a := 45) (b := x1.toInt) (by decide +kernel) rfl c_4
      refine lv_iinc (v := 2) (lv' := [(2, .int 2), (0, .ref o), (1, .int x1)]) hx hb dX8_emitSign_27 hl (k := 0) rfl (by decide +kernel) (by decide +kernel) rfl (fun ls hl => ?_)
      refine lv_goto (tgt := 2) hx hb dX8_emitSign_30 (by decide +kernel) ?_
      refine lv_iload_n hx hb dX8_emitSign_2 rfl (lv_at hl 0 rfl) ?_
      refine va_gets hx hb hZ.2.1 hS hown (hts (.fieldLink RX8 71 "ShipOffice$Act" "SIGNS" "[C") iw_X8_emitSign_1) (fun _ h9 => h9) dX8_emitSign_3 ?_
      refine va_tlen (v := 7) hx hb hZ.2.2.1 hS rfl dX8_emitSign_6 ?_
      refine lv_icmp_ge (tgt := 33) hx hb dX8_emitSign_7 (by decide +kernel) (fun c_5 => absurd c_5 (by decide +kernel)) (fun _ => ?_)
      refine va_gets hx hb hZ.2.1 hS hown (hts (.fieldLink RX8 71 "ShipOffice$Act" "SIGNS" "[C") iw_X8_emitSign_1) (fun _ h9 => h9) dX8_emitSign_10 ?_
      refine lv_iload_n hx hb dX8_emitSign_13 rfl (lv_at hl 0 rfl) ?_
      refine va_tc hx hb hZ.2.2.1 hS (by unfold vp_in; decide) (v := .int 42) rfl dX8_emitSign_14 ?_
      refine lv_iload_n hx hb dX8_emitSign_15 rfl (lv_at hl 2 rfl) ?_
      refine lv_icmp_ne (tgt := 27) hx hb dX8_emitSign_16 (by decide +kernel) (fun c_6 => ?_) (fun c_6 => ?_)
      · have dc_6 := c_ne (a := 42) (b := x1.toInt) (by decide +kernel) rfl c_6
        refine lv_iinc (v := 3) (lv' := [(2, .int 3), (0, .ref o), (1, .int x1)]) hx hb dX8_emitSign_27 hl (k := 0) rfl (by decide +kernel) (by decide +kernel) rfl (fun ls hl => ?_)
        refine lv_goto (tgt := 2) hx hb dX8_emitSign_30 (by decide +kernel) ?_
        refine lv_iload_n hx hb dX8_emitSign_2 rfl (lv_at hl 0 rfl) ?_
        refine va_gets hx hb hZ.2.1 hS hown (hts (.fieldLink RX8 71 "ShipOffice$Act" "SIGNS" "[C") iw_X8_emitSign_1) (fun _ h9 => h9) dX8_emitSign_3 ?_
        refine va_tlen (v := 7) hx hb hZ.2.2.1 hS rfl dX8_emitSign_6 ?_
        refine lv_icmp_ge (tgt := 33) hx hb dX8_emitSign_7 (by decide +kernel) (fun c_7 => absurd c_7 (by decide +kernel)) (fun _ => ?_)
        refine va_gets hx hb hZ.2.1 hS hown (hts (.fieldLink RX8 71 "ShipOffice$Act" "SIGNS" "[C") iw_X8_emitSign_1) (fun _ h9 => h9) dX8_emitSign_10 ?_
        refine lv_iload_n hx hb dX8_emitSign_13 rfl (lv_at hl 0 rfl) ?_
        refine va_tc hx hb hZ.2.2.1 hS (by unfold vp_in; decide) (v := .int 47) rfl dX8_emitSign_14 ?_
        refine lv_iload_n hx hb dX8_emitSign_15 rfl (lv_at hl 2 rfl) ?_
        refine lv_icmp_ne (tgt := 27) hx hb dX8_emitSign_16 (by decide +kernel) (fun c_8 => ?_) (fun c_8 => ?_)
        · have dc_8 := c_ne (a := 47) (b := x1.toInt) (by decide +kernel) rfl c_8
          refine lv_iinc (v := 4) (lv' := [(2, .int 4), (0, .ref o), (1, .int x1)]) hx hb dX8_emitSign_27 hl (k := 0) rfl (by decide +kernel) (by decide +kernel) rfl (fun ls hl => ?_)
          refine lv_goto (tgt := 2) hx hb dX8_emitSign_30 (by decide +kernel) ?_
          refine lv_iload_n hx hb dX8_emitSign_2 rfl (lv_at hl 0 rfl) ?_
          refine va_gets hx hb hZ.2.1 hS hown (hts (.fieldLink RX8 71 "ShipOffice$Act" "SIGNS" "[C") iw_X8_emitSign_1) (fun _ h9 => h9) dX8_emitSign_3 ?_
          refine va_tlen (v := 7) hx hb hZ.2.2.1 hS rfl dX8_emitSign_6 ?_
          refine lv_icmp_ge (tgt := 33) hx hb dX8_emitSign_7 (by decide +kernel) (fun c_9 => absurd c_9 (by decide +kernel)) (fun _ => ?_)
          refine va_gets hx hb hZ.2.1 hS hown (hts (.fieldLink RX8 71 "ShipOffice$Act" "SIGNS" "[C") iw_X8_emitSign_1) (fun _ h9 => h9) dX8_emitSign_10 ?_
          refine lv_iload_n hx hb dX8_emitSign_13 rfl (lv_at hl 0 rfl) ?_
          refine va_tc hx hb hZ.2.2.1 hS (by unfold vp_in; decide) (v := .int 60) rfl dX8_emitSign_14 ?_
          refine lv_iload_n hx hb dX8_emitSign_15 rfl (lv_at hl 2 rfl) ?_
          refine lv_icmp_ne (tgt := 27) hx hb dX8_emitSign_16 (by decide +kernel) (fun c_10 => ?_) (fun c_10 => ?_)
          · have dc_10 := c_ne (a := 60) (b := x1.toInt) (by decide +kernel) rfl c_10
            refine lv_iinc (v := 5) (lv' := [(2, .int 5), (0, .ref o), (1, .int x1)]) hx hb dX8_emitSign_27 hl (k := 0) rfl (by decide +kernel) (by decide +kernel) rfl (fun ls hl => ?_)
            refine lv_goto (tgt := 2) hx hb dX8_emitSign_30 (by decide +kernel) ?_
            refine lv_iload_n hx hb dX8_emitSign_2 rfl (lv_at hl 0 rfl) ?_
            refine va_gets hx hb hZ.2.1 hS hown (hts (.fieldLink RX8 71 "ShipOffice$Act" "SIGNS" "[C") iw_X8_emitSign_1) (fun _ h9 => h9) dX8_emitSign_3 ?_
            refine va_tlen (v := 7) hx hb hZ.2.2.1 hS rfl dX8_emitSign_6 ?_
            refine lv_icmp_ge (tgt := 33) hx hb dX8_emitSign_7 (by decide +kernel) (fun c_11 => absurd c_11 (by decide +kernel)) (fun _ => ?_)
            refine va_gets hx hb hZ.2.1 hS hown (hts (.fieldLink RX8 71 "ShipOffice$Act" "SIGNS" "[C") iw_X8_emitSign_1) (fun _ h9 => h9) dX8_emitSign_10 ?_
            refine lv_iload_n hx hb dX8_emitSign_13 rfl (lv_at hl 0 rfl) ?_
            refine va_tc hx hb hZ.2.2.1 hS (by unfold vp_in; decide) (v := .int 61) rfl dX8_emitSign_14 ?_
            refine lv_iload_n hx hb dX8_emitSign_15 rfl (lv_at hl 2 rfl) ?_
            refine lv_icmp_ne (tgt := 27) hx hb dX8_emitSign_16 (by decide +kernel) (fun c_12 => ?_) (fun c_12 => ?_)
            · have dc_12 := c_ne (a := 61) (b := x1.toInt) (by decide +kernel) rfl c_12
              refine lv_iinc (v := 6) (lv' := [(2, .int 6), (0, .ref o), (1, .int x1)]) hx hb dX8_emitSign_27 hl (k := 0) rfl (by decide +kernel) (by decide +kernel) rfl (fun ls hl => ?_)
              refine lv_goto (tgt := 2) hx hb dX8_emitSign_30 (by decide +kernel) ?_
              refine lv_iload_n hx hb dX8_emitSign_2 rfl (lv_at hl 0 rfl) ?_
              refine va_gets hx hb hZ.2.1 hS hown (hts (.fieldLink RX8 71 "ShipOffice$Act" "SIGNS" "[C") iw_X8_emitSign_1) (fun _ h9 => h9) dX8_emitSign_3 ?_
              refine va_tlen (v := 7) hx hb hZ.2.2.1 hS rfl dX8_emitSign_6 ?_
              refine lv_icmp_ge (tgt := 33) hx hb dX8_emitSign_7 (by decide +kernel) (fun c_13 => absurd c_13 (by decide +kernel)) (fun _ => ?_)
              refine va_gets hx hb hZ.2.1 hS hown (hts (.fieldLink RX8 71 "ShipOffice$Act" "SIGNS" "[C") iw_X8_emitSign_1) (fun _ h9 => h9) dX8_emitSign_10 ?_
              refine lv_iload_n hx hb dX8_emitSign_13 rfl (lv_at hl 0 rfl) ?_
              refine va_tc hx hb hZ.2.2.1 hS (by unfold vp_in; decide) (v := .int 62) rfl dX8_emitSign_14 ?_
              refine lv_iload_n hx hb dX8_emitSign_15 rfl (lv_at hl 2 rfl) ?_
              refine lv_icmp_ne (tgt := 27) hx hb dX8_emitSign_16 (by decide +kernel) (fun c_14 => ?_) (fun c_14 => ?_)
              · have dc_14 := c_ne (a := 62) (b := x1.toInt) (by decide +kernel) rfl c_14
                refine lv_iinc (v := 7) (lv' := [(2, .int 7), (0, .ref o), (1, .int x1)]) hx hb dX8_emitSign_27 hl (k := 0) rfl (by decide +kernel) (by decide +kernel) rfl (fun ls hl => ?_)
                refine lv_goto (tgt := 2) hx hb dX8_emitSign_30 (by decide +kernel) ?_
                refine lv_iload_n hx hb dX8_emitSign_2 rfl (lv_at hl 0 rfl) ?_
                refine va_gets hx hb hZ.2.1 hS hown (hts (.fieldLink RX8 71 "ShipOffice$Act" "SIGNS" "[C") iw_X8_emitSign_1) (fun _ h9 => h9) dX8_emitSign_3 ?_
                refine va_tlen (v := 7) hx hb hZ.2.2.1 hS rfl dX8_emitSign_6 ?_
                refine lv_icmp_ge (tgt := 33) hx hb dX8_emitSign_7 (by decide +kernel) (fun _ => ?_) (fun c_15 => absurd c_15 (by decide +kernel))
                exact W.vret hx hb hr (fun t ht hW => ⟨⟨Z, rfl, ⟨gI, oX.rf, (by exfalso; omega)⟩, ⟨by rw [ht]; exact hP, va_K.moved hW.alike hK, hD⟩⟩, hS.F ht⟩) hS.2.2 dX8_emitSign_33
              · have dc_14 := c_eq (a := 62) (b := x1.toInt) (by decide +kernel) rfl c_14
                refine lv_aload_n hx hb dX8_emitSign_19 rfl (lv_at hl 1 rfl) ?_
                refine lv_bipush (v := (-11)) hx hb dX8_emitSign_20 (by decide +kernel) ?_
                refine lv_iload_n hx hb dX8_emitSign_22 rfl (lv_at hl 0 rfl) ?_
                refine lv_isub hx hb dX8_emitSign_23 ?_
                refine lv_topi (fun y ey => ?_)
                obtain rfl : y = (-17) := ey.trans (by decide +kernel)
                have hFc := o_free hD hS hA
                obtain ⟨q_16, hq_16⟩ := og (cq := cq) to.1 (oE_8 to.2)
                refine va_callv (va_runV (As := [.int (-17)]) (rest := []) ⟨hx, hb, hml, hown, hts⟩ (c_X8_emit_f l dC dI s.heap.size cq Z gI o to (-17) cd hcd) (cwV 1 hts gX8_emitSign_X8_emit rfl rfl rfl (by decide +kernel) ⟨(Nat.le_of_ble_eq_true rfl), (Nat.le_of_ble_eq_true rfl)⟩) (pr_V (r := (RX8, TX8, 6)) hP hK hD q_16 8 rfl hq_16) rfl rfl hl.1 rfl (lv_room (Nat.le_of_ble_eq_true rfl)) dX8_emitSign_24 ⟨(Nat.le_of_ble_eq_true rfl), (Nat.le_of_ble_eq_true rfl)⟩) hS (fun q _ h => hFc q h) hFc (fun u t H locs ht hvm w_17 hB hz1 hk1 hS => ?_)
                obtain ⟨S_19, rfl⟩ : ∃ z, z = u := ⟨_, rfl⟩
                obtain ⟨hP1, hK1, hD1⟩ := hB
                rw [ht] at hP1
                have hP : va_P (dC, dI) vwCl (oW cq S_19) H := hP1
                have hD : va_D A (oW cq S_19) := hD1.weaken (fun _ _ _ h => hFc _ h)
                clear hP1 hK1 hD1 hk1 hz1 hvm ht hFc
                obtain ⟨hIS_19, XS_19, hx_20⟩ := w_17
                have X_21 : oX [803, 2063] Z S_19 := oX.st oX.rf XS_19 (by decide +kernel)
                have pk_22 : oP S_19 o 2 = some cd := by rw [oX.p XS_19 to (by decide +kernel)]; exact hcd
                refine lv_iinc (v := 7) (lv' := [(2, .int 7), (0, .ref o), (1, .int x1)]) hx hb dX8_emitSign_27 hl (k := 0) rfl (by decide +kernel) (by decide +kernel) rfl (fun ls hl => ?_)
                refine lv_goto (tgt := 2) hx hb dX8_emitSign_30 (by decide +kernel) ?_
                refine lv_iload_n hx hb dX8_emitSign_2 rfl (lv_at hl 0 rfl) ?_
                refine va_gets hx hb hZ.2.1 hS hown (hts (.fieldLink RX8 71 "ShipOffice$Act" "SIGNS" "[C") iw_X8_emitSign_1) (fun _ h9 => h9) dX8_emitSign_3 ?_
                refine va_tlen (v := 7) hx hb hZ.2.2.1 hS rfl dX8_emitSign_6 ?_
                refine lv_icmp_ge (tgt := 33) hx hb dX8_emitSign_7 (by decide +kernel) (fun _ => ?_) (fun c_23 => absurd c_23 (by decide +kernel))
                exact W.vret hx hb hr (fun t ht hW => ⟨⟨S_19, rfl, ⟨hIS_19, X_21, (by rw [← c_14, show scd 62 = -17 by decide]; exact hx_20)⟩, ⟨by rw [ht]; exact hP, va_K.moved hW.alike hK, hD⟩⟩, hS.F ht⟩) hS.2.2 dX8_emitSign_33
            · have dc_12 := c_eq (a := 61) (b := x1.toInt) (by decide +kernel) rfl c_12
              refine lv_aload_n hx hb dX8_emitSign_19 rfl (lv_at hl 1 rfl) ?_
              refine lv_bipush (v := (-11)) hx hb dX8_emitSign_20 (by decide +kernel) ?_
              refine lv_iload_n hx hb dX8_emitSign_22 rfl (lv_at hl 0 rfl) ?_
              refine lv_isub hx hb dX8_emitSign_23 ?_
              refine lv_topi (fun y ey => ?_)
              obtain rfl : y = (-16) := ey.trans (by decide +kernel)
              have hFc := o_free hD hS hA
              obtain ⟨q_24, hq_24⟩ := og (cq := cq) to.1 (oE_8 to.2)
              refine va_callv (va_runV (As := [.int (-16)]) (rest := []) ⟨hx, hb, hml, hown, hts⟩ (c_X8_emit_f l dC dI s.heap.size cq Z gI o to (-16) cd hcd) (cwV 1 hts gX8_emitSign_X8_emit rfl rfl rfl (by decide +kernel) ⟨(Nat.le_of_ble_eq_true rfl), (Nat.le_of_ble_eq_true rfl)⟩) (pr_V (r := (RX8, TX8, 6)) hP hK hD q_24 8 rfl hq_24) rfl rfl hl.1 rfl (lv_room (Nat.le_of_ble_eq_true rfl)) dX8_emitSign_24 ⟨(Nat.le_of_ble_eq_true rfl), (Nat.le_of_ble_eq_true rfl)⟩) hS (fun q _ h => hFc q h) hFc (fun u t H locs ht hvm w_25 hB hz1 hk1 hS => ?_)
              obtain ⟨S_27, rfl⟩ : ∃ z, z = u := ⟨_, rfl⟩
              obtain ⟨hP1, hK1, hD1⟩ := hB
              rw [ht] at hP1
              have hP : va_P (dC, dI) vwCl (oW cq S_27) H := hP1
              have hD : va_D A (oW cq S_27) := hD1.weaken (fun _ _ _ h => hFc _ h)
              clear hP1 hK1 hD1 hk1 hz1 hvm ht hFc
              obtain ⟨hIS_27, XS_27, hx_28⟩ := w_25
              have X_29 : oX [803, 2063] Z S_27 := oX.st oX.rf XS_27 (by decide +kernel)
              have pk_30 : oP S_27 o 2 = some cd := by rw [oX.p XS_27 to (by decide +kernel)]; exact hcd
              refine lv_iinc (v := 6) (lv' := [(2, .int 6), (0, .ref o), (1, .int x1)]) hx hb dX8_emitSign_27 hl (k := 0) rfl (by decide +kernel) (by decide +kernel) rfl (fun ls hl => ?_)
              refine lv_goto (tgt := 2) hx hb dX8_emitSign_30 (by decide +kernel) ?_
              refine lv_iload_n hx hb dX8_emitSign_2 rfl (lv_at hl 0 rfl) ?_
              refine va_gets hx hb hZ.2.1 hS hown (hts (.fieldLink RX8 71 "ShipOffice$Act" "SIGNS" "[C") iw_X8_emitSign_1) (fun _ h9 => h9) dX8_emitSign_3 ?_
              refine va_tlen (v := 7) hx hb hZ.2.2.1 hS rfl dX8_emitSign_6 ?_
              refine lv_icmp_ge (tgt := 33) hx hb dX8_emitSign_7 (by decide +kernel) (fun c_31 => absurd c_31 (by decide +kernel)) (fun _ => ?_)
              refine va_gets hx hb hZ.2.1 hS hown (hts (.fieldLink RX8 71 "ShipOffice$Act" "SIGNS" "[C") iw_X8_emitSign_1) (fun _ h9 => h9) dX8_emitSign_10 ?_
              refine lv_iload_n hx hb dX8_emitSign_13 rfl (lv_at hl 0 rfl) ?_
              refine va_tc hx hb hZ.2.2.1 hS (by unfold vp_in; decide) (v := .int 62) rfl dX8_emitSign_14 ?_
              refine lv_iload_n hx hb dX8_emitSign_15 rfl (lv_at hl 2 rfl) ?_
              refine lv_icmp_ne (tgt := 27) hx hb dX8_emitSign_16 (by decide +kernel) (fun c_32 => ?_) (fun c_32 => ?_)
              · have dc_32 := c_ne (a := 62) (b := x1.toInt) (by decide +kernel) rfl c_32
                refine lv_iinc (v := 7) (lv' := [(2, .int 7), (0, .ref o), (1, .int x1)]) hx hb dX8_emitSign_27 hl (k := 0) rfl (by decide +kernel) (by decide +kernel) rfl (fun ls hl => ?_)
                refine lv_goto (tgt := 2) hx hb dX8_emitSign_30 (by decide +kernel) ?_
                refine lv_iload_n hx hb dX8_emitSign_2 rfl (lv_at hl 0 rfl) ?_
                refine va_gets hx hb hZ.2.1 hS hown (hts (.fieldLink RX8 71 "ShipOffice$Act" "SIGNS" "[C") iw_X8_emitSign_1) (fun _ h9 => h9) dX8_emitSign_3 ?_
                refine va_tlen (v := 7) hx hb hZ.2.2.1 hS rfl dX8_emitSign_6 ?_
                refine lv_icmp_ge (tgt := 33) hx hb dX8_emitSign_7 (by decide +kernel) (fun _ => ?_) (fun c_33 => absurd c_33 (by decide +kernel))
                exact W.vret hx hb hr (fun t ht hW => ⟨⟨S_27, rfl, ⟨hIS_27, X_29, (by rw [← c_12, show scd 61 = -16 by decide]; exact hx_28)⟩, ⟨by rw [ht]; exact hP, va_K.moved hW.alike hK, hD⟩⟩, hS.F ht⟩) hS.2.2 dX8_emitSign_33
              · have dc_32 := c_eq (a := 62) (b := x1.toInt) (by decide +kernel) rfl c_32
                exfalso; omega
          · have dc_10 := c_eq (a := 60) (b := x1.toInt) (by decide +kernel) rfl c_10
            refine lv_aload_n hx hb dX8_emitSign_19 rfl (lv_at hl 1 rfl) ?_
            refine lv_bipush (v := (-11)) hx hb dX8_emitSign_20 (by decide +kernel) ?_
            refine lv_iload_n hx hb dX8_emitSign_22 rfl (lv_at hl 0 rfl) ?_
            refine lv_isub hx hb dX8_emitSign_23 ?_
            refine lv_topi (fun y ey => ?_)
            obtain rfl : y = (-15) := ey.trans (by decide +kernel)
            have hFc := o_free hD hS hA
            obtain ⟨q_34, hq_34⟩ := og (cq := cq) to.1 (oE_8 to.2)
            refine va_callv (va_runV (As := [.int (-15)]) (rest := []) ⟨hx, hb, hml, hown, hts⟩ (c_X8_emit_f l dC dI s.heap.size cq Z gI o to (-15) cd hcd) (cwV 1 hts gX8_emitSign_X8_emit rfl rfl rfl (by decide +kernel) ⟨(Nat.le_of_ble_eq_true rfl), (Nat.le_of_ble_eq_true rfl)⟩) (pr_V (r := (RX8, TX8, 6)) hP hK hD q_34 8 rfl hq_34) rfl rfl hl.1 rfl (lv_room (Nat.le_of_ble_eq_true rfl)) dX8_emitSign_24 ⟨(Nat.le_of_ble_eq_true rfl), (Nat.le_of_ble_eq_true rfl)⟩) hS (fun q _ h => hFc q h) hFc (fun u t H locs ht hvm w_35 hB hz1 hk1 hS => ?_)
            obtain ⟨S_37, rfl⟩ : ∃ z, z = u := ⟨_, rfl⟩
            obtain ⟨hP1, hK1, hD1⟩ := hB
            rw [ht] at hP1
            have hP : va_P (dC, dI) vwCl (oW cq S_37) H := hP1
            have hD : va_D A (oW cq S_37) := hD1.weaken (fun _ _ _ h => hFc _ h)
            clear hP1 hK1 hD1 hk1 hz1 hvm ht hFc
            obtain ⟨hIS_37, XS_37, hx_38⟩ := w_35
            have X_39 : oX [803, 2063] Z S_37 := oX.st oX.rf XS_37 (by decide +kernel)
            have pk_40 : oP S_37 o 2 = some cd := by rw [oX.p XS_37 to (by decide +kernel)]; exact hcd
            refine lv_iinc (v := 5) (lv' := [(2, .int 5), (0, .ref o), (1, .int x1)]) hx hb dX8_emitSign_27 hl (k := 0) rfl (by decide +kernel) (by decide +kernel) rfl (fun ls hl => ?_)
            refine lv_goto (tgt := 2) hx hb dX8_emitSign_30 (by decide +kernel) ?_
            refine lv_iload_n hx hb dX8_emitSign_2 rfl (lv_at hl 0 rfl) ?_
            refine va_gets hx hb hZ.2.1 hS hown (hts (.fieldLink RX8 71 "ShipOffice$Act" "SIGNS" "[C") iw_X8_emitSign_1) (fun _ h9 => h9) dX8_emitSign_3 ?_
            refine va_tlen (v := 7) hx hb hZ.2.2.1 hS rfl dX8_emitSign_6 ?_
            refine lv_icmp_ge (tgt := 33) hx hb dX8_emitSign_7 (by decide +kernel) (fun c_41 => absurd c_41 (by decide +kernel)) (fun _ => ?_)
            refine va_gets hx hb hZ.2.1 hS hown (hts (.fieldLink RX8 71 "ShipOffice$Act" "SIGNS" "[C") iw_X8_emitSign_1) (fun _ h9 => h9) dX8_emitSign_10 ?_
            refine lv_iload_n hx hb dX8_emitSign_13 rfl (lv_at hl 0 rfl) ?_
            refine va_tc hx hb hZ.2.2.1 hS (by unfold vp_in; decide) (v := .int 61) rfl dX8_emitSign_14 ?_
            refine lv_iload_n hx hb dX8_emitSign_15 rfl (lv_at hl 2 rfl) ?_
            refine lv_icmp_ne (tgt := 27) hx hb dX8_emitSign_16 (by decide +kernel) (fun c_42 => ?_) (fun c_42 => ?_)
            · have dc_42 := c_ne (a := 61) (b := x1.toInt) (by decide +kernel) rfl c_42
              refine lv_iinc (v := 6) (lv' := [(2, .int 6), (0, .ref o), (1, .int x1)]) hx hb dX8_emitSign_27 hl (k := 0) rfl (by decide +kernel) (by decide +kernel) rfl (fun ls hl => ?_)
              refine lv_goto (tgt := 2) hx hb dX8_emitSign_30 (by decide +kernel) ?_
              refine lv_iload_n hx hb dX8_emitSign_2 rfl (lv_at hl 0 rfl) ?_
              refine va_gets hx hb hZ.2.1 hS hown (hts (.fieldLink RX8 71 "ShipOffice$Act" "SIGNS" "[C") iw_X8_emitSign_1) (fun _ h9 => h9) dX8_emitSign_3 ?_
              refine va_tlen (v := 7) hx hb hZ.2.2.1 hS rfl dX8_emitSign_6 ?_
              refine lv_icmp_ge (tgt := 33) hx hb dX8_emitSign_7 (by decide +kernel) (fun c_43 => absurd c_43 (by decide +kernel)) (fun _ => ?_)
              refine va_gets hx hb hZ.2.1 hS hown (hts (.fieldLink RX8 71 "ShipOffice$Act" "SIGNS" "[C") iw_X8_emitSign_1) (fun _ h9 => h9) dX8_emitSign_10 ?_
              refine lv_iload_n hx hb dX8_emitSign_13 rfl (lv_at hl 0 rfl) ?_
              refine va_tc hx hb hZ.2.2.1 hS (by unfold vp_in; decide) (v := .int 62) rfl dX8_emitSign_14 ?_
              refine lv_iload_n hx hb dX8_emitSign_15 rfl (lv_at hl 2 rfl) ?_
              refine lv_icmp_ne (tgt := 27) hx hb dX8_emitSign_16 (by decide +kernel) (fun c_44 => ?_) (fun c_44 => ?_)
              · have dc_44 := c_ne (a := 62) (b := x1.toInt) (by decide +kernel) rfl c_44
                refine lv_iinc (v := 7) (lv' := [(2, .int 7), (0, .ref o), (1, .int x1)]) hx hb dX8_emitSign_27 hl (k := 0) rfl (by decide +kernel) (by decide +kernel) rfl (fun ls hl => ?_)
                refine lv_goto (tgt := 2) hx hb dX8_emitSign_30 (by decide +kernel) ?_
                refine lv_iload_n hx hb dX8_emitSign_2 rfl (lv_at hl 0 rfl) ?_
                refine va_gets hx hb hZ.2.1 hS hown (hts (.fieldLink RX8 71 "ShipOffice$Act" "SIGNS" "[C") iw_X8_emitSign_1) (fun _ h9 => h9) dX8_emitSign_3 ?_
                refine va_tlen (v := 7) hx hb hZ.2.2.1 hS rfl dX8_emitSign_6 ?_
                refine lv_icmp_ge (tgt := 33) hx hb dX8_emitSign_7 (by decide +kernel) (fun _ => ?_) (fun c_45 => absurd c_45 (by decide +kernel))
                exact W.vret hx hb hr (fun t ht hW => ⟨⟨S_37, rfl, ⟨hIS_37, X_39, (by rw [← c_10, show scd 60 = -15 by decide]; exact hx_38)⟩, ⟨by rw [ht]; exact hP, va_K.moved hW.alike hK, hD⟩⟩, hS.F ht⟩) hS.2.2 dX8_emitSign_33
              · have dc_44 := c_eq (a := 62) (b := x1.toInt) (by decide +kernel) rfl c_44
                exfalso; omega
            · have dc_42 := c_eq (a := 61) (b := x1.toInt) (by decide +kernel) rfl c_42
              exfalso; omega
        · have dc_8 := c_eq (a := 47) (b := x1.toInt) (by decide +kernel) rfl c_8
          refine lv_aload_n hx hb dX8_emitSign_19 rfl (lv_at hl 1 rfl) ?_
          refine lv_bipush (v := (-11)) hx hb dX8_emitSign_20 (by decide +kernel) ?_
          refine lv_iload_n hx hb dX8_emitSign_22 rfl (lv_at hl 0 rfl) ?_
          refine lv_isub hx hb dX8_emitSign_23 ?_
          refine lv_topi (fun y ey => ?_)
          obtain rfl : y = (-14) := ey.trans (by decide +kernel)
          have hFc := o_free hD hS hA
          obtain ⟨q_46, hq_46⟩ := og (cq := cq) to.1 (oE_8 to.2)
          refine va_callv (va_runV (As := [.int (-14)]) (rest := []) ⟨hx, hb, hml, hown, hts⟩ (c_X8_emit_f l dC dI s.heap.size cq Z gI o to (-14) cd hcd) (cwV 1 hts gX8_emitSign_X8_emit rfl rfl rfl (by decide +kernel) ⟨(Nat.le_of_ble_eq_true rfl), (Nat.le_of_ble_eq_true rfl)⟩) (pr_V (r := (RX8, TX8, 6)) hP hK hD q_46 8 rfl hq_46) rfl rfl hl.1 rfl (lv_room (Nat.le_of_ble_eq_true rfl)) dX8_emitSign_24 ⟨(Nat.le_of_ble_eq_true rfl), (Nat.le_of_ble_eq_true rfl)⟩) hS (fun q _ h => hFc q h) hFc (fun u t H locs ht hvm w_47 hB hz1 hk1 hS => ?_)
          obtain ⟨S_49, rfl⟩ : ∃ z, z = u := ⟨_, rfl⟩
          obtain ⟨hP1, hK1, hD1⟩ := hB
          rw [ht] at hP1
          have hP : va_P (dC, dI) vwCl (oW cq S_49) H := hP1
          have hD : va_D A (oW cq S_49) := hD1.weaken (fun _ _ _ h => hFc _ h)
          clear hP1 hK1 hD1 hk1 hz1 hvm ht hFc
          obtain ⟨hIS_49, XS_49, hx_50⟩ := w_47
          have X_51 : oX [803, 2063] Z S_49 := oX.st oX.rf XS_49 (by decide +kernel)
          have pk_52 : oP S_49 o 2 = some cd := by rw [oX.p XS_49 to (by decide +kernel)]; exact hcd
          refine lv_iinc (v := 4) (lv' := [(2, .int 4), (0, .ref o), (1, .int x1)]) hx hb dX8_emitSign_27 hl (k := 0) rfl (by decide +kernel) (by decide +kernel) rfl (fun ls hl => ?_)
          refine lv_goto (tgt := 2) hx hb dX8_emitSign_30 (by decide +kernel) ?_
          refine lv_iload_n hx hb dX8_emitSign_2 rfl (lv_at hl 0 rfl) ?_
          refine va_gets hx hb hZ.2.1 hS hown (hts (.fieldLink RX8 71 "ShipOffice$Act" "SIGNS" "[C") iw_X8_emitSign_1) (fun _ h9 => h9) dX8_emitSign_3 ?_
          refine va_tlen (v := 7) hx hb hZ.2.2.1 hS rfl dX8_emitSign_6 ?_
          refine lv_icmp_ge (tgt := 33) hx hb dX8_emitSign_7 (by decide +kernel) (fun c_53 => absurd c_53 (by decide +kernel)) (fun _ => ?_)
          refine va_gets hx hb hZ.2.1 hS hown (hts (.fieldLink RX8 71 "ShipOffice$Act" "SIGNS" "[C") iw_X8_emitSign_1) (fun _ h9 => h9) dX8_emitSign_10 ?_
          refine lv_iload_n hx hb dX8_emitSign_13 rfl (lv_at hl 0 rfl) ?_
          refine va_tc hx hb hZ.2.2.1 hS (by unfold vp_in; decide) (v := .int 60) rfl dX8_emitSign_14 ?_
          refine lv_iload_n hx hb dX8_emitSign_15 rfl (lv_at hl 2 rfl) ?_
          refine lv_icmp_ne (tgt := 27) hx hb dX8_emitSign_16 (by decide +kernel) (fun c_54 => ?_) (fun c_54 => ?_)
          · have dc_54 := c_ne (a := 60) (b := x1.toInt) (by decide +kernel) rfl c_54
            refine lv_iinc (v := 5) (lv' := [(2, .int 5), (0, .ref o), (1, .int x1)]) hx hb dX8_emitSign_27 hl (k := 0) rfl (by decide +kernel) (by decide +kernel) rfl (fun ls hl => ?_)
            refine lv_goto (tgt := 2) hx hb dX8_emitSign_30 (by decide +kernel) ?_
            refine lv_iload_n hx hb dX8_emitSign_2 rfl (lv_at hl 0 rfl) ?_
            refine va_gets hx hb hZ.2.1 hS hown (hts (.fieldLink RX8 71 "ShipOffice$Act" "SIGNS" "[C") iw_X8_emitSign_1) (fun _ h9 => h9) dX8_emitSign_3 ?_
            refine va_tlen (v := 7) hx hb hZ.2.2.1 hS rfl dX8_emitSign_6 ?_
            refine lv_icmp_ge (tgt := 33) hx hb dX8_emitSign_7 (by decide +kernel) (fun c_55 => absurd c_55 (by decide +kernel)) (fun _ => ?_)
            refine va_gets hx hb hZ.2.1 hS hown (hts (.fieldLink RX8 71 "ShipOffice$Act" "SIGNS" "[C") iw_X8_emitSign_1) (fun _ h9 => h9) dX8_emitSign_10 ?_
            refine lv_iload_n hx hb dX8_emitSign_13 rfl (lv_at hl 0 rfl) ?_
            refine va_tc hx hb hZ.2.2.1 hS (by unfold vp_in; decide) (v := .int 61) rfl dX8_emitSign_14 ?_
            refine lv_iload_n hx hb dX8_emitSign_15 rfl (lv_at hl 2 rfl) ?_
            refine lv_icmp_ne (tgt := 27) hx hb dX8_emitSign_16 (by decide +kernel) (fun c_56 => ?_) (fun c_56 => ?_)
            · have dc_56 := c_ne (a := 61) (b := x1.toInt) (by decide +kernel) rfl c_56
              refine lv_iinc (v := 6) (lv' := [(2, .int 6), (0, .ref o), (1, .int x1)]) hx hb dX8_emitSign_27 hl (k := 0) rfl (by decide +kernel) (by decide +kernel) rfl (fun ls hl => ?_)
              refine lv_goto (tgt := 2) hx hb dX8_emitSign_30 (by decide +kernel) ?_
              refine lv_iload_n hx hb dX8_emitSign_2 rfl (lv_at hl 0 rfl) ?_
              refine va_gets hx hb hZ.2.1 hS hown (hts (.fieldLink RX8 71 "ShipOffice$Act" "SIGNS" "[C") iw_X8_emitSign_1) (fun _ h9 => h9) dX8_emitSign_3 ?_
              refine va_tlen (v := 7) hx hb hZ.2.2.1 hS rfl dX8_emitSign_6 ?_
              refine lv_icmp_ge (tgt := 33) hx hb dX8_emitSign_7 (by decide +kernel) (fun c_57 => absurd c_57 (by decide +kernel)) (fun _ => ?_)
              refine va_gets hx hb hZ.2.1 hS hown (hts (.fieldLink RX8 71 "ShipOffice$Act" "SIGNS" "[C") iw_X8_emitSign_1) (fun _ h9 => h9) dX8_emitSign_10 ?_
              refine lv_iload_n hx hb dX8_emitSign_13 rfl (lv_at hl 0 rfl) ?_
              refine va_tc hx hb hZ.2.2.1 hS (by unfold vp_in; decide) (v := .int 62) rfl dX8_emitSign_14 ?_
              refine lv_iload_n hx hb dX8_emitSign_15 rfl (lv_at hl 2 rfl) ?_
              refine lv_icmp_ne (tgt := 27) hx hb dX8_emitSign_16 (by decide +kernel) (fun c_58 => ?_) (fun c_58 => ?_)
              · have dc_58 := c_ne (a := 62) (b := x1.toInt) (by decide +kernel) rfl c_58
                refine lv_iinc (v := 7) (lv' := [(2, .int 7), (0, .ref o), (1, .int x1)]) hx hb dX8_emitSign_27 hl (k := 0) rfl (by decide +kernel) (by decide +kernel) rfl (fun ls hl => ?_)
                refine lv_goto (tgt := 2) hx hb dX8_emitSign_30 (by decide +kernel) ?_
                refine lv_iload_n hx hb dX8_emitSign_2 rfl (lv_at hl 0 rfl) ?_
                refine va_gets hx hb hZ.2.1 hS hown (hts (.fieldLink RX8 71 "ShipOffice$Act" "SIGNS" "[C") iw_X8_emitSign_1) (fun _ h9 => h9) dX8_emitSign_3 ?_
                refine va_tlen (v := 7) hx hb hZ.2.2.1 hS rfl dX8_emitSign_6 ?_
                refine lv_icmp_ge (tgt := 33) hx hb dX8_emitSign_7 (by decide +kernel) (fun _ => ?_) (fun c_59 => absurd c_59 (by decide +kernel))
                exact W.vret hx hb hr (fun t ht hW => ⟨⟨S_49, rfl, ⟨hIS_49, X_51, (by rw [← c_8, show scd 47 = -14 by decide]; exact hx_50)⟩, ⟨by rw [ht]; exact hP, va_K.moved hW.alike hK, hD⟩⟩, hS.F ht⟩) hS.2.2 dX8_emitSign_33
              · have dc_58 := c_eq (a := 62) (b := x1.toInt) (by decide +kernel) rfl c_58
                exfalso; omega
            · have dc_56 := c_eq (a := 61) (b := x1.toInt) (by decide +kernel) rfl c_56
              exfalso; omega
          · have dc_54 := c_eq (a := 60) (b := x1.toInt) (by decide +kernel) rfl c_54
            exfalso; omega
      · have dc_6 := c_eq (a := 42) (b := x1.toInt) (by decide +kernel) rfl c_6
        refine lv_aload_n hx hb dX8_emitSign_19 rfl (lv_at hl 1 rfl) ?_
        refine lv_bipush (v := (-11)) hx hb dX8_emitSign_20 (by decide +kernel) ?_
        refine lv_iload_n hx hb dX8_emitSign_22 rfl (lv_at hl 0 rfl) ?_
        refine lv_isub hx hb dX8_emitSign_23 ?_
        refine lv_topi (fun y ey => ?_)
        obtain rfl : y = (-13) := ey.trans (by decide +kernel)
        have hFc := o_free hD hS hA
        obtain ⟨q_60, hq_60⟩ := og (cq := cq) to.1 (oE_8 to.2)
        refine va_callv (va_runV (As := [.int (-13)]) (rest := []) ⟨hx, hb, hml, hown, hts⟩ (c_X8_emit_f l dC dI s.heap.size cq Z gI o to (-13) cd hcd) (cwV 1 hts gX8_emitSign_X8_emit rfl rfl rfl (by decide +kernel) ⟨(Nat.le_of_ble_eq_true rfl), (Nat.le_of_ble_eq_true rfl)⟩) (pr_V (r := (RX8, TX8, 6)) hP hK hD q_60 8 rfl hq_60) rfl rfl hl.1 rfl (lv_room (Nat.le_of_ble_eq_true rfl)) dX8_emitSign_24 ⟨(Nat.le_of_ble_eq_true rfl), (Nat.le_of_ble_eq_true rfl)⟩) hS (fun q _ h => hFc q h) hFc (fun u t H locs ht hvm w_61 hB hz1 hk1 hS => ?_)
        obtain ⟨S_63, rfl⟩ : ∃ z, z = u := ⟨_, rfl⟩
        obtain ⟨hP1, hK1, hD1⟩ := hB
        rw [ht] at hP1
        have hP : va_P (dC, dI) vwCl (oW cq S_63) H := hP1
        have hD : va_D A (oW cq S_63) := hD1.weaken (fun _ _ _ h => hFc _ h)
        clear hP1 hK1 hD1 hk1 hz1 hvm ht hFc
        obtain ⟨hIS_63, XS_63, hx_64⟩ := w_61
        have X_65 : oX [803, 2063] Z S_63 := oX.st oX.rf XS_63 (by decide +kernel)
        have pk_66 : oP S_63 o 2 = some cd := by rw [oX.p XS_63 to (by decide +kernel)]; exact hcd
        refine lv_iinc (v := 3) (lv' := [(2, .int 3), (0, .ref o), (1, .int x1)]) hx hb dX8_emitSign_27 hl (k := 0) rfl (by decide +kernel) (by decide +kernel) rfl (fun ls hl => ?_)
        refine lv_goto (tgt := 2) hx hb dX8_emitSign_30 (by decide +kernel) ?_
        refine lv_iload_n hx hb dX8_emitSign_2 rfl (lv_at hl 0 rfl) ?_
        refine va_gets hx hb hZ.2.1 hS hown (hts (.fieldLink RX8 71 "ShipOffice$Act" "SIGNS" "[C") iw_X8_emitSign_1) (fun _ h9 => h9) dX8_emitSign_3 ?_
        refine va_tlen (v := 7) hx hb hZ.2.2.1 hS rfl dX8_emitSign_6 ?_
        refine lv_icmp_ge (tgt := 33) hx hb dX8_emitSign_7 (by decide +kernel) (fun c_67 => absurd c_67 (by decide +kernel)) (fun _ => ?_)
        refine va_gets hx hb hZ.2.1 hS hown (hts (.fieldLink RX8 71 "ShipOffice$Act" "SIGNS" "[C") iw_X8_emitSign_1) (fun _ h9 => h9) dX8_emitSign_10 ?_
        refine lv_iload_n hx hb dX8_emitSign_13 rfl (lv_at hl 0 rfl) ?_
        refine va_tc hx hb hZ.2.2.1 hS (by unfold vp_in; decide) (v := .int 47) rfl dX8_emitSign_14 ?_
        refine lv_iload_n hx hb dX8_emitSign_15 rfl (lv_at hl 2 rfl) ?_
        refine lv_icmp_ne (tgt := 27) hx hb dX8_emitSign_16 (by decide +kernel) (fun c_68 => ?_) (fun c_68 => ?_)
        · have dc_68 := c_ne (a := 47) (b := x1.toInt) (by decide +kernel) rfl c_68
          refine lv_iinc (v := 4) (lv' := [(2, .int 4), (0, .ref o), (1, .int x1)]) hx hb dX8_emitSign_27 hl (k := 0) rfl (by decide +kernel) (by decide +kernel) rfl (fun ls hl => ?_)
          refine lv_goto (tgt := 2) hx hb dX8_emitSign_30 (by decide +kernel) ?_
          refine lv_iload_n hx hb dX8_emitSign_2 rfl (lv_at hl 0 rfl) ?_
          refine va_gets hx hb hZ.2.1 hS hown (hts (.fieldLink RX8 71 "ShipOffice$Act" "SIGNS" "[C") iw_X8_emitSign_1) (fun _ h9 => h9) dX8_emitSign_3 ?_
          refine va_tlen (v := 7) hx hb hZ.2.2.1 hS rfl dX8_emitSign_6 ?_
          refine lv_icmp_ge (tgt := 33) hx hb dX8_emitSign_7 (by decide +kernel) (fun c_69 => absurd c_69 (by decide +kernel)) (fun _ => ?_)
          refine va_gets hx hb hZ.2.1 hS hown (hts (.fieldLink RX8 71 "ShipOffice$Act" "SIGNS" "[C") iw_X8_emitSign_1) (fun _ h9 => h9) dX8_emitSign_10 ?_
          refine lv_iload_n hx hb dX8_emitSign_13 rfl (lv_at hl 0 rfl) ?_
          refine va_tc hx hb hZ.2.2.1 hS (by unfold vp_in; decide) (v := .int 60) rfl dX8_emitSign_14 ?_
          refine lv_iload_n hx hb dX8_emitSign_15 rfl (lv_at hl 2 rfl) ?_
          refine lv_icmp_ne (tgt := 27) hx hb dX8_emitSign_16 (by decide +kernel) (fun c_70 => ?_) (fun c_70 => ?_)
          · have dc_70 := c_ne (a := 60) (b := x1.toInt) (by decide +kernel) rfl c_70
            refine lv_iinc (v := 5) (lv' := [(2, .int 5), (0, .ref o), (1, .int x1)]) hx hb dX8_emitSign_27 hl (k := 0) rfl (by decide +kernel) (by decide +kernel) rfl (fun ls hl => ?_)
            refine lv_goto (tgt := 2) hx hb dX8_emitSign_30 (by decide +kernel) ?_
            refine lv_iload_n hx hb dX8_emitSign_2 rfl (lv_at hl 0 rfl) ?_
            refine va_gets hx hb hZ.2.1 hS hown (hts (.fieldLink RX8 71 "ShipOffice$Act" "SIGNS" "[C") iw_X8_emitSign_1) (fun _ h9 => h9) dX8_emitSign_3 ?_
            refine va_tlen (v := 7) hx hb hZ.2.2.1 hS rfl dX8_emitSign_6 ?_
            refine lv_icmp_ge (tgt := 33) hx hb dX8_emitSign_7 (by decide +kernel) (fun c_71 => absurd c_71 (by decide +kernel)) (fun _ => ?_)
            refine va_gets hx hb hZ.2.1 hS hown (hts (.fieldLink RX8 71 "ShipOffice$Act" "SIGNS" "[C") iw_X8_emitSign_1) (fun _ h9 => h9) dX8_emitSign_10 ?_
            refine lv_iload_n hx hb dX8_emitSign_13 rfl (lv_at hl 0 rfl) ?_
            refine va_tc hx hb hZ.2.2.1 hS (by unfold vp_in; decide) (v := .int 61) rfl dX8_emitSign_14 ?_
            refine lv_iload_n hx hb dX8_emitSign_15 rfl (lv_at hl 2 rfl) ?_
            refine lv_icmp_ne (tgt := 27) hx hb dX8_emitSign_16 (by decide +kernel) (fun c_72 => ?_) (fun c_72 => ?_)
            · have dc_72 := c_ne (a := 61) (b := x1.toInt) (by decide +kernel) rfl c_72
              refine lv_iinc (v := 6) (lv' := [(2, .int 6), (0, .ref o), (1, .int x1)]) hx hb dX8_emitSign_27 hl (k := 0) rfl (by decide +kernel) (by decide +kernel) rfl (fun ls hl => ?_)
              refine lv_goto (tgt := 2) hx hb dX8_emitSign_30 (by decide +kernel) ?_
              refine lv_iload_n hx hb dX8_emitSign_2 rfl (lv_at hl 0 rfl) ?_
              refine va_gets hx hb hZ.2.1 hS hown (hts (.fieldLink RX8 71 "ShipOffice$Act" "SIGNS" "[C") iw_X8_emitSign_1) (fun _ h9 => h9) dX8_emitSign_3 ?_
              refine va_tlen (v := 7) hx hb hZ.2.2.1 hS rfl dX8_emitSign_6 ?_
              refine lv_icmp_ge (tgt := 33) hx hb dX8_emitSign_7 (by decide +kernel) (fun c_73 => absurd c_73 (by decide +kernel)) (fun _ => ?_)
              refine va_gets hx hb hZ.2.1 hS hown (hts (.fieldLink RX8 71 "ShipOffice$Act" "SIGNS" "[C") iw_X8_emitSign_1) (fun _ h9 => h9) dX8_emitSign_10 ?_
              refine lv_iload_n hx hb dX8_emitSign_13 rfl (lv_at hl 0 rfl) ?_
              refine va_tc hx hb hZ.2.2.1 hS (by unfold vp_in; decide) (v := .int 62) rfl dX8_emitSign_14 ?_
              refine lv_iload_n hx hb dX8_emitSign_15 rfl (lv_at hl 2 rfl) ?_
              refine lv_icmp_ne (tgt := 27) hx hb dX8_emitSign_16 (by decide +kernel) (fun c_74 => ?_) (fun c_74 => ?_)
              · have dc_74 := c_ne (a := 62) (b := x1.toInt) (by decide +kernel) rfl c_74
                refine lv_iinc (v := 7) (lv' := [(2, .int 7), (0, .ref o), (1, .int x1)]) hx hb dX8_emitSign_27 hl (k := 0) rfl (by decide +kernel) (by decide +kernel) rfl (fun ls hl => ?_)
                refine lv_goto (tgt := 2) hx hb dX8_emitSign_30 (by decide +kernel) ?_
                refine lv_iload_n hx hb dX8_emitSign_2 rfl (lv_at hl 0 rfl) ?_
                refine va_gets hx hb hZ.2.1 hS hown (hts (.fieldLink RX8 71 "ShipOffice$Act" "SIGNS" "[C") iw_X8_emitSign_1) (fun _ h9 => h9) dX8_emitSign_3 ?_
                refine va_tlen (v := 7) hx hb hZ.2.2.1 hS rfl dX8_emitSign_6 ?_
                refine lv_icmp_ge (tgt := 33) hx hb dX8_emitSign_7 (by decide +kernel) (fun _ => ?_) (fun c_75 => absurd c_75 (by decide +kernel))
                exact W.vret hx hb hr (fun t ht hW => ⟨⟨S_63, rfl, ⟨hIS_63, X_65, (by rw [← c_6, show scd 42 = -13 by decide]; exact hx_64)⟩, ⟨by rw [ht]; exact hP, va_K.moved hW.alike hK, hD⟩⟩, hS.F ht⟩) hS.2.2 dX8_emitSign_33
              · have dc_74 := c_eq (a := 62) (b := x1.toInt) (by decide +kernel) rfl c_74
                exfalso; omega
            · have dc_72 := c_eq (a := 61) (b := x1.toInt) (by decide +kernel) rfl c_72
              exfalso; omega
          · have dc_70 := c_eq (a := 60) (b := x1.toInt) (by decide +kernel) rfl c_70
            exfalso; omega
        · have dc_68 := c_eq (a := 47) (b := x1.toInt) (by decide +kernel) rfl c_68
          exfalso; omega
    · have dc_4 := c_eq (a := 45) (b := x1.toInt) (by decide +kernel) rfl c_4
      refine lv_aload_n hx hb dX8_emitSign_19 rfl (lv_at hl 1 rfl) ?_
      refine lv_bipush (v := (-11)) hx hb dX8_emitSign_20 (by decide +kernel) ?_
      refine lv_iload_n hx hb dX8_emitSign_22 rfl (lv_at hl 0 rfl) ?_
      refine lv_isub hx hb dX8_emitSign_23 ?_
      refine lv_topi (fun y ey => ?_)
      obtain rfl : y = (-12) := ey.trans (by decide +kernel)
      have hFc := o_free hD hS hA
      obtain ⟨q_76, hq_76⟩ := og (cq := cq) to.1 (oE_8 to.2)
      refine va_callv (va_runV (As := [.int (-12)]) (rest := []) ⟨hx, hb, hml, hown, hts⟩ (c_X8_emit_f l dC dI s.heap.size cq Z gI o to (-12) cd hcd) (cwV 1 hts gX8_emitSign_X8_emit rfl rfl rfl (by decide +kernel) ⟨(Nat.le_of_ble_eq_true rfl), (Nat.le_of_ble_eq_true rfl)⟩) (pr_V (r := (RX8, TX8, 6)) hP hK hD q_76 8 rfl hq_76) rfl rfl hl.1 rfl (lv_room (Nat.le_of_ble_eq_true rfl)) dX8_emitSign_24 ⟨(Nat.le_of_ble_eq_true rfl), (Nat.le_of_ble_eq_true rfl)⟩) hS (fun q _ h => hFc q h) hFc (fun u t H locs ht hvm w_77 hB hz1 hk1 hS => ?_)
      obtain ⟨S_79, rfl⟩ : ∃ z, z = u := ⟨_, rfl⟩
      obtain ⟨hP1, hK1, hD1⟩ := hB
      rw [ht] at hP1
      have hP : va_P (dC, dI) vwCl (oW cq S_79) H := hP1
      have hD : va_D A (oW cq S_79) := hD1.weaken (fun _ _ _ h => hFc _ h)
      clear hP1 hK1 hD1 hk1 hz1 hvm ht hFc
      obtain ⟨hIS_79, XS_79, hx_80⟩ := w_77
      have X_81 : oX [803, 2063] Z S_79 := oX.st oX.rf XS_79 (by decide +kernel)
      have pk_82 : oP S_79 o 2 = some cd := by rw [oX.p XS_79 to (by decide +kernel)]; exact hcd
      refine lv_iinc (v := 2) (lv' := [(2, .int 2), (0, .ref o), (1, .int x1)]) hx hb dX8_emitSign_27 hl (k := 0) rfl (by decide +kernel) (by decide +kernel) rfl (fun ls hl => ?_)
      refine lv_goto (tgt := 2) hx hb dX8_emitSign_30 (by decide +kernel) ?_
      refine lv_iload_n hx hb dX8_emitSign_2 rfl (lv_at hl 0 rfl) ?_
      refine va_gets hx hb hZ.2.1 hS hown (hts (.fieldLink RX8 71 "ShipOffice$Act" "SIGNS" "[C") iw_X8_emitSign_1) (fun _ h9 => h9) dX8_emitSign_3 ?_
      refine va_tlen (v := 7) hx hb hZ.2.2.1 hS rfl dX8_emitSign_6 ?_
      refine lv_icmp_ge (tgt := 33) hx hb dX8_emitSign_7 (by decide +kernel) (fun c_83 => absurd c_83 (by decide +kernel)) (fun _ => ?_)
      refine va_gets hx hb hZ.2.1 hS hown (hts (.fieldLink RX8 71 "ShipOffice$Act" "SIGNS" "[C") iw_X8_emitSign_1) (fun _ h9 => h9) dX8_emitSign_10 ?_
      refine lv_iload_n hx hb dX8_emitSign_13 rfl (lv_at hl 0 rfl) ?_
      refine va_tc hx hb hZ.2.2.1 hS (by unfold vp_in; decide) (v := .int 42) rfl dX8_emitSign_14 ?_
      refine lv_iload_n hx hb dX8_emitSign_15 rfl (lv_at hl 2 rfl) ?_
      refine lv_icmp_ne (tgt := 27) hx hb dX8_emitSign_16 (by decide +kernel) (fun c_84 => ?_) (fun c_84 => ?_)
      · have dc_84 := c_ne (a := 42) (b := x1.toInt) (by decide +kernel) rfl c_84
        refine lv_iinc (v := 3) (lv' := [(2, .int 3), (0, .ref o), (1, .int x1)]) hx hb dX8_emitSign_27 hl (k := 0) rfl (by decide +kernel) (by decide +kernel) rfl (fun ls hl => ?_)
        refine lv_goto (tgt := 2) hx hb dX8_emitSign_30 (by decide +kernel) ?_
        refine lv_iload_n hx hb dX8_emitSign_2 rfl (lv_at hl 0 rfl) ?_
        refine va_gets hx hb hZ.2.1 hS hown (hts (.fieldLink RX8 71 "ShipOffice$Act" "SIGNS" "[C") iw_X8_emitSign_1) (fun _ h9 => h9) dX8_emitSign_3 ?_
        refine va_tlen (v := 7) hx hb hZ.2.2.1 hS rfl dX8_emitSign_6 ?_
        refine lv_icmp_ge (tgt := 33) hx hb dX8_emitSign_7 (by decide +kernel) (fun c_85 => absurd c_85 (by decide +kernel)) (fun _ => ?_)
        refine va_gets hx hb hZ.2.1 hS hown (hts (.fieldLink RX8 71 "ShipOffice$Act" "SIGNS" "[C") iw_X8_emitSign_1) (fun _ h9 => h9) dX8_emitSign_10 ?_
        refine lv_iload_n hx hb dX8_emitSign_13 rfl (lv_at hl 0 rfl) ?_
        refine va_tc hx hb hZ.2.2.1 hS (by unfold vp_in; decide) (v := .int 47) rfl dX8_emitSign_14 ?_
        refine lv_iload_n hx hb dX8_emitSign_15 rfl (lv_at hl 2 rfl) ?_
        refine lv_icmp_ne (tgt := 27) hx hb dX8_emitSign_16 (by decide +kernel) (fun c_86 => ?_) (fun c_86 => ?_)
        · have dc_86 := c_ne (a := 47) (b := x1.toInt) (by decide +kernel) rfl c_86
          refine lv_iinc (v := 4) (lv' := [(2, .int 4), (0, .ref o), (1, .int x1)]) hx hb dX8_emitSign_27 hl (k := 0) rfl (by decide +kernel) (by decide +kernel) rfl (fun ls hl => ?_)
          refine lv_goto (tgt := 2) hx hb dX8_emitSign_30 (by decide +kernel) ?_
          refine lv_iload_n hx hb dX8_emitSign_2 rfl (lv_at hl 0 rfl) ?_
          refine va_gets hx hb hZ.2.1 hS hown (hts (.fieldLink RX8 71 "ShipOffice$Act" "SIGNS" "[C") iw_X8_emitSign_1) (fun _ h9 => h9) dX8_emitSign_3 ?_
          refine va_tlen (v := 7) hx hb hZ.2.2.1 hS rfl dX8_emitSign_6 ?_
          refine lv_icmp_ge (tgt := 33) hx hb dX8_emitSign_7 (by decide +kernel) (fun c_87 => absurd c_87 (by decide +kernel)) (fun _ => ?_)
          refine va_gets hx hb hZ.2.1 hS hown (hts (.fieldLink RX8 71 "ShipOffice$Act" "SIGNS" "[C") iw_X8_emitSign_1) (fun _ h9 => h9) dX8_emitSign_10 ?_
          refine lv_iload_n hx hb dX8_emitSign_13 rfl (lv_at hl 0 rfl) ?_
          refine va_tc hx hb hZ.2.2.1 hS (by unfold vp_in; decide) (v := .int 60) rfl dX8_emitSign_14 ?_
          refine lv_iload_n hx hb dX8_emitSign_15 rfl (lv_at hl 2 rfl) ?_
          refine lv_icmp_ne (tgt := 27) hx hb dX8_emitSign_16 (by decide +kernel) (fun c_88 => ?_) (fun c_88 => ?_)
          · have dc_88 := c_ne (a := 60) (b := x1.toInt) (by decide +kernel) rfl c_88
            refine lv_iinc (v := 5) (lv' := [(2, .int 5), (0, .ref o), (1, .int x1)]) hx hb dX8_emitSign_27 hl (k := 0) rfl (by decide +kernel) (by decide +kernel) rfl (fun ls hl => ?_)
            refine lv_goto (tgt := 2) hx hb dX8_emitSign_30 (by decide +kernel) ?_
            refine lv_iload_n hx hb dX8_emitSign_2 rfl (lv_at hl 0 rfl) ?_
            refine va_gets hx hb hZ.2.1 hS hown (hts (.fieldLink RX8 71 "ShipOffice$Act" "SIGNS" "[C") iw_X8_emitSign_1) (fun _ h9 => h9) dX8_emitSign_3 ?_
            refine va_tlen (v := 7) hx hb hZ.2.2.1 hS rfl dX8_emitSign_6 ?_
            refine lv_icmp_ge (tgt := 33) hx hb dX8_emitSign_7 (by decide +kernel) (fun c_89 => absurd c_89 (by decide +kernel)) (fun _ => ?_)
            refine va_gets hx hb hZ.2.1 hS hown (hts (.fieldLink RX8 71 "ShipOffice$Act" "SIGNS" "[C") iw_X8_emitSign_1) (fun _ h9 => h9) dX8_emitSign_10 ?_
            refine lv_iload_n hx hb dX8_emitSign_13 rfl (lv_at hl 0 rfl) ?_
            refine va_tc hx hb hZ.2.2.1 hS (by unfold vp_in; decide) (v := .int 61) rfl dX8_emitSign_14 ?_
            refine lv_iload_n hx hb dX8_emitSign_15 rfl (lv_at hl 2 rfl) ?_
            refine lv_icmp_ne (tgt := 27) hx hb dX8_emitSign_16 (by decide +kernel) (fun c_90 => ?_) (fun c_90 => ?_)
            · have dc_90 := c_ne (a := 61) (b := x1.toInt) (by decide +kernel) rfl c_90
              refine lv_iinc (v := 6) (lv' := [(2, .int 6), (0, .ref o), (1, .int x1)]) hx hb dX8_emitSign_27 hl (k := 0) rfl (by decide +kernel) (by decide +kernel) rfl (fun ls hl => ?_)
              refine lv_goto (tgt := 2) hx hb dX8_emitSign_30 (by decide +kernel) ?_
              refine lv_iload_n hx hb dX8_emitSign_2 rfl (lv_at hl 0 rfl) ?_
              refine va_gets hx hb hZ.2.1 hS hown (hts (.fieldLink RX8 71 "ShipOffice$Act" "SIGNS" "[C") iw_X8_emitSign_1) (fun _ h9 => h9) dX8_emitSign_3 ?_
              refine va_tlen (v := 7) hx hb hZ.2.2.1 hS rfl dX8_emitSign_6 ?_
              refine lv_icmp_ge (tgt := 33) hx hb dX8_emitSign_7 (by decide +kernel) (fun c_91 => absurd c_91 (by decide +kernel)) (fun _ => ?_)
              refine va_gets hx hb hZ.2.1 hS hown (hts (.fieldLink RX8 71 "ShipOffice$Act" "SIGNS" "[C") iw_X8_emitSign_1) (fun _ h9 => h9) dX8_emitSign_10 ?_
              refine lv_iload_n hx hb dX8_emitSign_13 rfl (lv_at hl 0 rfl) ?_
              refine va_tc hx hb hZ.2.2.1 hS (by unfold vp_in; decide) (v := .int 62) rfl dX8_emitSign_14 ?_
              refine lv_iload_n hx hb dX8_emitSign_15 rfl (lv_at hl 2 rfl) ?_
              refine lv_icmp_ne (tgt := 27) hx hb dX8_emitSign_16 (by decide +kernel) (fun c_92 => ?_) (fun c_92 => ?_)
              · have dc_92 := c_ne (a := 62) (b := x1.toInt) (by decide +kernel) rfl c_92
                refine lv_iinc (v := 7) (lv' := [(2, .int 7), (0, .ref o), (1, .int x1)]) hx hb dX8_emitSign_27 hl (k := 0) rfl (by decide +kernel) (by decide +kernel) rfl (fun ls hl => ?_)
                refine lv_goto (tgt := 2) hx hb dX8_emitSign_30 (by decide +kernel) ?_
                refine lv_iload_n hx hb dX8_emitSign_2 rfl (lv_at hl 0 rfl) ?_
                refine va_gets hx hb hZ.2.1 hS hown (hts (.fieldLink RX8 71 "ShipOffice$Act" "SIGNS" "[C") iw_X8_emitSign_1) (fun _ h9 => h9) dX8_emitSign_3 ?_
                refine va_tlen (v := 7) hx hb hZ.2.2.1 hS rfl dX8_emitSign_6 ?_
                refine lv_icmp_ge (tgt := 33) hx hb dX8_emitSign_7 (by decide +kernel) (fun _ => ?_) (fun c_93 => absurd c_93 (by decide +kernel))
                exact W.vret hx hb hr (fun t ht hW => ⟨⟨S_79, rfl, ⟨hIS_79, X_81, (by rw [← c_4, show scd 45 = -12 by decide]; exact hx_80)⟩, ⟨by rw [ht]; exact hP, va_K.moved hW.alike hK, hD⟩⟩, hS.F ht⟩) hS.2.2 dX8_emitSign_33
              · have dc_92 := c_eq (a := 62) (b := x1.toInt) (by decide +kernel) rfl c_92
                exfalso; omega
            · have dc_90 := c_eq (a := 61) (b := x1.toInt) (by decide +kernel) rfl c_90
              exfalso; omega
          · have dc_88 := c_eq (a := 60) (b := x1.toInt) (by decide +kernel) rfl c_88
            exfalso; omega
        · have dc_86 := c_eq (a := 47) (b := x1.toInt) (by decide +kernel) rfl c_86
          exfalso; omega
      · have dc_84 := c_eq (a := 42) (b := x1.toInt) (by decide +kernel) rfl c_84
        exfalso; omega
  · have dc_2 := c_eq (a := 43) (b := x1.toInt) (by decide +kernel) rfl c_2
    refine lv_aload_n hx hb dX8_emitSign_19 rfl (lv_at hl 1 rfl) ?_
    refine lv_bipush (v := (-11)) hx hb dX8_emitSign_20 (by decide +kernel) ?_
    refine lv_iload_n hx hb dX8_emitSign_22 rfl (lv_at hl 0 rfl) ?_
    refine lv_isub hx hb dX8_emitSign_23 ?_
    refine lv_topi (fun y ey => ?_)
    obtain rfl : y = (-11) := ey.trans (by decide +kernel)
    have hFc := o_free hD hS hA
    obtain ⟨q_94, hq_94⟩ := og (cq := cq) to.1 (oE_8 to.2)
    refine va_callv (va_runV (As := [.int (-11)]) (rest := []) ⟨hx, hb, hml, hown, hts⟩ (c_X8_emit_f l dC dI s.heap.size cq Z gI o to (-11) cd hcd) (cwV 1 hts gX8_emitSign_X8_emit rfl rfl rfl (by decide +kernel) ⟨(Nat.le_of_ble_eq_true rfl), (Nat.le_of_ble_eq_true rfl)⟩) (pr_V (r := (RX8, TX8, 6)) hP hK hD q_94 8 rfl hq_94) rfl rfl hl.1 rfl (lv_room (Nat.le_of_ble_eq_true rfl)) dX8_emitSign_24 ⟨(Nat.le_of_ble_eq_true rfl), (Nat.le_of_ble_eq_true rfl)⟩) hS (fun q _ h => hFc q h) hFc (fun u t H locs ht hvm w_95 hB hz1 hk1 hS => ?_)
    obtain ⟨S_97, rfl⟩ : ∃ z, z = u := ⟨_, rfl⟩
    obtain ⟨hP1, hK1, hD1⟩ := hB
    rw [ht] at hP1
    have hP : va_P (dC, dI) vwCl (oW cq S_97) H := hP1
    have hD : va_D A (oW cq S_97) := hD1.weaken (fun _ _ _ h => hFc _ h)
    clear hP1 hK1 hD1 hk1 hz1 hvm ht hFc
    obtain ⟨hIS_97, XS_97, hx_98⟩ := w_95
    have X_99 : oX [803, 2063] Z S_97 := oX.st oX.rf XS_97 (by decide +kernel)
    have pk_100 : oP S_97 o 2 = some cd := by rw [oX.p XS_97 to (by decide +kernel)]; exact hcd
    refine lv_iinc (v := 1) (lv' := [(2, .int 1), (0, .ref o), (1, .int x1)]) hx hb dX8_emitSign_27 hl (k := 0) rfl (by decide +kernel) (by decide +kernel) rfl (fun ls hl => ?_)
    refine lv_goto (tgt := 2) hx hb dX8_emitSign_30 (by decide +kernel) ?_
    refine lv_iload_n hx hb dX8_emitSign_2 rfl (lv_at hl 0 rfl) ?_
    refine va_gets hx hb hZ.2.1 hS hown (hts (.fieldLink RX8 71 "ShipOffice$Act" "SIGNS" "[C") iw_X8_emitSign_1) (fun _ h9 => h9) dX8_emitSign_3 ?_
    refine va_tlen (v := 7) hx hb hZ.2.2.1 hS rfl dX8_emitSign_6 ?_
    refine lv_icmp_ge (tgt := 33) hx hb dX8_emitSign_7 (by decide +kernel) (fun c_101 => absurd c_101 (by decide +kernel)) (fun _ => ?_)
    refine va_gets hx hb hZ.2.1 hS hown (hts (.fieldLink RX8 71 "ShipOffice$Act" "SIGNS" "[C") iw_X8_emitSign_1) (fun _ h9 => h9) dX8_emitSign_10 ?_
    refine lv_iload_n hx hb dX8_emitSign_13 rfl (lv_at hl 0 rfl) ?_
    refine va_tc hx hb hZ.2.2.1 hS (by unfold vp_in; decide) (v := .int 45) rfl dX8_emitSign_14 ?_
    refine lv_iload_n hx hb dX8_emitSign_15 rfl (lv_at hl 2 rfl) ?_
    refine lv_icmp_ne (tgt := 27) hx hb dX8_emitSign_16 (by decide +kernel) (fun c_102 => ?_) (fun c_102 => ?_)
    · have dc_102 := c_ne (a := 45) (b := x1.toInt) (by decide +kernel) rfl c_102
      refine lv_iinc (v := 2) (lv' := [(2, .int 2), (0, .ref o), (1, .int x1)]) hx hb dX8_emitSign_27 hl (k := 0) rfl (by decide +kernel) (by decide +kernel) rfl (fun ls hl => ?_)
      refine lv_goto (tgt := 2) hx hb dX8_emitSign_30 (by decide +kernel) ?_
      refine lv_iload_n hx hb dX8_emitSign_2 rfl (lv_at hl 0 rfl) ?_
      refine va_gets hx hb hZ.2.1 hS hown (hts (.fieldLink RX8 71 "ShipOffice$Act" "SIGNS" "[C") iw_X8_emitSign_1) (fun _ h9 => h9) dX8_emitSign_3 ?_
      refine va_tlen (v := 7) hx hb hZ.2.2.1 hS rfl dX8_emitSign_6 ?_
      refine lv_icmp_ge (tgt := 33) hx hb dX8_emitSign_7 (by decide +kernel) (fun c_103 => absurd c_103 (by decide +kernel)) (fun _ => ?_)
      refine va_gets hx hb hZ.2.1 hS hown (hts (.fieldLink RX8 71 "ShipOffice$Act" "SIGNS" "[C") iw_X8_emitSign_1) (fun _ h9 => h9) dX8_emitSign_10 ?_
      refine lv_iload_n hx hb dX8_emitSign_13 rfl (lv_at hl 0 rfl) ?_
      refine va_tc hx hb hZ.2.2.1 hS (by unfold vp_in; decide) (v := .int 42) rfl dX8_emitSign_14 ?_
      refine lv_iload_n hx hb dX8_emitSign_15 rfl (lv_at hl 2 rfl) ?_
      refine lv_icmp_ne (tgt := 27) hx hb dX8_emitSign_16 (by decide +kernel) (fun c_104 => ?_) (fun c_104 => ?_)
      · have dc_104 := c_ne (a := 42) (b := x1.toInt) (by decide +kernel) rfl c_104
        refine lv_iinc (v := 3) (lv' := [(2, .int 3), (0, .ref o), (1, .int x1)]) hx hb dX8_emitSign_27 hl (k := 0) rfl (by decide +kernel) (by decide +kernel) rfl (fun ls hl => ?_)
        refine lv_goto (tgt := 2) hx hb dX8_emitSign_30 (by decide +kernel) ?_
        refine lv_iload_n hx hb dX8_emitSign_2 rfl (lv_at hl 0 rfl) ?_
        refine va_gets hx hb hZ.2.1 hS hown (hts (.fieldLink RX8 71 "ShipOffice$Act" "SIGNS" "[C") iw_X8_emitSign_1) (fun _ h9 => h9) dX8_emitSign_3 ?_
        refine va_tlen (v := 7) hx hb hZ.2.2.1 hS rfl dX8_emitSign_6 ?_
        refine lv_icmp_ge (tgt := 33) hx hb dX8_emitSign_7 (by decide +kernel) (fun c_105 => absurd c_105 (by decide +kernel)) (fun _ => ?_)
        refine va_gets hx hb hZ.2.1 hS hown (hts (.fieldLink RX8 71 "ShipOffice$Act" "SIGNS" "[C") iw_X8_emitSign_1) (fun _ h9 => h9) dX8_emitSign_10 ?_
        refine lv_iload_n hx hb dX8_emitSign_13 rfl (lv_at hl 0 rfl) ?_
        refine va_tc hx hb hZ.2.2.1 hS (by unfold vp_in; decide) (v := .int 47) rfl dX8_emitSign_14 ?_
        refine lv_iload_n hx hb dX8_emitSign_15 rfl (lv_at hl 2 rfl) ?_
        refine lv_icmp_ne (tgt := 27) hx hb dX8_emitSign_16 (by decide +kernel) (fun c_106 => ?_) (fun c_106 => ?_)
        · have dc_106 := c_ne (a := 47) (b := x1.toInt) (by decide +kernel) rfl c_106
          refine lv_iinc (v := 4) (lv' := [(2, .int 4), (0, .ref o), (1, .int x1)]) hx hb dX8_emitSign_27 hl (k := 0) rfl (by decide +kernel) (by decide +kernel) rfl (fun ls hl => ?_)
          refine lv_goto (tgt := 2) hx hb dX8_emitSign_30 (by decide +kernel) ?_
          refine lv_iload_n hx hb dX8_emitSign_2 rfl (lv_at hl 0 rfl) ?_
          refine va_gets hx hb hZ.2.1 hS hown (hts (.fieldLink RX8 71 "ShipOffice$Act" "SIGNS" "[C") iw_X8_emitSign_1) (fun _ h9 => h9) dX8_emitSign_3 ?_
          refine va_tlen (v := 7) hx hb hZ.2.2.1 hS rfl dX8_emitSign_6 ?_
          refine lv_icmp_ge (tgt := 33) hx hb dX8_emitSign_7 (by decide +kernel) (fun c_107 => absurd c_107 (by decide +kernel)) (fun _ => ?_)
          refine va_gets hx hb hZ.2.1 hS hown (hts (.fieldLink RX8 71 "ShipOffice$Act" "SIGNS" "[C") iw_X8_emitSign_1) (fun _ h9 => h9) dX8_emitSign_10 ?_
          refine lv_iload_n hx hb dX8_emitSign_13 rfl (lv_at hl 0 rfl) ?_
          refine va_tc hx hb hZ.2.2.1 hS (by unfold vp_in; decide) (v := .int 60) rfl dX8_emitSign_14 ?_
          refine lv_iload_n hx hb dX8_emitSign_15 rfl (lv_at hl 2 rfl) ?_
          refine lv_icmp_ne (tgt := 27) hx hb dX8_emitSign_16 (by decide +kernel) (fun c_108 => ?_) (fun c_108 => ?_)
          · have dc_108 := c_ne (a := 60) (b := x1.toInt) (by decide +kernel) rfl c_108
            refine lv_iinc (v := 5) (lv' := [(2, .int 5), (0, .ref o), (1, .int x1)]) hx hb dX8_emitSign_27 hl (k := 0) rfl (by decide +kernel) (by decide +kernel) rfl (fun ls hl => ?_)
            refine lv_goto (tgt := 2) hx hb dX8_emitSign_30 (by decide +kernel) ?_
            refine lv_iload_n hx hb dX8_emitSign_2 rfl (lv_at hl 0 rfl) ?_
            refine va_gets hx hb hZ.2.1 hS hown (hts (.fieldLink RX8 71 "ShipOffice$Act" "SIGNS" "[C") iw_X8_emitSign_1) (fun _ h9 => h9) dX8_emitSign_3 ?_
            refine va_tlen (v := 7) hx hb hZ.2.2.1 hS rfl dX8_emitSign_6 ?_
            refine lv_icmp_ge (tgt := 33) hx hb dX8_emitSign_7 (by decide +kernel) (fun c_109 => absurd c_109 (by decide +kernel)) (fun _ => ?_)
            refine va_gets hx hb hZ.2.1 hS hown (hts (.fieldLink RX8 71 "ShipOffice$Act" "SIGNS" "[C") iw_X8_emitSign_1) (fun _ h9 => h9) dX8_emitSign_10 ?_
            refine lv_iload_n hx hb dX8_emitSign_13 rfl (lv_at hl 0 rfl) ?_
            refine va_tc hx hb hZ.2.2.1 hS (by unfold vp_in; decide) (v := .int 61) rfl dX8_emitSign_14 ?_
            refine lv_iload_n hx hb dX8_emitSign_15 rfl (lv_at hl 2 rfl) ?_
            refine lv_icmp_ne (tgt := 27) hx hb dX8_emitSign_16 (by decide +kernel) (fun c_110 => ?_) (fun c_110 => ?_)
            · have dc_110 := c_ne (a := 61) (b := x1.toInt) (by decide +kernel) rfl c_110
              refine lv_iinc (v := 6) (lv' := [(2, .int 6), (0, .ref o), (1, .int x1)]) hx hb dX8_emitSign_27 hl (k := 0) rfl (by decide +kernel) (by decide +kernel) rfl (fun ls hl => ?_)
              refine lv_goto (tgt := 2) hx hb dX8_emitSign_30 (by decide +kernel) ?_
              refine lv_iload_n hx hb dX8_emitSign_2 rfl (lv_at hl 0 rfl) ?_
              refine va_gets hx hb hZ.2.1 hS hown (hts (.fieldLink RX8 71 "ShipOffice$Act" "SIGNS" "[C") iw_X8_emitSign_1) (fun _ h9 => h9) dX8_emitSign_3 ?_
              refine va_tlen (v := 7) hx hb hZ.2.2.1 hS rfl dX8_emitSign_6 ?_
              refine lv_icmp_ge (tgt := 33) hx hb dX8_emitSign_7 (by decide +kernel) (fun c_111 => absurd c_111 (by decide +kernel)) (fun _ => ?_)
              refine va_gets hx hb hZ.2.1 hS hown (hts (.fieldLink RX8 71 "ShipOffice$Act" "SIGNS" "[C") iw_X8_emitSign_1) (fun _ h9 => h9) dX8_emitSign_10 ?_
              refine lv_iload_n hx hb dX8_emitSign_13 rfl (lv_at hl 0 rfl) ?_
              refine va_tc hx hb hZ.2.2.1 hS (by unfold vp_in; decide) (v := .int 62) rfl dX8_emitSign_14 ?_
              refine lv_iload_n hx hb dX8_emitSign_15 rfl (lv_at hl 2 rfl) ?_
              refine lv_icmp_ne (tgt := 27) hx hb dX8_emitSign_16 (by decide +kernel) (fun c_112 => ?_) (fun c_112 => ?_)
              · have dc_112 := c_ne (a := 62) (b := x1.toInt) (by decide +kernel) rfl c_112
                refine lv_iinc (v := 7) (lv' := [(2, .int 7), (0, .ref o), (1, .int x1)]) hx hb dX8_emitSign_27 hl (k := 0) rfl (by decide +kernel) (by decide +kernel) rfl (fun ls hl => ?_)
                refine lv_goto (tgt := 2) hx hb dX8_emitSign_30 (by decide +kernel) ?_
                refine lv_iload_n hx hb dX8_emitSign_2 rfl (lv_at hl 0 rfl) ?_
                refine va_gets hx hb hZ.2.1 hS hown (hts (.fieldLink RX8 71 "ShipOffice$Act" "SIGNS" "[C") iw_X8_emitSign_1) (fun _ h9 => h9) dX8_emitSign_3 ?_
                refine va_tlen (v := 7) hx hb hZ.2.2.1 hS rfl dX8_emitSign_6 ?_
                refine lv_icmp_ge (tgt := 33) hx hb dX8_emitSign_7 (by decide +kernel) (fun _ => ?_) (fun c_113 => absurd c_113 (by decide +kernel))
                exact W.vret hx hb hr (fun t ht hW => ⟨⟨S_97, rfl, ⟨hIS_97, X_99, (by rw [← c_2, show scd 43 = -11 by decide]; exact hx_98)⟩, ⟨by rw [ht]; exact hP, va_K.moved hW.alike hK, hD⟩⟩, hS.F ht⟩) hS.2.2 dX8_emitSign_33
              · have dc_112 := c_eq (a := 62) (b := x1.toInt) (by decide +kernel) rfl c_112
                exfalso; omega
            · have dc_110 := c_eq (a := 61) (b := x1.toInt) (by decide +kernel) rfl c_110
              exfalso; omega
          · have dc_108 := c_eq (a := 60) (b := x1.toInt) (by decide +kernel) rfl c_108
            exfalso; omega
        · have dc_106 := c_eq (a := 47) (b := x1.toInt) (by decide +kernel) rfl c_106
          exfalso; omega
      · have dc_104 := c_eq (a := 42) (b := x1.toInt) (by decide +kernel) rfl c_104
        exfalso; omega
    · have dc_102 := c_eq (a := 45) (b := x1.toInt) (by decide +kernel) rfl c_102
      exfalso; omega
set_option maxHeartbeats 4000000 in
set_option maxRecDepth 100000 in
theorem c_X8_parseNumber_f (l : Launch) (dC : Nat → ClassId) (dI : Nat → Nat → Nat) (sz : Nat) (cq : Nat → ClassId) (Z : oS) (gI : oInv Z) (o : Nat) (to : oty Z o 8) (rw : Nat) (hrw : oP Z o 0 = some rw) (cd : Nat) (hcd : oP Z o 2 = some cd) (hft : (oI Z o 5).toInt = -1) (hcz : (oI Z o 3).toInt ≤ (oI Z o 4).toInt) (hd : 48 ≤ tC Z o rw (tA Z o) ∧ tC Z o rw (tA Z o) ≤ 57) : Met l yX8_parseNumber wsX8_parseNumber ({ frames := 1, cells := 0, slots := 0, locals := 21 }) (va_Pc [.ref o] (pcW (dC, dI) (oT cq) (oW cq Z) sz)) (va_Qv (fun (u : oS) => oInv u ∧ oX [803, 804, 2063] Z u ∧ (tR Z u o cd ((pNum (tC Z o rw) 5 0 (tA Z o)).1, true, [(pNum (tC Z o rw) 5 0 (tA Z o)).2]))) (fun u t => va_P (dC, dI) vwCl (oW cq u) t.heap ∧ va_K (dC, dI) vwCl (oT cq) t ∧ va_D (va_A (oW cq Z) sz) (oW cq u)) (va_A (oW cq Z) sz)) 0 0 (va_A (oW cq Z) sz) := by
  refine Met.ofW (cc := cX8_parseNumber) (maxL := 3) (ret := none) (by decide +kernel) rfl ?_
  intro p e s m args below meth c s₁ B hml hv
  obtain ⟨rfl, hsz, hP, hK, hD0⟩ := hv
  have hx := B.exec
  have hb := B.bytes
  have hr := B.returns
  have hts := atoms_spec (ws := wsX8_parseNumber) B.pre
  have hown : s.vm.findClass RX8 = some m.cls := findClass_of_methodNamed B.named
  have hlocks := B.notSynchronized
  subst hsz
  have hD := hD0.self (sz := s.heap.size)
  generalize hAe : va_A (oW cq Z) s.heap.size = A at hD ⊢
  have hA : ∀ q : Nat, s.heap.size ≤ q → A q := fun q h => by rw [← hAe]; exact Or.inr h
  have hS : va_S A s.heap s.heap [] := va_S.rf
  have hP : va_P (dC, dI) vwCl (oW cq Z) s.heap := hP
  have hl := lv_entry ([.ref o]) (n := 3) (Nat.le_of_ble_eq_true rfl)
  rw [lg_entry_eq]
  generalize (lg_sl ([.ref o]) ++ List.replicate (3 - (lg_sl ([.ref o])).length) Slot.unset).toArray = ls at hl ⊢
  have hl : lv_has ls 3 [(0, .ref o)] := hl
  have trw : oty Z rw 160 := oInv.rd gI to.2 hrw rfl rfl
  have tcd : oty Z cd 63 := oInv.rd gI to.2 hcd rfl rfl
  have iv_1 : 0 ≤ (oI Z o 1).toInt ∧ (oI Z o 1).toInt ≤ 60 := oInv.iv gI to.2 rfl rfl
  have iv_2 : 0 ≤ (oI Z o 3).toInt ∧ (oI Z o 3).toInt ≤ 60 := oInv.iv gI to.2 rfl rfl
  have iv_3 : 0 ≤ (oI Z o 4).toInt ∧ (oI Z o 4).toInt ≤ 60 := oInv.iv gI to.2 rfl rfl
  refine lv_iconst (v := 0) hx hb dX8_parseNumber_0 (by decide +kernel) ?_
  refine lv_istore_n (lv' := [(1, .int 0), (0, .ref o)]) hx hb dX8_parseNumber_1 rfl hl (by decide +kernel) rfl (fun ls hl => ?_)
  refine lv_iconst (v := 0) hx hb dX8_parseNumber_2 (by decide +kernel) ?_
  refine lv_istore_n (lv' := [(2, .int 0), (1, .int 0), (0, .ref o)]) hx hb dX8_parseNumber_3 rfl hl (by decide +kernel) rfl (fun ls hl => ?_)
  have cut_4 : ∀ (n : Nat) (y_5 : Int32) (y_6 : Int32) (S_7 : oS) (H : Heap) (locs : List Loc) (ls : Array Slot), 5 - y_6.toInt ≤ (n : Int) → (0 ≤ y_6.toInt ∧ y_6.toInt ≤ 5) → oX [804] Z S_7 → pNum (tC Z o rw) (5 - y_6.toInt).toNat y_5 (tA S_7 o) = pNum (tC Z o rw) 5 0 (tA Z o) → oInv S_7 → oX [803, 804, 2063] Z S_7 → va_P (dC, dI) vwCl (oW cq S_7) H → va_D A (oW cq S_7) → va_S A s.heap H locs → oP S_7 o 0 = some rw → oP S_7 o 2 = some cd → lv_has ls 3 [(1, .int y_5), (2, .int y_6), (0, .ref o)] → W p l e (headSpec wsX8_parseNumber { frames := 1, cells := 0, slots := 0, locals := 21 }).room s m #[Value.ref o] below meth c H locs 0 0 (MQ below (va_Qv (fun (u : oS) => oInv u ∧ oX [803, 804, 2063] Z u ∧ (tR Z u o cd ((pNum (tC Z o rw) 5 0 (tA Z o)).1, true, [(pNum (tC Z o rw) 5 0 (tA Z o)).2]))) (fun u t => va_P (dC, dI) vwCl (oW cq u) t.heap ∧ va_K (dC, dI) vwCl (oT cq) t ∧ va_D A (oW cq u)) A) #[Value.ref o] s 0 0 A) (F0 m 4 ls []) := by
    intro n
    induction n using Nat.strongRecOn with
    | ind n ih =>
      intro y_5 y_6 S_7 H locs ls hm hy_6 hq0_cut_4 hq1_cut_4 hIS_7 XS_7 hP hD hS pk_8 pk_9 hl
      have YS_7 : oX [803, 804, 2063] Z S_7 := oX.st oX.rf XS_7 (fun _ q => q)
      refine lv_iload_n hx hb dX8_parseNumber_4 rfl (lv_at hl 1 rfl) ?_
      refine lv_iconst (v := 5) hx hb dX8_parseNumber_5 (by decide +kernel) ?_
      refine lv_icmp_ge (tgt := 50) hx hb dX8_parseNumber_6 (by decide +kernel) (fun c_10 => ?_) (fun c_10 => ?_)
      · have dc_10 := c_le (a := 5) (b := y_6.toInt) (by decide +kernel) rfl c_10
        refine lv_aload_n hx hb dX8_parseNumber_50 rfl (lv_at hl 2 rfl) ?_
        refine lv_iload_n hx hb dX8_parseNumber_51 rfl (lv_at hl 0 rfl) ?_
        have t_11 : oty S_7 o 8 := (oX.ty XS_7 to)
        have hFc := o_free hD hS hA
        obtain ⟨q_12, hq_12⟩ := og (cq := cq) t_11.1 (oE_8 t_11.2)
        refine va_callv (va_runV (As := [.int y_5]) (rest := []) ⟨hx, hb, hml, hown, hts⟩ (c_X8_emit_f l dC dI H.size cq S_7 hIS_7 o t_11 y_5 cd pk_9) (cwV 1 hts gX8_parseNumber_X8_emit rfl rfl rfl (by decide +kernel) ⟨(Nat.le_of_ble_eq_true rfl), (Nat.le_of_ble_eq_true rfl)⟩) (pr_V (r := (RX8, TX8, 6)) hP hK hD q_12 8 rfl hq_12) rfl rfl hl.1 rfl (lv_room (Nat.le_of_ble_eq_true rfl)) dX8_parseNumber_52 ⟨(Nat.le_of_ble_eq_true rfl), (Nat.le_of_ble_eq_true rfl)⟩) hS (fun q _ h => hFc q h) hFc (fun u t H locs ht hvm w_13 hB hz1 hk1 hS => ?_)
        obtain ⟨S_15, rfl⟩ : ∃ z, z = u := ⟨_, rfl⟩
        obtain ⟨hP1, hK1, hD1⟩ := hB
        rw [ht] at hP1
        have hP : va_P (dC, dI) vwCl (oW cq S_15) H := hP1
        have hD : va_D A (oW cq S_15) := hD1.weaken (fun _ _ _ h => hFc _ h)
        clear hP1 hK1 hD1 hk1 hz1 hvm ht hFc
        obtain ⟨hIS_15, XS_15, hx_16⟩ := w_13
        have X_17 : oX [803, 804, 2063] Z S_15 := oX.st YS_7 XS_15 (by decide +kernel)
        have pk_18 : oP S_15 o 0 = some rw := by rw [oX.p XS_15 t_11 (by decide +kernel)]; exact pk_8
        have pk_19 : oP S_15 o 2 = some cd := by rw [oX.p XS_15 t_11 (by decide +kernel)]; exact pk_9
        exact W.vret hx hb hr (fun t ht hW => ⟨⟨S_15, rfl, ⟨hIS_15, X_17, (by have hC := tX_C hq0_cut_4 to trw (by decide +kernel) (by decide +kernel); have q4 := sf_ge hd.1 (by omega); have q1 := tX_N hq0_cut_4 to (by decide +kernel); have q2 := tN_i S_7 o; have q3 := tN_i Z o; exact tR_num hq0_cut_4 to tcd (pn_0 hq1_cut_4 (by omega)) (pn_gt hd.1 hd.2) XS_15 hft (hx_16 (by omega)))⟩, ⟨by rw [ht]; exact hP, va_K.moved hW.alike hK, hD⟩⟩, hS.F ht⟩) hS.2.2 dX8_parseNumber_55
      · have dc_10 := c_nle (a := 5) (b := y_6.toInt) (by decide +kernel) rfl c_10
        refine lv_aload_n hx hb dX8_parseNumber_9 rfl (lv_at hl 2 rfl) ?_
        have t_20 : oty S_7 o 8 := (oX.ty XS_7 to)
        have hFc : ∀ q, va_A [] H.size q → A q := pu_free hS hA
        obtain ⟨q_21, hq_21⟩ := og (cq := cq) t_20.1 (oE_8 t_20.2)
        refine va_calli (va_runV (As := []) (rest := []) ⟨hx, hb, hml, hown, hts⟩ (c_X8_seesDigit_f l dC dI H.size cq S_7 hIS_7 o t_20 rw pk_8) (cwV 0 hts gX8_parseNumber_X8_seesDigit rfl rfl rfl (by decide +kernel) ⟨(Nat.le_of_ble_eq_true rfl), (Nat.le_of_ble_eq_true rfl)⟩) (pr_V (r := (RX8, TX8, 6)) hP hK hD q_21 8 rfl hq_21) rfl rfl hl.1 rfl (lv_room (Nat.le_of_ble_eq_true rfl)) dX8_parseNumber_10 ⟨(Nat.le_of_ble_eq_true rfl), (Nat.le_of_ble_eq_true rfl)⟩) hS (fun q _ h => hFc q h) hFc (fun r_23 u t H locs ht hvm w_22 hB hz1 hk1 hS => ?_)
        have hP := pu_keep hP hk1
        clear hk1 hz1 hvm hB ht hFc
        obtain ⟨hb_24, hx_25⟩ := w_22
        refine lv_if_eq (tgt := 50) hx hb dX8_parseNumber_13 (by decide +kernel) (fun c_26 => ?_) (fun c_26 => ?_)
        · have dc_26 := c_eq (a := r_23.toInt) (b := 0) rfl (by decide +kernel) c_26
          have bz_27 := bz0 hx_25 c_26
          refine lv_aload_n hx hb dX8_parseNumber_50 rfl (lv_at hl 2 rfl) ?_
          refine lv_iload_n hx hb dX8_parseNumber_51 rfl (lv_at hl 0 rfl) ?_
          have hFc := o_free hD hS hA
          refine va_callv (va_runV (As := [.int y_5]) (rest := []) ⟨hx, hb, hml, hown, hts⟩ (c_X8_emit_f l dC dI H.size cq S_7 hIS_7 o t_20 y_5 cd pk_9) (cwV 1 hts gX8_parseNumber_X8_emit rfl rfl rfl (by decide +kernel) ⟨(Nat.le_of_ble_eq_true rfl), (Nat.le_of_ble_eq_true rfl)⟩) (pr_V (r := (RX8, TX8, 6)) hP hK hD q_21 8 rfl hq_21) rfl rfl hl.1 rfl (lv_room (Nat.le_of_ble_eq_true rfl)) dX8_parseNumber_52 ⟨(Nat.le_of_ble_eq_true rfl), (Nat.le_of_ble_eq_true rfl)⟩) hS (fun q _ h => hFc q h) hFc (fun u t H locs ht hvm w_28 hB hz1 hk1 hS => ?_)
          obtain ⟨S_30, rfl⟩ : ∃ z, z = u := ⟨_, rfl⟩
          obtain ⟨hP1, hK1, hD1⟩ := hB
          rw [ht] at hP1
          have hP : va_P (dC, dI) vwCl (oW cq S_30) H := hP1
          have hD : va_D A (oW cq S_30) := hD1.weaken (fun _ _ _ h => hFc _ h)
          clear hP1 hK1 hD1 hk1 hz1 hvm ht hFc
          obtain ⟨hIS_30, XS_30, hx_31⟩ := w_28
          have X_32 : oX [803, 804, 2063] Z S_30 := oX.st YS_7 XS_30 (by decide +kernel)
          have pk_33 : oP S_30 o 0 = some rw := by rw [oX.p XS_30 t_20 (by decide +kernel)]; exact pk_8
          have pk_34 : oP S_30 o 2 = some cd := by rw [oX.p XS_30 t_20 (by decide +kernel)]; exact pk_9
          exact W.vret hx hb hr (fun t ht hW => ⟨⟨S_30, rfl, ⟨hIS_30, X_32, (by have hC := tX_C hq0_cut_4 to trw (by decide +kernel) (by decide +kernel); have q4 := sf_ge hd.1 (by omega); have q1 := tX_N hq0_cut_4 to (by decide +kernel); have q2 := tN_i S_7 o; have q3 := tN_i Z o; exact tR_num hq0_cut_4 to tcd (pn_e hq1_cut_4 (by rw [← hC]; exact bz_27)) (pn_gt hd.1 hd.2) XS_30 hft (hx_31 (by omega)))⟩, ⟨by rw [ht]; exact hP, va_K.moved hW.alike hK, hD⟩⟩, hS.F ht⟩) hS.2.2 dX8_parseNumber_55
        · have dc_26 := c_ne (a := r_23.toInt) (b := 0) rfl (by decide +kernel) c_26
          have bz_35 := bz1 hx_25 c_26
          have iv_36 : 0 ≤ (oI S_7 o 4).toInt ∧ (oI S_7 o 4).toInt ≤ 60 := oInv.iv hIS_7 t_20.2 rfl rfl
          have iv_37 : 0 ≤ (oI S_7 o 1).toInt ∧ (oI S_7 o 1).toInt ≤ 60 := oInv.iv hIS_7 t_20.2 rfl rfl
          have lt_38 := sf_ge bz_35.1 (by omega)
          refine lv_iload_n hx hb dX8_parseNumber_16 rfl (lv_at hl 0 rfl) ?_
          refine lv_bipush (v := 10) hx hb dX8_parseNumber_17 (by decide +kernel) ?_
          refine lv_imul hx hb dX8_parseNumber_19 ?_
          refine lv_topi (fun x_39 ex_39 => ?_)
          refine lv_aload_n hx hb dX8_parseNumber_20 rfl (lv_at hl 2 rfl) ?_
          refine va_get (D := (dC, dI)) (ci := 8) (v := .ref rw) (C := RX8) (T := TX8) (N := 6) hx hb hts in_wsX8_parseNumber_X8 hown hK hP q_21 hq_21 rfl 0 (by decide +kernel) (hts (.fieldLink RX8 9 "ShipOffice$Tape" "bytes" "[I") iw_X8_parseNumber_1) (fun _ h9 => h9) (o_rd pk_8) dX8_parseNumber_21 ?_
          refine lv_aload_n hx hb dX8_parseNumber_24 rfl (lv_at hl 2 rfl) ?_
          refine va_get (D := (dC, dI)) (ci := 8) (v := .int (oI S_7 o 4)) (C := RX8) (T := TX8) (N := 6) hx hb hts in_wsX8_parseNumber_X8 hown hK hP q_21 hq_21 rfl 4 (by decide +kernel) (hts (.fieldLink RX8 22 "ShipOffice$Tape" "at" "I") iw_X8_parseNumber_2) (fun _ h9 => h9) rfl dX8_parseNumber_25 ?_
          refine lv_topi (fun x_40 ex_40 => ?_)
          have hx_40 : 0 ≤ x_40.toInt ∧ x_40.toInt ≤ 60 := iv_of ex_40 (oInv.iv hIS_7 t_20.2 rfl rfl)
          have gx_40 : x_40.toInt = (oI S_7 o 4).toInt := iv_to ex_40
          clear ex_40
          have t_41 : oty S_7 rw 160 := (oX.ty XS_7 trw)
          obtain ⟨q_42, hq_42⟩ := og (cq := cq) t_41.1 (oE_a1 (n := 60) t_41.2 (by decide +kernel))
          refine va_iald hx hb hK hP q_42 0 hq_42 rfl (vp_in_iff.mpr (by omega)) dX8_parseNumber_28 ?_
          refine lv_topi (fun x_43 ex_43 => ?_)
          refine lv_iadd hx hb dX8_parseNumber_29 ?_
          refine lv_topi (fun x_44 ex_44 => ?_)
          refine lv_bipush (v := 48) hx hb dX8_parseNumber_30 (by decide +kernel) ?_
          refine lv_isub hx hb dX8_parseNumber_32 ?_
          refine lv_topi (fun x_45 ex_45 => ?_)
          refine lv_istore_n (lv' := [(1, .int x_45), (2, .int y_6), (0, .ref o)]) hx hb dX8_parseNumber_33 rfl hl (by decide +kernel) rfl (fun ls hl => ?_)
          refine lv_aload_n hx hb dX8_parseNumber_34 rfl (lv_at hl 2 rfl) ?_
          refine lv_dup hx hb dX8_parseNumber_35 rfl ?_
          refine va_get (D := (dC, dI)) (ci := 8) (v := .int (oI S_7 o 4)) (C := RX8) (T := TX8) (N := 6) hx hb hts in_wsX8_parseNumber_X8 hown hK hP q_21 hq_21 rfl 4 (by decide +kernel) (hts (.fieldLink RX8 22 "ShipOffice$Tape" "at" "I") iw_X8_parseNumber_2) (fun _ h9 => h9) rfl dX8_parseNumber_36 ?_
          refine lv_topi (fun x_46 ex_46 => ?_)
          have hx_46 : 0 ≤ x_46.toInt ∧ x_46.toInt ≤ 60 := iv_of ex_46 (oInv.iv hIS_7 t_20.2 rfl rfl)
          have gx_46 : x_46.toInt = (oI S_7 o 4).toInt := iv_to ex_46
          clear ex_46
          refine lv_iconst (v := 1) hx hb dX8_parseNumber_39 (by decide +kernel) ?_
          refine lv_iadd hx hb dX8_parseNumber_40 ?_
          refine lv_topi (fun x_47 ex_47 => ?_)
          have hx_47 : x_47.toInt = x_46.toInt + 1 := (iv_to ex_47).trans (ad_i rfl (by decide +kernel) (by omega) (by omega))
          refine va_put (D := (dC, dI)) (ci := 8) (v := .int x_47) (ty := .int) (C := RX8) (T := TX8) (N := 6) hx hb hts in_wsX8_parseNumber_X8 tyX8 tyX8_ok nmX8 hown hK hP hD hS q_21 hq_21 rfl 4 (by decide +kernel) (hts (.fieldLink RX8 22 "ShipOffice$Tape" "at" "I") iw_X8_parseNumber_2) (fun _ h9 => h9) rfl (by decide +kernel) rfl rfl (Nat.le_of_ble_eq_true rfl) dX8_parseNumber_41 (fun H locs hP1 hD1 hS => ?_)
          obtain ⟨S_48, eS_48⟩ : ∃ zq, zq = setI S_7 o 4 x_47 := ⟨_, rfl⟩
          have hP : va_P (dC, dI) vwCl (oW cq S_48) H := by rw [eS_48]; exact cP (oset t_20.1 hq_21 hD rfl (he_8_4 t_20.2) neI) hP1
          have hD : va_D A (oW cq S_48) := by rw [eS_48]; exact cD (oset t_20.1 hq_21 hD rfl (he_8_4 t_20.2) neI) hD1
          clear hP1 hD1
          have hIS_48 : oInv S_48 := by rw [eS_48]; exact oInv.I0 (k := 8) (lo := 0) (hi := 60) hIS_7 t_20.2 (by decide +kernel) rfl rfl rfl (by omega)
          have XS_48 : oX [804] S_7 S_48 := by rw [eS_48]; exact oX.I (k := 8) (key := 804) t_20.2 rfl (List.mem_singleton.mpr rfl)
          have pk_49 : oP S_48 o 0 = some rw := by rw [eS_48]; exact pk_8
          have pk_50 : oP S_48 o 2 = some cd := by rw [eS_48]; exact pk_9
          have X_51 : oX [803, 804, 2063] Z S_48 := oX.st YS_7 XS_48 (by decide +kernel)
          have g_52 : (oI S_48 o 4).toInt = x_47.toInt := by rw [eS_48, setI_same]
          obtain ⟨x_53, ex_53⟩ : ∃ zq : Int32, y_6 + 1 = zq := ⟨_, rfl⟩
          have hx_53 : x_53.toInt = y_6.toInt + 1 := (iv_to ex_53).symm.trans (ad_i rfl (by decide +kernel) (by omega) (by omega))
          refine lv_iinc (v := x_53) (lv' := [(2, .int x_53), (1, .int x_45), (0, .ref o)]) hx hb dX8_parseNumber_44 hl (k := 1) rfl ex_53 (by decide +kernel) rfl (fun ls hl => ?_)
          clear ex_53
          refine lv_goto (tgt := 4) hx hb dX8_parseNumber_47 (by decide +kernel) ?_
          exact ih (n - 1) (by omega) x_45 x_53 S_48 _ _ ls (by omega) (by omega) (oX.st hq0_cut_4 XS_48 (fun _ q => q)) (by have hC := tX_C hq0_cut_4 to trw (by decide +kernel) (by decide +kernel); have q1 := tA_i S_7 o; have q2 := tA_i S_48 o; exact pn_go hq1_cut_4 (by omega) (by rw [← hC]; exact bz_35.1) (by rw [← hC]; exact bz_35.2) (by rw [← hC]; exact sf_e (y := x_40) (by omega) (by omega) (by omega) ex_43) ex_39 ex_44 ex_45 (by omega)) hIS_48 (oX.st (oX.st oX.rf XS_7 (by decide +kernel)) XS_48 (by decide +kernel)) hP hD hS pk_49 pk_50 (lv_sub hl [1, 0, 2] rfl)
  have kc_54 : (0 : Int32).toInt = 0 := by decide
  exact cut_4 6 0 0 Z _ _ ls (by omega) (by decide +kernel) oX.rf (by rw [show (5 - (0 : Int32).toInt).toNat = 5 by decide]) gI oX.rf hP hD hS hrw hcd (lv_sub hl [1, 0, 2] rfl)
