


set_option maxHeartbeats 4000000 in
set_option maxRecDepth 100000 in
theorem c_X10_isPort_f (l : Launch) (dC : Nat → ClassId) (dI : Nat → Nat → Nat) (sz : Nat) (x1 : Int32) : Met l yX10_isPort wsX10_isPort ({ frames := 0, cells := 0, slots := 0, locals := 0 }) (va_Pc [.int x1] (pcW (dC, dI) [] [] sz)) (va_Qi (fun (r : Int32) (u : Unit) => (0 ≤ r.toInt ∧ r.toInt ≤ 1) ∧ ((r.toInt = 0 ∧ ¬ (0 ≤ x1.toInt ∧ x1.toInt ≤ 9)) ∨ (r.toInt = 1 ∧ 0 ≤ x1.toInt ∧ x1.toInt ≤ 9))) (fun _ _ => True) (va_A [] sz)) 0 0 (va_A [] sz) := by
  refine Met.ofW (cc := cX10_isPort) (maxL := 1) (ret := (some .boolean)) (by decide) rfl ?_
  intro p e s m args below meth c s₁ B hml hv
  obtain ⟨rfl, hsz, hP, hK, hD0⟩ := hv
  have hx := B.exec
  have hb := B.bytes
  have hr := B.returns
  have hts := atoms_spec (ws := wsX10_isPort) B.pre
  have hown : s.vm.findClass RX10 = some m.cls := findClass_of_methodNamed B.named
  have hlocks := B.notSynchronized
  subst hsz
  have hD := hD0
  generalize hAe : va_A [] s.heap.size = A at ⊢
  have hA : ∀ q : Nat, s.heap.size ≤ q → A q := fun q h => by rw [← hAe]; exact Or.inr h
  have hS : va_S A s.heap s.heap [] := va_S.rf
  have hP : va_P (dC, dI) vwCl [] s.heap := hP
  have hl := lv_entry ([.int x1]) (n := 1) (Nat.le_of_ble_eq_true rfl)
  rw [lg_entry_eq]
  generalize (lg_sl ([.int x1]) ++ List.replicate (1 - (lg_sl ([.int x1])).length) Slot.unset).toArray = ls at hl ⊢
  have hl : lv_has ls 1 [(0, .int x1)] := hl
  refine lv_iload_n hx hb dX10_isPort_0 rfl (lv_at hl 0 rfl) ?_
  refine lv_if_lt (tgt := 14) hx hb dX10_isPort_1 (by decide) (fun c_1 => ?_) (fun c_1 => ?_)
  · have dc_1 := c_lt (a := x1.toInt) (b := 0) rfl (by decide) c_1
    refine lv_iconst (v := 0) hx hb dX10_isPort_14 (by decide) ?_
    exact W.zret (v := 0) hx hb hr rfl (fun t ht hW => ⟨⟨0, (), rfl, ⟨(by decide), (Or.inl ⟨by decide, by omega⟩)⟩, trivial⟩, hS.F ht⟩) hS.2.2 dX10_isPort_15
  · have dc_1 := c_nlt (a := x1.toInt) (b := 0) rfl (by decide) c_1
    refine lv_iload_n hx hb dX10_isPort_4 rfl (lv_at hl 0 rfl) ?_
    refine lv_bipush (v := 10) hx hb dX10_isPort_5 (by decide) ?_
    refine lv_icmp_ge (tgt := 14) hx hb dX10_isPort_7 (by decide) (fun c_2 => ?_) (fun c_2 => ?_)
    · have dc_2 := c_le (a := 10) (b := x1.toInt) (by decide) rfl c_2
      refine lv_iconst (v := 0) hx hb dX10_isPort_14 (by decide) ?_
      exact W.zret (v := 0) hx hb hr rfl (fun t ht hW => ⟨⟨0, (), rfl, ⟨(by decide), (Or.inl ⟨by decide, by omega⟩)⟩, trivial⟩, hS.F ht⟩) hS.2.2 dX10_isPort_15
    · have dc_2 := c_nle (a := 10) (b := x1.toInt) (by decide) rfl c_2
      refine lv_iconst (v := 1) hx hb dX10_isPort_10 (by decide) ?_
      refine lv_goto (tgt := 15) hx hb dX10_isPort_11 (by decide) ?_
      exact W.zret (v := 1) hx hb hr rfl (fun t ht hW => ⟨⟨1, (), rfl, ⟨(by decide), (Or.inr ⟨by decide, by omega⟩)⟩, trivial⟩, hS.F ht⟩) hS.2.2 dX10_isPort_15
set_option maxHeartbeats 4000000 in
set_option maxRecDepth 100000 in
theorem c_X7_join_f (l : Launch) (dC : Nat → ClassId) (dI : Nat → Nat → Nat) (sz : Nat) (cq : Nat → ClassId) (Z : oS) (gI : oInv Z) (o : Nat) (to : oty Z o 7) (x1 : Int32) (hx1 : 0 ≤ x1.toInt ∧ x1.toInt ≤ 9) (x2 : Int32) (hx2 : 0 ≤ x2.toInt ∧ x2.toInt ≤ 9) (x3 : Int32) : Met l yX7_join wsX7_join ({ frames := 0, cells := 0, slots := 0, locals := 0 }) (va_Pc [.ref o, .int x1, .int x2, .int x3] (pcW (dC, dI) (oT cq) (oW cq Z) sz)) (va_Qi (fun (r : Int32) (u : oS) => oInv u ∧ oX [2200] Z u ∧ (∀ ml, oP Z o 0 = some ml → ∃ i1 i2 : Int32, i1.toInt = 10 * x1.toInt + x2.toInt ∧ i2.toInt = 10 * x2.toInt + x1.toInt ∧ r = oI Z ml i1.toNatClampNeg ∧ oI u ml = upd (upd (oI Z ml) i1.toNatClampNeg x3) i2.toNatClampNeg x3)) (fun u t => va_P (dC, dI) vwCl (oW cq u) t.heap ∧ va_K (dC, dI) vwCl (oT cq) t ∧ va_D (va_A (oW cq Z) sz) (oW cq u)) (va_A (oW cq Z) sz)) 0 0 (va_A (oW cq Z) sz) := by
  refine Met.ofW (cc := cX7_join) (maxL := 5) (ret := (some .int)) (by decide) rfl ?_
  intro p e s m args below meth c s₁ B hml hv
  obtain ⟨rfl, hsz, hP, hK, hD0⟩ := hv
  have hx := B.exec
  have hb := B.bytes
  have hr := B.returns
  have hts := atoms_spec (ws := wsX7_join) B.pre
  have hown : s.vm.findClass RX7 = some m.cls := findClass_of_methodNamed B.named
  have hlocks := B.notSynchronized
  subst hsz
  have hD := hD0.self (sz := s.heap.size)
  generalize hAe : va_A (oW cq Z) s.heap.size = A at hD ⊢
  have hA : ∀ q : Nat, s.heap.size ≤ q → A q := fun q h => by rw [← hAe]; exact Or.inr h
  have hS : va_S A s.heap s.heap [] := va_S.rf
  have hP : va_P (dC, dI) vwCl (oW cq Z) s.heap := hP
  have hl := lv_entry ([.ref o, .int x1, .int x2, .int x3]) (n := 5) (Nat.le_of_ble_eq_true rfl)
  rw [lg_entry_eq]
  generalize (lg_sl ([.ref o, .int x1, .int x2, .int x3]) ++ List.replicate (5 - (lg_sl ([.ref o, .int x1, .int x2, .int x3])).length) Slot.unset).toArray = ls at hl ⊢
  have hl : lv_has ls 5 [(0, .ref o), (1, .int x1), (2, .int x2), (3, .int x3)] := hl
  refine lv_aload_n hx hb dX7_join_0 rfl (lv_at hl 0 rfl) ?_
  obtain ⟨q_1, hq_1⟩ := og (cq := cq) to.1 (oE_7 to.2)
  obtain ⟨b_2, hb_2⟩ := oInv.nn (i := 0) gI to rfl
  refine va_get (D := (dC, dI)) (ci := 7) (v := .ref b_2) (C := RX7) (T := TX7) (N := 2) hx hb hts in_wsX7_join_X7 hown hK hP q_1 hq_1 rfl 0 (by decide) (hts (.fieldLink RX7 9 "ShipOffice$Sea" "miles" "[I") iw_X7_join_1) (fun _ h9 => h9) (o_rd hb_2) dX7_join_1 ?_
  have tb_2 : oty Z b_2 200 := oInv.rd gI to.2 hb_2 rfl rfl
  refine lv_iload_n hx hb dX7_join_4 rfl (lv_at hl 1 rfl) ?_
  refine lv_bipush (v := 10) hx hb dX7_join_5 (by decide) ?_
  refine lv_imul hx hb dX7_join_7 ?_
  refine lv_topi (fun x_3 ex_3 => ?_)
  have hx_3 : x_3.toInt = x1.toInt * 10 := (iv_to ex_3).trans (mu_i rfl (by decide) (by omega) (by omega))
  clear ex_3
  refine lv_iload_n hx hb dX7_join_8 rfl (lv_at hl 2 rfl) ?_
  refine lv_iadd hx hb dX7_join_9 ?_
  refine lv_topi (fun x_4 ex_4 => ?_)
  have hx_4 : x_4.toInt = x_3.toInt + x2.toInt := (iv_to ex_4).trans (ad_i rfl rfl (by omega) (by omega))
  clear ex_4
  obtain ⟨q_5, hq_5⟩ := og (cq := cq) tb_2.1 (oE_a1 (n := 100) tb_2.2 (by decide))
  refine va_iald hx hb hK hP q_5 0 hq_5 rfl (vp_in_iff.mpr (by omega)) dX7_join_10 ?_
  refine lv_topi (fun x_6 ex_6 => ?_)
  refine lv_istore (lv' := [(4, .int x_6), (0, .ref o), (1, .int x1), (2, .int x2), (3, .int x3)]) hx hb dX7_join_11 hl (by decide) rfl (fun ls hl => ?_)
  refine lv_aload_n hx hb dX7_join_13 rfl (lv_at hl 1 rfl) ?_
  refine va_get (D := (dC, dI)) (ci := 7) (v := .ref b_2) (C := RX7) (T := TX7) (N := 2) hx hb hts in_wsX7_join_X7 hown hK hP q_1 hq_1 rfl 0 (by decide) (hts (.fieldLink RX7 9 "ShipOffice$Sea" "miles" "[I") iw_X7_join_1) (fun _ h9 => h9) (o_rd hb_2) dX7_join_14 ?_
  refine lv_iload_n hx hb dX7_join_17 rfl (lv_at hl 2 rfl) ?_
  refine lv_bipush (v := 10) hx hb dX7_join_18 (by decide) ?_
  refine lv_imul hx hb dX7_join_20 ?_
  refine lv_topi (fun x_7 ex_7 => ?_)
  have hx_7 : x_7.toInt = x1.toInt * 10 := (iv_to ex_7).trans (mu_i rfl (by decide) (by omega) (by omega))
  clear ex_7
  refine lv_iload_n hx hb dX7_join_21 rfl (lv_at hl 3 rfl) ?_
  refine lv_iadd hx hb dX7_join_22 ?_
  refine lv_topi (fun x_8 ex_8 => ?_)
  have hx_8 : x_8.toInt = x_7.toInt + x2.toInt := (iv_to ex_8).trans (ad_i rfl rfl (by omega) (by omega))
  clear ex_8
  refine lv_iload_n hx hb dX7_join_23 rfl (lv_at hl 4 rfl) ?_
  refine va_iast hx hb hK hP hD hS q_5 0 hq_5 rfl (vp_in_iff.mpr (by omega)) dX7_join_24 (fun H locs hP1 hD1 hS => ?_)
  obtain ⟨S_9, eS_9⟩ : ∃ zq, zq = setI Z b_2 (x_8 : Int32).toNatClampNeg x3 := ⟨_, rfl⟩
  have hP : va_P (dC, dI) vwCl (oW cq S_9) H := by rw [eS_9]; exact cP (oset tb_2.1 hq_5 hD rfl (he_a1 (n := 100) tb_2.2 (by decide)) neI) hP1
  have hD : va_D A (oW cq S_9) := by rw [eS_9]; exact cD (oset tb_2.1 hq_5 hD rfl (he_a1 (n := 100) tb_2.2 (by decide)) neI) hD1
  clear hP1 hD1
  have hIS_9 : oInv S_9 := by rw [eS_9]; exact oInv.A (k := 200) gI tb_2.2 (by decide)
  have XS_9 : oX [2200] Z S_9 := by rw [eS_9]; exact oX.I (k := 200) (key := 2200) tb_2.2 rfl (List.mem_singleton.mpr rfl)
  have pk_10 : oP S_9 o 0 = some b_2 := by rw [eS_9]; exact hb_2
  have X_11 : oX [2200] Z S_9 := oX.st oX.rf XS_9 (by decide)
  refine lv_aload_n hx hb dX7_join_25 rfl (lv_at hl 1 rfl) ?_
  have t_12 : oty S_9 o 7 := (oX.ty XS_9 to)
  obtain ⟨q_13, hq_13⟩ := og (cq := cq) t_12.1 (oE_7 t_12.2)
  refine va_get (D := (dC, dI)) (ci := 7) (v := .ref b_2) (C := RX7) (T := TX7) (N := 2) hx hb hts in_wsX7_join_X7 hown hK hP q_13 hq_13 rfl 0 (by decide) (hts (.fieldLink RX7 9 "ShipOffice$Sea" "miles" "[I") iw_X7_join_1) (fun _ h9 => h9) (o_rd pk_10) dX7_join_26 ?_
  refine lv_iload_n hx hb dX7_join_29 rfl (lv_at hl 3 rfl) ?_
  refine lv_bipush (v := 10) hx hb dX7_join_30 (by decide) ?_
  refine lv_imul hx hb dX7_join_32 ?_
  refine lv_topi (fun x_14 ex_14 => ?_)
  have hx_14 : x_14.toInt = x2.toInt * 10 := (iv_to ex_14).trans (mu_i rfl (by decide) (by omega) (by omega))
  clear ex_14
  refine lv_iload_n hx hb dX7_join_33 rfl (lv_at hl 2 rfl) ?_
  refine lv_iadd hx hb dX7_join_34 ?_
  refine lv_topi (fun x_15 ex_15 => ?_)
  have hx_15 : x_15.toInt = x_14.toInt + x1.toInt := (iv_to ex_15).trans (ad_i rfl rfl (by omega) (by omega))
  clear ex_15
  refine lv_iload_n hx hb dX7_join_35 rfl (lv_at hl 4 rfl) ?_
  have t_16 : oty S_9 b_2 200 := (oX.ty XS_9 tb_2)
  obtain ⟨q_17, hq_17⟩ := og (cq := cq) t_16.1 (oE_a1 (n := 100) t_16.2 (by decide))
  refine va_iast hx hb hK hP hD hS q_17 0 hq_17 rfl (vp_in_iff.mpr (by omega)) dX7_join_36 (fun H locs hP1 hD1 hS => ?_)
  obtain ⟨S_18, eS_18⟩ : ∃ zq, zq = setI S_9 b_2 (x_15 : Int32).toNatClampNeg x3 := ⟨_, rfl⟩
  have hP : va_P (dC, dI) vwCl (oW cq S_18) H := by rw [eS_18]; exact cP (oset t_16.1 hq_17 hD rfl (he_a1 (n := 100) t_16.2 (by decide)) neI) hP1
  have hD : va_D A (oW cq S_18) := by rw [eS_18]; exact cD (oset t_16.1 hq_17 hD rfl (he_a1 (n := 100) t_16.2 (by decide)) neI) hD1
  clear hP1 hD1
  have hIS_18 : oInv S_18 := by rw [eS_18]; exact oInv.A (k := 200) hIS_9 t_16.2 (by decide)
  have XS_18 : oX [2200] S_9 S_18 := by rw [eS_18]; exact oX.I (k := 200) (key := 2200) t_16.2 rfl (List.mem_singleton.mpr rfl)
  have pk_19 : oP S_18 o 0 = some b_2 := by rw [eS_18]; exact pk_10
  have X_20 : oX [2200] Z S_18 := oX.st X_11 XS_18 (by decide)
  refine lv_iload hx hb dX7_join_37 (lv_at hl 0 rfl) ?_
  exact W.iret (v := x_6) hx hb hr (fun t ht hW => ⟨⟨x_6, S_18, rfl, ⟨hIS_18, X_20, (by intro ml hq; obtain rfl : ml = b_2 := Option.some.inj (hq.symm.trans hb_2); have eb : x_8 = x_4 := Int32.toInt_inj.mp (by omega); exact ⟨x_4, x_15, by omega, by omega, ex_6, by rw [eS_18, setI_fun, eS_9, setI_fun, eb]⟩)⟩, ⟨by rw [ht]; exact hP, va_K.moved hW.alike hK, hD⟩⟩, hS.F ht⟩) hS.2.2 dX7_join_39
/-- the row of men behind man: as it was, or with a new man whose wages are all 0 -/
def gnm (Z u : oS) (row : Nat) (men men1 : Int) : Prop := (men1 = men ∧ oP u row = oP Z row) ∨ (men1 = men + 1 ∧ ∃ q w, oP u row = va_up (oP Z row) men.toNat (some q) ∧ oP u q 4 = some w ∧ w ∉ oL Z ∧ oI u w = fun _ => 0)