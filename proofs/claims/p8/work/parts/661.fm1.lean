


set_option maxHeartbeats 4000000 in
set_option maxRecDepth 100000 in
theorem c_X10_isPort_f (l : Launch) (dC : Nat → ClassId) (dI : Nat → Nat → Nat) (sz : Nat) (x1 : Int32) : Met l yX10_isPort wsX10_isPort ({ frames := 0, cells := 0, slots := 0, locals := 0 }) (va_Pc [.int x1] (pcW (dC, dI) [] [] sz)) (va_Qi (fun (r : Int32) (u : Unit) => (0 ≤ r.toInt ∧ r.toInt ≤ 1) ∧ ((r.toInt = 0 ∧ ¬ (0 ≤ x1.toInt ∧ x1.toInt ≤ 9)) ∨ (r.toInt = 1 ∧ 0 ≤ x1.toInt ∧ x1.toInt ≤ 9))) (fun _ _ => True) (va_A [] sz)) 0 0 (va_A [] sz) := by
  refine Met.ofW (cc := cX10_isPort) (maxL := 1) (ret := (some .boolean)) (by decide +kernel) rfl ?_
  intro p e s m args below meth c s₁ B hml hv
  obtain ⟨rfl, hsz, hP, hK, hD0⟩ := hv
  have hx := B.exec
  have hb := B.bytes
  have hr := B.returns
  have hts := atoms_spec (ws := wsX10_isPort) B.pre
  have hown : s.vm.findClass RX10 = some m.cls := findClass_of_methodNamed B.named
  have hlocks := B.notSynchronized
  subst hsz
  have hD := hD0
  generalize hAe : va_A [] s.heap.size = A at ⊢
  have hA : ∀ q : Nat, s.heap.size ≤ q → A q := fun q h => by rw [← hAe]; exact Or.inr h
  have hS : va_S A s.heap s.heap [] := va_S.rf
  have hP : va_P (dC, dI) vwCl [] s.heap := hP
  have hl := lv_entry ([.int x1]) (n := 1) (Nat.le_of_ble_eq_true rfl)
  rw [lg_entry_eq]
  generalize (lg_sl ([.int x1]) ++ List.replicate (1 - (lg_sl ([.int x1])).length) Slot.unset).toArray = ls at hl ⊢
  have hl : lv_has ls 1 [(0, .int x1)] := hl
  refine lv_iload_n hx hb dX10_isPort_0 rfl (lv_at hl 0 rfl) ?_
  refine lv_if_lt (tgt := 14) hx hb dX10_isPort_1 (by decide +kernel) (fun c_1 => ?_) (fun c_1 => ?_)
  · have dc_1 := c_lt (a := x1.toInt) (b := 0) rfl (by decide +kernel) c_1
    refine lv_iconst (v := 0) hx hb dX10_isPort_14 (by decide +kernel) ?_
    exact W.zret (v := 0) hx hb hr rfl (fun t ht hW => ⟨⟨0, (), rfl, ⟨(by decide +kernel), (Or.inl ⟨by decide, by omega⟩)⟩, trivial⟩, hS.F ht⟩) hS.2.2 dX10_isPort_15
  · have dc_1 := c_nlt (a := x1.toInt) (b := 0) rfl (by decide +kernel) c_1
    refine lv_iload_n hx hb dX10_isPort_4 rfl (lv_at hl 0 rfl) ?_
    refine lv_bipush (v := 10) hx hb dX10_isPort_5 (by decide +kernel) ?_
    refine lv_icmp_ge (tgt := 14) hx hb dX10_isPort_7 (by decide +kernel) (fun c_2 => ?_) (fun c_2 => ?_)
    · have dc_2 := c_le (a := 10) (b := x1.toInt) (by decide +kernel) rfl c_2
      refine lv_iconst (v := 0) hx hb dX10_isPort_14 (by decide +kernel) ?_
      exact W.zret (v := 0) hx hb hr rfl (fun t ht hW => ⟨⟨0, (), rfl, ⟨(by decide +kernel), (Or.inl ⟨by decide, by omega⟩)⟩, trivial⟩, hS.F ht⟩) hS.2.2 dX10_isPort_15
    · have dc_2 := c_nle (a := 10) (b := x1.toInt) (by decide +kernel) rfl c_2
      refine lv_iconst (v := 1) hx hb dX10_isPort_10 (by decide +kernel) ?_
      refine lv_goto (tgt := 15) hx hb dX10_isPort_11 (by decide +kernel) ?_
      exact W.zret (v := 1) hx hb hr rfl (fun t ht hW => ⟨⟨1, (), rfl, ⟨(by decide +kernel), (Or.inr ⟨by decide, by omega⟩)⟩, trivial⟩, hS.F ht⟩) hS.2.2 dX10_isPort_15
set_option maxHeartbeats 4000000 in
set_option maxRecDepth 100000 in
theorem c_X7_join_f (l : Launch) (dC : Nat → ClassId) (dI : Nat → Nat → Nat) (sz : Nat) (cq : Nat → ClassId) (Z : oS) (gI : oInv Z) (o : Nat) (to : oty Z o 7) (x1 : Int32) (hx1 : 0 ≤ x1.toInt ∧ x1.toInt ≤ 9) (x2 : Int32) (hx2 : 0 ≤ x2.toInt ∧ x2.toInt ≤ 9) (x3 : Int32) : Met l yX7_join wsX7_join ({ frames := 0, cells := 0, slots := 0, locals := 0 }) (va_Pc [.ref o, .int x1, .int x2, .int x3] (pcW (dC, dI) (oT cq) (oW cq Z) sz)) (va_Qi (fun (r : Int32) (u : oS) => oInv u ∧ oX [2200] Z u ∧ (∀ ml, oP Z o 0 = some ml → ∃ i1 i2 : Int32, i1.toInt = 10 * x1.toInt + x2.toInt ∧ i2.toInt = 10 * x2.toInt + x1.toInt ∧ r = oI Z ml i1.toNatClampNeg ∧ oI u ml = upd (upd (oI Z ml) i1.toNatClampNeg x3) i2.toNatClampNeg x3)) (fun u t => va_P (dC, dI) vwCl (oW cq u) t.heap ∧ va_K (dC, dI) vwCl (oT cq) t ∧ va_D (va_A (oW cq Z) sz) (oW cq u)) (va_A (oW cq Z) sz)) 0 0 (va_A (oW cq Z) sz) := by
  refine Met.ofW (cc := cX7_join) (maxL := 5) (ret := (some .int)) (by decide +kernel) rfl ?_
  intro p e s m args below meth c s₁ B hml hv
  obtain ⟨rfl, hsz, hP, hK, hD0⟩ := hv
  have hx := B.exec
  have hb := B.bytes
  have hr := B.returns
  have hts := atoms_spec (ws := wsX7_join) B.pre
  have hown : s.vm.findClass RX7 = some m.cls := findClass_of_methodNamed B.named
  have hlocks := B.notSynchronized
  subst hsz
  have hD := hD0.self (sz := s.heap.size)
  generalize hAe : va_A (oW cq Z) s.heap.size = A at hD ⊢
  have hA : ∀ q : Nat, s.heap.size ≤ q → A q := fun q h => by rw [← hAe]; exact Or.inr h
  have hS : va_S A s.heap s.heap [] := va_S.rf
  have hP : va_P (dC, dI) vwCl (oW cq Z) s.heap := hP
  have hl := lv_entry ([.ref o, .int x1, .int x2, .int x3]) (n := 5) (Nat.le_of_ble_eq_true rfl)
  rw [lg_entry_eq]
  generalize (lg_sl ([.ref o, .int x1, .int x2, .int x3]) ++ List.replicate (5 - (lg_sl ([.ref o, .int x1, .int x2, .int x3])).length) Slot.unset).toArray = ls at hl ⊢
  have hl : lv_has ls 5 [(0, .ref o), (1, .int x1), (2, .int x2), (3, .int x3)] := hl
  refine lv_aload_n hx hb dX7_join_0 rfl (lv_at hl 0 rfl) ?_
  obtain ⟨q_1, hq_1⟩ := og (cq := cq) to.1 (oE_7 to.2)
  obtain ⟨b_2, hb_2⟩ := oInv.nn (i := 0) gI to rfl
  refine va_get (D := (dC, dI)) (ci := 7) (v := .ref b_2) (C := RX7) (T := TX7) (N := 2) hx hb hts in_wsX7_join_X7 hown hK hP q_1 hq_1 rfl 0 (by decide +kernel) (hts (.fieldLink RX7 9 "ShipOffice$Sea" "miles" "[I") iw_X7_join_1) (fun _ h9 => h9) (o_rd hb_2) dX7_join_1 ?_
  have tb_2 : oty Z b_2 200 := oInv.rd gI to.2 hb_2 rfl rfl
  refine lv_iload_n hx hb dX7_join_4 rfl (lv_at hl 1 rfl) ?_
  refine lv_bipush (v := 10) hx hb dX7_join_5 (by decide +kernel) ?_
  refine lv_imul hx hb dX7_join_7 ?_
  refine lv_topi (fun x_3 ex_3 => ?_)
  have hx_3 : x_3.toInt = x1.toInt * 10 := (iv_to ex_3).trans (mu_i rfl (by decide +kernel) (by omega) (by omega))
  clear ex_3
  refine lv_iload_n hx hb dX7_join_8 rfl (lv_at hl 2 rfl) ?_
  refine lv_iadd hx hb dX7_join_9 ?_
  refine lv_topi (fun x_4 ex_4 => ?_)
  have hx_4 : x_4.toInt = x_3.toInt + x2.toInt := (iv_to ex_4).trans (ad_i rfl rfl (by omega) (by omega))
  clear ex_4
  obtain ⟨q_5, hq_5⟩ := og (cq := cq) tb_2.1 (oE_a1 (n := 100) tb_2.2 (by decide +kernel))
  refine va_iald hx hb hK hP q_5 0 hq_5 rfl (vp_in_iff.mpr (by omega)) dX7_join_10 ?_
  refine lv_topi (fun x_6 ex_6 => ?_)
  refine lv_istore (lv' := [(4, .int x_6), (0, .ref o), (1, .int x1), (2, .int x2), (3, .int x3)]) hx hb dX7_join_11 hl (by decide +kernel) rfl (fun ls hl => ?_)
  refine lv_aload_n hx hb dX7_join_13 rfl (lv_at hl 1 rfl) ?_
  refine va_get (D := (dC, dI)) (ci := 7) (v := .ref b_2) (C := RX7) (T := TX7) (N := 2) hx hb hts in_wsX7_join_X7 hown hK hP q_1 hq_1 rfl 0 (by decide +kernel) (hts (.fieldLink RX7 9 "ShipOffice$Sea" "miles" "[I") iw_X7_join_1) (fun _ h9 => h9) (o_rd hb_2) dX7_join_14 ?_
  refine lv_iload_n hx hb dX7_join_17 rfl (lv_at hl 2 rfl) ?_
  refine lv_bipush (v := 10) hx hb dX7_join_18 (by decide +kernel) ?_
  refine lv_imul hx hb dX7_join_20 ?_
  refine lv_topi (fun x_7 ex_7 => ?_)
  have hx_7 : x_7.toInt = x1.toInt * 10 := (iv_to ex_7).trans (mu_i rfl (by decide +kernel) (by omega) (by omega))
  clear ex_7
  refine lv_iload_n hx hb dX7_join_21 rfl (lv_at hl 3 rfl) ?_
  refine lv_iadd hx hb dX7_join_22 ?_
  refine lv_topi (fun x_8 ex_8 => ?_)
  have hx_8 : x_8.toInt = x_7.toInt + x2.toInt := (iv_to ex_8).trans (ad_i rfl rfl (by omega) (by omega))
  clear ex_8
  refine lv_iload_n hx hb dX7_join_23 rfl (lv_at hl 4 rfl) ?_
  refine va_iast hx hb hK hP hD hS q_5 0 hq_5 rfl (vp_in_iff.mpr (by omega)) dX7_join_24 (fun H locs hP1 hD1 hS => ?_)
  obtain ⟨S_9, eS_9⟩ : ∃ zq, zq = setI Z b_2 (x_8 : Int32).toNatClampNeg x3 := ⟨_, rfl⟩
  have hP : va_P (dC, dI) vwCl (oW cq S_9) H := by rw [eS_9]; exact cP (oset tb_2.1 hq_5 hD rfl (he_a1 (n := 100) tb_2.2 (by decide +kernel)) neI) hP1
  have hD : va_D A (oW cq S_9) := by rw [eS_9]; exact cD (oset tb_2.1 hq_5 hD rfl (he_a1 (n := 100) tb_2.2 (by decide +kernel)) neI) hD1
  clear hP1 hD1
  have hIS_9 : oInv S_9 := by rw [eS_9]; exact oInv.A (k := 200) gI tb_2.2 (by decide +kernel)
  have XS_9 : oX [2200] Z S_9 := by rw [eS_9]; exact oX.I (k := 200) (key := 2200) tb_2.2 rfl (List.mem_singleton.mpr rfl)
  have pk_10 : oP S_9 o 0 = some b_2 := by rw [eS_9]; exact hb_2
  have X_11 : oX [2200] Z S_9 := oX.st oX.rf XS_9 (by decide +kernel)
  refine lv_aload_n hx hb dX7_join_25 rfl (lv_at hl 1 rfl) ?_
  have t_12 : oty S_9 o 7 := (oX.ty XS_9 to)
  obtain ⟨q_13, hq_13⟩ := og (cq := cq) t_12.1 (oE_7 t_12.2)
  refine va_get (D := (dC, dI)) (ci := 7) (v := .ref b_2) (C := RX7) (T := TX7) (N := 2) hx hb hts in_wsX7_join_X7 hown hK hP q_13 hq_13 rfl 0 (by decide +kernel) (hts (.fieldLink RX7 9 "ShipOffice$Sea" "miles" "[I") iw_X7_join_1) (fun _ h9 => h9) (o_rd pk_10) dX7_join_26 ?_
  refine lv_iload_n hx hb dX7_join_29 rfl (lv_at hl 3 rfl) ?_
  refine lv_bipush (v := 10) hx hb dX7_join_30 (by decide +kernel) ?_
  refine lv_imul hx hb dX7_join_32 ?_
  refine lv_topi (fun x_14 ex_14 => ?_)
  have hx_14 : x_14.toInt = x2.toInt * 10 := (iv_to ex_14).trans (mu_i rfl (by decide +kernel) (by omega) (by omega))
  clear ex_14
  refine lv_iload_n hx hb dX7_join_33 rfl (lv_at hl 2 rfl) ?_
  refine lv_iadd hx hb dX7_join_34 ?_
  refine lv_topi (fun x_15 ex_15 => ?_)
  have hx_15 : x_15.toInt = x_14.toInt + x1.toInt := (iv_to ex_15).trans (ad_i rfl rfl (by omega) (by omega))
  clear ex_15
  refine lv_iload_n hx hb dX7_join_35 rfl (lv_at hl 4 rfl) ?_
  have t_16 : oty S_9 b_2 200 := (oX.ty XS_9 tb_2)
  obtain ⟨q_17, hq_17⟩ := og (cq := cq) t_16.1 (oE_a1 (n := 100) t_16.2 (by decide +kernel))
  refine va_iast hx hb hK hP hD hS q_17 0 hq_17 rfl (vp_in_iff.mpr (by omega)) dX7_join_36 (fun H locs hP1 hD1 hS => ?_)
  obtain ⟨S_18, eS_18⟩ : ∃ zq, zq = setI S_9 b_2 (x_15 : Int32).toNatClampNeg x3 := ⟨_, rfl⟩
  have hP : va_P (dC, dI) vwCl (oW cq S_18) H := by rw [eS_18]; exact cP (oset t_16.1 hq_17 hD rfl (he_a1 (n := 100) t_16.2 (by decide +kernel)) neI) hP1
  have hD : va_D A (oW cq S_18) := by rw [eS_18]; exact cD (oset t_16.1 hq_17 hD rfl (he_a1 (n := 100) t_16.2 (by decide +kernel)) neI) hD1
  clear hP1 hD1
  have hIS_18 : oInv S_18 := by rw [eS_18]; exact oInv.A (k := 200) hIS_9 t_16.2 (by decide +kernel)
  have XS_18 : oX [2200] S_9 S_18 := by rw [eS_18]; exact oX.I (k := 200) (key := 2200) t_16.2 rfl (List.mem_singleton.mpr rfl)
  have pk_19 : oP S_18 o 0 = some b_2 := by rw [eS_18]; exact pk_10
  have X_20 : oX [2200] Z S_18 := oX.st X_11 XS_18 (by decide +kernel)
  refine lv_iload hx hb dX7_join_37 (lv_at hl 0 rfl) ?_
  exact W.iret (v := x_6) hx hb hr (fun t ht hW => ⟨⟨x_6, S_18, rfl, ⟨hIS_18, X_20, (by intro ml hq; obtain rfl : ml = b_2 := Option.some.inj (hq.symm.trans hb_2); have eb : x_8 = x_4 := Int32.toInt_inj.mp (by omega); exact ⟨x_4, x_15, by omega, by omega, ex_6, by rw [eS_18, setI_fun, eS_9, setI_fun, eb]⟩)⟩, ⟨by rw [ht]; exact hP, va_K.moved hW.alike hK, hD⟩⟩, hS.F ht⟩) hS.2.2 dX7_join_39
set_option maxHeartbeats 4000000 in
set_option maxRecDepth 100000 in
theorem c_X10_miles_f (l : Launch) (dC : Nat → ClassId) (dI : Nat → Nat → Nat) (sz : Nat) (cq : Nat → ClassId) (Z : oS) (gI : oInv Z) (o : Nat) (to : oty Z o 10) (x1 : Int32) (x2 : Int32) (x3 : Int32) : Met l yX10_miles wsX10_miles ({ frames := 1, cells := 0, slots := 0, locals := 24 }) (va_Pc [.ref o, .int x1, .int x2, .int x3] (pcW (dC, dI) (oT cq) (oW cq Z) sz)) (va_Qi (fun (r : Int32) (u : oS) => oInv u ∧ oX [2107, 2200] Z u ∧ (∀ sea ml, oP Z o 10 = some sea → oP Z sea 0 = some ml → gml (oI Z ml) x1 x2 x3 r (oI u ml))) (fun u t => va_P (dC, dI) vwCl (oW cq u) t.heap ∧ va_K (dC, dI) vwCl (oT cq) t ∧ va_D (va_A (oW cq Z) sz) (oW cq u)) (va_A (oW cq Z) sz)) 0 0 (va_A (oW cq Z) sz) := by
  refine Met.ofW (cc := cX10_miles) (maxL := 4) (ret := (some .int)) (by decide +kernel) rfl ?_
  intro p e s m args below meth c s₁ B hml hv
  obtain ⟨rfl, hsz, hP, hK, hD0⟩ := hv
  have hx := B.exec
  have hb := B.bytes
  have hr := B.returns
  have hts := atoms_spec (ws := wsX10_miles) B.pre
  have hown : s.vm.findClass RX10 = some m.cls := findClass_of_methodNamed B.named
  have hlocks := B.notSynchronized
  subst hsz
  have hD := hD0.self (sz := s.heap.size)
  generalize hAe : va_A (oW cq Z) s.heap.size = A at hD ⊢
  have hA : ∀ q : Nat, s.heap.size ≤ q → A q := fun q h => by rw [← hAe]; exact Or.inr h
  have hS : va_S A s.heap s.heap [] := va_S.rf
  have hP : va_P (dC, dI) vwCl (oW cq Z) s.heap := hP
  have hl := lv_entry ([.ref o, .int x1, .int x2, .int x3]) (n := 4) (Nat.le_of_ble_eq_true rfl)
  rw [lg_entry_eq]
  generalize (lg_sl ([.ref o, .int x1, .int x2, .int x3]) ++ List.replicate (4 - (lg_sl ([.ref o, .int x1, .int x2, .int x3])).length) Slot.unset).toArray = ls at hl ⊢
  have hl : lv_has ls 4 [(0, .ref o), (1, .int x1), (2, .int x2), (3, .int x3)] := hl
  refine lv_iload_n hx hb dX10_miles_0 rfl (lv_at hl 1 rfl) ?_
  have hFc : ∀ q, va_A [] s.heap.size q → A q := pu_free hS hA
  have hPc := hP.sub (ws' := []) [] rfl
  have hDc := hD.sub (ws' := []) [] (by decide +kernel) rfl
  have hKc := hK.sub (tys' := []) [] rfl
  refine va_calli (va_runS (As := [.int x1]) (rest := []) ⟨hx, hb, hml, hown, hts⟩ (c_X10_isPort_f l dC dI s.heap.size  x1) (va_cwS 1 hts gX10_miles_X10_isPort rfl rfl rfl (by decide +kernel) ⟨(Nat.le_of_ble_eq_true rfl), (Nat.le_of_ble_eq_true rfl)⟩) (pr_S hPc hKc hDc) rfl rfl hl.1 rfl (lv_room (Nat.le_of_ble_eq_true rfl)) dX10_miles_1 ⟨(Nat.le_of_ble_eq_true rfl), (Nat.le_of_ble_eq_true rfl)⟩) hS (fun q _ h => hFc q h) hFc (fun r_2 u t H locs ht hvm w_1 hB hz1 hk1 hS => ?_)
  have hP := pu_keep hP hk1
  clear hk1 hz1 hvm hB ht hFc hPc hDc hKc
  obtain ⟨hb_3, hx_4⟩ := w_1
  refine lv_if_eq (tgt := 19) hx hb dX10_miles_4 (by decide +kernel) (fun c_5 => ?_) (fun c_5 => ?_)
  · have dc_5 := c_eq (a := r_2.toInt) (b := 0) rfl (by decide +kernel) c_5
    refine lv_aload_n hx hb dX10_miles_19 rfl (lv_at hl 0 rfl) ?_
    refine lv_iconst (v := (-1)) hx hb dX10_miles_20 (by decide +kernel) ?_
    have hFc := o_free hD hS hA
    obtain ⟨q_6, hq_6⟩ := og (cq := cq) to.1 (oE_10 to.2)
    refine va_calli (va_runV (As := [.int (-1)]) (rest := []) ⟨hx, hb, hml, hown, hts⟩ (c_X10_refuse l dC dI H.size cq Z gI o to (-1) (by decide +kernel)) (cwV 1 hts gX10_miles_X10_refuse rfl rfl rfl (by decide +kernel) ⟨(Nat.le_of_ble_eq_true rfl), (Nat.le_of_ble_eq_true rfl)⟩) (pr_V (r := (RX10, TX10, 16)) hP hK hD q_6 10 rfl hq_6) rfl rfl hl.1 rfl (lv_room (Nat.le_of_ble_eq_true rfl)) dX10_miles_21 ⟨(Nat.le_of_ble_eq_true rfl), (Nat.le_of_ble_eq_true rfl)⟩) hS (fun q _ h => hFc q h) hFc (fun r_8 u t H locs ht hvm w_7 hB hz1 hk1 hS => ?_)
    obtain ⟨S_9, rfl⟩ : ∃ z, z = u := ⟨_, rfl⟩
    obtain ⟨hP1, hK1, hD1⟩ := hB
    rw [ht] at hP1
    have hP : va_P (dC, dI) vwCl (oW cq S_9) H := hP1
    have hD : va_D A (oW cq S_9) := hD1.weaken (fun _ _ _ h => hFc _ h)
    clear hP1 hK1 hD1 hk1 hz1 hvm ht hFc
    obtain ⟨hIS_9, XS_9, hb_10, hx_11⟩ := w_7
    have X_12 : oX [2107, 2200] Z S_9 := oX.st oX.rf XS_9 (by decide +kernel)
    have rf_13 : r_8.toInt = -1 := by rw [hx_11]; decide
    exact W.iret (v := r_8) hx hb hr (fun t ht hW => ⟨⟨r_8, S_9, rfl, ⟨hIS_9, X_12, (by intro sea ml h1 h2; have t1 : oty Z sea 7 := oInv.rd gI to.2 h1 rfl rfl; have t2 : oty Z ml 200 := oInv.rd gI t1.2 h2 rfl rfl; rw [oX.f XS_9 t2 (fun _ => nkw (by decide +kernel) (by decide +kernel) (by decide +kernel))]; exact Or.inl ⟨by unfold gmo gok; omega, rfl⟩)⟩, ⟨by rw [ht]; exact hP, va_K.moved hW.alike hK, hD⟩⟩, hS.F ht⟩) hS.2.2 dX10_miles_24
  · have dc_5 := c_ne (a := r_2.toInt) (b := 0) rfl (by decide +kernel) c_5
    refine lv_iload_n hx hb dX10_miles_7 rfl (lv_at hl 2 rfl) ?_
    have hFc : ∀ q, va_A [] H.size q → A q := pu_free hS hA
    have hPc := hP.sub (ws' := []) [] rfl
    have hDc := hD.sub (ws' := []) [] (by decide +kernel) rfl
    have hKc := hK.sub (tys' := []) [] rfl
    refine va_calli (va_runS (As := [.int x2]) (rest := []) ⟨hx, hb, hml, hown, hts⟩ (c_X10_isPort_f l dC dI H.size  x2) (va_cwS 1 hts gX10_miles_X10_isPort rfl rfl rfl (by decide +kernel) ⟨(Nat.le_of_ble_eq_true rfl), (Nat.le_of_ble_eq_true rfl)⟩) (pr_S hPc hKc hDc) rfl rfl hl.1 rfl (lv_room (Nat.le_of_ble_eq_true rfl)) dX10_miles_8 ⟨(Nat.le_of_ble_eq_true rfl), (Nat.le_of_ble_eq_true rfl)⟩) hS (fun q _ h => hFc q h) hFc (fun r_15 u t H locs ht hvm w_14 hB hz1 hk1 hS => ?_)
    have hP := pu_keep hP hk1
    clear hk1 hz1 hvm hB ht hFc hPc hDc hKc
    obtain ⟨hb_16, hx_17⟩ := w_14
    refine lv_if_eq (tgt := 19) hx hb dX10_miles_11 (by decide +kernel) (fun c_18 => ?_) (fun c_18 => ?_)
    · have dc_18 := c_eq (a := r_15.toInt) (b := 0) rfl (by decide +kernel) c_18
      refine lv_aload_n hx hb dX10_miles_19 rfl (lv_at hl 0 rfl) ?_
      refine lv_iconst (v := (-1)) hx hb dX10_miles_20 (by decide +kernel) ?_
      have hFc := o_free hD hS hA
      obtain ⟨q_19, hq_19⟩ := og (cq := cq) to.1 (oE_10 to.2)
      refine va_calli (va_runV (As := [.int (-1)]) (rest := []) ⟨hx, hb, hml, hown, hts⟩ (c_X10_refuse l dC dI H.size cq Z gI o to (-1) (by decide +kernel)) (cwV 1 hts gX10_miles_X10_refuse rfl rfl rfl (by decide +kernel) ⟨(Nat.le_of_ble_eq_true rfl), (Nat.le_of_ble_eq_true rfl)⟩) (pr_V (r := (RX10, TX10, 16)) hP hK hD q_19 10 rfl hq_19) rfl rfl hl.1 rfl (lv_room (Nat.le_of_ble_eq_true rfl)) dX10_miles_21 ⟨(Nat.le_of_ble_eq_true rfl), (Nat.le_of_ble_eq_true rfl)⟩) hS (fun q _ h => hFc q h) hFc (fun r_21 u t H locs ht hvm w_20 hB hz1 hk1 hS => ?_)
      obtain ⟨S_22, rfl⟩ : ∃ z, z = u := ⟨_, rfl⟩
      obtain ⟨hP1, hK1, hD1⟩ := hB
      rw [ht] at hP1
      have hP : va_P (dC, dI) vwCl (oW cq S_22) H := hP1
      have hD : va_D A (oW cq S_22) := hD1.weaken (fun _ _ _ h => hFc _ h)
      clear hP1 hK1 hD1 hk1 hz1 hvm ht hFc
      obtain ⟨hIS_22, XS_22, hb_23, hx_24⟩ := w_20
      have X_25 : oX [2107, 2200] Z S_22 := oX.st oX.rf XS_22 (by decide +kernel)
      have rf_26 : r_21.toInt = -1 := by rw [hx_24]; decide
      exact W.iret (v := r_21) hx hb hr (fun t ht hW => ⟨⟨r_21, S_22, rfl, ⟨hIS_22, X_25, (by intro sea ml h1 h2; have t1 : oty Z sea 7 := oInv.rd gI to.2 h1 rfl rfl; have t2 : oty Z ml 200 := oInv.rd gI t1.2 h2 rfl rfl; rw [oX.f XS_22 t2 (fun _ => nkw (by decide +kernel) (by decide +kernel) (by decide +kernel))]; exact Or.inl ⟨by unfold gmo gok; omega, rfl⟩)⟩, ⟨by rw [ht]; exact hP, va_K.moved hW.alike hK, hD⟩⟩, hS.F ht⟩) hS.2.2 dX10_miles_24
    · have dc_18 := c_ne (a := r_15.toInt) (b := 0) rfl (by decide +kernel) c_18
      refine lv_iload_n hx hb dX10_miles_14 rfl (lv_at hl 1 rfl) ?_
      refine lv_iload_n hx hb dX10_miles_15 rfl (lv_at hl 2 rfl) ?_
      refine lv_icmp_ne (tgt := 25) hx hb dX10_miles_16 (by decide +kernel) (fun c_27 => ?_) (fun c_27 => ?_)
      · have dc_27 := c_ne (a := x1.toInt) (b := x2.toInt) rfl rfl c_27
        refine lv_iload_n hx hb dX10_miles_25 rfl (lv_at hl 3 rfl) ?_
        refine lv_if_ge (tgt := 36) hx hb dX10_miles_26 (by decide +kernel) (fun c_28 => ?_) (fun c_28 => ?_)
        · have dc_28 := c_le (a := 0) (b := x3.toInt) (by decide +kernel) rfl c_28
          refine lv_iload_n hx hb dX10_miles_36 rfl (lv_at hl 3 rfl) ?_
          refine lv_sipush (v := 9999) hx hb dX10_miles_37 (by decide +kernel) ?_
          refine lv_icmp_le (tgt := 50) hx hb dX10_miles_40 (by decide +kernel) (fun c_29 => ?_) (fun c_29 => ?_)
          · have dc_29 := c_le (a := x3.toInt) (b := 9999) rfl (by decide +kernel) c_29
            refine lv_aload_n hx hb dX10_miles_50 rfl (lv_at hl 0 rfl) ?_
            obtain ⟨q_30, hq_30⟩ := og (cq := cq) to.1 (oE_10 to.2)
            obtain ⟨b_31, hb_31⟩ := oInv.nn (i := 10) gI to rfl
            refine va_get (D := (dC, dI)) (ci := 10) (v := .ref b_31) (C := RX10) (T := TX10) (N := 16) hx hb hts in_wsX10_miles_X10 hown hK hP q_30 hq_30 rfl 10 (by decide +kernel) (hts (.fieldLink RX10 44 "ShipOffice" "sea" "LShipOffice$Sea;") iw_X10_miles_1) (fun _ h9 => h9) (o_rd hb_31) dX10_miles_51 ?_
            have tb_31 : oty Z b_31 7 := oInv.rd gI to.2 hb_31 rfl rfl
            refine lv_iload_n hx hb dX10_miles_54 rfl (lv_at hl 1 rfl) ?_
            refine lv_iload_n hx hb dX10_miles_55 rfl (lv_at hl 2 rfl) ?_
            refine lv_iload_n hx hb dX10_miles_56 rfl (lv_at hl 3 rfl) ?_
            have hFc := o_free hD hS hA
            obtain ⟨q_32, hq_32⟩ := og (cq := cq) tb_31.1 (oE_7 tb_31.2)
            refine va_calli (va_runV (As := [.int x1, .int x2, .int x3]) (rest := []) ⟨hx, hb, hml, hown, hts⟩ (c_X7_join_f l dC dI H.size cq Z gI b_31 tb_31 x1 (by omega) x2 (by omega) x3) (cwV 3 hts gX10_miles_X7_join rfl rfl rfl (by decide +kernel) ⟨(Nat.le_of_ble_eq_true rfl), (Nat.le_of_ble_eq_true rfl)⟩) (pr_V (r := (RX7, TX7, 2)) hP hK hD q_32 7 rfl hq_32) rfl rfl hl.1 rfl (lv_room (Nat.le_of_ble_eq_true rfl)) dX10_miles_57 ⟨(Nat.le_of_ble_eq_true rfl), (Nat.le_of_ble_eq_true rfl)⟩) hS (fun q _ h => hFc q h) hFc (fun r_34 u t H locs ht hvm w_33 hB hz1 hk1 hS => ?_)
            obtain ⟨S_35, rfl⟩ : ∃ z, z = u := ⟨_, rfl⟩
            obtain ⟨hP1, hK1, hD1⟩ := hB
            rw [ht] at hP1
            have hP : va_P (dC, dI) vwCl (oW cq S_35) H := hP1
            have hD : va_D A (oW cq S_35) := hD1.weaken (fun _ _ _ h => hFc _ h)
            clear hP1 hK1 hD1 hk1 hz1 hvm ht hFc
            obtain ⟨hIS_35, XS_35, hx_36⟩ := w_33
            have X_37 : oX [2107, 2200] Z S_35 := oX.st oX.rf XS_35 (by decide +kernel)
            exact W.iret (v := r_34) hx hb hr (fun t ht hW => ⟨⟨r_34, S_35, rfl, ⟨hIS_35, X_37, (by intro sea ml h1 h2; have t1 : oty Z sea 7 := oInv.rd gI to.2 h1 rfl rfl; have t2 : oty Z ml 200 := oInv.rd gI t1.2 h2 rfl rfl; obtain rfl : sea = b_31 := Option.some.inj (h1.symm.trans hb_31); obtain ⟨i1, i2, e1, e2, e3, e4⟩ := hx_36 ml h2; exact Or.inr ⟨by unfold gok; omega, by omega, by omega, i1, i2, e1, e2, e3, e4⟩)⟩, ⟨by rw [ht]; exact hP, va_K.moved hW.alike hK, hD⟩⟩, hS.F ht⟩) hS.2.2 dX10_miles_60
          · have dc_29 := c_nle (a := x3.toInt) (b := 9999) rfl (by decide +kernel) c_29
            refine lv_aload_n hx hb dX10_miles_43 rfl (lv_at hl 0 rfl) ?_
            refine lv_bipush (v := (-6)) hx hb dX10_miles_44 (by decide +kernel) ?_
            have hFc := o_free hD hS hA
            obtain ⟨q_38, hq_38⟩ := og (cq := cq) to.1 (oE_10 to.2)
            refine va_calli (va_runV (As := [.int (-6)]) (rest := []) ⟨hx, hb, hml, hown, hts⟩ (c_X10_refuse l dC dI H.size cq Z gI o to (-6) (by decide +kernel)) (cwV 1 hts gX10_miles_X10_refuse rfl rfl rfl (by decide +kernel) ⟨(Nat.le_of_ble_eq_true rfl), (Nat.le_of_ble_eq_true rfl)⟩) (pr_V (r := (RX10, TX10, 16)) hP hK hD q_38 10 rfl hq_38) rfl rfl hl.1 rfl (lv_room (Nat.le_of_ble_eq_true rfl)) dX10_miles_46 ⟨(Nat.le_of_ble_eq_true rfl), (Nat.le_of_ble_eq_true rfl)⟩) hS (fun q _ h => hFc q h) hFc (fun r_40 u t H locs ht hvm w_39 hB hz1 hk1 hS => ?_)
            obtain ⟨S_41, rfl⟩ : ∃ z, z = u := ⟨_, rfl⟩
            obtain ⟨hP1, hK1, hD1⟩ := hB
            rw [ht] at hP1
            have hP : va_P (dC, dI) vwCl (oW cq S_41) H := hP1
            have hD : va_D A (oW cq S_41) := hD1.weaken (fun _ _ _ h => hFc _ h)
            clear hP1 hK1 hD1 hk1 hz1 hvm ht hFc
            obtain ⟨hIS_41, XS_41, hb_42, hx_43⟩ := w_39
            have X_44 : oX [2107, 2200] Z S_41 := oX.st oX.rf XS_41 (by decide +kernel)
            have rf_45 : r_40.toInt = -6 := by rw [hx_43]; decide
            exact W.iret (v := r_40) hx hb hr (fun t ht hW => ⟨⟨r_40, S_41, rfl, ⟨hIS_41, X_44, (by intro sea ml h1 h2; have t1 : oty Z sea 7 := oInv.rd gI to.2 h1 rfl rfl; have t2 : oty Z ml 200 := oInv.rd gI t1.2 h2 rfl rfl; rw [oX.f XS_41 t2 (fun _ => nkw (by decide +kernel) (by decide +kernel) (by decide +kernel))]; exact Or.inl ⟨by unfold gmo gok; omega, rfl⟩)⟩, ⟨by rw [ht]; exact hP, va_K.moved hW.alike hK, hD⟩⟩, hS.F ht⟩) hS.2.2 dX10_miles_49
        · have dc_28 := c_nle (a := 0) (b := x3.toInt) (by decide +kernel) rfl c_28
          refine lv_aload_n hx hb dX10_miles_29 rfl (lv_at hl 0 rfl) ?_
          refine lv_bipush (v := (-4)) hx hb dX10_miles_30 (by decide +kernel) ?_
          have hFc := o_free hD hS hA
          obtain ⟨q_46, hq_46⟩ := og (cq := cq) to.1 (oE_10 to.2)
          refine va_calli (va_runV (As := [.int (-4)]) (rest := []) ⟨hx, hb, hml, hown, hts⟩ (c_X10_refuse l dC dI H.size cq Z gI o to (-4) (by decide +kernel)) (cwV 1 hts gX10_miles_X10_refuse rfl rfl rfl (by decide +kernel) ⟨(Nat.le_of_ble_eq_true rfl), (Nat.le_of_ble_eq_true rfl)⟩) (pr_V (r := (RX10, TX10, 16)) hP hK hD q_46 10 rfl hq_46) rfl rfl hl.1 rfl (lv_room (Nat.le_of_ble_eq_true rfl)) dX10_miles_32 ⟨(Nat.le_of_ble_eq_true rfl), (Nat.le_of_ble_eq_true rfl)⟩) hS (fun q _ h => hFc q h) hFc (fun r_48 u t H locs ht hvm w_47 hB hz1 hk1 hS => ?_)
          obtain ⟨S_49, rfl⟩ : ∃ z, z = u := ⟨_, rfl⟩
          obtain ⟨hP1, hK1, hD1⟩ := hB
          rw [ht] at hP1
          have hP : va_P (dC, dI) vwCl (oW cq S_49) H := hP1
          have hD : va_D A (oW cq S_49) := hD1.weaken (fun _ _ _ h => hFc _ h)
          clear hP1 hK1 hD1 hk1 hz1 hvm ht hFc
          obtain ⟨hIS_49, XS_49, hb_50, hx_51⟩ := w_47
          have X_52 : oX [2107, 2200] Z S_49 := oX.st oX.rf XS_49 (by decide +kernel)
          have rf_53 : r_48.toInt = -4 := by rw [hx_51]; decide
          exact W.iret (v := r_48) hx hb hr (fun t ht hW => ⟨⟨r_48, S_49, rfl, ⟨hIS_49, X_52, (by intro sea ml h1 h2; have t1 : oty Z sea 7 := oInv.rd gI to.2 h1 rfl rfl; have t2 : oty Z ml 200 := oInv.rd gI t1.2 h2 rfl rfl; rw [oX.f XS_49 t2 (fun _ => nkw (by decide +kernel) (by decide +kernel) (by decide +kernel))]; exact Or.inl ⟨by unfold gmo gok; omega, rfl⟩)⟩, ⟨by rw [ht]; exact hP, va_K.moved hW.alike hK, hD⟩⟩, hS.F ht⟩) hS.2.2 dX10_miles_35
      · have dc_27 := c_eq (a := x1.toInt) (b := x2.toInt) rfl rfl c_27
        refine lv_aload_n hx hb dX10_miles_19 rfl (lv_at hl 0 rfl) ?_
        refine lv_iconst (v := (-1)) hx hb dX10_miles_20 (by decide +kernel) ?_
        have hFc := o_free hD hS hA
        obtain ⟨q_54, hq_54⟩ := og (cq := cq) to.1 (oE_10 to.2)
        refine va_calli (va_runV (As := [.int (-1)]) (rest := []) ⟨hx, hb, hml, hown, hts⟩ (c_X10_refuse l dC dI H.size cq Z gI o to (-1) (by decide +kernel)) (cwV 1 hts gX10_miles_X10_refuse rfl rfl rfl (by decide +kernel) ⟨(Nat.le_of_ble_eq_true rfl), (Nat.le_of_ble_eq_true rfl)⟩) (pr_V (r := (RX10, TX10, 16)) hP hK hD q_54 10 rfl hq_54) rfl rfl hl.1 rfl (lv_room (Nat.le_of_ble_eq_true rfl)) dX10_miles_21 ⟨(Nat.le_of_ble_eq_true rfl), (Nat.le_of_ble_eq_true rfl)⟩) hS (fun q _ h => hFc q h) hFc (fun r_56 u t H locs ht hvm w_55 hB hz1 hk1 hS => ?_)
        obtain ⟨S_57, rfl⟩ : ∃ z, z = u := ⟨_, rfl⟩
        obtain ⟨hP1, hK1, hD1⟩ := hB
        rw [ht] at hP1
        have hP : va_P (dC, dI) vwCl (oW cq S_57) H := hP1
        have hD : va_D A (oW cq S_57) := hD1.weaken (fun _ _ _ h => hFc _ h)
        clear hP1 hK1 hD1 hk1 hz1 hvm ht hFc
        obtain ⟨hIS_57, XS_57, hb_58, hx_59⟩ := w_55
        have X_60 : oX [2107, 2200] Z S_57 := oX.st oX.rf XS_57 (by decide +kernel)
        have rf_61 : r_56.toInt = -1 := by rw [hx_59]; decide
        exact W.iret (v := r_56) hx hb hr (fun t ht hW => ⟨⟨r_56, S_57, rfl, ⟨hIS_57, X_60, (by intro sea ml h1 h2; have t1 : oty Z sea 7 := oInv.rd gI to.2 h1 rfl rfl; have t2 : oty Z ml 200 := oInv.rd gI t1.2 h2 rfl rfl; rw [oX.f XS_57 t2 (fun _ => nkw (by decide +kernel) (by decide +kernel) (by decide +kernel))]; exact Or.inl ⟨by unfold gmo gok; omega, rfl⟩)⟩, ⟨by rw [ht]; exact hP, va_K.moved hW.alike hK, hD⟩⟩, hS.F ht⟩) hS.2.2 dX10_miles_24