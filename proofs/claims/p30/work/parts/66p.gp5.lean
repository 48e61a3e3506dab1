


set_option maxHeartbeats 4000000 in
set_option maxRecDepth 100000 in
theorem c_X10_group_c (l : Launch) (dC : Nat → ClassId) (dI : Nat → Nat → Nat) (sz : Nat) (cq : Nat → ClassId) (Z : oS) (gI : oInv Z) (o : Nat) (to : oty Z o 10) (x1 : Int32) (v : Nat → Int32) (fa : Nat → Nat → Int32) (hR : RC Z o v fa) (hG : rGr Z o v fa) : Met l yX10_group wsX10_group ({ frames := 1, cells := 0, slots := 0, locals := 21 }) (va_Pc [.ref o, .int x1] (pcW (dC, dI) (oT cq) (oW cq Z) sz)) (va_Qi (fun (r : Int32) (u : oS) => oInv u ∧ oX [2107] Z u ∧ (grA v fa x1.toInt r.toInt ∧ rHo Z o u r (¬ (0 ≤ x1.toInt ∧ x1.toInt < (v 39).toInt)))) (fun u t => va_P (dC, dI) vwCl (oW cq u) t.heap ∧ va_K (dC, dI) vwCl (oT cq) t ∧ va_D (va_A (oW cq Z) sz) (oW cq u)) (va_A (oW cq Z) sz)) 0 0 (va_A (oW cq Z) sz) := by
  refine Met.ofW (cc := cX10_group) (maxL := 3) (ret := (some .int)) (by decide) rfl ?_
  intro p e s m args below meth c s₁ B hml hv
  obtain ⟨rfl, hsz, hP, hK, hD0⟩ := hv
  have hx := B.exec
  have hb := B.bytes
  have hr := B.returns
  have hts := atoms_spec (ws := wsX10_group) B.pre
  have hown : s.vm.findClass RX10 = some m.cls := findClass_of_methodNamed B.named
  have hlocks := B.notSynchronized
  subst hsz
  have hD := hD0.self (sz := s.heap.size)
  generalize hAe : va_A (oW cq Z) s.heap.size = A at hD ⊢
  have hA : ∀ q : Nat, s.heap.size ≤ q → A q := fun q h => by rw [← hAe]; exact Or.inr h
  have hS : va_S A s.heap s.heap [] := va_S.rf
  have hP : va_P (dC, dI) vwCl (oW cq Z) s.heap := hP
  have hl := lv_entry ([.ref o, .int x1]) (n := 3) (Nat.le_of_ble_eq_true rfl)
  rw [lg_entry_eq]
  generalize (lg_sl ([.ref o, .int x1]) ++ List.replicate (3 - (lg_sl ([.ref o, .int x1])).length) Slot.unset).toArray = ls at hl ⊢
  have hl : lv_has ls 3 [(0, .ref o), (1, .int x1)] := hl
  obtain ⟨fn0, fn1, fn2, fn3, fn4⟩ := RC.n hR
  have fb38 : 0 ≤ (v 38).toInt ∧ (v 38).toInt ≤ 3000 := RC.V hR 38
  have fb39 : 0 ≤ (v 39).toInt ∧ (v 39).toInt ≤ 40 := RC.V hR 39
  have fb40 : 0 ≤ (v 40).toInt ∧ (v 40).toInt ≤ 20 := RC.V hR 40
  have fb43 : 0 ≤ (v 43).toInt ∧ (v 43).toInt ≤ 60 := RC.V hR 43
  have fb41 : 0 ≤ (v 41).toInt ∧ (v 41).toInt ≤ 200 := RC.V hR 41
  refine lv_aload_n hx hb dX10_group_0 rfl (lv_at hl 0 rfl) ?_
  refine lv_iload_n hx hb dX10_group_1 rfl (lv_at hl 1 rfl) ?_
  have hFc : ∀ q, va_A [] s.heap.size q → A q := pu_free hS hA
  obtain ⟨q_1, hq_1⟩ := og (cq := cq) to.1 (oE_10 to.2)
  refine va_callq (va_runV (As := [.int x1]) (rest := []) ⟨hx, hb, hml, hown, hts⟩ (c_X10_manAt_c l dC dI s.heap.size cq Z gI o to x1 v fa hR) (cwV 1 hts gX10_group_X10_manAt rfl rfl rfl (by decide +kernel) ⟨(Nat.le_of_ble_eq_true rfl), (Nat.le_of_ble_eq_true rfl)⟩) (pr_V (r := (RX10, TX10, 16)) hP hK hD q_1 10 rfl hq_1) rfl rfl hl.1 rfl (lv_room (Nat.le_of_ble_eq_true rfl)) dX10_group_2 ⟨(Nat.le_of_ble_eq_true rfl), (Nat.le_of_ble_eq_true rfl)⟩) hS (fun q _ h => hFc q h) hFc (fun r_3 u t H locs ht hvm w_2 hB hz1 hk1 hS => ?_)
  have hP := pu_keep hP hk1
  clear hk1 hz1 hvm hB ht hFc
  obtain ⟨hk_4, hx_5⟩ := w_2
  rcases r_3 with _ | b_6
  · refine W.eq (g2 := F0 m 5 ls [.null]) rfl ?_
    have hnr_3 := atF_n hx_5
    refine lv_astore_nN (lv' := [(2, .null), (0, .ref o), (1, .int x1)]) hx hb dX10_group_5 rfl hl (by decide) rfl (fun ls hl => ?_)
    refine lv_aload_nN hx hb dX10_group_6 rfl (lv_at hl 0 rfl) ?_
    refine lv_ifnonnullN hx hb dX10_group_7 ?_
    refine lv_aload_n hx hb dX10_group_10 rfl (lv_at hl 1 rfl) ?_
    refine lv_iconst (v := (-1)) hx hb dX10_group_11 (by decide) ?_
    have hFc := o_free hD hS hA
    refine va_calli (va_runV (As := [.int (-1)]) (rest := []) ⟨hx, hb, hml, hown, hts⟩ (c_X10_refuse_c l dC dI H.size cq Z gI o to (-1) (by decide)) (cwV 1 hts gX10_group_X10_refuse rfl rfl rfl (by decide +kernel) ⟨(Nat.le_of_ble_eq_true rfl), (Nat.le_of_ble_eq_true rfl)⟩) (pr_V (r := (RX10, TX10, 16)) hP hK hD q_1 10 rfl hq_1) rfl rfl hl.1 rfl (lv_room (Nat.le_of_ble_eq_true rfl)) dX10_group_12 ⟨(Nat.le_of_ble_eq_true rfl), (Nat.le_of_ble_eq_true rfl)⟩) hS (fun q _ h => hFc q h) hFc (fun r_8 u t H locs ht hvm w_7 hB hz1 hk1 hS => ?_)
    obtain ⟨S_9, rfl⟩ : ∃ z, z = u := ⟨_, rfl⟩
    obtain ⟨hP1, hK1, hD1⟩ := hB
    rw [ht] at hP1
    have hP : va_P (dC, dI) vwCl (oW cq S_9) H := hP1
    have hD : va_D A (oW cq S_9) := hD1.weaken (fun _ _ _ h => hFc _ h)
    clear hP1 hK1 hD1 hk1 hz1 hvm ht hFc
    obtain ⟨hIS_9, XS_9, hb_10, hx_11⟩ := w_7
    have X_12 : oX [2107] Z S_9 := oX.st oX.rf XS_9 (by decide)
    have rf_13 : r_8.toInt = -1 := by rw [hx_11.1]; decide
    refine lv_goto (tgt := 22) hx hb dX10_group_15 (by decide) ?_
    exact W.iret (v := r_8) hx hb hr (fun t ht hW => ⟨⟨r_8, S_9, rfl, ⟨hIS_9, X_12, ⟨Or.inl ⟨by omega, by omega⟩, Or.inl ⟨by omega, by rw [hx_11.1]; exact hx_11.2⟩⟩⟩, ⟨by rw [ht]; exact hP, va_K.moved hW.alike hK, hD⟩⟩, hS.F ht⟩) hS.2.2 dX10_group_22
  · refine W.eq (g2 := F0 m 5 ls [.ref b_6]) rfl ?_
    have tb_6 : oty Z b_6 6 := hk_4 b_6 rfl
    obtain ⟨hjb_6, ejb_6⟩ := atF_s hx_5
    have ljb_6 := ni_lt hjb_6.1 hjb_6.2
    have njb_6 := tn_i hjb_6.1
    have fMb_6 := RC.m hR ljb_6
    rw [← ejb_6] at fMb_6
    obtain ⟨fz0b_6, fz1b_6, fz2b_6, fz3b_6⟩ := fMb_6
    rw [njb_6] at fz0b_6
    refine lv_astore_n (lv' := [(2, .ref b_6), (0, .ref o), (1, .int x1)]) hx hb dX10_group_5 rfl hl (by decide) rfl (fun ls hl => ?_)
    refine lv_aload_n hx hb dX10_group_6 rfl (lv_at hl 0 rfl) ?_
    refine lv_ifnonnull (tgt := 18) hx hb dX10_group_7 (by decide) ?_
    refine lv_aload_n hx hb dX10_group_18 rfl (lv_at hl 0 rfl) ?_
    obtain ⟨q_14, hq_14⟩ := og (cq := cq) tb_6.1 (oE_6 tb_6.2)
    refine va_get (D := (dC, dI)) (ci := 6) (v := .int (oI Z b_6 5)) (C := RX6) (T := TX6) (N := 6) hx hb hts in_wsX10_group_X6 hown hK hP q_14 hq_14 rfl 5 (by decide) (hts (.fieldLink RX10 311 "ShipOffice$Man" "leastAlike" "I") iw_X10_group_1) (fun _ h9 => h9) rfl dX10_group_19 ?_
    refine lv_topi (fun x_15 ex_15 => ?_)
    have gx_15 : x_15.toInt = (oI Z b_6 5).toInt := iv_to ex_15
    clear ex_15
    exact W.iret (v := x_15) hx hb hr (fun t ht hW => ⟨⟨x_15, Z, rfl, ⟨gI, oX.rf, ⟨Or.inr ⟨by omega, lbO Z o, grL_o hR hG, (show x_15.toInt = (oI Z (mnA Z o x1.toNatClampNeg) 5).toInt by rw [← ejb_6]; omega)⟩, Or.inr ⟨by omega, oX.rf⟩⟩⟩, ⟨by rw [ht]; exact hP, va_K.moved hW.alike hK, hD⟩⟩, hS.F ht⟩) hS.2.2 dX10_group_22
set_option maxHeartbeats 4000000 in
set_option maxRecDepth 100000 in
theorem c_X10_borrowed_c (l : Launch) (dC : Nat → ClassId) (dI : Nat → Nat → Nat) (sz : Nat) (cq : Nat → ClassId) (Z : oS) (gI : oInv Z) (o : Nat) (to : oty Z o 10) (x1 : Int32) (v : Nat → Int32) (fa : Nat → Nat → Int32) (hR : RC Z o v fa) (hG : rGr Z o v fa) : Met l yX10_borrowed wsX10_borrowed ({ frames := 2, cells := 0, slots := 0, locals := 44 }) (va_Pc [.ref o, .int x1] (pcW (dC, dI) (oT cq) (oW cq Z) sz)) (va_Qi (fun (r : Int32) (u : oS) => oInv u ∧ oX [2107] Z u ∧ (boA v fa x1.toInt r.toInt ∧ rHo Z o u r (¬ (0 ≤ x1.toInt ∧ x1.toInt < (v 43).toInt)))) (fun u t => va_P (dC, dI) vwCl (oW cq u) t.heap ∧ va_K (dC, dI) vwCl (oT cq) t ∧ va_D (va_A (oW cq Z) sz) (oW cq u)) (va_A (oW cq Z) sz)) 0 0 (va_A (oW cq Z) sz) := by
  refine Met.ofW (cc := cX10_borrowed) (maxL := 3) (ret := (some .int)) (by decide) rfl ?_
  intro p e s m args below meth c s₁ B hml hv
  obtain ⟨rfl, hsz, hP, hK, hD0⟩ := hv
  have hx := B.exec
  have hb := B.bytes
  have hr := B.returns
  have hts := atoms_spec (ws := wsX10_borrowed) B.pre
  have hown : s.vm.findClass RX10 = some m.cls := findClass_of_methodNamed B.named
  have hlocks := B.notSynchronized
  subst hsz
  have hD := hD0.self (sz := s.heap.size)
  generalize hAe : va_A (oW cq Z) s.heap.size = A at hD ⊢
  have hA : ∀ q : Nat, s.heap.size ≤ q → A q := fun q h => by rw [← hAe]; exact Or.inr h
  have hS : va_S A s.heap s.heap [] := va_S.rf
  have hP : va_P (dC, dI) vwCl (oW cq Z) s.heap := hP
  have hl := lv_entry ([.ref o, .int x1]) (n := 3) (Nat.le_of_ble_eq_true rfl)
  rw [lg_entry_eq]
  generalize (lg_sl ([.ref o, .int x1]) ++ List.replicate (3 - (lg_sl ([.ref o, .int x1])).length) Slot.unset).toArray = ls at hl ⊢
  have hl : lv_has ls 3 [(0, .ref o), (1, .int x1)] := hl
  obtain ⟨fn0, fn1, fn2, fn3, fn4⟩ := RC.n hR
  have fb38 : 0 ≤ (v 38).toInt ∧ (v 38).toInt ≤ 3000 := RC.V hR 38
  have fb39 : 0 ≤ (v 39).toInt ∧ (v 39).toInt ≤ 40 := RC.V hR 39
  have fb40 : 0 ≤ (v 40).toInt ∧ (v 40).toInt ≤ 20 := RC.V hR 40
  have fb43 : 0 ≤ (v 43).toInt ∧ (v 43).toInt ≤ 60 := RC.V hR 43
  have fb41 : 0 ≤ (v 41).toInt ∧ (v 41).toInt ≤ 200 := RC.V hR 41
  refine lv_aload_n hx hb dX10_borrowed_0 rfl (lv_at hl 0 rfl) ?_
  refine lv_iload_n hx hb dX10_borrowed_1 rfl (lv_at hl 1 rfl) ?_
  have hFc : ∀ q, va_A [] s.heap.size q → A q := pu_free hS hA
  obtain ⟨q_1, hq_1⟩ := og (cq := cq) to.1 (oE_10 to.2)
  refine va_callq (va_runV (As := [.int x1]) (rest := []) ⟨hx, hb, hml, hown, hts⟩ (c_X10_agreementAt_c l dC dI s.heap.size cq Z gI o to x1 v fa hR) (cwV 1 hts gX10_borrowed_X10_agreementAt rfl rfl rfl (by decide +kernel) ⟨(Nat.le_of_ble_eq_true rfl), (Nat.le_of_ble_eq_true rfl)⟩) (pr_V (r := (RX10, TX10, 16)) hP hK hD q_1 10 rfl hq_1) rfl rfl hl.1 rfl (lv_room (Nat.le_of_ble_eq_true rfl)) dX10_borrowed_2 ⟨(Nat.le_of_ble_eq_true rfl), (Nat.le_of_ble_eq_true rfl)⟩) hS (fun q _ h => hFc q h) hFc (fun r_3 u t H locs ht hvm w_2 hB hz1 hk1 hS => ?_)
  have hP := pu_keep hP hk1
  clear hk1 hz1 hvm hB ht hFc
  obtain ⟨hk_4, hx_5⟩ := w_2
  rcases r_3 with _ | b_6
  · refine W.eq (g2 := F0 m 5 ls [.null]) rfl ?_
    have hnr_3 := atF_n hx_5
    refine lv_astore_nN (lv' := [(2, .null), (0, .ref o), (1, .int x1)]) hx hb dX10_borrowed_5 rfl hl (by decide) rfl (fun ls hl => ?_)
    refine lv_aload_nN hx hb dX10_borrowed_6 rfl (lv_at hl 0 rfl) ?_
    refine lv_ifnonnullN hx hb dX10_borrowed_7 ?_
    refine lv_aload_n hx hb dX10_borrowed_10 rfl (lv_at hl 1 rfl) ?_
    refine lv_iconst (v := (-1)) hx hb dX10_borrowed_11 (by decide) ?_
    have hFc := o_free hD hS hA
    refine va_calli (va_runV (As := [.int (-1)]) (rest := []) ⟨hx, hb, hml, hown, hts⟩ (c_X10_refuse_c l dC dI H.size cq Z gI o to (-1) (by decide)) (cwV 1 hts gX10_borrowed_X10_refuse rfl rfl rfl (by decide +kernel) ⟨(Nat.le_of_ble_eq_true rfl), (Nat.le_of_ble_eq_true rfl)⟩) (pr_V (r := (RX10, TX10, 16)) hP hK hD q_1 10 rfl hq_1) rfl rfl hl.1 rfl (lv_room (Nat.le_of_ble_eq_true rfl)) dX10_borrowed_12 ⟨(Nat.le_of_ble_eq_true rfl), (Nat.le_of_ble_eq_true rfl)⟩) hS (fun q _ h => hFc q h) hFc (fun r_8 u t H locs ht hvm w_7 hB hz1 hk1 hS => ?_)
    obtain ⟨S_9, rfl⟩ : ∃ z, z = u := ⟨_, rfl⟩
    obtain ⟨hP1, hK1, hD1⟩ := hB
    rw [ht] at hP1
    have hP : va_P (dC, dI) vwCl (oW cq S_9) H := hP1
    have hD : va_D A (oW cq S_9) := hD1.weaken (fun _ _ _ h => hFc _ h)
    clear hP1 hK1 hD1 hk1 hz1 hvm ht hFc
    obtain ⟨hIS_9, XS_9, hb_10, hx_11⟩ := w_7
    have X_12 : oX [2107] Z S_9 := oX.st oX.rf XS_9 (by decide)
    have rf_13 : r_8.toInt = -1 := by rw [hx_11.1]; decide
    exact W.iret (v := r_8) hx hb hr (fun t ht hW => ⟨⟨r_8, S_9, rfl, ⟨hIS_9, X_12, ⟨Or.inl ⟨by omega, by omega⟩, Or.inl ⟨by omega, by rw [hx_11.1]; exact hx_11.2⟩⟩⟩, ⟨by rw [ht]; exact hP, va_K.moved hW.alike hK, hD⟩⟩, hS.F ht⟩) hS.2.2 dX10_borrowed_15
  · refine W.eq (g2 := F0 m 5 ls [.ref b_6]) rfl ?_
    have tb_6 : oty Z b_6 1 := hk_4 b_6 rfl
    obtain ⟨hjb_6, ejb_6⟩ := atF_s hx_5
    have ljb_6 := ni_lt hjb_6.1 hjb_6.2
    have njb_6 := tn_i hjb_6.1
    have fAb_6 := RC.a hR ljb_6
    rw [← ejb_6] at fAb_6
    obtain ⟨⟨fm1b_6, fm2b_6, fm3b_6⟩, ⟨fv1b_6, fv2b_6, fv3b_6⟩, fsib_6, fppb_6, fwgb_6, frkb_6, fofb_6, fdeb_6, fchb_6⟩ := fAb_6
    have fBb_6 : 0 ≤ (fa 25 x1.toNatClampNeg).toInt ∧ (fa 25 x1.toNatClampNeg).toInt ≤ 3000 := RC.A hR 25 _
    have lamb_6 : (fa 20 x1.toNatClampNeg).toNatClampNeg < (v 39).toNatClampNeg := ni_lt fm1b_6 fm2b_6
    have namb_6 : (((fa 20 x1.toNatClampNeg).toNatClampNeg : Nat) : Int) = (fa 20 x1.toNatClampNeg).toInt := tn_i fm1b_6
    obtain ⟨amb_6, eamb_6⟩ : ∃ z, z = mnA Z o (fa 20 x1.toNatClampNeg).toNatClampNeg := ⟨_, rfl⟩
    rw [← eamb_6] at fm3b_6
    have tamb_6 : oty Z amb_6 6 := by rw [eamb_6]; exact (RC.tm hR gI to lamb_6).2
    have fMamb_6 := RC.m hR lamb_6
    rw [← eamb_6] at fMamb_6
    obtain ⟨fz0amb_6, fz1amb_6, fz2amb_6, fz3amb_6⟩ := fMamb_6
    rw [namb_6] at fz0amb_6
    have lavb_6 : (fa 21 x1.toNatClampNeg).toNatClampNeg < (v 40).toNatClampNeg := ni_lt fv1b_6 fv2b_6
    have navb_6 : (((fa 21 x1.toNatClampNeg).toNatClampNeg : Nat) : Int) = (fa 21 x1.toNatClampNeg).toInt := tn_i fv1b_6
    obtain ⟨avb_6, eavb_6⟩ : ∃ z, z = voA Z o (fa 21 x1.toNatClampNeg).toNatClampNeg := ⟨_, rfl⟩
    rw [← eavb_6] at fv3b_6
    have tavb_6 : oty Z avb_6 9 := by rw [eavb_6]; exact (RC.tv hR gI to lavb_6).2
    have fVavb_6 := RC.vo hR lavb_6
    rw [← eavb_6] at fVavb_6
    obtain ⟨fy0avb_6, fy1avb_6, fy2avb_6, fy3avb_6, fy4avb_6, fySavb_6, fyLavb_6, fyhavb_6⟩ := fVavb_6
    have fBavb_6 : 0 ≤ (fa 7 ((fa 21 x1.toNatClampNeg).toNatClampNeg)).toInt ∧ (fa 7 ((fa 21 x1.toNatClampNeg).toNatClampNeg)).toInt ≤ 3000 := RC.A hR 7 _
    have fSavb_6 := onc_i fySavb_6
    have fLavb_6 := onc_i fyLavb_6
    rw [navb_6] at fy0avb_6 fSavb_6 fLavb_6
    refine lv_astore_n (lv' := [(2, .ref b_6), (0, .ref o), (1, .int x1)]) hx hb dX10_borrowed_5 rfl hl (by decide) rfl (fun ls hl => ?_)
    refine lv_aload_n hx hb dX10_borrowed_6 rfl (lv_at hl 0 rfl) ?_
    refine lv_ifnonnull (tgt := 16) hx hb dX10_borrowed_7 (by decide) ?_
    refine lv_aload_n hx hb dX10_borrowed_16 rfl (lv_at hl 0 rfl) ?_
    obtain ⟨q_14, hq_14⟩ := og (cq := cq) tb_6.1 (oE_1 tb_6.2)
    rcases hb_16 : oP Z b_6 3 with _ | b_15
    · refine va_get (D := (dC, dI)) (ci := 1) (v := .null) (C := RX1) (T := TX1) (N := 18) hx hb hts in_wsX10_borrowed_X1 hown hK hP q_14 hq_14 rfl 3 (by decide) (hts (.fieldLink RX10 314 "ShipOffice$Agreement" "paper" "LShipOffice$Agreement;") iw_X10_borrowed_1) (fun _ h9 => h9) (o_rd hb_16) dX10_borrowed_17 ?_
      have pn9 := fpp_n fppb_6 hb_16 (by simp)
      refine lv_ifnonnullN hx hb dX10_borrowed_20 ?_
      refine lv_iconst (v := 0) hx hb dX10_borrowed_23 (by decide) ?_
      exact W.iret (v := 0) hx hb hr (fun t ht hW => ⟨⟨0, Z, rfl, ⟨gI, oX.rf, ⟨Or.inr ⟨by omega, Or.inl ⟨show (fa 24 x1.toNatClampNeg).toInt < 0 by omega, by decide⟩⟩, Or.inr ⟨by omega, oX.rf⟩⟩⟩, ⟨by rw [ht]; exact hP, va_K.moved hW.alike hK, hD⟩⟩, hS.F ht⟩) hS.2.2 dX10_borrowed_24
    · refine va_get (D := (dC, dI)) (ci := 1) (v := .ref b_15) (C := RX1) (T := TX1) (N := 18) hx hb hts in_wsX10_borrowed_X1 hown hK hP q_14 hq_14 rfl 3 (by decide) (hts (.fieldLink RX10 314 "ShipOffice$Agreement" "paper" "LShipOffice$Agreement;") iw_X10_borrowed_1) (fun _ h9 => h9) (o_rd hb_16) dX10_borrowed_17 ?_
      have tb_15 : oty Z b_15 1 := oInv.rd gI tb_6.2 hb_16 rfl rfl
      obtain ⟨p09, p19, p29⟩ := fpp_s fppb_6 hb_16
      have pl9 := lpp p09 p19 ljb_6
      have fAb_15 := RC.a hR pl9
      rw [← p29] at fAb_15
      obtain ⟨⟨fm1b_15, fm2b_15, fm3b_15⟩, ⟨fv1b_15, fv2b_15, fv3b_15⟩, fsib_15, fppb_15, fwgb_15, frkb_15, fofb_15, fdeb_15, fchb_15⟩ := fAb_15
      have fBb_15 : 0 ≤ (fa 25 ((fa 24 x1.toNatClampNeg).toNatClampNeg)).toInt ∧ (fa 25 ((fa 24 x1.toNatClampNeg).toNatClampNeg)).toInt ≤ 3000 := RC.A hR 25 _
      have lamb_15 : (fa 20 ((fa 24 x1.toNatClampNeg).toNatClampNeg)).toNatClampNeg < (v 39).toNatClampNeg := ni_lt fm1b_15 fm2b_15
      have namb_15 : (((fa 20 ((fa 24 x1.toNatClampNeg).toNatClampNeg)).toNatClampNeg : Nat) : Int) = (fa 20 ((fa 24 x1.toNatClampNeg).toNatClampNeg)).toInt := tn_i fm1b_15
      obtain ⟨amb_15, eamb_15⟩ : ∃ z, z = mnA Z o (fa 20 ((fa 24 x1.toNatClampNeg).toNatClampNeg)).toNatClampNeg := ⟨_, rfl⟩
      rw [← eamb_15] at fm3b_15
      have tamb_15 : oty Z amb_15 6 := by rw [eamb_15]; exact (RC.tm hR gI to lamb_15).2
      have fMamb_15 := RC.m hR lamb_15
      rw [← eamb_15] at fMamb_15
      obtain ⟨fz0amb_15, fz1amb_15, fz2amb_15, fz3amb_15⟩ := fMamb_15
      rw [namb_15] at fz0amb_15
      have lavb_15 : (fa 21 ((fa 24 x1.toNatClampNeg).toNatClampNeg)).toNatClampNeg < (v 40).toNatClampNeg := ni_lt fv1b_15 fv2b_15
      have navb_15 : (((fa 21 ((fa 24 x1.toNatClampNeg).toNatClampNeg)).toNatClampNeg : Nat) : Int) = (fa 21 ((fa 24 x1.toNatClampNeg).toNatClampNeg)).toInt := tn_i fv1b_15
      obtain ⟨avb_15, eavb_15⟩ : ∃ z, z = voA Z o (fa 21 ((fa 24 x1.toNatClampNeg).toNatClampNeg)).toNatClampNeg := ⟨_, rfl⟩
      rw [← eavb_15] at fv3b_15
      have tavb_15 : oty Z avb_15 9 := by rw [eavb_15]; exact (RC.tv hR gI to lavb_15).2
      have fVavb_15 := RC.vo hR lavb_15
      rw [← eavb_15] at fVavb_15
      obtain ⟨fy0avb_15, fy1avb_15, fy2avb_15, fy3avb_15, fy4avb_15, fySavb_15, fyLavb_15, fyhavb_15⟩ := fVavb_15
      have fBavb_15 : 0 ≤ (fa 7 ((fa 21 ((fa 24 x1.toNatClampNeg).toNatClampNeg)).toNatClampNeg)).toInt ∧ (fa 7 ((fa 21 ((fa 24 x1.toNatClampNeg).toNatClampNeg)).toNatClampNeg)).toInt ≤ 3000 := RC.A hR 7 _
      have fSavb_15 := onc_i fySavb_15
      have fLavb_15 := onc_i fyLavb_15
      rw [navb_15] at fy0avb_15 fSavb_15 fLavb_15
      refine lv_ifnonnull (tgt := 25) hx hb dX10_borrowed_20 (by decide) ?_
      refine lv_aload_n hx hb dX10_borrowed_25 rfl (lv_at hl 0 rfl) ?_
      refine va_get (D := (dC, dI)) (ci := 1) (v := .ref b_15) (C := RX1) (T := TX1) (N := 18) hx hb hts in_wsX10_borrowed_X1 hown hK hP q_14 hq_14 rfl 3 (by decide) (hts (.fieldLink RX10 314 "ShipOffice$Agreement" "paper" "LShipOffice$Agreement;") iw_X10_borrowed_1) (fun _ h9 => h9) (o_rd hb_16) dX10_borrowed_26 ?_
      obtain ⟨q_17, hq_17⟩ := og (cq := cq) tb_15.1 (oE_1 tb_15.2)
      refine va_get (D := (dC, dI)) (ci := 1) (v := .ref amb_15) (C := RX1) (T := TX1) (N := 18) hx hb hts in_wsX10_borrowed_X1 hown hK hP q_17 hq_17 rfl 0 (by decide) (hts (.fieldLink RX10 299 "ShipOffice$Agreement" "man" "LShipOffice$Man;") iw_X10_borrowed_2) (fun _ h9 => h9) (o_rd fm3b_15) dX10_borrowed_29 ?_
      obtain ⟨q_18, hq_18⟩ := og (cq := cq) tamb_15.1 (oE_6 tamb_15.2)
      refine va_get (D := (dC, dI)) (ci := 6) (v := .int (oI Z amb_15 5)) (C := RX6) (T := TX6) (N := 6) hx hb hts in_wsX10_borrowed_X6 hown hK hP q_18 hq_18 rfl 5 (by decide) (hts (.fieldLink RX10 311 "ShipOffice$Man" "leastAlike" "I") iw_X10_borrowed_3) (fun _ h9 => h9) rfl dX10_borrowed_32 ?_
      refine lv_topi (fun x_19 ex_19 => ?_)
      have gx_19 : x_19.toInt = (oI Z amb_15 5).toInt := iv_to ex_19
      clear ex_19
      refine lv_aload_n hx hb dX10_borrowed_35 rfl (lv_at hl 0 rfl) ?_
      refine va_get (D := (dC, dI)) (ci := 1) (v := .ref amb_6) (C := RX1) (T := TX1) (N := 18) hx hb hts in_wsX10_borrowed_X1 hown hK hP q_14 hq_14 rfl 0 (by decide) (hts (.fieldLink RX10 299 "ShipOffice$Agreement" "man" "LShipOffice$Man;") iw_X10_borrowed_2) (fun _ h9 => h9) (o_rd fm3b_6) dX10_borrowed_36 ?_
      obtain ⟨q_20, hq_20⟩ := og (cq := cq) tamb_6.1 (oE_6 tamb_6.2)
      refine va_get (D := (dC, dI)) (ci := 6) (v := .int (oI Z amb_6 5)) (C := RX6) (T := TX6) (N := 6) hx hb hts in_wsX10_borrowed_X6 hown hK hP q_20 hq_20 rfl 5 (by decide) (hts (.fieldLink RX10 311 "ShipOffice$Man" "leastAlike" "I") iw_X10_borrowed_3) (fun _ h9 => h9) rfl dX10_borrowed_39 ?_
      refine lv_topi (fun x_21 ex_21 => ?_)
      have gx_21 : x_21.toInt = (oI Z amb_6 5).toInt := iv_to ex_21
      clear ex_21
      refine lv_icmp_ne (tgt := 53) hx hb dX10_borrowed_42 (by decide) (fun c_22 => ?_) (fun c_22 => ?_)
      · have dc_22 := c_ne (a := x_19.toInt) (b := x_21.toInt) rfl rfl c_22
        refine lv_iconst (v := 1) hx hb dX10_borrowed_53 (by decide) ?_
        refine lv_goto (tgt := 58) hx hb dX10_borrowed_54 (by decide) ?_
        exact W.iret (v := 1) hx hb hr (fun t ht hW => ⟨⟨1, Z, rfl, ⟨gI, oX.rf, (by have ea9 : lbO Z o (fa 20 (fa 24 x1.toNatClampNeg).toNatClampNeg).toNatClampNeg = (oI Z amb_15 5).toInt := (by unfold lbO; rw [← eamb_15]); have eb9 : lbO Z o (fa 20 x1.toNatClampNeg).toNatClampNeg = (oI Z amb_6 5).toInt := (by unfold lbO; rw [← eamb_6]); exact ⟨Or.inr ⟨by omega, Or.inr ⟨show 0 ≤ (fa 24 x1.toNatClampNeg).toInt by omega, lbO Z o, grL_o hR hG, Or.inl ⟨Or.inl (show ¬ lbO Z o (fa 20 (fa 24 x1.toNatClampNeg).toNatClampNeg).toNatClampNeg = lbO Z o (fa 20 x1.toNatClampNeg).toNatClampNeg by omega), by decide⟩⟩⟩, Or.inr ⟨by omega, oX.rf⟩⟩)⟩, ⟨by rw [ht]; exact hP, va_K.moved hW.alike hK, hD⟩⟩, hS.F ht⟩) hS.2.2 dX10_borrowed_58
      · have dc_22 := c_eq (a := x_19.toInt) (b := x_21.toInt) rfl rfl c_22
        refine lv_aload_n hx hb dX10_borrowed_45 rfl (lv_at hl 1 rfl) ?_
        refine lv_aload_n hx hb dX10_borrowed_46 rfl (lv_at hl 0 rfl) ?_
        have hFc : ∀ q, va_A [] H.size q → A q := pu_free hS hA
        refine va_calli (va_runV (As := [.ref b_6]) (rest := []) ⟨hx, hb, hml, hown, hts⟩ (c_X10_isShownTwice_c l dC dI H.size cq Z gI o to b_6 tb_6 v fa hR x1.toNatClampNeg ljb_6 ejb_6 p09) (cwV 1 hts gX10_borrowed_X10_isShownTwice rfl rfl rfl (by decide +kernel) ⟨(Nat.le_of_ble_eq_true rfl), (Nat.le_of_ble_eq_true rfl)⟩) (pr_V (r := (RX10, TX10, 16)) hP hK hD q_1 10 rfl hq_1) rfl rfl hl.1 rfl (lv_room (Nat.le_of_ble_eq_true rfl)) dX10_borrowed_47 ⟨(Nat.le_of_ble_eq_true rfl), (Nat.le_of_ble_eq_true rfl)⟩) hS (fun q _ h => hFc q h) hFc (fun r_24 u t H locs ht hvm w_23 hB hz1 hk1 hS => ?_)
        have hP := pu_keep hP hk1
        clear hk1 hz1 hvm hB ht hFc
        obtain ⟨hb_25, hx_26⟩ := w_23
        refine lv_if_eq (tgt := 57) hx hb dX10_borrowed_50 (by decide) (fun c_27 => ?_) (fun c_27 => ?_)
        · have dc_27 := c_eq (a := r_24.toInt) (b := 0) rfl (by decide) c_27
          refine lv_iconst (v := 0) hx hb dX10_borrowed_57 (by decide) ?_
          exact W.iret (v := 0) hx hb hr (fun t ht hW => ⟨⟨0, Z, rfl, ⟨gI, oX.rf, (by have ea9 : lbO Z o (fa 20 (fa 24 x1.toNatClampNeg).toNatClampNeg).toNatClampNeg = (oI Z amb_15 5).toInt := (by unfold lbO; rw [← eamb_15]); have eb9 : lbO Z o (fa 20 x1.toNatClampNeg).toNatClampNeg = (oI Z amb_6 5).toInt := (by unfold lbO; rw [← eamb_6]); exact ⟨Or.inr ⟨by omega, Or.inr ⟨show 0 ≤ (fa 24 x1.toNatClampNeg).toInt by omega, lbO Z o, grL_o hR hG, Or.inr ⟨fun q => q.elim (fun q => absurd (show lbO Z o (fa 20 (fa 24 x1.toNatClampNeg).toNatClampNeg).toNatClampNeg = lbO Z o (fa 20 x1.toNatClampNeg).toNatClampNeg by omega) q) (fun q => by have q2 := b01_t (show ∃ p, p < (v 43).toNatClampNeg ∧ twP v fa x1.toNatClampNeg p from q); omega), by decide⟩⟩⟩, Or.inr ⟨by omega, oX.rf⟩⟩)⟩, ⟨by rw [ht]; exact hP, va_K.moved hW.alike hK, hD⟩⟩, hS.F ht⟩) hS.2.2 dX10_borrowed_58
        · have dc_27 := c_ne (a := r_24.toInt) (b := 0) rfl (by decide) c_27
          refine lv_iconst (v := 1) hx hb dX10_borrowed_53 (by decide) ?_
          refine lv_goto (tgt := 58) hx hb dX10_borrowed_54 (by decide) ?_
          exact W.iret (v := 1) hx hb hr (fun t ht hW => ⟨⟨1, Z, rfl, ⟨gI, oX.rf, (by have ea9 : lbO Z o (fa 20 (fa 24 x1.toNatClampNeg).toNatClampNeg).toNatClampNeg = (oI Z amb_15 5).toInt := (by unfold lbO; rw [← eamb_15]); have eb9 : lbO Z o (fa 20 x1.toNatClampNeg).toNatClampNeg = (oI Z amb_6 5).toInt := (by unfold lbO; rw [← eamb_6]); exact ⟨Or.inr ⟨by omega, Or.inr ⟨show 0 ≤ (fa 24 x1.toNatClampNeg).toInt by omega, lbO Z o, grL_o hR hG, Or.inl ⟨Or.inr (b01_1 (show b01 (∃ p, p < (v 43).toNatClampNeg ∧ twP v fa x1.toNatClampNeg p) = 1 by omega)), by decide⟩⟩⟩, Or.inr ⟨by omega, oX.rf⟩⟩)⟩, ⟨by rw [ht]; exact hP, va_K.moved hW.alike hK, hD⟩⟩, hS.F ht⟩) hS.2.2 dX10_borrowed_58
