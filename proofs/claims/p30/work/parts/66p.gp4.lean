


set_option maxHeartbeats 4000000 in
set_option maxRecDepth 100000 in
theorem c_X10_lastDay_c (l : Launch) (dC : Nat → ClassId) (dI : Nat → Nat → Nat) (sz : Nat) (cq : Nat → ClassId) (Z : oS) (gI : oInv Z) (o : Nat) (to : oty Z o 10) (a1 : Nat) (ta1 : oty Z a1 1) (v : Nat → Int32) (fa : Nat → Nat → Int32) (hR : RC Z o v fa) (j_ : Nat) (hj : j_ < (v 43).toNatClampNeg) (ej : a1 = agA Z o j_) : Met l yX10_lastDay wsX10_lastDay ({ frames := 0, cells := 0, slots := 0, locals := 0 }) (va_Pc [.ref o, .ref a1] (pcW (dC, dI) (oT cq) (oW cq Z) sz)) (va_Qi (fun (r : Int32) (u : Unit) => (r.toInt = enD v fa j_)) (fun _ _ => True) (va_A [] sz)) 0 0 (va_A [] sz) := by
  refine Met.ofW (cc := cX10_lastDay) (maxL := 2) (ret := (some .int)) (by decide) rfl ?_
  intro p e s m args below meth c s₁ B hml hv
  obtain ⟨rfl, hsz, hP, hK, hD0⟩ := hv
  have hx := B.exec
  have hb := B.bytes
  have hr := B.returns
  have hts := atoms_spec (ws := wsX10_lastDay) B.pre
  have hown : s.vm.findClass RX10 = some m.cls := findClass_of_methodNamed B.named
  have hlocks := B.notSynchronized
  subst hsz
  have hD := hD0
  generalize hAe : va_A [] s.heap.size = A at ⊢
  have hA : ∀ q : Nat, s.heap.size ≤ q → A q := fun q h => by rw [← hAe]; exact Or.inr h
  have hS : va_S A s.heap s.heap [] := va_S.rf
  have hP : va_P (dC, dI) vwCl (oW cq Z) s.heap := hP
  have hl := lv_entry ([.ref o, .ref a1]) (n := 2) (Nat.le_of_ble_eq_true rfl)
  rw [lg_entry_eq]
  generalize (lg_sl ([.ref o, .ref a1]) ++ List.replicate (2 - (lg_sl ([.ref o, .ref a1])).length) Slot.unset).toArray = ls at hl ⊢
  have hl : lv_has ls 2 [(0, .ref o), (1, .ref a1)] := hl
  obtain ⟨fn0, fn1, fn2, fn3, fn4⟩ := RC.n hR
  have fb38 : 0 ≤ (v 38).toInt ∧ (v 38).toInt ≤ 3000 := RC.V hR 38
  have fb39 : 0 ≤ (v 39).toInt ∧ (v 39).toInt ≤ 40 := RC.V hR 39
  have fb40 : 0 ≤ (v 40).toInt ∧ (v 40).toInt ≤ 20 := RC.V hR 40
  have fb43 : 0 ≤ (v 43).toInt ∧ (v 43).toInt ≤ 60 := RC.V hR 43
  have fb41 : 0 ≤ (v 41).toInt ∧ (v 41).toInt ≤ 200 := RC.V hR 41
  have fAa1 := RC.a hR hj
  rw [← ej] at fAa1
  obtain ⟨⟨fm1a1, fm2a1, fm3a1⟩, ⟨fv1a1, fv2a1, fv3a1⟩, fsia1, fppa1, fwga1, frka1, fofa1, fdea1, fcha1⟩ := fAa1
  have fBa1 : 0 ≤ (fa 25 j_).toInt ∧ (fa 25 j_).toInt ≤ 3000 := RC.A hR 25 _
  have lama1 : (fa 20 j_).toNatClampNeg < (v 39).toNatClampNeg := ni_lt fm1a1 fm2a1
  have nama1 : (((fa 20 j_).toNatClampNeg : Nat) : Int) = (fa 20 j_).toInt := tn_i fm1a1
  obtain ⟨ama1, eama1⟩ : ∃ z, z = mnA Z o (fa 20 j_).toNatClampNeg := ⟨_, rfl⟩
  rw [← eama1] at fm3a1
  have tama1 : oty Z ama1 6 := by rw [eama1]; exact (RC.tm hR gI to lama1).2
  have fMama1 := RC.m hR lama1
  rw [← eama1] at fMama1
  obtain ⟨fz0ama1, fz1ama1, fz2ama1, fz3ama1⟩ := fMama1
  rw [nama1] at fz0ama1
  have lava1 : (fa 21 j_).toNatClampNeg < (v 40).toNatClampNeg := ni_lt fv1a1 fv2a1
  have nava1 : (((fa 21 j_).toNatClampNeg : Nat) : Int) = (fa 21 j_).toInt := tn_i fv1a1
  obtain ⟨ava1, eava1⟩ : ∃ z, z = voA Z o (fa 21 j_).toNatClampNeg := ⟨_, rfl⟩
  rw [← eava1] at fv3a1
  have tava1 : oty Z ava1 9 := by rw [eava1]; exact (RC.tv hR gI to lava1).2
  have fVava1 := RC.vo hR lava1
  rw [← eava1] at fVava1
  obtain ⟨fy0ava1, fy1ava1, fy2ava1, fy3ava1, fy4ava1, fySava1, fyLava1, fyhava1⟩ := fVava1
  have fBava1 : 0 ≤ (fa 7 ((fa 21 j_).toNatClampNeg)).toInt ∧ (fa 7 ((fa 21 j_).toNatClampNeg)).toInt ≤ 3000 := RC.A hR 7 _
  have fSava1 := onc_i fySava1
  have fLava1 := onc_i fyLava1
  rw [nava1] at fy0ava1 fSava1 fLava1
  refine lv_aload_n hx hb dX10_lastDay_0 rfl (lv_at hl 1 rfl) ?_
  obtain ⟨q_1, hq_1⟩ := og (cq := cq) ta1.1 (oE_1 ta1.2)
  refine va_get (D := (dC, dI)) (ci := 1) (v := .int (oI Z a1 6)) (C := RX1) (T := TX1) (N := 18) hx hb hts in_wsX10_lastDay_X1 hown hK hP q_1 hq_1 rfl 6 (by decide) (hts (.fieldLink RX10 126 "ShipOffice$Agreement" "offDay" "I") iw_X10_lastDay_1) (fun _ h9 => h9) rfl dX10_lastDay_1 ?_
  refine lv_topi (fun x_2 ex_2 => ?_)
  have gx_2 : x_2.toInt = (oI Z a1 6).toInt := iv_to ex_2
  clear ex_2
  refine lv_ldc (v := 1000000) hx hb hown (hts (.constant RX10 114 (1000000)) (by decide +kernel)) dX10_lastDay_4 ?_
  refine lv_icmp_ne (tgt := 16) hx hb dX10_lastDay_6 (by decide) (fun c_3 => ?_) (fun c_3 => ?_)
  · have dc_3 := c_ne (a := x_2.toInt) (b := 1000000) rfl (by decide) c_3
    refine lv_aload_n hx hb dX10_lastDay_16 rfl (lv_at hl 1 rfl) ?_
    refine va_get (D := (dC, dI)) (ci := 1) (v := .int (oI Z a1 6)) (C := RX1) (T := TX1) (N := 18) hx hb hts in_wsX10_lastDay_X1 hown hK hP q_1 hq_1 rfl 6 (by decide) (hts (.fieldLink RX10 126 "ShipOffice$Agreement" "offDay" "I") iw_X10_lastDay_1) (fun _ h9 => h9) rfl dX10_lastDay_17 ?_
    refine lv_topi (fun x_4 ex_4 => ?_)
    have gx_4 : x_4.toInt = (oI Z a1 6).toInt := iv_to ex_4
    clear ex_4
    exact W.iret (v := x_4) hx hb hr (fun t ht hW => ⟨⟨x_4, (), rfl, (by unfold enD; repeat (first | rw [if_pos (by omega)] | rw [if_neg (by omega)]); omega), trivial⟩, hS.F ht⟩) hS.2.2 dX10_lastDay_20
  · have dc_3 := c_eq (a := x_2.toInt) (b := 1000000) rfl (by decide) c_3
    refine lv_aload_n hx hb dX10_lastDay_9 rfl (lv_at hl 0 rfl) ?_
    obtain ⟨q_5, hq_5⟩ := og (cq := cq) to.1 (oE_10 to.2)
    refine va_get (D := (dC, dI)) (ci := 10) (v := .int (oI Z o 0)) (C := RX10) (T := TX10) (N := 16) hx hb hts in_wsX10_lastDay_X10 hown hK hP q_5 hq_5 rfl 0 (by decide) (hts (.fieldLink RX10 73 "ShipOffice" "now" "I") iw_X10_lastDay_2) (fun _ h9 => h9) rfl dX10_lastDay_10 ?_
    refine lv_topi (fun x_6 ex_6 => ?_)
    have hx_6 : 0 ≤ x_6.toInt ∧ x_6.toInt ≤ 3000 := iv_of ex_6 (oInv.iv gI to.2 rfl rfl)
    have gx_6 : x_6.toInt = (oI Z o 0).toInt := iv_to ex_6
    clear ex_6
    refine lv_goto (tgt := 20) hx hb dX10_lastDay_13 (by decide) ?_
    exact W.iret (v := x_6) hx hb hr (fun t ht hW => ⟨⟨x_6, (), rfl, (by unfold enD; repeat (first | rw [if_pos (by omega)] | rw [if_neg (by omega)]); omega), trivial⟩, hS.F ht⟩) hS.2.2 dX10_lastDay_20
set_option maxHeartbeats 4000000 in
set_option maxRecDepth 100000 in
theorem c_X10_isShownTwice_c (l : Launch) (dC : Nat → ClassId) (dI : Nat → Nat → Nat) (sz : Nat) (cq : Nat → ClassId) (Z : oS) (gI : oInv Z) (o : Nat) (to : oty Z o 10) (a1 : Nat) (ta1 : oty Z a1 1) (v : Nat → Int32) (fa : Nat → Nat → Int32) (hR : RC Z o v fa) (j_ : Nat) (hj : j_ < (v 43).toNatClampNeg) (ej : a1 = agA Z o j_) (hpp : 0 ≤ (fa 24 j_).toInt) : Met l yX10_isShownTwice wsX10_isShownTwice ({ frames := 1, cells := 0, slots := 0, locals := 21 }) (va_Pc [.ref o, .ref a1] (pcW (dC, dI) (oT cq) (oW cq Z) sz)) (va_Qi (fun (r : Int32) (u : Unit) => (0 ≤ r.toInt ∧ r.toInt ≤ 1) ∧ (r.toInt = b01 (∃ p, p < (v 43).toNatClampNeg ∧ twP v fa j_ p))) (fun _ _ => True) (va_A [] sz)) 0 0 (va_A [] sz) := by
  refine Met.ofW (cc := cX10_isShownTwice) (maxL := 4) (ret := (some .boolean)) (by decide) rfl ?_
  intro p e s m args below meth c s₁ B hml hv
  obtain ⟨rfl, hsz, hP, hK, hD0⟩ := hv
  have hx := B.exec
  have hb := B.bytes
  have hr := B.returns
  have hts := atoms_spec (ws := wsX10_isShownTwice) B.pre
  have hown : s.vm.findClass RX10 = some m.cls := findClass_of_methodNamed B.named
  have hlocks := B.notSynchronized
  subst hsz
  have hD := hD0
  generalize hAe : va_A [] s.heap.size = A at ⊢
  have hA : ∀ q : Nat, s.heap.size ≤ q → A q := fun q h => by rw [← hAe]; exact Or.inr h
  have hS : va_S A s.heap s.heap [] := va_S.rf
  have hP : va_P (dC, dI) vwCl (oW cq Z) s.heap := hP
  have hl := lv_entry ([.ref o, .ref a1]) (n := 4) (Nat.le_of_ble_eq_true rfl)
  rw [lg_entry_eq]
  generalize (lg_sl ([.ref o, .ref a1]) ++ List.replicate (4 - (lg_sl ([.ref o, .ref a1])).length) Slot.unset).toArray = ls at hl ⊢
  have hl : lv_has ls 4 [(0, .ref o), (1, .ref a1)] := hl
  obtain ⟨fn0, fn1, fn2, fn3, fn4⟩ := RC.n hR
  have fb38 : 0 ≤ (v 38).toInt ∧ (v 38).toInt ≤ 3000 := RC.V hR 38
  have fb39 : 0 ≤ (v 39).toInt ∧ (v 39).toInt ≤ 40 := RC.V hR 39
  have fb40 : 0 ≤ (v 40).toInt ∧ (v 40).toInt ≤ 20 := RC.V hR 40
  have fb43 : 0 ≤ (v 43).toInt ∧ (v 43).toInt ≤ 60 := RC.V hR 43
  have fb41 : 0 ≤ (v 41).toInt ∧ (v 41).toInt ≤ 200 := RC.V hR 41
  have fAa1 := RC.a hR hj
  rw [← ej] at fAa1
  obtain ⟨⟨fm1a1, fm2a1, fm3a1⟩, ⟨fv1a1, fv2a1, fv3a1⟩, fsia1, fppa1, fwga1, frka1, fofa1, fdea1, fcha1⟩ := fAa1
  have fBa1 : 0 ≤ (fa 25 j_).toInt ∧ (fa 25 j_).toInt ≤ 3000 := RC.A hR 25 _
  have lama1 : (fa 20 j_).toNatClampNeg < (v 39).toNatClampNeg := ni_lt fm1a1 fm2a1
  have nama1 : (((fa 20 j_).toNatClampNeg : Nat) : Int) = (fa 20 j_).toInt := tn_i fm1a1
  obtain ⟨ama1, eama1⟩ : ∃ z, z = mnA Z o (fa 20 j_).toNatClampNeg := ⟨_, rfl⟩
  rw [← eama1] at fm3a1
  have tama1 : oty Z ama1 6 := by rw [eama1]; exact (RC.tm hR gI to lama1).2
  have fMama1 := RC.m hR lama1
  rw [← eama1] at fMama1
  obtain ⟨fz0ama1, fz1ama1, fz2ama1, fz3ama1⟩ := fMama1
  rw [nama1] at fz0ama1
  have lava1 : (fa 21 j_).toNatClampNeg < (v 40).toNatClampNeg := ni_lt fv1a1 fv2a1
  have nava1 : (((fa 21 j_).toNatClampNeg : Nat) : Int) = (fa 21 j_).toInt := tn_i fv1a1
  obtain ⟨ava1, eava1⟩ : ∃ z, z = voA Z o (fa 21 j_).toNatClampNeg := ⟨_, rfl⟩
  rw [← eava1] at fv3a1
  have tava1 : oty Z ava1 9 := by rw [eava1]; exact (RC.tv hR gI to lava1).2
  have fVava1 := RC.vo hR lava1
  rw [← eava1] at fVava1
  obtain ⟨fy0ava1, fy1ava1, fy2ava1, fy3ava1, fy4ava1, fySava1, fyLava1, fyhava1⟩ := fVava1
  have fBava1 : 0 ≤ (fa 7 ((fa 21 j_).toNatClampNeg)).toInt ∧ (fa 7 ((fa 21 j_).toNatClampNeg)).toInt ≤ 3000 := RC.A hR 7 _
  have fSava1 := onc_i fySava1
  have fLava1 := onc_i fyLava1
  rw [nava1] at fy0ava1 fSava1 fLava1
  refine lv_iconst (v := 0) hx hb dX10_isShownTwice_0 (by decide) ?_
  refine lv_istore_n (lv' := [(2, .int 0), (0, .ref o), (1, .ref a1)]) hx hb dX10_isShownTwice_1 rfl hl (by decide) rfl (fun ls hl => ?_)
  have cut_1 : ∀ (n : Nat) (y_2 : Int32) (H : Heap) (locs : List Loc) (ls : Array Slot), 60 - y_2.toInt ≤ (n : Int) → (0 ≤ y_2.toInt ∧ y_2.toInt ≤ 60) → (∀ p, p < y_2.toNatClampNeg → ¬ twP v fa j_ p) → va_P (dC, dI) vwCl (oW cq Z) H → va_S A s.heap H locs → lv_has ls 4 [(2, .int y_2), (0, .ref o), (1, .ref a1)] → W p l e (headSpec wsX10_isShownTwice { frames := 1, cells := 0, slots := 0, locals := 21 }).room s m #[Value.ref o, Value.ref a1] below meth c H locs 0 0 (MQ below (va_Qi (fun (r : Int32) (u : Unit) => (0 ≤ r.toInt ∧ r.toInt ≤ 1) ∧ (r.toInt = b01 (∃ p, p < (v 43).toNatClampNeg ∧ twP v fa j_ p))) (fun _ _ => True) A) #[Value.ref o, Value.ref a1] s 0 0 A) (F0 m 2 ls []) := by
    intro n
    induction n using Nat.strongRecOn with
    | ind n ih =>
      intro y_2 H locs ls hm hy_2 hq0_cut_1 hP hS hl
      refine lv_iload_n hx hb dX10_isShownTwice_2 rfl (lv_at hl 0 rfl) ?_
      refine lv_aload_n hx hb dX10_isShownTwice_3 rfl (lv_at hl 1 rfl) ?_
      obtain ⟨q_3, hq_3⟩ := og (cq := cq) to.1 (oE_10 to.2)
      refine va_get (D := (dC, dI)) (ci := 10) (v := .int (oI Z o 6)) (C := RX10) (T := TX10) (N := 16) hx hb hts in_wsX10_isShownTwice_X10 hown hK hP q_3 hq_3 rfl 6 (by decide) (hts (.fieldLink RX10 115 "ShipOffice" "agreementCount" "I") iw_X10_isShownTwice_1) (fun _ h9 => h9) rfl dX10_isShownTwice_4 ?_
      refine lv_topi (fun x_4 ex_4 => ?_)
      have hx_4 : 0 ≤ x_4.toInt ∧ x_4.toInt ≤ 60 := iv_of ex_4 (oInv.iv gI to.2 rfl rfl)
      have gx_4 : x_4.toInt = (oI Z o 6).toInt := iv_to ex_4
      clear ex_4
      refine lv_icmp_ge (tgt := 65) hx hb dX10_isShownTwice_7 (by decide) (fun c_5 => ?_) (fun c_5 => ?_)
      · have dc_5 := c_le (a := x_4.toInt) (b := y_2.toInt) rfl rfl c_5
        refine lv_iconst (v := 0) hx hb dX10_isShownTwice_65 (by decide) ?_
        exact W.zret (v := 0) hx hb hr rfl (fun t ht hW => ⟨⟨0, (), rfl, ⟨(by decide), (b1_f (fun ⟨j, hj, hp⟩ => al_e hq0_cut_1 (by omega) j hj hp))⟩, trivial⟩, hS.F ht⟩) hS.2.2 dX10_isShownTwice_66
      · have dc_5 := c_nle (a := x_4.toInt) (b := y_2.toInt) rfl rfl c_5
        refine lv_aload_n hx hb dX10_isShownTwice_10 rfl (lv_at hl 1 rfl) ?_
        obtain ⟨b_6, hb_6⟩ := oInv.nn (i := 5) gI to rfl
        refine va_get (D := (dC, dI)) (ci := 10) (v := .ref b_6) (C := RX10) (T := TX10) (N := 16) hx hb hts in_wsX10_isShownTwice_X10 hown hK hP q_3 hq_3 rfl 5 (by decide) (hts (.fieldLink RX10 23 "ShipOffice" "agreements" "[LShipOffice$Agreement;") iw_X10_isShownTwice_2) (fun _ h9 => h9) (o_rd hb_6) dX10_isShownTwice_11 ?_
        have tb_6 : oty Z b_6 16 := oInv.rd gI to.2 hb_6 rfl rfl
        refine lv_iload_n hx hb dX10_isShownTwice_14 rfl (lv_at hl 0 rfl) ?_
        obtain ⟨q_7, hq_7⟩ := og (cq := cq) tb_6.1 (oE_16 tb_6.2)
        refine va_aldq hx hb hK hP q_7 5 hq_7 rfl (vp_in_iff.mpr (by omega)) dX10_isShownTwice_15 ?_
        obtain ⟨b_8, hb_8⟩ := oInv.el (i := 6) (x := y_2) gI to rfl hb_6 (by omega) (by omega)
        refine W.eq (g2 := F0 m 16 ls [.ref b_8]) (congrArg (fun z => F0 m 16 ls [va_rf z]) hb_8) ?_
        have tb_8 : oty Z b_8 1 := oInv.rd gI tb_6.2 hb_8 rfl rfl
        have ejb_8 : b_8 = agA Z o y_2.toNatClampNeg := by unfold agA; rw [oQ_e hb_6, oQ_e hb_8]
        have ljb_8 : y_2.toNatClampNeg < (v 43).toNatClampNeg := ni_lt (by omega) (by omega)
        have njb_8 : ((y_2.toNatClampNeg : Nat) : Int) = y_2.toInt := tn_i (by omega)
        have fAb_8 := RC.a hR ljb_8
        rw [← ejb_8] at fAb_8
        obtain ⟨⟨fm1b_8, fm2b_8, fm3b_8⟩, ⟨fv1b_8, fv2b_8, fv3b_8⟩, fsib_8, fppb_8, fwgb_8, frkb_8, fofb_8, fdeb_8, fchb_8⟩ := fAb_8
        have fBb_8 : 0 ≤ (fa 25 y_2.toNatClampNeg).toInt ∧ (fa 25 y_2.toNatClampNeg).toInt ≤ 3000 := RC.A hR 25 _
        have lamb_8 : (fa 20 y_2.toNatClampNeg).toNatClampNeg < (v 39).toNatClampNeg := ni_lt fm1b_8 fm2b_8
        have namb_8 : (((fa 20 y_2.toNatClampNeg).toNatClampNeg : Nat) : Int) = (fa 20 y_2.toNatClampNeg).toInt := tn_i fm1b_8
        obtain ⟨amb_8, eamb_8⟩ : ∃ z, z = mnA Z o (fa 20 y_2.toNatClampNeg).toNatClampNeg := ⟨_, rfl⟩
        rw [← eamb_8] at fm3b_8
        have tamb_8 : oty Z amb_8 6 := by rw [eamb_8]; exact (RC.tm hR gI to lamb_8).2
        have fMamb_8 := RC.m hR lamb_8
        rw [← eamb_8] at fMamb_8
        obtain ⟨fz0amb_8, fz1amb_8, fz2amb_8, fz3amb_8⟩ := fMamb_8
        rw [namb_8] at fz0amb_8
        have lavb_8 : (fa 21 y_2.toNatClampNeg).toNatClampNeg < (v 40).toNatClampNeg := ni_lt fv1b_8 fv2b_8
        have navb_8 : (((fa 21 y_2.toNatClampNeg).toNatClampNeg : Nat) : Int) = (fa 21 y_2.toNatClampNeg).toInt := tn_i fv1b_8
        obtain ⟨avb_8, eavb_8⟩ : ∃ z, z = voA Z o (fa 21 y_2.toNatClampNeg).toNatClampNeg := ⟨_, rfl⟩
        rw [← eavb_8] at fv3b_8
        have tavb_8 : oty Z avb_8 9 := by rw [eavb_8]; exact (RC.tv hR gI to lavb_8).2
        have fVavb_8 := RC.vo hR lavb_8
        rw [← eavb_8] at fVavb_8
        obtain ⟨fy0avb_8, fy1avb_8, fy2avb_8, fy3avb_8, fy4avb_8, fySavb_8, fyLavb_8, fyhavb_8⟩ := fVavb_8
        have fBavb_8 : 0 ≤ (fa 7 ((fa 21 y_2.toNatClampNeg).toNatClampNeg)).toInt ∧ (fa 7 ((fa 21 y_2.toNatClampNeg).toNatClampNeg)).toInt ≤ 3000 := RC.A hR 7 _
        have fSavb_8 := onc_i fySavb_8
        have fLavb_8 := onc_i fyLavb_8
        rw [navb_8] at fy0avb_8 fSavb_8 fLavb_8
        refine lv_astore_n (lv' := [(3, .ref b_8), (2, .int y_2), (0, .ref o), (1, .ref a1)]) hx hb dX10_isShownTwice_16 rfl hl (by decide) rfl (fun ls hl => ?_)
        refine lv_aload_n hx hb dX10_isShownTwice_17 rfl (lv_at hl 0 rfl) ?_
        refine lv_aload_n hx hb dX10_isShownTwice_18 rfl (lv_at hl 3 rfl) ?_
        refine lv_acmp_eq (rx := (some b_8)) (ry := (some a1)) (tgt := 59) hx hb dX10_isShownTwice_19 (by decide) (fun c_9 => ?_) (fun c_9 => ?_)
        · have _ := c_9
          have ac_10 : y_2.toNatClampNeg = j_ := RC.inj hR ljb_8 hj (ejb_8.symm.trans ((Option.some.inj c_9).trans ej))
          obtain ⟨x_11, ex_11⟩ : ∃ zq : Int32, y_2 + 1 = zq := ⟨_, rfl⟩
          have hx_11 : x_11.toInt = y_2.toInt + 1 := (iv_to ex_11).symm.trans (ad_i rfl (by decide) (by omega) (by omega))
          refine lv_iinc (v := x_11) (lv' := [(2, .int x_11), (3, .ref b_8), (0, .ref o), (1, .ref a1)]) hx hb dX10_isShownTwice_59 hl (k := 1) rfl ex_11 (by decide) rfl (fun ls hl => ?_)
          clear ex_11
          refine lv_goto (tgt := 2) hx hb dX10_isShownTwice_62 (by decide) ?_
          exact ih (n - 1) (by omega) x_11 _ _ ls (by omega) (by omega) (al_s hq0_cut_1 (fun q => by unfold twP at q; omega) (by omega) (by omega)) hP hS (lv_sub hl [0, 2, 3] rfl)
        · have _ := c_9
          have ac_12 : ¬ y_2.toNatClampNeg = j_ := fun q => c_9 (congrArg some (ejb_8.trans ((congrArg (agA Z o) q).trans ej.symm)))
          refine lv_aload_n hx hb dX10_isShownTwice_22 rfl (lv_at hl 0 rfl) ?_
          obtain ⟨q_13, hq_13⟩ := og (cq := cq) tb_8.1 (oE_1 tb_8.2)
          rcases hb_15 : oP Z b_8 3 with _ | b_14
          · refine va_get (D := (dC, dI)) (ci := 1) (v := .null) (C := RX1) (T := TX1) (N := 18) hx hb hts in_wsX10_isShownTwice_X1 hown hK hP q_13 hq_13 rfl 3 (by decide) (hts (.fieldLink RX10 314 "ShipOffice$Agreement" "paper" "LShipOffice$Agreement;") iw_X10_isShownTwice_3) (fun _ h9 => h9) (o_rd hb_15) dX10_isShownTwice_23 ?_
            have pnb_8 := fpp_n fppb_8 hb_15 (by simp)
            refine lv_aload_n hx hb dX10_isShownTwice_26 rfl (lv_at hl 3 rfl) ?_
            obtain ⟨q_16, hq_16⟩ := og (cq := cq) ta1.1 (oE_1 ta1.2)
            rcases hb_18 : oP Z a1 3 with _ | b_17
            · refine va_get (D := (dC, dI)) (ci := 1) (v := .null) (C := RX1) (T := TX1) (N := 18) hx hb hts in_wsX10_isShownTwice_X1 hown hK hP q_16 hq_16 rfl 3 (by decide) (hts (.fieldLink RX10 314 "ShipOffice$Agreement" "paper" "LShipOffice$Agreement;") iw_X10_isShownTwice_3) (fun _ h9 => h9) (o_rd hb_18) dX10_isShownTwice_27 ?_
              exact absurd (fpp_n fppa1 hb_18 (by simp)) (by omega)
            · refine va_get (D := (dC, dI)) (ci := 1) (v := .ref b_17) (C := RX1) (T := TX1) (N := 18) hx hb hts in_wsX10_isShownTwice_X1 hown hK hP q_16 hq_16 rfl 3 (by decide) (hts (.fieldLink RX10 314 "ShipOffice$Agreement" "paper" "LShipOffice$Agreement;") iw_X10_isShownTwice_3) (fun _ h9 => h9) (o_rd hb_18) dX10_isShownTwice_27 ?_
              have tb_17 : oty Z b_17 1 := oInv.rd gI ta1.2 hb_18 rfl rfl
              obtain ⟨p0a1, p1a1, p2a1⟩ := fpp_s fppa1 hb_18
              have pla1 := lpp p0a1 p1a1 hj
              have pta1 : (((fa 24 j_).toNatClampNeg : Nat) : Int) = (fa 24 j_).toInt := tn_i p0a1
              refine lv_acmp_ne (rx := none) (ry := (some b_17)) (tgt := 59) hx hb dX10_isShownTwice_30 (by decide) (fun c_19 => ?_) (fun c_19 => ?_)
              · have _ := c_19
                obtain ⟨x_20, ex_20⟩ : ∃ zq : Int32, y_2 + 1 = zq := ⟨_, rfl⟩
                have hx_20 : x_20.toInt = y_2.toInt + 1 := (iv_to ex_20).symm.trans (ad_i rfl (by decide) (by omega) (by omega))
                refine lv_iinc (v := x_20) (lv' := [(2, .int x_20), (3, .ref b_8), (0, .ref o), (1, .ref a1)]) hx hb dX10_isShownTwice_59 hl (k := 1) rfl ex_20 (by decide) rfl (fun ls hl => ?_)
                clear ex_20
                refine lv_goto (tgt := 2) hx hb dX10_isShownTwice_62 (by decide) ?_
                exact ih (n - 1) (by omega) x_20 _ _ ls (by omega) (by omega) (al_s hq0_cut_1 (fun q => by unfold twP at q; omega) (by omega) (by omega)) hP hS (lv_sub hl [0, 2, 3] rfl)
              · have _ := c_19
                cases c_19
          · refine va_get (D := (dC, dI)) (ci := 1) (v := .ref b_14) (C := RX1) (T := TX1) (N := 18) hx hb hts in_wsX10_isShownTwice_X1 hown hK hP q_13 hq_13 rfl 3 (by decide) (hts (.fieldLink RX10 314 "ShipOffice$Agreement" "paper" "LShipOffice$Agreement;") iw_X10_isShownTwice_3) (fun _ h9 => h9) (o_rd hb_15) dX10_isShownTwice_23 ?_
            have tb_14 : oty Z b_14 1 := oInv.rd gI tb_8.2 hb_15 rfl rfl
            obtain ⟨p0b_8, p1b_8, p2b_8⟩ := fpp_s fppb_8 hb_15
            have plb_8 := lpp p0b_8 p1b_8 ljb_8
            have ptb_8 : (((fa 24 y_2.toNatClampNeg).toNatClampNeg : Nat) : Int) = (fa 24 y_2.toNatClampNeg).toInt := tn_i p0b_8
            refine lv_aload_n hx hb dX10_isShownTwice_26 rfl (lv_at hl 3 rfl) ?_
            obtain ⟨q_21, hq_21⟩ := og (cq := cq) ta1.1 (oE_1 ta1.2)
            rcases hb_23 : oP Z a1 3 with _ | b_22
            · refine va_get (D := (dC, dI)) (ci := 1) (v := .null) (C := RX1) (T := TX1) (N := 18) hx hb hts in_wsX10_isShownTwice_X1 hown hK hP q_21 hq_21 rfl 3 (by decide) (hts (.fieldLink RX10 314 "ShipOffice$Agreement" "paper" "LShipOffice$Agreement;") iw_X10_isShownTwice_3) (fun _ h9 => h9) (o_rd hb_23) dX10_isShownTwice_27 ?_
              exact absurd (fpp_n fppa1 hb_23 (by simp)) (by omega)
            · refine va_get (D := (dC, dI)) (ci := 1) (v := .ref b_22) (C := RX1) (T := TX1) (N := 18) hx hb hts in_wsX10_isShownTwice_X1 hown hK hP q_21 hq_21 rfl 3 (by decide) (hts (.fieldLink RX10 314 "ShipOffice$Agreement" "paper" "LShipOffice$Agreement;") iw_X10_isShownTwice_3) (fun _ h9 => h9) (o_rd hb_23) dX10_isShownTwice_27 ?_
              have tb_22 : oty Z b_22 1 := oInv.rd gI ta1.2 hb_23 rfl rfl
              obtain ⟨p0a1, p1a1, p2a1⟩ := fpp_s fppa1 hb_23
              have pla1 := lpp p0a1 p1a1 hj
              have pta1 : (((fa 24 j_).toNatClampNeg : Nat) : Int) = (fa 24 j_).toInt := tn_i p0a1
              refine lv_acmp_ne (rx := (some b_14)) (ry := (some b_22)) (tgt := 59) hx hb dX10_isShownTwice_30 (by decide) (fun c_24 => ?_) (fun c_24 => ?_)
              · have _ := c_24
                have ac_25 : ¬ (fa 24 y_2.toNatClampNeg).toNatClampNeg = (fa 24 j_).toNatClampNeg := fun q => c_24 (congrArg some (p2b_8.trans ((congrArg (agA Z o) q).trans p2a1.symm)))
                obtain ⟨x_26, ex_26⟩ : ∃ zq : Int32, y_2 + 1 = zq := ⟨_, rfl⟩
                have hx_26 : x_26.toInt = y_2.toInt + 1 := (iv_to ex_26).symm.trans (ad_i rfl (by decide) (by omega) (by omega))
                refine lv_iinc (v := x_26) (lv' := [(2, .int x_26), (3, .ref b_8), (0, .ref o), (1, .ref a1)]) hx hb dX10_isShownTwice_59 hl (k := 1) rfl ex_26 (by decide) rfl (fun ls hl => ?_)
                clear ex_26
                refine lv_goto (tgt := 2) hx hb dX10_isShownTwice_62 (by decide) ?_
                exact ih (n - 1) (by omega) x_26 _ _ ls (by omega) (by omega) (al_s hq0_cut_1 (fun q => by unfold twP at q; omega) (by omega) (by omega)) hP hS (lv_sub hl [0, 2, 3] rfl)
              · have _ := c_24
                have ac_27 : (fa 24 y_2.toNatClampNeg).toNatClampNeg = (fa 24 j_).toNatClampNeg := RC.inj hR plb_8 pla1 (p2b_8.symm.trans ((Option.some.inj c_24).trans p2a1))
                refine lv_aload_n hx hb dX10_isShownTwice_33 rfl (lv_at hl 0 rfl) ?_
                refine va_get (D := (dC, dI)) (ci := 1) (v := .int (oI Z b_8 2)) (C := RX1) (T := TX1) (N := 18) hx hb hts in_wsX10_isShownTwice_X1 hown hK hP q_13 hq_13 rfl 2 (by decide) (hts (.fieldLink RX10 255 "ShipOffice$Agreement" "signedOn" "I") iw_X10_isShownTwice_4) (fun _ h9 => h9) rfl dX10_isShownTwice_34 ?_
                refine lv_topi (fun x_28 ex_28 => ?_)
                have gx_28 : x_28.toInt = (oI Z b_8 2).toInt := iv_to ex_28
                clear ex_28
                refine lv_aload_n hx hb dX10_isShownTwice_37 rfl (lv_at hl 2 rfl) ?_
                refine lv_aload_n hx hb dX10_isShownTwice_38 rfl (lv_at hl 3 rfl) ?_
                have hFc : ∀ q, va_A [] H.size q → A q := pu_free hS hA
                refine va_calli (va_runV (As := [.ref a1]) (rest := [.int x_28]) ⟨hx, hb, hml, hown, hts⟩ (c_X10_lastDay_c l dC dI H.size cq Z gI o to a1 ta1 v fa hR j_ hj ej) (cwV 1 hts gX10_isShownTwice_X10_lastDay rfl rfl rfl (by decide +kernel) ⟨(Nat.le_of_ble_eq_true rfl), (Nat.le_of_ble_eq_true rfl)⟩) (pr_V (r := (RX10, TX10, 16)) hP hK hD q_3 10 rfl hq_3) rfl rfl hl.1 rfl (lv_room (Nat.le_of_ble_eq_true rfl)) dX10_isShownTwice_39 ⟨(Nat.le_of_ble_eq_true rfl), (Nat.le_of_ble_eq_true rfl)⟩) hS (fun q _ h => hFc q h) hFc (fun r_30 u t H locs ht hvm w_29 hB hz1 hk1 hS => ?_)
                have hP := pu_keep hP hk1
                clear hk1 hz1 hvm hB ht hFc
                have hx_31 := w_29
                refine lv_icmp_gt (tgt := 59) hx hb dX10_isShownTwice_42 (by decide) (fun c_32 => ?_) (fun c_32 => ?_)
                · have dc_32 := c_lt (a := r_30.toInt) (b := x_28.toInt) rfl rfl c_32
                  obtain ⟨x_33, ex_33⟩ : ∃ zq : Int32, y_2 + 1 = zq := ⟨_, rfl⟩
                  have hx_33 : x_33.toInt = y_2.toInt + 1 := (iv_to ex_33).symm.trans (ad_i rfl (by decide) (by omega) (by omega))
                  refine lv_iinc (v := x_33) (lv' := [(2, .int x_33), (3, .ref b_8), (0, .ref o), (1, .ref a1)]) hx hb dX10_isShownTwice_59 hl (k := 1) rfl ex_33 (by decide) rfl (fun ls hl => ?_)
                  clear ex_33
                  refine lv_goto (tgt := 2) hx hb dX10_isShownTwice_62 (by decide) ?_
                  exact ih (n - 1) (by omega) x_33 _ _ ls (by omega) (by omega) (al_s hq0_cut_1 (fun q => by unfold twP at q; omega) (by omega) (by omega)) hP hS (lv_sub hl [0, 2, 3] rfl)
                · have dc_32 := c_nlt (a := r_30.toInt) (b := x_28.toInt) rfl rfl c_32
                  refine lv_aload_n hx hb dX10_isShownTwice_45 rfl (lv_at hl 3 rfl) ?_
                  refine va_get (D := (dC, dI)) (ci := 1) (v := .int (oI Z a1 2)) (C := RX1) (T := TX1) (N := 18) hx hb hts in_wsX10_isShownTwice_X1 hown hK hP q_21 hq_21 rfl 2 (by decide) (hts (.fieldLink RX10 255 "ShipOffice$Agreement" "signedOn" "I") iw_X10_isShownTwice_4) (fun _ h9 => h9) rfl dX10_isShownTwice_46 ?_
                  refine lv_topi (fun x_34 ex_34 => ?_)
                  have gx_34 : x_34.toInt = (oI Z a1 2).toInt := iv_to ex_34
                  clear ex_34
                  refine lv_aload_n hx hb dX10_isShownTwice_49 rfl (lv_at hl 2 rfl) ?_
                  refine lv_aload_n hx hb dX10_isShownTwice_50 rfl (lv_at hl 0 rfl) ?_
                  have hFc : ∀ q, va_A [] H.size q → A q := pu_free hS hA
                  refine va_calli (va_runV (As := [.ref b_8]) (rest := [.int x_34]) ⟨hx, hb, hml, hown, hts⟩ (c_X10_lastDay_c l dC dI H.size cq Z gI o to b_8 tb_8 v fa hR y_2.toNatClampNeg ljb_8 ejb_8) (cwV 1 hts gX10_isShownTwice_X10_lastDay rfl rfl rfl (by decide +kernel) ⟨(Nat.le_of_ble_eq_true rfl), (Nat.le_of_ble_eq_true rfl)⟩) (pr_V (r := (RX10, TX10, 16)) hP hK hD q_3 10 rfl hq_3) rfl rfl hl.1 rfl (lv_room (Nat.le_of_ble_eq_true rfl)) dX10_isShownTwice_51 ⟨(Nat.le_of_ble_eq_true rfl), (Nat.le_of_ble_eq_true rfl)⟩) hS (fun q _ h => hFc q h) hFc (fun r_36 u t H locs ht hvm w_35 hB hz1 hk1 hS => ?_)
                  have hP := pu_keep hP hk1
                  clear hk1 hz1 hvm hB ht hFc
                  have hx_37 := w_35
                  refine lv_icmp_gt (tgt := 59) hx hb dX10_isShownTwice_54 (by decide) (fun c_38 => ?_) (fun c_38 => ?_)
                  · have dc_38 := c_lt (a := r_36.toInt) (b := x_34.toInt) rfl rfl c_38
                    obtain ⟨x_39, ex_39⟩ : ∃ zq : Int32, y_2 + 1 = zq := ⟨_, rfl⟩
                    have hx_39 : x_39.toInt = y_2.toInt + 1 := (iv_to ex_39).symm.trans (ad_i rfl (by decide) (by omega) (by omega))
                    refine lv_iinc (v := x_39) (lv' := [(2, .int x_39), (3, .ref b_8), (0, .ref o), (1, .ref a1)]) hx hb dX10_isShownTwice_59 hl (k := 1) rfl ex_39 (by decide) rfl (fun ls hl => ?_)
                    clear ex_39
                    refine lv_goto (tgt := 2) hx hb dX10_isShownTwice_62 (by decide) ?_
                    exact ih (n - 1) (by omega) x_39 _ _ ls (by omega) (by omega) (al_s hq0_cut_1 (fun q => by unfold twP at q; omega) (by omega) (by omega)) hP hS (lv_sub hl [0, 2, 3] rfl)
                  · have dc_38 := c_nlt (a := r_36.toInt) (b := x_34.toInt) rfl rfl c_38
                    refine lv_iconst (v := 1) hx hb dX10_isShownTwice_57 (by decide) ?_
                    exact W.zret (v := 1) hx hb hr rfl (fun t ht hW => ⟨⟨1, (), rfl, ⟨(by decide), (b1_t ⟨y_2.toNatClampNeg, ni_lt (by omega) (by omega), by unfold twP; omega⟩)⟩, trivial⟩, hS.F ht⟩) hS.2.2 dX10_isShownTwice_58
  have kc_40 : (0 : Int32).toInt = 0 := by decide
  exact cut_1 61 0 _ _ ls (by omega) (by decide) (al_0 (by decide)) hP hS (lv_sub hl [0, 1, 2] rfl)
