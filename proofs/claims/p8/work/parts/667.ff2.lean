


set_option maxHeartbeats 4000000 in
set_option maxRecDepth 100000 in
theorem c_X1_goesOn_c (l : Launch) (dC : Nat → ClassId) (dI : Nat → Nat → Nat) (sz : Nat) (cq : Nat → ClassId) (Z : oS) (gI : oInv Z) (o : Nat) (to : oty Z o 1) (h0 : Nat) (th : oty Z h0 10) (v : Nat → Int32) (fa : Nat → Nat → Int32) (hR : RC Z h0 v fa) (a : Nat) (ha : a < (v 43).toNatClampNeg) (ea : o = agA Z h0 a) : Met l yX1_goesOn wsX1_goesOn ({ frames := 0, cells := 0, slots := 0, locals := 0 }) (va_Pc [.ref o] (pcW (dC, dI) (oT cq) (oW cq Z) sz)) (va_Qi (fun (r : Int32) (u : Unit) => (0 ≤ r.toInt ∧ r.toInt ≤ 1) ∧ (r.toInt = gonI v fa a)) (fun _ _ => True) (va_A [] sz)) 0 0 (va_A [] sz) := by
  refine Met.ofW (cc := cX1_goesOn) (maxL := 1) (ret := (some .boolean)) (by decide +kernel) rfl ?_
  intro p e s m args below meth c s₁ B hml hv
  obtain ⟨rfl, hsz, hP, hK, hD0⟩ := hv
  have hx := B.exec
  have hb := B.bytes
  have hr := B.returns
  have hts := atoms_spec (ws := wsX1_goesOn) B.pre
  have hown : s.vm.findClass RX1 = some m.cls := findClass_of_methodNamed B.named
  have hlocks := B.notSynchronized
  subst hsz
  have hD := hD0
  generalize hAe : va_A [] s.heap.size = A at ⊢
  have hA : ∀ q : Nat, s.heap.size ≤ q → A q := fun q h => by rw [← hAe]; exact Or.inr h
  have hS : va_S A s.heap s.heap [] := va_S.rf
  have hP : va_P (dC, dI) vwCl (oW cq Z) s.heap := hP
  have hl := lv_entry ([.ref o]) (n := 1) (Nat.le_of_ble_eq_true rfl)
  rw [lg_entry_eq]
  generalize (lg_sl ([.ref o]) ++ List.replicate (1 - (lg_sl ([.ref o])).length) Slot.unset).toArray = ls at hl ⊢
  have hl : lv_has ls 1 [(0, .ref o)] := hl
  obtain ⟨fn0, fn1, fn2, fn3, fn4⟩ := RC.n hR
  have fb38 : 0 ≤ (v 38).toInt ∧ (v 38).toInt ≤ 3000 := RC.V hR 38
  have fb39 : 0 ≤ (v 39).toInt ∧ (v 39).toInt ≤ 40 := RC.V hR 39
  have fb40 : 0 ≤ (v 40).toInt ∧ (v 40).toInt ≤ 20 := RC.V hR 40
  have fb43 : 0 ≤ (v 43).toInt ∧ (v 43).toInt ≤ 60 := RC.V hR 43
  have fb41 : 0 ≤ (v 41).toInt ∧ (v 41).toInt ≤ 200 := RC.V hR 41
  have fAo := RC.a hR ha
  rw [← ea] at fAo
  obtain ⟨⟨fm1o, fm2o, fm3o⟩, ⟨fv1o, fv2o, fv3o⟩, fsio, fppo, fwgo, frko, fofo, fdeo, fcho⟩ := fAo
  have fBo : 0 ≤ (fa 25 a).toInt ∧ (fa 25 a).toInt ≤ 3000 := RC.A hR 25 _
  have lamo : (fa 20 a).toNatClampNeg < (v 39).toNatClampNeg := ni_lt fm1o fm2o
  have namo : (((fa 20 a).toNatClampNeg : Nat) : Int) = (fa 20 a).toInt := tn_i fm1o
  obtain ⟨amo, eamo⟩ : ∃ z, z = mnA Z h0 (fa 20 a).toNatClampNeg := ⟨_, rfl⟩
  rw [← eamo] at fm3o
  have tamo : oty Z amo 6 := by rw [eamo]; exact (RC.tm hR gI th lamo).2
  have fMamo := RC.m hR lamo
  rw [← eamo] at fMamo
  obtain ⟨fz0amo, fz1amo, fz2amo, fz3amo⟩ := fMamo
  rw [namo] at fz0amo
  have lavo : (fa 21 a).toNatClampNeg < (v 40).toNatClampNeg := ni_lt fv1o fv2o
  have navo : (((fa 21 a).toNatClampNeg : Nat) : Int) = (fa 21 a).toInt := tn_i fv1o
  obtain ⟨avo, eavo⟩ : ∃ z, z = voA Z h0 (fa 21 a).toNatClampNeg := ⟨_, rfl⟩
  rw [← eavo] at fv3o
  have tavo : oty Z avo 9 := by rw [eavo]; exact (RC.tv hR gI th lavo).2
  have fVavo := RC.vo hR lavo
  rw [← eavo] at fVavo
  obtain ⟨fy0avo, fy1avo, fy2avo, fy3avo, fy4avo, fySavo, fyLavo, fyhavo⟩ := fVavo
  have fBavo : 0 ≤ (fa 7 ((fa 21 a).toNatClampNeg)).toInt ∧ (fa 7 ((fa 21 a).toNatClampNeg)).toInt ≤ 3000 := RC.A hR 7 _
  have fSavo := onc_i fySavo
  have fLavo := onc_i fyLavo
  rw [navo] at fy0avo fSavo fLavo
  refine lv_aload_n hx hb dX1_goesOn_0 rfl (lv_at hl 0 rfl) ?_
  obtain ⟨q_1, hq_1⟩ := og (cq := cq) to.1 (oE_1 to.2)
  refine va_get (D := (dC, dI)) (ci := 1) (v := .int (oI Z o 6)) (C := RX1) (T := TX1) (N := 18) hx hb hts in_wsX1_goesOn_X1 hown hK hP q_1 hq_1 rfl 6 (by decide +kernel) (hts (.fieldLink RX1 10 "ShipOffice$Agreement" "offDay" "I") iw_X1_goesOn_1) (fun _ h9 => h9) rfl dX1_goesOn_1 ?_
  refine lv_topi (fun x_2 ex_2 => ?_)
  have gx_2 : x_2.toInt = (oI Z o 6).toInt := iv_to ex_2
  clear ex_2
  refine lv_ldc (v := 1000000) hx hb hown (hts (.constant RX1 9 (1000000)) (by decide +kernel)) dX1_goesOn_4 ?_
  refine lv_icmp_ne (tgt := 32) hx hb dX1_goesOn_6 (by decide +kernel) (fun c_3 => ?_) (fun c_3 => ?_)
  · have dc_3 := c_ne (a := x_2.toInt) (b := 1000000) rfl (by decide +kernel) c_3
    refine lv_iconst (v := 0) hx hb dX1_goesOn_32 (by decide +kernel) ?_
    exact W.zret (v := 0) hx hb hr rfl (fun t ht hW => ⟨⟨0, (), rfl, ⟨(by decide +kernel), (by have rc : (0 : Int32).toInt = 0 := (by decide +kernel); unfold gonI; repeat (first | rw [if_pos (by omega)] | rw [if_neg (by omega)]); omega)⟩, trivial⟩, hS.F ht⟩) hS.2.2 dX1_goesOn_33
  · have dc_3 := c_eq (a := x_2.toInt) (b := 1000000) rfl (by decide +kernel) c_3
    refine lv_aload_n hx hb dX1_goesOn_9 rfl (lv_at hl 0 rfl) ?_
    refine va_get (D := (dC, dI)) (ci := 1) (v := .int (oI Z o 7)) (C := RX1) (T := TX1) (N := 18) hx hb hts in_wsX1_goesOn_X1 hown hK hP q_1 hq_1 rfl 7 (by decide +kernel) (hts (.fieldLink RX1 44 "ShipOffice$Agreement" "isDead" "Z") iw_X1_goesOn_2) (fun _ h9 => h9) rfl dX1_goesOn_10 ?_
    refine lv_topi (fun x_4 ex_4 => ?_)
    have gx_4 : x_4.toInt = (oI Z o 7).toInt := iv_to ex_4
    clear ex_4
    refine lv_if_ne (tgt := 32) hx hb dX1_goesOn_13 (by decide +kernel) (fun c_5 => ?_) (fun c_5 => ?_)
    · have dc_5 := c_ne (a := x_4.toInt) (b := 0) rfl (by decide +kernel) c_5
      refine lv_iconst (v := 0) hx hb dX1_goesOn_32 (by decide +kernel) ?_
      exact W.zret (v := 0) hx hb hr rfl (fun t ht hW => ⟨⟨0, (), rfl, ⟨(by decide +kernel), (by have rc : (0 : Int32).toInt = 0 := (by decide +kernel); unfold gonI; repeat (first | rw [if_pos (by omega)] | rw [if_neg (by omega)]); omega)⟩, trivial⟩, hS.F ht⟩) hS.2.2 dX1_goesOn_33
    · have dc_5 := c_eq (a := x_4.toInt) (b := 0) rfl (by decide +kernel) c_5
      refine lv_aload_n hx hb dX1_goesOn_16 rfl (lv_at hl 0 rfl) ?_
      refine va_get (D := (dC, dI)) (ci := 1) (v := .ref avo) (C := RX1) (T := TX1) (N := 18) hx hb hts in_wsX1_goesOn_X1 hown hK hP q_1 hq_1 rfl 1 (by decide +kernel) (hts (.fieldLink RX1 33 "ShipOffice$Agreement" "voyage" "LShipOffice$Voyage;") iw_X1_goesOn_3) (fun _ h9 => h9) (o_rd fv3o) dX1_goesOn_17 ?_
      obtain ⟨q_6, hq_6⟩ := og (cq := cq) tavo.1 (oE_9 tavo.2)
      refine va_get (D := (dC, dI)) (ci := 9) (v := .int (oI Z avo 8)) (C := RX9) (T := TX9) (N := 10) hx hb hts in_wsX1_goesOn_X9 hown hK hP q_6 hq_6 rfl 8 (by decide +kernel) (hts (.fieldLink RX1 48 "ShipOffice$Voyage" "lostTold" "I") iw_X1_goesOn_4) (fun _ h9 => h9) rfl dX1_goesOn_20 ?_
      refine lv_topi (fun x_7 ex_7 => ?_)
      have gx_7 : x_7.toInt = (oI Z avo 8).toInt := iv_to ex_7
      clear ex_7
      refine lv_ldc (v := 1000000) hx hb hown (hts (.constant RX1 9 (1000000)) (by decide +kernel)) dX1_goesOn_23 ?_
      refine lv_icmp_ne (tgt := 32) hx hb dX1_goesOn_25 (by decide +kernel) (fun c_8 => ?_) (fun c_8 => ?_)
      · have dc_8 := c_ne (a := x_7.toInt) (b := 1000000) rfl (by decide +kernel) c_8
        refine lv_iconst (v := 0) hx hb dX1_goesOn_32 (by decide +kernel) ?_
        exact W.zret (v := 0) hx hb hr rfl (fun t ht hW => ⟨⟨0, (), rfl, ⟨(by decide +kernel), (by have rc : (0 : Int32).toInt = 0 := (by decide +kernel); unfold gonI; repeat (first | rw [if_pos (by omega)] | rw [if_neg (by omega)]); omega)⟩, trivial⟩, hS.F ht⟩) hS.2.2 dX1_goesOn_33
      · have dc_8 := c_eq (a := x_7.toInt) (b := 1000000) rfl (by decide +kernel) c_8
        refine lv_iconst (v := 1) hx hb dX1_goesOn_28 (by decide +kernel) ?_
        refine lv_goto (tgt := 33) hx hb dX1_goesOn_29 (by decide +kernel) ?_
        exact W.zret (v := 1) hx hb hr rfl (fun t ht hW => ⟨⟨1, (), rfl, ⟨(by decide +kernel), (by have rc : (1 : Int32).toInt = 1 := (by decide +kernel); unfold gonI; repeat (first | rw [if_pos (by omega)] | rw [if_neg (by omega)]); omega)⟩, trivial⟩, hS.F ht⟩) hS.2.2 dX1_goesOn_33
/-- a voyage takes hands -/
noncomputable def tkI (v : Nat → Int32) (fa : Nat → Nat → Int32) (x : Nat) : Int := if (fa 9 x).toInt < 0 then (if tldI v fa 0 x = 0 then (if tldI v fa 2 x = 0 then 1 else 0) else 0) else 0
set_option maxHeartbeats 4000000 in
set_option maxRecDepth 100000 in
theorem c_X9_takesHands_c (l : Launch) (dC : Nat → ClassId) (dI : Nat → Nat → Nat) (sz : Nat) (cq : Nat → ClassId) (Z : oS) (gI : oInv Z) (o : Nat) (to : oty Z o 9) (h0 : Nat) (th : oty Z h0 10) (v : Nat → Int32) (fa : Nat → Nat → Int32) (hR : RC Z h0 v fa) (x : Nat) (hxv : x < (v 40).toNatClampNeg) (ex : o = voA Z h0 x) : Met l yX9_takesHands wsX9_takesHands ({ frames := 0, cells := 0, slots := 0, locals := 0 }) (va_Pc [.ref o] (pcW (dC, dI) (oT cq) (oW cq Z) sz)) (va_Qi (fun (r : Int32) (u : Unit) => (0 ≤ r.toInt ∧ r.toInt ≤ 1) ∧ (r.toInt = tkI v fa x)) (fun _ _ => True) (va_A [] sz)) 0 0 (va_A [] sz) := by
  refine Met.ofW (cc := cX9_takesHands) (maxL := 1) (ret := (some .boolean)) (by decide +kernel) rfl ?_
  intro p e s m args below meth c s₁ B hml hv
  obtain ⟨rfl, hsz, hP, hK, hD0⟩ := hv
  have hx := B.exec
  have hb := B.bytes
  have hr := B.returns
  have hts := atoms_spec (ws := wsX9_takesHands) B.pre
  have hown : s.vm.findClass RX9 = some m.cls := findClass_of_methodNamed B.named
  have hlocks := B.notSynchronized
  subst hsz
  have hD := hD0
  generalize hAe : va_A [] s.heap.size = A at ⊢
  have hA : ∀ q : Nat, s.heap.size ≤ q → A q := fun q h => by rw [← hAe]; exact Or.inr h
  have hS : va_S A s.heap s.heap [] := va_S.rf
  have hP : va_P (dC, dI) vwCl (oW cq Z) s.heap := hP
  have hl := lv_entry ([.ref o]) (n := 1) (Nat.le_of_ble_eq_true rfl)
  rw [lg_entry_eq]
  generalize (lg_sl ([.ref o]) ++ List.replicate (1 - (lg_sl ([.ref o])).length) Slot.unset).toArray = ls at hl ⊢
  have hl : lv_has ls 1 [(0, .ref o)] := hl
  obtain ⟨fn0, fn1, fn2, fn3, fn4⟩ := RC.n hR
  have fb38 : 0 ≤ (v 38).toInt ∧ (v 38).toInt ≤ 3000 := RC.V hR 38
  have fb39 : 0 ≤ (v 39).toInt ∧ (v 39).toInt ≤ 40 := RC.V hR 39
  have fb40 : 0 ≤ (v 40).toInt ∧ (v 40).toInt ≤ 20 := RC.V hR 40
  have fb43 : 0 ≤ (v 43).toInt ∧ (v 43).toInt ≤ 60 := RC.V hR 43
  have fb41 : 0 ≤ (v 41).toInt ∧ (v 41).toInt ≤ 200 := RC.V hR 41
  have fVo := RC.vo hR hxv
  rw [← ex] at fVo
  obtain ⟨fy0o, fy1o, fy2o, fy3o, fy4o, fySo, fyLo, fyho⟩ := fVo
  have fBo : 0 ≤ (fa 7 x).toInt ∧ (fa 7 x).toInt ≤ 3000 := RC.A hR 7 _
  have fSo := onc_i fySo
  have fLo := onc_i fyLo
  refine lv_aload_n hx hb dX9_takesHands_0 rfl (lv_at hl 0 rfl) ?_
  obtain ⟨q_1, hq_1⟩ := og (cq := cq) to.1 (oE_9 to.2)
  refine va_get (D := (dC, dI)) (ci := 9) (v := .int (oI Z o 4)) (C := RX9) (T := TX9) (N := 10) hx hb hts in_wsX9_takesHands_X9 hown hK hP q_1 hq_1 rfl 4 (by decide +kernel) (hts (.fieldLink RX9 37 "ShipOffice$Voyage" "isOver" "Z") iw_X9_takesHands_1) (fun _ h9 => h9) rfl dX9_takesHands_1 ?_
  refine lv_topi (fun x_2 ex_2 => ?_)
  have gx_2 : x_2.toInt = (oI Z o 4).toInt := iv_to ex_2
  clear ex_2
  refine lv_if_ne (tgt := 29) hx hb dX9_takesHands_4 (by decide +kernel) (fun c_3 => ?_) (fun c_3 => ?_)
  · have dc_3 := c_ne (a := x_2.toInt) (b := 0) rfl (by decide +kernel) c_3
    refine lv_iconst (v := 0) hx hb dX9_takesHands_29 (by decide +kernel) ?_
    exact W.zret (v := 0) hx hb hr rfl (fun t ht hW => ⟨⟨0, (), rfl, ⟨(by decide +kernel), (by have rc : (0 : Int32).toInt = 0 := (by decide +kernel); unfold tkI; repeat (first | rw [if_pos (by omega)] | rw [if_neg (by omega)]); omega)⟩, trivial⟩, hS.F ht⟩) hS.2.2 dX9_takesHands_30
  · have dc_3 := c_eq (a := x_2.toInt) (b := 0) rfl (by decide +kernel) c_3
    refine lv_aload_n hx hb dX9_takesHands_7 rfl (lv_at hl 0 rfl) ?_
    refine va_get (D := (dC, dI)) (ci := 9) (v := .int (oI Z o 6)) (C := RX9) (T := TX9) (N := 10) hx hb hts in_wsX9_takesHands_X9 hown hK hP q_1 hq_1 rfl 6 (by decide +kernel) (hts (.fieldLink RX9 16 "ShipOffice$Voyage" "sailedTold" "I") iw_X9_takesHands_2) (fun _ h9 => h9) rfl dX9_takesHands_8 ?_
    refine lv_topi (fun x_4 ex_4 => ?_)
    have gx_4 : x_4.toInt = (oI Z o 6).toInt := iv_to ex_4
    clear ex_4
    refine lv_ldc (v := 1000000) hx hb hown (hts (.constant RX9 9 (1000000)) (by decide +kernel)) dX9_takesHands_11 ?_
    refine lv_icmp_ne (tgt := 29) hx hb dX9_takesHands_13 (by decide +kernel) (fun c_5 => ?_) (fun c_5 => ?_)
    · have dc_5 := c_ne (a := x_4.toInt) (b := 1000000) rfl (by decide +kernel) c_5
      refine lv_iconst (v := 0) hx hb dX9_takesHands_29 (by decide +kernel) ?_
      exact W.zret (v := 0) hx hb hr rfl (fun t ht hW => ⟨⟨0, (), rfl, ⟨(by decide +kernel), (by have rc : (0 : Int32).toInt = 0 := (by decide +kernel); unfold tkI; repeat (first | rw [if_pos (by omega)] | rw [if_neg (by omega)]); omega)⟩, trivial⟩, hS.F ht⟩) hS.2.2 dX9_takesHands_30
    · have dc_5 := c_eq (a := x_4.toInt) (b := 1000000) rfl (by decide +kernel) c_5
      refine lv_aload_n hx hb dX9_takesHands_16 rfl (lv_at hl 0 rfl) ?_
      refine va_get (D := (dC, dI)) (ci := 9) (v := .int (oI Z o 8)) (C := RX9) (T := TX9) (N := 10) hx hb hts in_wsX9_takesHands_X9 hown hK hP q_1 hq_1 rfl 8 (by decide +kernel) (hts (.fieldLink RX9 22 "ShipOffice$Voyage" "lostTold" "I") iw_X9_takesHands_3) (fun _ h9 => h9) rfl dX9_takesHands_17 ?_
      refine lv_topi (fun x_6 ex_6 => ?_)
      have gx_6 : x_6.toInt = (oI Z o 8).toInt := iv_to ex_6
      clear ex_6
      refine lv_ldc (v := 1000000) hx hb hown (hts (.constant RX9 9 (1000000)) (by decide +kernel)) dX9_takesHands_20 ?_
      refine lv_icmp_ne (tgt := 29) hx hb dX9_takesHands_22 (by decide +kernel) (fun c_7 => ?_) (fun c_7 => ?_)
      · have dc_7 := c_ne (a := x_6.toInt) (b := 1000000) rfl (by decide +kernel) c_7
        refine lv_iconst (v := 0) hx hb dX9_takesHands_29 (by decide +kernel) ?_
        exact W.zret (v := 0) hx hb hr rfl (fun t ht hW => ⟨⟨0, (), rfl, ⟨(by decide +kernel), (by have rc : (0 : Int32).toInt = 0 := (by decide +kernel); unfold tkI; repeat (first | rw [if_pos (by omega)] | rw [if_neg (by omega)]); omega)⟩, trivial⟩, hS.F ht⟩) hS.2.2 dX9_takesHands_30
      · have dc_7 := c_eq (a := x_6.toInt) (b := 1000000) rfl (by decide +kernel) c_7
        refine lv_iconst (v := 1) hx hb dX9_takesHands_25 (by decide +kernel) ?_
        refine lv_goto (tgt := 30) hx hb dX9_takesHands_26 (by decide +kernel) ?_
        exact W.zret (v := 1) hx hb hr rfl (fun t ht hW => ⟨⟨1, (), rfl, ⟨(by decide +kernel), (by have rc : (1 : Int32).toInt = 1 := (by decide +kernel); unfold tkI; repeat (first | rw [if_pos (by omega)] | rw [if_neg (by omega)]); omega)⟩, trivial⟩, hS.F ht⟩) hS.2.2 dX9_takesHands_30
set_option maxHeartbeats 4000000 in
set_option maxRecDepth 100000 in
theorem c_X10_hasVoyage_c (l : Launch) (dC : Nat → ClassId) (dI : Nat → Nat → Nat) (sz : Nat) (cq : Nat → ClassId) (Z : oS) (gI : oInv Z) (o : Nat) (to : oty Z o 10) (x1 : Int32) (v : Nat → Int32) (fa : Nat → Nat → Int32) (hR : RC Z o v fa) : Met l yX10_hasVoyage wsX10_hasVoyage ({ frames := 0, cells := 0, slots := 0, locals := 0 }) (va_Pc [.ref o, .int x1] (pcW (dC, dI) (oT cq) (oW cq Z) sz)) (va_Qi (fun (r : Int32) (u : Unit) => (0 ≤ r.toInt ∧ r.toInt ≤ 1) ∧ (r.toInt = hvI v fa x1.toInt)) (fun _ _ => True) (va_A [] sz)) 0 0 (va_A [] sz) := by
  refine Met.ofW (cc := cX10_hasVoyage) (maxL := 3) (ret := (some .boolean)) (by decide +kernel) rfl ?_
  intro p e s m args below meth c s₁ B hml hv
  obtain ⟨rfl, hsz, hP, hK, hD0⟩ := hv
  have hx := B.exec
  have hb := B.bytes
  have hr := B.returns
  have hts := atoms_spec (ws := wsX10_hasVoyage) B.pre
  have hown : s.vm.findClass RX10 = some m.cls := findClass_of_methodNamed B.named
  have hlocks := B.notSynchronized
  subst hsz
  have hD := hD0
  generalize hAe : va_A [] s.heap.size = A at ⊢
  have hA : ∀ q : Nat, s.heap.size ≤ q → A q := fun q h => by rw [← hAe]; exact Or.inr h
  have hS : va_S A s.heap s.heap [] := va_S.rf
  have hP : va_P (dC, dI) vwCl (oW cq Z) s.heap := hP
  have hl := lv_entry ([.ref o, .int x1]) (n := 3) (Nat.le_of_ble_eq_true rfl)
  rw [lg_entry_eq]
  generalize (lg_sl ([.ref o, .int x1]) ++ List.replicate (3 - (lg_sl ([.ref o, .int x1])).length) Slot.unset).toArray = ls at hl ⊢
  have hl : lv_has ls 3 [(0, .ref o), (1, .int x1)] := hl
  obtain ⟨fn0, fn1, fn2, fn3, fn4⟩ := RC.n hR
  have fb38 : 0 ≤ (v 38).toInt ∧ (v 38).toInt ≤ 3000 := RC.V hR 38
  have fb39 : 0 ≤ (v 39).toInt ∧ (v 39).toInt ≤ 40 := RC.V hR 39
  have fb40 : 0 ≤ (v 40).toInt ∧ (v 40).toInt ≤ 20 := RC.V hR 40
  have fb43 : 0 ≤ (v 43).toInt ∧ (v 43).toInt ≤ 60 := RC.V hR 43
  have fb41 : 0 ≤ (v 41).toInt ∧ (v 41).toInt ≤ 200 := RC.V hR 41
  refine lv_iconst (v := 0) hx hb dX10_hasVoyage_0 (by decide +kernel) ?_
  refine lv_istore_n (lv' := [(2, .int 0), (0, .ref o), (1, .int x1)]) hx hb dX10_hasVoyage_1 rfl hl (by decide +kernel) rfl (fun ls hl => ?_)
  have cut_1 : ∀ (n : Nat) (y_2 : Int32) (H : Heap) (locs : List Loc) (ls : Array Slot), 20 - y_2.toInt ≤ (n : Int) → (0 ≤ y_2.toInt ∧ y_2.toInt ≤ 20) → (∀ j, j < y_2.toNatClampNeg → ¬ ((fa 6 j).toInt = x1.toInt ∧ (fa 9 j).toInt < 0)) → va_P (dC, dI) vwCl (oW cq Z) H → va_S A s.heap H locs → lv_has ls 3 [(2, .int y_2), (0, .ref o), (1, .int x1)] → W p l e (headSpec wsX10_hasVoyage { frames := 0, cells := 0, slots := 0, locals := 0 }).room s m #[Value.ref o, Value.int x1] below meth c H locs 0 0 (MQ below (va_Qi (fun (r : Int32) (u : Unit) => (0 ≤ r.toInt ∧ r.toInt ≤ 1) ∧ (r.toInt = hvI v fa x1.toInt)) (fun _ _ => True) A) #[Value.ref o, Value.int x1] s 0 0 A) (F0 m 2 ls []) := by
    intro n
    induction n using Nat.strongRecOn with
    | ind n ih =>
      intro y_2 H locs ls hm hy_2 hq0_cut_1 hP hS hl
      refine lv_iload_n hx hb dX10_hasVoyage_2 rfl (lv_at hl 0 rfl) ?_
      refine lv_aload_n hx hb dX10_hasVoyage_3 rfl (lv_at hl 1 rfl) ?_
      obtain ⟨q_3, hq_3⟩ := og (cq := cq) to.1 (oE_10 to.2)
      refine va_get (D := (dC, dI)) (ci := 10) (v := .int (oI Z o 4)) (C := RX10) (T := TX10) (N := 16) hx hb hts in_wsX10_hasVoyage_X10 hown hK hP q_3 hq_3 rfl 4 (by decide +kernel) (hts (.fieldLink RX10 99 "ShipOffice" "voyageCount" "I") iw_X10_hasVoyage_1) (fun _ h9 => h9) rfl dX10_hasVoyage_4 ?_
      refine lv_topi (fun x_4 ex_4 => ?_)
      have hx_4 : 0 ≤ x_4.toInt ∧ x_4.toInt ≤ 20 := iv_of ex_4 (oInv.iv gI to.2 rfl rfl)
      have gx_4 : x_4.toInt = (oI Z o 4).toInt := iv_to ex_4
      clear ex_4
      refine lv_icmp_ge (tgt := 43) hx hb dX10_hasVoyage_7 (by decide +kernel) (fun c_5 => ?_) (fun c_5 => ?_)
      · have dc_5 := c_le (a := x_4.toInt) (b := y_2.toInt) rfl rfl c_5
        refine lv_iconst (v := 0) hx hb dX10_hasVoyage_43 (by decide +kernel) ?_
        exact W.zret (v := 0) hx hb hr rfl (fun t ht hW => ⟨⟨0, (), rfl, ⟨(by decide +kernel), (b1_f (fun ⟨j, hj, hp⟩ => al_e hq0_cut_1 (by omega) j hj hp))⟩, trivial⟩, hS.F ht⟩) hS.2.2 dX10_hasVoyage_44
      · have dc_5 := c_nle (a := x_4.toInt) (b := y_2.toInt) rfl rfl c_5
        refine lv_aload_n hx hb dX10_hasVoyage_10 rfl (lv_at hl 1 rfl) ?_
        obtain ⟨b_6, hb_6⟩ := oInv.nn (i := 3) gI to rfl
        refine va_get (D := (dC, dI)) (ci := 10) (v := .ref b_6) (C := RX10) (T := TX10) (N := 16) hx hb hts in_wsX10_hasVoyage_X10 hown hK hP q_3 hq_3 rfl 3 (by decide +kernel) (hts (.fieldLink RX10 17 "ShipOffice" "voyages" "[LShipOffice$Voyage;") iw_X10_hasVoyage_2) (fun _ h9 => h9) (o_rd hb_6) dX10_hasVoyage_11 ?_
        have tb_6 : oty Z b_6 15 := oInv.rd gI to.2 hb_6 rfl rfl
        refine lv_iload_n hx hb dX10_hasVoyage_14 rfl (lv_at hl 0 rfl) ?_
        obtain ⟨q_7, hq_7⟩ := og (cq := cq) tb_6.1 (oE_15 tb_6.2)
        refine va_aldq hx hb hK hP q_7 4 hq_7 rfl (vp_in_iff.mpr (by omega)) dX10_hasVoyage_15 ?_
        obtain ⟨b_8, hb_8⟩ := oInv.el (i := 4) (x := y_2) gI to rfl hb_6 (by omega) (by omega)
        refine W.eq (g2 := F0 m 16 ls [.ref b_8]) (congrArg (fun z => F0 m 16 ls [va_rf z]) hb_8) ?_
        have tb_8 : oty Z b_8 9 := oInv.rd gI tb_6.2 hb_8 rfl rfl
        have ejb_8 : b_8 = voA Z o y_2.toNatClampNeg := by unfold voA; rw [oQ_e hb_6, oQ_e hb_8]
        have ljb_8 : y_2.toNatClampNeg < (v 40).toNatClampNeg := ni_lt (by omega) (by omega)
        have njb_8 : ((y_2.toNatClampNeg : Nat) : Int) = y_2.toInt := tn_i (by omega)
        have fVb_8 := RC.vo hR ljb_8
        rw [← ejb_8] at fVb_8
        obtain ⟨fy0b_8, fy1b_8, fy2b_8, fy3b_8, fy4b_8, fySb_8, fyLb_8, fyhb_8⟩ := fVb_8
        have fBb_8 : 0 ≤ (fa 7 y_2.toNatClampNeg).toInt ∧ (fa 7 y_2.toNatClampNeg).toInt ≤ 3000 := RC.A hR 7 _
        have fSb_8 := onc_i fySb_8
        have fLb_8 := onc_i fyLb_8
        rw [njb_8] at fy0b_8 fSb_8 fLb_8
        obtain ⟨q_9, hq_9⟩ := og (cq := cq) tb_8.1 (oE_9 tb_8.2)
        refine va_get (D := (dC, dI)) (ci := 9) (v := .int (oI Z b_8 1)) (C := RX9) (T := TX9) (N := 10) hx hb hts in_wsX10_hasVoyage_X9 hown hK hP q_9 hq_9 rfl 1 (by decide +kernel) (hts (.fieldLink RX10 386 "ShipOffice$Voyage" "ship" "I") iw_X10_hasVoyage_3) (fun _ h9 => h9) rfl dX10_hasVoyage_16 ?_
        refine lv_topi (fun x_10 ex_10 => ?_)
        have gx_10 : x_10.toInt = (oI Z b_8 1).toInt := iv_to ex_10
        clear ex_10
        refine lv_iload_n hx hb dX10_hasVoyage_19 rfl (lv_at hl 2 rfl) ?_
        refine lv_icmp_ne (tgt := 37) hx hb dX10_hasVoyage_20 (by decide +kernel) (fun c_11 => ?_) (fun c_11 => ?_)
        · have dc_11 := c_ne (a := x_10.toInt) (b := x1.toInt) rfl rfl c_11
          obtain ⟨x_12, ex_12⟩ : ∃ zq : Int32, y_2 + 1 = zq := ⟨_, rfl⟩
          have hx_12 : x_12.toInt = y_2.toInt + 1 := (iv_to ex_12).symm.trans (ad_i rfl (by decide +kernel) (by omega) (by omega))
          refine lv_iinc (v := x_12) (lv' := [(2, .int x_12), (0, .ref o), (1, .int x1)]) hx hb dX10_hasVoyage_37 hl (k := 0) rfl ex_12 (by decide +kernel) rfl (fun ls hl => ?_)
          clear ex_12
          refine lv_goto (tgt := 2) hx hb dX10_hasVoyage_40 (by decide +kernel) ?_
          exact ih (n - 1) (by omega) x_12 _ _ ls (by omega) (by omega) (al_s hq0_cut_1 (fun q => by omega) (by omega) (by omega)) hP hS (lv_sub hl [0, 1, 2] rfl)
        · have dc_11 := c_eq (a := x_10.toInt) (b := x1.toInt) rfl rfl c_11
          refine lv_aload_n hx hb dX10_hasVoyage_23 rfl (lv_at hl 1 rfl) ?_
          refine va_get (D := (dC, dI)) (ci := 10) (v := .ref b_6) (C := RX10) (T := TX10) (N := 16) hx hb hts in_wsX10_hasVoyage_X10 hown hK hP q_3 hq_3 rfl 3 (by decide +kernel) (hts (.fieldLink RX10 17 "ShipOffice" "voyages" "[LShipOffice$Voyage;") iw_X10_hasVoyage_2) (fun _ h9 => h9) (o_rd hb_6) dX10_hasVoyage_24 ?_
          refine lv_iload_n hx hb dX10_hasVoyage_27 rfl (lv_at hl 0 rfl) ?_
          refine va_aldq hx hb hK hP q_7 4 hq_7 rfl (vp_in_iff.mpr (by omega)) dX10_hasVoyage_28 ?_
          obtain ⟨b_13, hb_13⟩ := oInv.el (i := 4) (x := y_2) gI to rfl hb_6 (by omega) (by omega)
          refine W.eq (g2 := F0 m 29 ls [.ref b_13]) (congrArg (fun z => F0 m 29 ls [va_rf z]) hb_13) ?_
          have tb_13 : oty Z b_13 9 := oInv.rd gI tb_6.2 hb_13 rfl rfl
          have ejb_13 : b_13 = voA Z o y_2.toNatClampNeg := by unfold voA; rw [oQ_e hb_6, oQ_e hb_13]
          have ljb_13 : y_2.toNatClampNeg < (v 40).toNatClampNeg := ni_lt (by omega) (by omega)
          have njb_13 : ((y_2.toNatClampNeg : Nat) : Int) = y_2.toInt := tn_i (by omega)
          have fVb_13 := RC.vo hR ljb_13
          rw [← ejb_13] at fVb_13
          obtain ⟨fy0b_13, fy1b_13, fy2b_13, fy3b_13, fy4b_13, fySb_13, fyLb_13, fyhb_13⟩ := fVb_13
          have fBb_13 : 0 ≤ (fa 7 y_2.toNatClampNeg).toInt ∧ (fa 7 y_2.toNatClampNeg).toInt ≤ 3000 := RC.A hR 7 _
          have fSb_13 := onc_i fySb_13
          have fLb_13 := onc_i fyLb_13
          rw [njb_13] at fy0b_13 fSb_13 fLb_13
          obtain ⟨q_14, hq_14⟩ := og (cq := cq) tb_13.1 (oE_9 tb_13.2)
          refine va_get (D := (dC, dI)) (ci := 9) (v := .int (oI Z b_13 4)) (C := RX9) (T := TX9) (N := 10) hx hb hts in_wsX10_hasVoyage_X9 hown hK hP q_14 hq_14 rfl 4 (by decide +kernel) (hts (.fieldLink RX10 107 "ShipOffice$Voyage" "isOver" "Z") iw_X10_hasVoyage_4) (fun _ h9 => h9) rfl dX10_hasVoyage_29 ?_
          refine lv_topi (fun x_15 ex_15 => ?_)
          have gx_15 : x_15.toInt = (oI Z b_13 4).toInt := iv_to ex_15
          clear ex_15
          refine lv_if_ne (tgt := 37) hx hb dX10_hasVoyage_32 (by decide +kernel) (fun c_16 => ?_) (fun c_16 => ?_)
          · have dc_16 := c_ne (a := x_15.toInt) (b := 0) rfl (by decide +kernel) c_16
            obtain ⟨x_17, ex_17⟩ : ∃ zq : Int32, y_2 + 1 = zq := ⟨_, rfl⟩
            have hx_17 : x_17.toInt = y_2.toInt + 1 := (iv_to ex_17).symm.trans (ad_i rfl (by decide +kernel) (by omega) (by omega))
            refine lv_iinc (v := x_17) (lv' := [(2, .int x_17), (0, .ref o), (1, .int x1)]) hx hb dX10_hasVoyage_37 hl (k := 0) rfl ex_17 (by decide +kernel) rfl (fun ls hl => ?_)
            clear ex_17
            refine lv_goto (tgt := 2) hx hb dX10_hasVoyage_40 (by decide +kernel) ?_
            exact ih (n - 1) (by omega) x_17 _ _ ls (by omega) (by omega) (al_s hq0_cut_1 (fun q => by omega) (by omega) (by omega)) hP hS (lv_sub hl [0, 1, 2] rfl)
          · have dc_16 := c_eq (a := x_15.toInt) (b := 0) rfl (by decide +kernel) c_16
            refine lv_iconst (v := 1) hx hb dX10_hasVoyage_35 (by decide +kernel) ?_
            exact W.zret (v := 1) hx hb hr rfl (fun t ht hW => ⟨⟨1, (), rfl, ⟨(by decide +kernel), (b1_t ⟨y_2.toNatClampNeg, ni_lt (by omega) (by omega), by omega, by omega⟩)⟩, trivial⟩, hS.F ht⟩) hS.2.2 dX10_hasVoyage_36
  have kc_18 : (0 : Int32).toInt = 0 := by decide
  exact cut_1 21 0 _ _ ls (by omega) (by decide +kernel) (al_0 (by decide +kernel)) hP hS (lv_sub hl [0, 1, 2] rfl)
set_option maxHeartbeats 4000000 in
set_option maxRecDepth 100000 in
theorem c_X10_isFree_c (l : Launch) (dC : Nat → ClassId) (dI : Nat → Nat → Nat) (sz : Nat) (cq : Nat → ClassId) (Z : oS) (gI : oInv Z) (o : Nat) (to : oty Z o 10) (a1 : Nat) (ta1 : oty Z a1 6) (v : Nat → Int32) (fa : Nat → Nat → Int32) (hR : RC Z o v fa) (mn_ : Nat) (hmn : mn_ < (v 39).toNatClampNeg) (em : a1 = mnA Z o mn_) : Met l yX10_isFree wsX10_isFree ({ frames := 1, cells := 0, slots := 0, locals := 20 }) (va_Pc [.ref o, .ref a1] (pcW (dC, dI) (oT cq) (oW cq Z) sz)) (va_Qi (fun (r : Int32) (u : Unit) => (0 ≤ r.toInt ∧ r.toInt ≤ 1) ∧ (r.toInt = frI v fa (mn_ : Int))) (fun _ _ => True) (va_A [] sz)) 0 0 (va_A [] sz) := by
  refine Met.ofW (cc := cX10_isFree) (maxL := 3) (ret := (some .boolean)) (by decide +kernel) rfl ?_
  intro p e s m args below meth c s₁ B hml hv
  obtain ⟨rfl, hsz, hP, hK, hD0⟩ := hv
  have hx := B.exec
  have hb := B.bytes
  have hr := B.returns
  have hts := atoms_spec (ws := wsX10_isFree) B.pre
  have hown : s.vm.findClass RX10 = some m.cls := findClass_of_methodNamed B.named
  have hlocks := B.notSynchronized
  subst hsz
  have hD := hD0
  generalize hAe : va_A [] s.heap.size = A at ⊢
  have hA : ∀ q : Nat, s.heap.size ≤ q → A q := fun q h => by rw [← hAe]; exact Or.inr h
  have hS : va_S A s.heap s.heap [] := va_S.rf
  have hP : va_P (dC, dI) vwCl (oW cq Z) s.heap := hP
  have hl := lv_entry ([.ref o, .ref a1]) (n := 3) (Nat.le_of_ble_eq_true rfl)
  rw [lg_entry_eq]
  generalize (lg_sl ([.ref o, .ref a1]) ++ List.replicate (3 - (lg_sl ([.ref o, .ref a1])).length) Slot.unset).toArray = ls at hl ⊢
  have hl : lv_has ls 3 [(0, .ref o), (1, .ref a1)] := hl
  obtain ⟨fn0, fn1, fn2, fn3, fn4⟩ := RC.n hR
  have fb38 : 0 ≤ (v 38).toInt ∧ (v 38).toInt ≤ 3000 := RC.V hR 38
  have fb39 : 0 ≤ (v 39).toInt ∧ (v 39).toInt ≤ 40 := RC.V hR 39
  have fb40 : 0 ≤ (v 40).toInt ∧ (v 40).toInt ≤ 20 := RC.V hR 40
  have fb43 : 0 ≤ (v 43).toInt ∧ (v 43).toInt ≤ 60 := RC.V hR 43
  have fb41 : 0 ≤ (v 41).toInt ∧ (v 41).toInt ≤ 200 := RC.V hR 41
  have fMa1 := RC.m hR hmn
  rw [← em] at fMa1
  obtain ⟨fz0a1, fz1a1, fz2a1, fz3a1⟩ := fMa1
  refine lv_iconst (v := 0) hx hb dX10_isFree_0 (by decide +kernel) ?_
  refine lv_istore_n (lv' := [(2, .int 0), (0, .ref o), (1, .ref a1)]) hx hb dX10_isFree_1 rfl hl (by decide +kernel) rfl (fun ls hl => ?_)
  have cut_1 : ∀ (n : Nat) (y_2 : Int32) (H : Heap) (locs : List Loc) (ls : Array Slot), 60 - y_2.toInt ≤ (n : Int) → (0 ≤ y_2.toInt ∧ y_2.toInt ≤ 60) → (∀ j, j < y_2.toNatClampNeg → ¬ ((fa 20 j).toInt = (mn_ : Int) ∧ gonI v fa j = 1)) → va_P (dC, dI) vwCl (oW cq Z) H → va_S A s.heap H locs → lv_has ls 3 [(2, .int y_2), (0, .ref o), (1, .ref a1)] → W p l e (headSpec wsX10_isFree { frames := 1, cells := 0, slots := 0, locals := 20 }).room s m #[Value.ref o, Value.ref a1] below meth c H locs 0 0 (MQ below (va_Qi (fun (r : Int32) (u : Unit) => (0 ≤ r.toInt ∧ r.toInt ≤ 1) ∧ (r.toInt = frI v fa (mn_ : Int))) (fun _ _ => True) A) #[Value.ref o, Value.ref a1] s 0 0 A) (F0 m 2 ls []) := by
    intro n
    induction n using Nat.strongRecOn with
    | ind n ih =>
      intro y_2 H locs ls hm hy_2 hq0_cut_1 hP hS hl
      refine lv_iload_n hx hb dX10_isFree_2 rfl (lv_at hl 0 rfl) ?_
      refine lv_aload_n hx hb dX10_isFree_3 rfl (lv_at hl 1 rfl) ?_
      obtain ⟨q_3, hq_3⟩ := og (cq := cq) to.1 (oE_10 to.2)
      refine va_get (D := (dC, dI)) (ci := 10) (v := .int (oI Z o 6)) (C := RX10) (T := TX10) (N := 16) hx hb hts in_wsX10_isFree_X10 hown hK hP q_3 hq_3 rfl 6 (by decide +kernel) (hts (.fieldLink RX10 115 "ShipOffice" "agreementCount" "I") iw_X10_isFree_1) (fun _ h9 => h9) rfl dX10_isFree_4 ?_
      refine lv_topi (fun x_4 ex_4 => ?_)
      have hx_4 : 0 ≤ x_4.toInt ∧ x_4.toInt ≤ 60 := iv_of ex_4 (oInv.iv gI to.2 rfl rfl)
      have gx_4 : x_4.toInt = (oI Z o 6).toInt := iv_to ex_4
      clear ex_4
      refine lv_icmp_ge (tgt := 43) hx hb dX10_isFree_7 (by decide +kernel) (fun c_5 => ?_) (fun c_5 => ?_)
      · have dc_5 := c_le (a := x_4.toInt) (b := y_2.toInt) rfl rfl c_5
        refine lv_iconst (v := 1) hx hb dX10_isFree_43 (by decide +kernel) ?_
        exact W.zret (v := 1) hx hb hr rfl (fun t ht hW => ⟨⟨1, (), rfl, ⟨(by decide +kernel), (b1_t (al_e hq0_cut_1 (by omega)))⟩, trivial⟩, hS.F ht⟩) hS.2.2 dX10_isFree_44
      · have dc_5 := c_nle (a := x_4.toInt) (b := y_2.toInt) rfl rfl c_5
        refine lv_aload_n hx hb dX10_isFree_10 rfl (lv_at hl 1 rfl) ?_
        obtain ⟨b_6, hb_6⟩ := oInv.nn (i := 5) gI to rfl
        refine va_get (D := (dC, dI)) (ci := 10) (v := .ref b_6) (C := RX10) (T := TX10) (N := 16) hx hb hts in_wsX10_isFree_X10 hown hK hP q_3 hq_3 rfl 5 (by decide +kernel) (hts (.fieldLink RX10 23 "ShipOffice" "agreements" "[LShipOffice$Agreement;") iw_X10_isFree_2) (fun _ h9 => h9) (o_rd hb_6) dX10_isFree_11 ?_
        have tb_6 : oty Z b_6 16 := oInv.rd gI to.2 hb_6 rfl rfl
        refine lv_iload_n hx hb dX10_isFree_14 rfl (lv_at hl 0 rfl) ?_
        obtain ⟨q_7, hq_7⟩ := og (cq := cq) tb_6.1 (oE_16 tb_6.2)
        refine va_aldq hx hb hK hP q_7 5 hq_7 rfl (vp_in_iff.mpr (by omega)) dX10_isFree_15 ?_
        obtain ⟨b_8, hb_8⟩ := oInv.el (i := 6) (x := y_2) gI to rfl hb_6 (by omega) (by omega)
        refine W.eq (g2 := F0 m 16 ls [.ref b_8]) (congrArg (fun z => F0 m 16 ls [va_rf z]) hb_8) ?_
        have tb_8 : oty Z b_8 1 := oInv.rd gI tb_6.2 hb_8 rfl rfl
        have ejb_8 : b_8 = agA Z o y_2.toNatClampNeg := by unfold agA; rw [oQ_e hb_6, oQ_e hb_8]
        have ljb_8 : y_2.toNatClampNeg < (v 43).toNatClampNeg := ni_lt (by omega) (by omega)
        have njb_8 : ((y_2.toNatClampNeg : Nat) : Int) = y_2.toInt := tn_i (by omega)
        have fAb_8 := RC.a hR ljb_8
        rw [← ejb_8] at fAb_8
        obtain ⟨⟨fm1b_8, fm2b_8, fm3b_8⟩, ⟨fv1b_8, fv2b_8, fv3b_8⟩, fsib_8, fppb_8, fwgb_8, frkb_8, fofb_8, fdeb_8, fchb_8⟩ := fAb_8
        have fBb_8 : 0 ≤ (fa 25 y_2.toNatClampNeg).toInt ∧ (fa 25 y_2.toNatClampNeg).toInt ≤ 3000 := RC.A hR 25 _
        have lamb_8 : (fa 20 y_2.toNatClampNeg).toNatClampNeg < (v 39).toNatClampNeg := ni_lt fm1b_8 fm2b_8
        have namb_8 : (((fa 20 y_2.toNatClampNeg).toNatClampNeg : Nat) : Int) = (fa 20 y_2.toNatClampNeg).toInt := tn_i fm1b_8
        obtain ⟨amb_8, eamb_8⟩ : ∃ z, z = mnA Z o (fa 20 y_2.toNatClampNeg).toNatClampNeg := ⟨_, rfl⟩
        rw [← eamb_8] at fm3b_8
        have tamb_8 : oty Z amb_8 6 := by rw [eamb_8]; exact (RC.tm hR gI to lamb_8).2
        have fMamb_8 := RC.m hR lamb_8
        rw [← eamb_8] at fMamb_8
        obtain ⟨fz0amb_8, fz1amb_8, fz2amb_8, fz3amb_8⟩ := fMamb_8
        rw [namb_8] at fz0amb_8
        have lavb_8 : (fa 21 y_2.toNatClampNeg).toNatClampNeg < (v 40).toNatClampNeg := ni_lt fv1b_8 fv2b_8
        have navb_8 : (((fa 21 y_2.toNatClampNeg).toNatClampNeg : Nat) : Int) = (fa 21 y_2.toNatClampNeg).toInt := tn_i fv1b_8
        obtain ⟨avb_8, eavb_8⟩ : ∃ z, z = voA Z o (fa 21 y_2.toNatClampNeg).toNatClampNeg := ⟨_, rfl⟩
        rw [← eavb_8] at fv3b_8
        have tavb_8 : oty Z avb_8 9 := by rw [eavb_8]; exact (RC.tv hR gI to lavb_8).2
        have fVavb_8 := RC.vo hR lavb_8
        rw [← eavb_8] at fVavb_8
        obtain ⟨fy0avb_8, fy1avb_8, fy2avb_8, fy3avb_8, fy4avb_8, fySavb_8, fyLavb_8, fyhavb_8⟩ := fVavb_8
        have fBavb_8 : 0 ≤ (fa 7 ((fa 21 y_2.toNatClampNeg).toNatClampNeg)).toInt ∧ (fa 7 ((fa 21 y_2.toNatClampNeg).toNatClampNeg)).toInt ≤ 3000 := RC.A hR 7 _
        have fSavb_8 := onc_i fySavb_8
        have fLavb_8 := onc_i fyLavb_8
        rw [navb_8] at fy0avb_8 fSavb_8 fLavb_8
        obtain ⟨q_9, hq_9⟩ := og (cq := cq) tb_8.1 (oE_1 tb_8.2)
        refine va_get (D := (dC, dI)) (ci := 1) (v := .ref amb_8) (C := RX1) (T := TX1) (N := 18) hx hb hts in_wsX10_isFree_X1 hown hK hP q_9 hq_9 rfl 0 (by decide +kernel) (hts (.fieldLink RX10 299 "ShipOffice$Agreement" "man" "LShipOffice$Man;") iw_X10_isFree_3) (fun _ h9 => h9) (o_rd fm3b_8) dX10_isFree_16 ?_
        refine lv_aload_n hx hb dX10_isFree_19 rfl (lv_at hl 2 rfl) ?_
        refine lv_acmp_ne (rx := (some amb_8)) (ry := (some a1)) (tgt := 37) hx hb dX10_isFree_20 (by decide +kernel) (fun c_10 => ?_) (fun c_10 => ?_)
        · have _ := c_10
          have ac_11 : ¬ (fa 20 y_2.toNatClampNeg).toNatClampNeg = mn_ := fun q => c_10 (congrArg some (eamb_8.trans ((congrArg (mnA Z o) q).trans em.symm)))
          obtain ⟨x_12, ex_12⟩ : ∃ zq : Int32, y_2 + 1 = zq := ⟨_, rfl⟩
          have hx_12 : x_12.toInt = y_2.toInt + 1 := (iv_to ex_12).symm.trans (ad_i rfl (by decide +kernel) (by omega) (by omega))
          refine lv_iinc (v := x_12) (lv' := [(2, .int x_12), (0, .ref o), (1, .ref a1)]) hx hb dX10_isFree_37 hl (k := 0) rfl ex_12 (by decide +kernel) rfl (fun ls hl => ?_)
          clear ex_12
          refine lv_goto (tgt := 2) hx hb dX10_isFree_40 (by decide +kernel) ?_
          exact ih (n - 1) (by omega) x_12 _ _ ls (by omega) (by omega) (al_s hq0_cut_1 (fun q => by omega) (by omega) (by omega)) hP hS (lv_sub hl [0, 1, 2] rfl)
        · have _ := c_10
          have ac_13 : (fa 20 y_2.toNatClampNeg).toNatClampNeg = mn_ := RC.mi hR lamb_8 hmn (eamb_8.symm.trans ((Option.some.inj c_10).trans em))
          refine lv_aload_n hx hb dX10_isFree_23 rfl (lv_at hl 1 rfl) ?_
          refine va_get (D := (dC, dI)) (ci := 10) (v := .ref b_6) (C := RX10) (T := TX10) (N := 16) hx hb hts in_wsX10_isFree_X10 hown hK hP q_3 hq_3 rfl 5 (by decide +kernel) (hts (.fieldLink RX10 23 "ShipOffice" "agreements" "[LShipOffice$Agreement;") iw_X10_isFree_2) (fun _ h9 => h9) (o_rd hb_6) dX10_isFree_24 ?_
          refine lv_iload_n hx hb dX10_isFree_27 rfl (lv_at hl 0 rfl) ?_
          refine va_aldq hx hb hK hP q_7 5 hq_7 rfl (vp_in_iff.mpr (by omega)) dX10_isFree_28 ?_
          obtain ⟨b_14, hb_14⟩ := oInv.el (i := 6) (x := y_2) gI to rfl hb_6 (by omega) (by omega)
          refine W.eq (g2 := F0 m 29 ls [.ref b_14]) (congrArg (fun z => F0 m 29 ls [va_rf z]) hb_14) ?_
          have tb_14 : oty Z b_14 1 := oInv.rd gI tb_6.2 hb_14 rfl rfl
          have ejb_14 : b_14 = agA Z o y_2.toNatClampNeg := by unfold agA; rw [oQ_e hb_6, oQ_e hb_14]
          have ljb_14 : y_2.toNatClampNeg < (v 43).toNatClampNeg := ni_lt (by omega) (by omega)
          have njb_14 : ((y_2.toNatClampNeg : Nat) : Int) = y_2.toInt := tn_i (by omega)
          have fAb_14 := RC.a hR ljb_14
          rw [← ejb_14] at fAb_14
          obtain ⟨⟨fm1b_14, fm2b_14, fm3b_14⟩, ⟨fv1b_14, fv2b_14, fv3b_14⟩, fsib_14, fppb_14, fwgb_14, frkb_14, fofb_14, fdeb_14, fchb_14⟩ := fAb_14
          have fBb_14 : 0 ≤ (fa 25 y_2.toNatClampNeg).toInt ∧ (fa 25 y_2.toNatClampNeg).toInt ≤ 3000 := RC.A hR 25 _
          have lamb_14 : (fa 20 y_2.toNatClampNeg).toNatClampNeg < (v 39).toNatClampNeg := ni_lt fm1b_14 fm2b_14
          have namb_14 : (((fa 20 y_2.toNatClampNeg).toNatClampNeg : Nat) : Int) = (fa 20 y_2.toNatClampNeg).toInt := tn_i fm1b_14
          obtain ⟨amb_14, eamb_14⟩ : ∃ z, z = mnA Z o (fa 20 y_2.toNatClampNeg).toNatClampNeg := ⟨_, rfl⟩
          rw [← eamb_14] at fm3b_14
          have tamb_14 : oty Z amb_14 6 := by rw [eamb_14]; exact (RC.tm hR gI to lamb_14).2
          have fMamb_14 := RC.m hR lamb_14
          rw [← eamb_14] at fMamb_14
          obtain ⟨fz0amb_14, fz1amb_14, fz2amb_14, fz3amb_14⟩ := fMamb_14
          rw [namb_14] at fz0amb_14
          have lavb_14 : (fa 21 y_2.toNatClampNeg).toNatClampNeg < (v 40).toNatClampNeg := ni_lt fv1b_14 fv2b_14
          have navb_14 : (((fa 21 y_2.toNatClampNeg).toNatClampNeg : Nat) : Int) = (fa 21 y_2.toNatClampNeg).toInt := tn_i fv1b_14
          obtain ⟨avb_14, eavb_14⟩ : ∃ z, z = voA Z o (fa 21 y_2.toNatClampNeg).toNatClampNeg := ⟨_, rfl⟩
          rw [← eavb_14] at fv3b_14
          have tavb_14 : oty Z avb_14 9 := by rw [eavb_14]; exact (RC.tv hR gI to lavb_14).2
          have fVavb_14 := RC.vo hR lavb_14
          rw [← eavb_14] at fVavb_14
          obtain ⟨fy0avb_14, fy1avb_14, fy2avb_14, fy3avb_14, fy4avb_14, fySavb_14, fyLavb_14, fyhavb_14⟩ := fVavb_14
          have fBavb_14 : 0 ≤ (fa 7 ((fa 21 y_2.toNatClampNeg).toNatClampNeg)).toInt ∧ (fa 7 ((fa 21 y_2.toNatClampNeg).toNatClampNeg)).toInt ≤ 3000 := RC.A hR 7 _
          have fSavb_14 := onc_i fySavb_14
          have fLavb_14 := onc_i fyLavb_14
          rw [navb_14] at fy0avb_14 fSavb_14 fLavb_14
          have hFc : ∀ q, va_A [] H.size q → A q := pu_free hS hA
          obtain ⟨q_15, hq_15⟩ := og (cq := cq) tb_14.1 (oE_1 tb_14.2)
          refine va_calli (va_runV (As := []) (rest := []) ⟨hx, hb, hml, hown, hts⟩ (c_X1_goesOn_c l dC dI H.size cq Z gI b_14 tb_14 o to v fa hR y_2.toNatClampNeg ljb_14 ejb_14) (cwV 0 hts gX10_isFree_X1_goesOn rfl rfl rfl (by decide +kernel) ⟨(Nat.le_of_ble_eq_true rfl), (Nat.le_of_ble_eq_true rfl)⟩) (pr_V (r := (RX1, TX1, 18)) hP hK hD q_15 1 rfl hq_15) rfl rfl hl.1 rfl (lv_room (Nat.le_of_ble_eq_true rfl)) dX10_isFree_29 ⟨(Nat.le_of_ble_eq_true rfl), (Nat.le_of_ble_eq_true rfl)⟩) hS (fun q _ h => hFc q h) hFc (fun r_17 u t H locs ht hvm w_16 hB hz1 hk1 hS => ?_)
          have hP := pu_keep hP hk1
          clear hk1 hz1 hvm hB ht hFc
          obtain ⟨hb_18, hx_19⟩ := w_16
          refine lv_if_eq (tgt := 37) hx hb dX10_isFree_32 (by decide +kernel) (fun c_20 => ?_) (fun c_20 => ?_)
          · have dc_20 := c_eq (a := r_17.toInt) (b := 0) rfl (by decide +kernel) c_20
            obtain ⟨x_21, ex_21⟩ : ∃ zq : Int32, y_2 + 1 = zq := ⟨_, rfl⟩
            have hx_21 : x_21.toInt = y_2.toInt + 1 := (iv_to ex_21).symm.trans (ad_i rfl (by decide +kernel) (by omega) (by omega))
            refine lv_iinc (v := x_21) (lv' := [(2, .int x_21), (0, .ref o), (1, .ref a1)]) hx hb dX10_isFree_37 hl (k := 0) rfl ex_21 (by decide +kernel) rfl (fun ls hl => ?_)
            clear ex_21
            refine lv_goto (tgt := 2) hx hb dX10_isFree_40 (by decide +kernel) ?_
            exact ih (n - 1) (by omega) x_21 _ _ ls (by omega) (by omega) (al_s hq0_cut_1 (fun q => by omega) (by omega) (by omega)) hP hS (lv_sub hl [0, 1, 2] rfl)
          · have dc_20 := c_ne (a := r_17.toInt) (b := 0) rfl (by decide +kernel) c_20
            refine lv_iconst (v := 0) hx hb dX10_isFree_35 (by decide +kernel) ?_
            exact W.zret (v := 0) hx hb hr rfl (fun t ht hW => ⟨⟨0, (), rfl, ⟨(by decide +kernel), (b1_f (fun q => q y_2.toNatClampNeg (ni_lt (by omega) (by omega)) ⟨by omega, by omega⟩))⟩, trivial⟩, hS.F ht⟩) hS.2.2 dX10_isFree_36
  have kc_22 : (0 : Int32).toInt = 0 := by decide
  exact cut_1 61 0 _ _ ls (by omega) (by decide +kernel) (al_0 (by decide +kernel)) hP hS (lv_sub hl [0, 1, 2] rfl)
def vRf (over told day least now hc r : Int) : Prop := ((told ≠ 0 ∨ over ≠ 0) ∧ r = -3) ∨ (told = 0 ∧ over = 0 ∧ day < least ∧ r = -4) ∨ (told = 0 ∧ over = 0 ∧ least ≤ day ∧ (now < day ∨ 200 ≤ hc) ∧ r = -6) ∨ (told = 0 ∧ over = 0 ∧ least ≤ day ∧ day ≤ now ∧ hc < 200 ∧ r = 0)
def tRf (off day least now hc r : Int) : Prop := (off ≠ 1000000 ∧ r = -3) ∨ (off = 1000000 ∧ day < least ∧ r = -4) ∨ (off = 1000000 ∧ least ≤ day ∧ (now < day ∨ 200 ≤ hc) ∧ r = -6) ∨ (off = 1000000 ∧ least ≤ day ∧ day ≤ now ∧ hc < 200 ∧ r = 0)
set_option maxHeartbeats 4000000 in
set_option maxRecDepth 100000 in
theorem c_X10_voyageRefusal_c (l : Launch) (dC : Nat → ClassId) (dI : Nat → Nat → Nat) (sz : Nat) (cq : Nat → ClassId) (Z : oS) (gI : oInv Z) (o : Nat) (to : oty Z o 10) (a1 : Nat) (ta1 : oty Z a1 9) (x2 : Int32) (x3 : Int32) : Met l yX10_voyageRefusal wsX10_voyageRefusal ({ frames := 0, cells := 0, slots := 0, locals := 0 }) (va_Pc [.ref o, .ref a1, .int x2, .int x3] (pcW (dC, dI) (oT cq) (oW cq Z) sz)) (va_Qi (fun (r : Int32) (u : Unit) => (-6 ≤ r.toInt ∧ r.toInt ≤ 0) ∧ (vRf (oI Z a1 4).toInt x3.toInt x2.toInt (oI Z a1 3).toInt (oI Z o 0).toInt (oI Z o 7).toInt r.toInt)) (fun _ _ => True) (va_A [] sz)) 0 0 (va_A [] sz) := by
  refine Met.ofW (cc := cX10_voyageRefusal) (maxL := 4) (ret := (some .int)) (by decide +kernel) rfl ?_
  intro p e s m args below meth c s₁ B hml hv
  obtain ⟨rfl, hsz, hP, hK, hD0⟩ := hv
  have hx := B.exec
  have hb := B.bytes
  have hr := B.returns
  have hts := atoms_spec (ws := wsX10_voyageRefusal) B.pre
  have hown : s.vm.findClass RX10 = some m.cls := findClass_of_methodNamed B.named
  have hlocks := B.notSynchronized
  subst hsz
  have hD := hD0
  generalize hAe : va_A [] s.heap.size = A at ⊢
  have hA : ∀ q : Nat, s.heap.size ≤ q → A q := fun q h => by rw [← hAe]; exact Or.inr h
  have hS : va_S A s.heap s.heap [] := va_S.rf
  have hP : va_P (dC, dI) vwCl (oW cq Z) s.heap := hP
  have hl := lv_entry ([.ref o, .ref a1, .int x2, .int x3]) (n := 4) (Nat.le_of_ble_eq_true rfl)
  rw [lg_entry_eq]
  generalize (lg_sl ([.ref o, .ref a1, .int x2, .int x3]) ++ List.replicate (4 - (lg_sl ([.ref o, .ref a1, .int x2, .int x3])).length) Slot.unset).toArray = ls at hl ⊢
  have hl : lv_has ls 4 [(0, .ref o), (1, .ref a1), (2, .int x2), (3, .int x3)] := hl
  refine lv_iload_n hx hb dX10_voyageRefusal_0 rfl (lv_at hl 3 rfl) ?_
  refine lv_if_ne (tgt := 11) hx hb dX10_voyageRefusal_1 (by decide +kernel) (fun c_1 => ?_) (fun c_1 => ?_)
  · have dc_1 := c_ne (a := x3.toInt) (b := 0) rfl (by decide +kernel) c_1
    refine lv_bipush (v := (-3)) hx hb dX10_voyageRefusal_11 (by decide +kernel) ?_
    exact W.iret (v := (-3)) hx hb hr (fun t ht hW => ⟨⟨(-3), (), rfl, ⟨(by decide +kernel), (by have rc : ((-3) : Int32).toInt = -3 := (by decide +kernel); unfold vRf; omega)⟩, trivial⟩, hS.F ht⟩) hS.2.2 dX10_voyageRefusal_13
  · have dc_1 := c_eq (a := x3.toInt) (b := 0) rfl (by decide +kernel) c_1
    refine lv_aload_n hx hb dX10_voyageRefusal_4 rfl (lv_at hl 1 rfl) ?_
    obtain ⟨q_2, hq_2⟩ := og (cq := cq) ta1.1 (oE_9 ta1.2)
    refine va_get (D := (dC, dI)) (ci := 9) (v := .int (oI Z a1 4)) (C := RX9) (T := TX9) (N := 10) hx hb hts in_wsX10_voyageRefusal_X9 hown hK hP q_2 hq_2 rfl 4 (by decide +kernel) (hts (.fieldLink RX10 107 "ShipOffice$Voyage" "isOver" "Z") iw_X10_voyageRefusal_1) (fun _ h9 => h9) rfl dX10_voyageRefusal_5 ?_
    refine lv_topi (fun x_3 ex_3 => ?_)
    have gx_3 : x_3.toInt = (oI Z a1 4).toInt := iv_to ex_3
    clear ex_3
    refine lv_if_eq (tgt := 14) hx hb dX10_voyageRefusal_8 (by decide +kernel) (fun c_4 => ?_) (fun c_4 => ?_)
    · have dc_4 := c_eq (a := x_3.toInt) (b := 0) rfl (by decide +kernel) c_4
      refine lv_iload_n hx hb dX10_voyageRefusal_14 rfl (lv_at hl 2 rfl) ?_
      refine lv_aload_n hx hb dX10_voyageRefusal_15 rfl (lv_at hl 1 rfl) ?_
      refine va_get (D := (dC, dI)) (ci := 9) (v := .int (oI Z a1 3)) (C := RX9) (T := TX9) (N := 10) hx hb hts in_wsX10_voyageRefusal_X9 hown hK hP q_2 hq_2 rfl 3 (by decide +kernel) (hts (.fieldLink RX10 365 "ShipOffice$Voyage" "openedOn" "I") iw_X10_voyageRefusal_2) (fun _ h9 => h9) rfl dX10_voyageRefusal_16 ?_
      refine lv_topi (fun x_5 ex_5 => ?_)
      have hx_5 : 0 ≤ x_5.toInt ∧ x_5.toInt ≤ 3000 := iv_of ex_5 (oInv.iv gI ta1.2 rfl rfl)
      have gx_5 : x_5.toInt = (oI Z a1 3).toInt := iv_to ex_5
      clear ex_5
      refine lv_icmp_ge (tgt := 25) hx hb dX10_voyageRefusal_19 (by decide +kernel) (fun c_6 => ?_) (fun c_6 => ?_)
      · have dc_6 := c_le (a := x_5.toInt) (b := x2.toInt) rfl rfl c_6
        refine lv_iload_n hx hb dX10_voyageRefusal_25 rfl (lv_at hl 2 rfl) ?_
        refine lv_aload_n hx hb dX10_voyageRefusal_26 rfl (lv_at hl 0 rfl) ?_
        obtain ⟨q_7, hq_7⟩ := og (cq := cq) to.1 (oE_10 to.2)
        refine va_get (D := (dC, dI)) (ci := 10) (v := .int (oI Z o 0)) (C := RX10) (T := TX10) (N := 16) hx hb hts in_wsX10_voyageRefusal_X10 hown hK hP q_7 hq_7 rfl 0 (by decide +kernel) (hts (.fieldLink RX10 73 "ShipOffice" "now" "I") iw_X10_voyageRefusal_3) (fun _ h9 => h9) rfl dX10_voyageRefusal_27 ?_
        refine lv_topi (fun x_8 ex_8 => ?_)
        have hx_8 : 0 ≤ x_8.toInt ∧ x_8.toInt ≤ 3000 := iv_of ex_8 (oInv.iv gI to.2 rfl rfl)
        have gx_8 : x_8.toInt = (oI Z o 0).toInt := iv_to ex_8
        clear ex_8
        refine lv_icmp_gt (tgt := 43) hx hb dX10_voyageRefusal_30 (by decide +kernel) (fun c_9 => ?_) (fun c_9 => ?_)
        · have dc_9 := c_lt (a := x_8.toInt) (b := x2.toInt) rfl rfl c_9
          refine lv_bipush (v := (-6)) hx hb dX10_voyageRefusal_43 (by decide +kernel) ?_
          refine lv_goto (tgt := 49) hx hb dX10_voyageRefusal_45 (by decide +kernel) ?_
          exact W.iret (v := (-6)) hx hb hr (fun t ht hW => ⟨⟨(-6), (), rfl, ⟨(by decide +kernel), (by have rc : ((-6) : Int32).toInt = -6 := (by decide +kernel); unfold vRf; omega)⟩, trivial⟩, hS.F ht⟩) hS.2.2 dX10_voyageRefusal_49
        · have dc_9 := c_nlt (a := x_8.toInt) (b := x2.toInt) rfl rfl c_9
          refine lv_aload_n hx hb dX10_voyageRefusal_33 rfl (lv_at hl 0 rfl) ?_
          refine va_get (D := (dC, dI)) (ci := 10) (v := .int (oI Z o 7)) (C := RX10) (T := TX10) (N := 16) hx hb hts in_wsX10_voyageRefusal_X10 hown hK hP q_7 hq_7 rfl 7 (by decide +kernel) (hts (.fieldLink RX10 139 "ShipOffice" "happeningCount" "I") iw_X10_voyageRefusal_4) (fun _ h9 => h9) rfl dX10_voyageRefusal_34 ?_
          refine lv_topi (fun x_10 ex_10 => ?_)
          have gx_10 : x_10.toInt = (oI Z o 7).toInt := iv_to ex_10
          clear ex_10
          refine lv_sipush (v := 200) hx hb dX10_voyageRefusal_37 (by decide +kernel) ?_
          refine lv_icmp_lt (tgt := 48) hx hb dX10_voyageRefusal_40 (by decide +kernel) (fun c_11 => ?_) (fun c_11 => ?_)
          · have dc_11 := c_lt (a := x_10.toInt) (b := 200) rfl (by decide +kernel) c_11
            refine lv_iconst (v := 0) hx hb dX10_voyageRefusal_48 (by decide +kernel) ?_
            exact W.iret (v := 0) hx hb hr (fun t ht hW => ⟨⟨0, (), rfl, ⟨(by decide +kernel), (by have rc : (0 : Int32).toInt = 0 := (by decide +kernel); unfold vRf; omega)⟩, trivial⟩, hS.F ht⟩) hS.2.2 dX10_voyageRefusal_49
          · have dc_11 := c_nlt (a := x_10.toInt) (b := 200) rfl (by decide +kernel) c_11
            refine lv_bipush (v := (-6)) hx hb dX10_voyageRefusal_43 (by decide +kernel) ?_
            refine lv_goto (tgt := 49) hx hb dX10_voyageRefusal_45 (by decide +kernel) ?_
            exact W.iret (v := (-6)) hx hb hr (fun t ht hW => ⟨⟨(-6), (), rfl, ⟨(by decide +kernel), (by have rc : ((-6) : Int32).toInt = -6 := (by decide +kernel); unfold vRf; omega)⟩, trivial⟩, hS.F ht⟩) hS.2.2 dX10_voyageRefusal_49
      · have dc_6 := c_nle (a := x_5.toInt) (b := x2.toInt) rfl rfl c_6
        refine lv_bipush (v := (-4)) hx hb dX10_voyageRefusal_22 (by decide +kernel) ?_
        exact W.iret (v := (-4)) hx hb hr (fun t ht hW => ⟨⟨(-4), (), rfl, ⟨(by decide +kernel), (by have rc : ((-4) : Int32).toInt = -4 := (by decide +kernel); unfold vRf; omega)⟩, trivial⟩, hS.F ht⟩) hS.2.2 dX10_voyageRefusal_24
    · have dc_4 := c_ne (a := x_3.toInt) (b := 0) rfl (by decide +kernel) c_4
      refine lv_bipush (v := (-3)) hx hb dX10_voyageRefusal_11 (by decide +kernel) ?_
      exact W.iret (v := (-3)) hx hb hr (fun t ht hW => ⟨⟨(-3), (), rfl, ⟨(by decide +kernel), (by have rc : ((-3) : Int32).toInt = -3 := (by decide +kernel); unfold vRf; omega)⟩, trivial⟩, hS.F ht⟩) hS.2.2 dX10_voyageRefusal_13
set_option maxHeartbeats 4000000 in
set_option maxRecDepth 100000 in
theorem c_X10_tidingRefusal_c (l : Launch) (dC : Nat → ClassId) (dI : Nat → Nat → Nat) (sz : Nat) (cq : Nat → ClassId) (Z : oS) (gI : oInv Z) (o : Nat) (to : oty Z o 10) (a1 : Nat) (ta1 : oty Z a1 1) (x2 : Int32) : Met l yX10_tidingRefusal wsX10_tidingRefusal ({ frames := 0, cells := 0, slots := 0, locals := 0 }) (va_Pc [.ref o, .ref a1, .int x2] (pcW (dC, dI) (oT cq) (oW cq Z) sz)) (va_Qi (fun (r : Int32) (u : Unit) => (-6 ≤ r.toInt ∧ r.toInt ≤ 0) ∧ (tRf (oI Z a1 6).toInt x2.toInt (oI Z a1 2).toInt (oI Z o 0).toInt (oI Z o 7).toInt r.toInt)) (fun _ _ => True) (va_A [] sz)) 0 0 (va_A [] sz) := by
  refine Met.ofW (cc := cX10_tidingRefusal) (maxL := 3) (ret := (some .int)) (by decide +kernel) rfl ?_
  intro p e s m args below meth c s₁ B hml hv
  obtain ⟨rfl, hsz, hP, hK, hD0⟩ := hv
  have hx := B.exec
  have hb := B.bytes
  have hr := B.returns
  have hts := atoms_spec (ws := wsX10_tidingRefusal) B.pre
  have hown : s.vm.findClass RX10 = some m.cls := findClass_of_methodNamed B.named
  have hlocks := B.notSynchronized
  subst hsz
  have hD := hD0
  generalize hAe : va_A [] s.heap.size = A at ⊢
  have hA : ∀ q : Nat, s.heap.size ≤ q → A q := fun q h => by rw [← hAe]; exact Or.inr h
  have hS : va_S A s.heap s.heap [] := va_S.rf
  have hP : va_P (dC, dI) vwCl (oW cq Z) s.heap := hP
  have hl := lv_entry ([.ref o, .ref a1, .int x2]) (n := 3) (Nat.le_of_ble_eq_true rfl)
  rw [lg_entry_eq]
  generalize (lg_sl ([.ref o, .ref a1, .int x2]) ++ List.replicate (3 - (lg_sl ([.ref o, .ref a1, .int x2])).length) Slot.unset).toArray = ls at hl ⊢
  have hl : lv_has ls 3 [(0, .ref o), (1, .ref a1), (2, .int x2)] := hl
  refine lv_aload_n hx hb dX10_tidingRefusal_0 rfl (lv_at hl 1 rfl) ?_
  obtain ⟨q_1, hq_1⟩ := og (cq := cq) ta1.1 (oE_1 ta1.2)
  refine va_get (D := (dC, dI)) (ci := 1) (v := .int (oI Z a1 6)) (C := RX1) (T := TX1) (N := 18) hx hb hts in_wsX10_tidingRefusal_X1 hown hK hP q_1 hq_1 rfl 6 (by decide +kernel) (hts (.fieldLink RX10 126 "ShipOffice$Agreement" "offDay" "I") iw_X10_tidingRefusal_1) (fun _ h9 => h9) rfl dX10_tidingRefusal_1 ?_
  refine lv_topi (fun x_2 ex_2 => ?_)
  have gx_2 : x_2.toInt = (oI Z a1 6).toInt := iv_to ex_2
  clear ex_2
  refine lv_ldc (v := 1000000) hx hb hown (hts (.constant RX10 114 (1000000)) (by decide +kernel)) dX10_tidingRefusal_4 ?_
  refine lv_icmp_eq (tgt := 12) hx hb dX10_tidingRefusal_6 (by decide +kernel) (fun c_3 => ?_) (fun c_3 => ?_)
  · have dc_3 := c_eq (a := x_2.toInt) (b := 1000000) rfl (by decide +kernel) c_3
    refine lv_iload_n hx hb dX10_tidingRefusal_12 rfl (lv_at hl 2 rfl) ?_
    refine lv_aload_n hx hb dX10_tidingRefusal_13 rfl (lv_at hl 1 rfl) ?_
    refine va_get (D := (dC, dI)) (ci := 1) (v := .int (oI Z a1 2)) (C := RX1) (T := TX1) (N := 18) hx hb hts in_wsX10_tidingRefusal_X1 hown hK hP q_1 hq_1 rfl 2 (by decide +kernel) (hts (.fieldLink RX10 255 "ShipOffice$Agreement" "signedOn" "I") iw_X10_tidingRefusal_2) (fun _ h9 => h9) rfl dX10_tidingRefusal_14 ?_
    refine lv_topi (fun x_4 ex_4 => ?_)
    have gx_4 : x_4.toInt = (oI Z a1 2).toInt := iv_to ex_4
    clear ex_4
    refine lv_icmp_ge (tgt := 23) hx hb dX10_tidingRefusal_17 (by decide +kernel) (fun c_5 => ?_) (fun c_5 => ?_)
    · have dc_5 := c_le (a := x_4.toInt) (b := x2.toInt) rfl rfl c_5
      refine lv_iload_n hx hb dX10_tidingRefusal_23 rfl (lv_at hl 2 rfl) ?_
      refine lv_aload_n hx hb dX10_tidingRefusal_24 rfl (lv_at hl 0 rfl) ?_
      obtain ⟨q_6, hq_6⟩ := og (cq := cq) to.1 (oE_10 to.2)
      refine va_get (D := (dC, dI)) (ci := 10) (v := .int (oI Z o 0)) (C := RX10) (T := TX10) (N := 16) hx hb hts in_wsX10_tidingRefusal_X10 hown hK hP q_6 hq_6 rfl 0 (by decide +kernel) (hts (.fieldLink RX10 73 "ShipOffice" "now" "I") iw_X10_tidingRefusal_3) (fun _ h9 => h9) rfl dX10_tidingRefusal_25 ?_
      refine lv_topi (fun x_7 ex_7 => ?_)
      have hx_7 : 0 ≤ x_7.toInt ∧ x_7.toInt ≤ 3000 := iv_of ex_7 (oInv.iv gI to.2 rfl rfl)
      have gx_7 : x_7.toInt = (oI Z o 0).toInt := iv_to ex_7
      clear ex_7
      refine lv_icmp_gt (tgt := 41) hx hb dX10_tidingRefusal_28 (by decide +kernel) (fun c_8 => ?_) (fun c_8 => ?_)
      · have dc_8 := c_lt (a := x_7.toInt) (b := x2.toInt) rfl rfl c_8
        refine lv_bipush (v := (-6)) hx hb dX10_tidingRefusal_41 (by decide +kernel) ?_
        refine lv_goto (tgt := 47) hx hb dX10_tidingRefusal_43 (by decide +kernel) ?_
        exact W.iret (v := (-6)) hx hb hr (fun t ht hW => ⟨⟨(-6), (), rfl, ⟨(by decide +kernel), (by have rc : ((-6) : Int32).toInt = -6 := (by decide +kernel); unfold tRf; omega)⟩, trivial⟩, hS.F ht⟩) hS.2.2 dX10_tidingRefusal_47
      · have dc_8 := c_nlt (a := x_7.toInt) (b := x2.toInt) rfl rfl c_8
        refine lv_aload_n hx hb dX10_tidingRefusal_31 rfl (lv_at hl 0 rfl) ?_
        refine va_get (D := (dC, dI)) (ci := 10) (v := .int (oI Z o 7)) (C := RX10) (T := TX10) (N := 16) hx hb hts in_wsX10_tidingRefusal_X10 hown hK hP q_6 hq_6 rfl 7 (by decide +kernel) (hts (.fieldLink RX10 139 "ShipOffice" "happeningCount" "I") iw_X10_tidingRefusal_4) (fun _ h9 => h9) rfl dX10_tidingRefusal_32 ?_
        refine lv_topi (fun x_9 ex_9 => ?_)
        have gx_9 : x_9.toInt = (oI Z o 7).toInt := iv_to ex_9
        clear ex_9
        refine lv_sipush (v := 200) hx hb dX10_tidingRefusal_35 (by decide +kernel) ?_
        refine lv_icmp_lt (tgt := 46) hx hb dX10_tidingRefusal_38 (by decide +kernel) (fun c_10 => ?_) (fun c_10 => ?_)
        · have dc_10 := c_lt (a := x_9.toInt) (b := 200) rfl (by decide +kernel) c_10
          refine lv_iconst (v := 0) hx hb dX10_tidingRefusal_46 (by decide +kernel) ?_
          exact W.iret (v := 0) hx hb hr (fun t ht hW => ⟨⟨0, (), rfl, ⟨(by decide +kernel), (by have rc : (0 : Int32).toInt = 0 := (by decide +kernel); unfold tRf; omega)⟩, trivial⟩, hS.F ht⟩) hS.2.2 dX10_tidingRefusal_47
        · have dc_10 := c_nlt (a := x_9.toInt) (b := 200) rfl (by decide +kernel) c_10
          refine lv_bipush (v := (-6)) hx hb dX10_tidingRefusal_41 (by decide +kernel) ?_
          refine lv_goto (tgt := 47) hx hb dX10_tidingRefusal_43 (by decide +kernel) ?_
          exact W.iret (v := (-6)) hx hb hr (fun t ht hW => ⟨⟨(-6), (), rfl, ⟨(by decide +kernel), (by have rc : ((-6) : Int32).toInt = -6 := (by decide +kernel); unfold tRf; omega)⟩, trivial⟩, hS.F ht⟩) hS.2.2 dX10_tidingRefusal_47
    · have dc_5 := c_nle (a := x_4.toInt) (b := x2.toInt) rfl rfl c_5
      refine lv_bipush (v := (-4)) hx hb dX10_tidingRefusal_20 (by decide +kernel) ?_
      exact W.iret (v := (-4)) hx hb hr (fun t ht hW => ⟨⟨(-4), (), rfl, ⟨(by decide +kernel), (by have rc : ((-4) : Int32).toInt = -4 := (by decide +kernel); unfold tRf; omega)⟩, trivial⟩, hS.F ht⟩) hS.2.2 dX10_tidingRefusal_22
  · have dc_3 := c_ne (a := x_2.toInt) (b := 1000000) rfl (by decide +kernel) c_3
    refine lv_bipush (v := (-3)) hx hb dX10_tidingRefusal_9 (by decide +kernel) ?_
    exact W.iret (v := (-3)) hx hb hr (fun t ht hW => ⟨⟨(-3), (), rfl, ⟨(by decide +kernel), (by have rc : ((-3) : Int32).toInt = -3 := (by decide +kernel); unfold tRf; omega)⟩, trivial⟩, hS.F ht⟩) hS.2.2 dX10_tidingRefusal_11
