

section
variable {v : Nat → Int32} {fa : Nat → Nat → Int32} {x d k j : Int} {a n : Nat} {S : oS} {o b : Nat}
theorem hsO_i : (hsO v fa x d k = 1 ∧ 0 ≤ slO v fa x k ∧ slO v fa x k ≤ d) ∨ (hsO v fa x d k = 0 ∧ ¬ (0 ≤ slO v fa x k ∧ slO v fa x k ≤ d)) := by
  unfold hsO
  by_cases c : 0 ≤ slO v fa x k ∧ slO v fa x k ≤ d
  · rw [if_pos c]; exact Or.inl ⟨rfl, c⟩
  · rw [if_neg c]; exact Or.inr ⟨rfl, c⟩
theorem almV_0 (h : slO v fa (fa 21 a).toInt k < 0 ∨ (fa 29 a).toInt ≤ 0 ∨ j < slO v fa (fa 21 a).toInt k + 30) : almV v fa a j k = 0 := by
  have q := atI_e (atI_0 (v := v) (fa := fa) (a := a) (s := slO v fa (fa 21 a).toInt k) (k := k) (j := j) (B := 0) rfl rfl) h
  omega
/-- how he left, if he has -/
def lvR (S : oS) (v : Nat → Int32) (fa : Nat → Nat → Int32) (a : Nat) (j k : Int) (r : Option Nat) : Prop := (r = none ∧ stF v fa a j k ≠ 3) ∨ ∃ p, r = some p ∧ stF v fa a j k = 3 ∧ (oI S p 3).toInt = (fa 14 (whO v fa a j k).toNat).toInt ∧ (oI S p 4).toInt = (fa 15 (whO v fa a j k).toNat).toInt
theorem lvR_n (h : lvR S v fa a j k none) : stF v fa a j k ≠ 3 := by
  rcases h with h | ⟨p, h, -⟩
  · exact h.2
  · exact absurd h (by simp)
theorem lvR_s (h : lvR S v fa a j k (some b)) : stF v fa a j k = 3 ∧ (oI S b 3).toInt = (fa 14 (whO v fa a j k).toNat).toInt ∧ (oI S b 4).toInt = (fa 15 (whO v fa a j k).toNat).toInt := by
  rcases h with h | ⟨p, h, h2, h3⟩
  · exact absurd h.1 (by simp)
  · cases h
    exact ⟨h2, h3⟩
theorem lvR_m {r : Option Nat} (h : lmR S fa r (if whO v fa a j k < 0 then none else some (whO v fa a j k).toNat)) (h3 : stF v fa a j k = 3) : lvR S v fa a j k r := by
  obtain ⟨w1, w2⟩ := st3_w h3
  rw [if_neg (by omega)] at h
  rcases h with ⟨-, h⟩ | ⟨p, i, e1, e2, e3, e4⟩
  · exact absurd h (by simp)
  · cases e2
    obtain ⟨-, -, g⟩ := e3
    exact Or.inr ⟨p, e1, h3, by omega, by omega⟩
end
set_option maxHeartbeats 4000000 in
set_option maxRecDepth 100000 in
theorem c_X1_notePaid_c (l : Launch) (dC : Nat → ClassId) (dI : Nat → Nat → Nat) (sz : Nat) (cq : Nat → ClassId) (Z : oS) (gI : oInv Z) (o : Nat) (to : oty Z o 1) (x1 : Int32) (hx1 : 0 ≤ x1.toInt ∧ x1.toInt ≤ 3000) (x2 : Int32) (hx2 : 0 ≤ x2.toInt ∧ x2.toInt ≤ 3000) (a3 : Nat) (ta3 : oty Z a3 5) (h0 : Nat) (th : oty Z h0 10) (v : Nat → Int32) (fa : Nat → Nat → Int32) (hR : RC Z h0 v fa) (a : Nat) (ha : a < (v 43).toNatClampNeg) (ea : o = agA Z h0 a) (hE : RX Z h0 v fa) (hLr : rLw Z a3 v fa) (hjk : x1.toInt ≤ x2.toInt ∧ x2.toInt ≤ 3000) : Met l yX1_notePaid wsX1_notePaid ({ frames := 2, cells := 0, slots := 0, locals := 49 }) (va_Pc [.ref o, .int x1, .int x2, .ref a3] (pcW (dC, dI) (oT cq) (oW cq Z) sz)) (va_Qi (fun (r : Int32) (u : Unit) => (0 ≤ r.toInt ∧ r.toInt ≤ 99999) ∧ (r.toInt = nvF v fa a x1.toInt x2.toInt)) (fun _ _ => True) (va_A [] sz)) 0 0 (va_A [] sz) := by
  refine Met.ofW (cc := cX1_notePaid) (maxL := 4) (ret := (some .int)) (by decide) rfl ?_
  intro p e s m args below meth c s₁ B hml hv
  obtain ⟨rfl, hsz, hP, hK, hD0⟩ := hv
  have hx := B.exec
  have hb := B.bytes
  have hr := B.returns
  have hts := atoms_spec (ws := wsX1_notePaid) B.pre
  have hown : s.vm.findClass RX1 = some m.cls := findClass_of_methodNamed B.named
  have hlocks := B.notSynchronized
  subst hsz
  have hD := hD0
  generalize hAe : va_A [] s.heap.size = A at ⊢
  have hA : ∀ q : Nat, s.heap.size ≤ q → A q := fun q h => by rw [← hAe]; exact Or.inr h
  have hS : va_S A s.heap s.heap [] := va_S.rf
  have hP : va_P (dC, dI) vwCl (oW cq Z) s.heap := hP
  have hl := lv_entry ([.ref o, .int x1, .int x2, .ref a3]) (n := 4) (Nat.le_of_ble_eq_true rfl)
  rw [lg_entry_eq]
  generalize (lg_sl ([.ref o, .int x1, .int x2, .ref a3]) ++ List.replicate (4 - (lg_sl ([.ref o, .int x1, .int x2, .ref a3])).length) Slot.unset).toArray = ls at hl ⊢
  have hl : lv_has ls 4 [(0, .ref o), (1, .int x1), (2, .int x2), (3, .ref a3)] := hl
  obtain ⟨fn0, fn1, fn2, fn3, fn4⟩ := RC.n hR
  have fb38 : 0 ≤ (v 38).toInt ∧ (v 38).toInt ≤ 3000 := RC.V hR 38
  have fb39 : 0 ≤ (v 39).toInt ∧ (v 39).toInt ≤ 40 := RC.V hR 39
  have fb40 : 0 ≤ (v 40).toInt ∧ (v 40).toInt ≤ 20 := RC.V hR 40
  have fb43 : 0 ≤ (v 43).toInt ∧ (v 43).toInt ≤ 60 := RC.V hR 43
  have fb41 : 0 ≤ (v 41).toInt ∧ (v 41).toInt ≤ 200 := RC.V hR 41
  have fAo := RC.a hR ha
  rw [← ea] at fAo
  obtain ⟨⟨fm1o, fm2o, fm3o⟩, ⟨fv1o, fv2o, fv3o⟩, fsio, fppo, fwgo, frko, fofo, fdeo, fcho⟩ := fAo
  have fBo : 0 ≤ (fa 25 a).toInt ∧ (fa 25 a).toInt ≤ 3000 := RC.A hR 25 _
  have lamo : (fa 20 a).toNatClampNeg < (v 39).toNatClampNeg := ni_lt fm1o fm2o
  have namo : (((fa 20 a).toNatClampNeg : Nat) : Int) = (fa 20 a).toInt := tn_i fm1o
  obtain ⟨amo, eamo⟩ : ∃ z, z = mnA Z h0 (fa 20 a).toNatClampNeg := ⟨_, rfl⟩
  rw [← eamo] at fm3o
  have tamo : oty Z amo 6 := by rw [eamo]; exact (RC.tm hR gI th lamo).2
  have fMamo := RC.m hR lamo
  rw [← eamo] at fMamo
  obtain ⟨fz0amo, fz1amo, fz2amo, fz3amo⟩ := fMamo
  rw [namo] at fz0amo
  have lavo : (fa 21 a).toNatClampNeg < (v 40).toNatClampNeg := ni_lt fv1o fv2o
  have navo : (((fa 21 a).toNatClampNeg : Nat) : Int) = (fa 21 a).toInt := tn_i fv1o
  obtain ⟨avo, eavo⟩ : ∃ z, z = voA Z h0 (fa 21 a).toNatClampNeg := ⟨_, rfl⟩
  rw [← eavo] at fv3o
  have tavo : oty Z avo 9 := by rw [eavo]; exact (RC.tv hR gI th lavo).2
  have fVavo := RC.vo hR lavo
  rw [← eavo] at fVavo
  obtain ⟨fy0avo, fy1avo, fy2avo, fy3avo, fy4avo, fySavo, fyLavo, fyhavo⟩ := fVavo
  have fBavo : 0 ≤ (fa 7 ((fa 21 a).toNatClampNeg)).toInt ∧ (fa 7 ((fa 21 a).toNatClampNeg)).toInt ≤ 3000 := RC.A hR 7 _
  have fSavo := onc_i fySavo
  have fLavo := onc_i fyLavo
  rw [navo] at fy0avo fSavo fLavo
  have fEo := hE.1 a ha
  rw [← ea] at fEo
  obtain ⟨⟨fn1o, fn2o, fn3o⟩, fgo, ⟨fl1o, fl2o, fl3o⟩, ⟨ff1o, ff2o⟩, ⟨fs1o, fs2o, fs3o, fs4o, fs5o⟩⟩ := fEo
  unfold rXg at fgo
  have fX_1 : 0 ≤ (fa 30 a).toInt ∧ (fa 30 a).toInt ≤ 6 := RC.A hR 30 _
  have fX_2 : 0 ≤ (fa 31 a).toInt ∧ (fa 31 a).toInt ≤ 20 := RC.A hR 31 _
  refine lv_aload_n hx hb dX1_notePaid_0 rfl (lv_at hl 0 rfl) ?_
  obtain ⟨q_3, hq_3⟩ := og (cq := cq) to.1 (oE_1 to.2)
  refine va_get (D := (dC, dI)) (ci := 1) (v := .int (oI Z o 9)) (C := RX1) (T := TX1) (N := 18) hx hb hts in_wsX1_notePaid_X1 hown hK hP q_3 hq_3 rfl 9 (by decide) (hts (.fieldLink RX1 127 "ShipOffice$Agreement" "note" "I") iw_X1_notePaid_1) (fun _ h9 => h9) rfl dX1_notePaid_1 ?_
  refine lv_topi (fun x_4 ex_4 => ?_)
  have hx_4 : 0 ≤ x_4.toInt ∧ x_4.toInt ≤ 99999 := iv_of ex_4 (by omega)
  have gx_4 : x_4.toInt = (oI Z o 9).toInt := iv_to ex_4
  clear ex_4
  refine lv_if_eq (tgt := 21) hx hb dX1_notePaid_4 (by decide) (fun c_5 => ?_) (fun c_5 => ?_)
  · have dc_5 := c_eq (a := x_4.toInt) (b := 0) rfl (by decide) c_5
    refine lv_iconst (v := 0) hx hb dX1_notePaid_21 (by decide) ?_
    exact W.iret (v := 0) hx hb hr (fun t ht hW => ⟨⟨0, (), rfl, ⟨(by decide), (by have rc : (0 : Int32).toInt = 0 := (by decide); unfold nvF; (repeat (first | rw [if_pos (by omega)] | rw [if_neg (by omega)])); omega)⟩, trivial⟩, hS.F ht⟩) hS.2.2 dX1_notePaid_22
  · have dc_5 := c_ne (a := x_4.toInt) (b := 0) rfl (by decide) c_5
    refine lv_aload_n hx hb dX1_notePaid_7 rfl (lv_at hl 0 rfl) ?_
    refine va_get (D := (dC, dI)) (ci := 1) (v := .ref avo) (C := RX1) (T := TX1) (N := 18) hx hb hts in_wsX1_notePaid_X1 hown hK hP q_3 hq_3 rfl 1 (by decide) (hts (.fieldLink RX1 33 "ShipOffice$Agreement" "voyage" "LShipOffice$Voyage;") iw_X1_notePaid_2) (fun _ h9 => h9) (o_rd fv3o) dX1_notePaid_8 ?_
    refine lv_iload_n hx hb dX1_notePaid_11 rfl (lv_at hl 1 rfl) ?_
    refine lv_iconst (v := 3) hx hb dX1_notePaid_12 (by decide) ?_
    refine lv_isub hx hb dX1_notePaid_13 ?_
    refine lv_topi (fun x_6 ex_6 => ?_)
    have hx_6 : x_6.toInt = x1.toInt - 3 := (iv_to ex_6).trans (sb_i rfl (by decide) (by omega) (by omega))
    clear ex_6
    refine lv_iload_n hx hb dX1_notePaid_14 rfl (lv_at hl 2 rfl) ?_
    have hFc : ∀ q, va_A [] s.heap.size q → A q := pu_free hS hA
    obtain ⟨q_7, hq_7⟩ := og (cq := cq) tavo.1 (oE_9 tavo.2)
    refine va_calli (va_runV (As := [.int x_6, .int x2]) (rest := []) ⟨hx, hb, hml, hown, hts⟩ (c_X9_sailedBy_c l dC dI s.heap.size cq Z gI avo tavo x_6 x2 h0 th v fa hR ((fa 21 a).toNatClampNeg) lavo eavo (by omega)) (cwV 2 hts gX1_notePaid_X9_sailedBy rfl rfl rfl (by decide +kernel) ⟨(Nat.le_of_ble_eq_true rfl), (Nat.le_of_ble_eq_true rfl)⟩) (pr_V (r := (RX9, TX9, 10)) hP hK hD q_7 9 rfl hq_7) rfl rfl hl.1 rfl (lv_room (Nat.le_of_ble_eq_true rfl)) dX1_notePaid_15 ⟨(Nat.le_of_ble_eq_true rfl), (Nat.le_of_ble_eq_true rfl)⟩) hS (fun q _ h => hFc q h) hFc (fun r_9 u t H locs ht hvm w_8 hB hz1 hk1 hS => ?_)
    have hP := pu_keep hP hk1
    clear hk1 hz1 hvm hB ht hFc
    obtain ⟨hb_10, hx_11⟩ := w_8
    have hsb9 := hx_11
    rw [navo] at hsb9
    have hsi9 := hsO_i (v := v) (fa := fa) (x := (fa 21 a).toInt) (d := x_6.toInt) (k := x2.toInt)
    have hsl9 := onc_sl (k := x2.toInt) fySavo (by omega)
    rw [navo] at hsl9
    refine lv_if_ne (tgt := 23) hx hb dX1_notePaid_18 (by decide) (fun c_12 => ?_) (fun c_12 => ?_)
    · have dc_12 := c_ne (a := r_9.toInt) (b := 0) rfl (by decide) c_12
      refine lv_aload_n hx hb dX1_notePaid_23 rfl (lv_at hl 0 rfl) ?_
      refine lv_aload_n hx hb dX1_notePaid_24 rfl (lv_at hl 0 rfl) ?_
      refine va_get (D := (dC, dI)) (ci := 1) (v := .ref avo) (C := RX1) (T := TX1) (N := 18) hx hb hts in_wsX1_notePaid_X1 hown hK hP q_3 hq_3 rfl 1 (by decide) (hts (.fieldLink RX1 33 "ShipOffice$Agreement" "voyage" "LShipOffice$Voyage;") iw_X1_notePaid_2) (fun _ h9 => h9) (o_rd fv3o) dX1_notePaid_25 ?_
      refine va_get (D := (dC, dI)) (ci := 9) (v := .int (oI Z avo 5)) (C := RX9) (T := TX9) (N := 10) hx hb hts in_wsX1_notePaid_X9 hown hK hP q_7 hq_7 rfl 5 (by decide) (hts (.fieldLink RX1 130 "ShipOffice$Voyage" "sailedDay" "I") iw_X1_notePaid_3) (fun _ h9 => h9) rfl dX1_notePaid_28 ?_
      refine lv_topi (fun x_13 ex_13 => ?_)
      have hx_13 : 0 ≤ x_13.toInt ∧ x_13.toInt ≤ 1000000 := iv_of ex_13 (oInv.iv gI tavo.2 rfl rfl)
      have gx_13 : x_13.toInt = (oI Z avo 5).toInt := iv_to ex_13
      clear ex_13
      refine lv_iconst (v := 3) hx hb dX1_notePaid_31 (by decide) ?_
      refine lv_iadd hx hb dX1_notePaid_32 ?_
      refine lv_topi (fun x_14 ex_14 => ?_)
      have hx_14 : x_14.toInt = x_13.toInt + 3 := (iv_to ex_14).trans (ad_i rfl (by decide) (by omega) (by omega))
      clear ex_14
      refine lv_iload_n hx hb dX1_notePaid_33 rfl (lv_at hl 2 rfl) ?_
      refine lv_aload_n hx hb dX1_notePaid_34 rfl (lv_at hl 3 rfl) ?_
      have hFc : ∀ q, va_A [] H.size q → A q := pu_free hS hA
      refine va_calli (va_runV (As := [.int x_14, .int x2, .ref a3]) (rest := []) ⟨hx, hb, hml, hown, hts⟩ (c_X1_stateOn_c l dC dI H.size cq Z gI o to x_14 (by omega) x2 (by omega) a3 ta3 h0 th v fa hR a ha ea hLr (by omega)) (cwV 3 hts gX1_notePaid_X1_stateOn rfl rfl rfl (by decide +kernel) ⟨(Nat.le_of_ble_eq_true rfl), (Nat.le_of_ble_eq_true rfl)⟩) (pr_V (r := (RX1, TX1, 18)) hP hK hD q_3 1 rfl hq_3) rfl rfl hl.1 rfl (lv_room (Nat.le_of_ble_eq_true rfl)) dX1_notePaid_35 ⟨(Nat.le_of_ble_eq_true rfl), (Nat.le_of_ble_eq_true rfl)⟩) hS (fun q _ h => hFc q h) hFc (fun r_16 u t H locs ht hvm w_15 hB hz1 hk1 hS => ?_)
      have hP := pu_keep hP hk1
      clear hk1 hz1 hvm hB ht hFc
      obtain ⟨hb_17, hx_18⟩ := w_15
      refine lv_iconst (v := 1) hx hb dX1_notePaid_38 (by decide) ?_
      refine lv_icmp_ne (tgt := 49) hx hb dX1_notePaid_39 (by decide) (fun c_19 => ?_) (fun c_19 => ?_)
      · have dc_19 := c_ne (a := r_16.toInt) (b := 1) rfl (by decide) c_19
        refine lv_iconst (v := 0) hx hb dX1_notePaid_49 (by decide) ?_
        exact W.iret (v := 0) hx hb hr (fun t ht hW => ⟨⟨0, (), rfl, ⟨(by decide), (by have rc : (0 : Int32).toInt = 0 := (by decide); have hst9 := hx_18; rw [show (x_14 : Int32).toInt = slO v fa (fa 21 a).toInt x2.toInt + 3 from (by omega)] at hst9; unfold nvF; (repeat (first | rw [if_pos (by omega)] | rw [if_neg (by omega)])); omega)⟩, trivial⟩, hS.F ht⟩) hS.2.2 dX1_notePaid_50
      · have dc_19 := c_eq (a := r_16.toInt) (b := 1) rfl (by decide) c_19
        refine lv_aload_n hx hb dX1_notePaid_42 rfl (lv_at hl 0 rfl) ?_
        refine va_get (D := (dC, dI)) (ci := 1) (v := .int (oI Z o 9)) (C := RX1) (T := TX1) (N := 18) hx hb hts in_wsX1_notePaid_X1 hown hK hP q_3 hq_3 rfl 9 (by decide) (hts (.fieldLink RX1 127 "ShipOffice$Agreement" "note" "I") iw_X1_notePaid_1) (fun _ h9 => h9) rfl dX1_notePaid_43 ?_
        refine lv_topi (fun x_20 ex_20 => ?_)
        have hx_20 : 0 ≤ x_20.toInt ∧ x_20.toInt ≤ 99999 := iv_of ex_20 (by omega)
        have gx_20 : x_20.toInt = (oI Z o 9).toInt := iv_to ex_20
        clear ex_20
        refine lv_goto (tgt := 50) hx hb dX1_notePaid_46 (by decide) ?_
        exact W.iret (v := x_20) hx hb hr (fun t ht hW => ⟨⟨x_20, (), rfl, ⟨(by omega), (by have hst9 := hx_18; rw [show (x_14 : Int32).toInt = slO v fa (fa 21 a).toInt x2.toInt + 3 from (by omega)] at hst9; unfold nvF; (repeat (first | rw [if_pos (by omega)] | rw [if_neg (by omega)])); omega)⟩, trivial⟩, hS.F ht⟩) hS.2.2 dX1_notePaid_50
    · have dc_12 := c_eq (a := r_9.toInt) (b := 0) rfl (by decide) c_12
      refine lv_iconst (v := 0) hx hb dX1_notePaid_21 (by decide) ?_
      exact W.iret (v := 0) hx hb hr (fun t ht hW => ⟨⟨0, (), rfl, ⟨(by decide), (by have rc : (0 : Int32).toInt = 0 := (by decide); unfold nvF; (repeat (first | rw [if_pos (by omega)] | rw [if_neg (by omega)])); omega)⟩, trivial⟩, hS.F ht⟩) hS.2.2 dX1_notePaid_22
set_option maxHeartbeats 4000000 in
set_option maxRecDepth 100000 in
theorem c_X1_allotmentsPaid_c (l : Launch) (dC : Nat → ClassId) (dI : Nat → Nat → Nat) (sz : Nat) (cq : Nat → ClassId) (Z : oS) (gI : oInv Z) (o : Nat) (to : oty Z o 1) (x1 : Int32) (hx1 : 0 ≤ x1.toInt ∧ x1.toInt ≤ 3000) (x2 : Int32) (hx2 : 0 ≤ x2.toInt ∧ x2.toInt ≤ 3000) (a3 : Nat) (ta3 : oty Z a3 5) (h0 : Nat) (th : oty Z h0 10) (v : Nat → Int32) (fa : Nat → Nat → Int32) (hR : RC Z h0 v fa) (a : Nat) (ha : a < (v 43).toNatClampNeg) (ea : o = agA Z h0 a) (hE : RX Z h0 v fa) (hLr : rLw Z a3 v fa) (hjk : x1.toInt ≤ x2.toInt ∧ x2.toInt ≤ 3000) : Met l yX1_allotmentsPaid wsX1_allotmentsPaid ({ frames := 2, cells := 0, slots := 0, locals := 49 }) (va_Pc [.ref o, .int x1, .int x2, .ref a3] (pcW (dC, dI) (oT cq) (oW cq Z) sz)) (va_Qi (fun (r : Int32) (u : Unit) => (0 ≤ r.toInt ∧ r.toInt ≤ 999900) ∧ (r.toInt = almV v fa a x1.toInt x2.toInt)) (fun _ _ => True) (va_A [] sz)) 0 0 (va_A [] sz) := by
  refine Met.ofW (cc := cX1_allotmentsPaid) (maxL := 6) (ret := (some .int)) (by decide) rfl ?_
  intro p e s m args below meth c s₁ B hml hv
  obtain ⟨rfl, hsz, hP, hK, hD0⟩ := hv
  have hx := B.exec
  have hb := B.bytes
  have hr := B.returns
  have hts := atoms_spec (ws := wsX1_allotmentsPaid) B.pre
  have hown : s.vm.findClass RX1 = some m.cls := findClass_of_methodNamed B.named
  have hlocks := B.notSynchronized
  subst hsz
  have hD := hD0
  generalize hAe : va_A [] s.heap.size = A at ⊢
  have hA : ∀ q : Nat, s.heap.size ≤ q → A q := fun q h => by rw [← hAe]; exact Or.inr h
  have hS : va_S A s.heap s.heap [] := va_S.rf
  have hP : va_P (dC, dI) vwCl (oW cq Z) s.heap := hP
  have hl := lv_entry ([.ref o, .int x1, .int x2, .ref a3]) (n := 6) (Nat.le_of_ble_eq_true rfl)
  rw [lg_entry_eq]
  generalize (lg_sl ([.ref o, .int x1, .int x2, .ref a3]) ++ List.replicate (6 - (lg_sl ([.ref o, .int x1, .int x2, .ref a3])).length) Slot.unset).toArray = ls at hl ⊢
  have hl : lv_has ls 6 [(0, .ref o), (1, .int x1), (2, .int x2), (3, .ref a3)] := hl
  obtain ⟨fn0, fn1, fn2, fn3, fn4⟩ := RC.n hR
  have fb38 : 0 ≤ (v 38).toInt ∧ (v 38).toInt ≤ 3000 := RC.V hR 38
  have fb39 : 0 ≤ (v 39).toInt ∧ (v 39).toInt ≤ 40 := RC.V hR 39
  have fb40 : 0 ≤ (v 40).toInt ∧ (v 40).toInt ≤ 20 := RC.V hR 40
  have fb43 : 0 ≤ (v 43).toInt ∧ (v 43).toInt ≤ 60 := RC.V hR 43
  have fb41 : 0 ≤ (v 41).toInt ∧ (v 41).toInt ≤ 200 := RC.V hR 41
  have fAo := RC.a hR ha
  rw [← ea] at fAo
  obtain ⟨⟨fm1o, fm2o, fm3o⟩, ⟨fv1o, fv2o, fv3o⟩, fsio, fppo, fwgo, frko, fofo, fdeo, fcho⟩ := fAo
  have fBo : 0 ≤ (fa 25 a).toInt ∧ (fa 25 a).toInt ≤ 3000 := RC.A hR 25 _
  have lamo : (fa 20 a).toNatClampNeg < (v 39).toNatClampNeg := ni_lt fm1o fm2o
  have namo : (((fa 20 a).toNatClampNeg : Nat) : Int) = (fa 20 a).toInt := tn_i fm1o
  obtain ⟨amo, eamo⟩ : ∃ z, z = mnA Z h0 (fa 20 a).toNatClampNeg := ⟨_, rfl⟩
  rw [← eamo] at fm3o
  have tamo : oty Z amo 6 := by rw [eamo]; exact (RC.tm hR gI th lamo).2
  have fMamo := RC.m hR lamo
  rw [← eamo] at fMamo
  obtain ⟨fz0amo, fz1amo, fz2amo, fz3amo⟩ := fMamo
  rw [namo] at fz0amo
  have lavo : (fa 21 a).toNatClampNeg < (v 40).toNatClampNeg := ni_lt fv1o fv2o
  have navo : (((fa 21 a).toNatClampNeg : Nat) : Int) = (fa 21 a).toInt := tn_i fv1o
  obtain ⟨avo, eavo⟩ : ∃ z, z = voA Z h0 (fa 21 a).toNatClampNeg := ⟨_, rfl⟩
  rw [← eavo] at fv3o
  have tavo : oty Z avo 9 := by rw [eavo]; exact (RC.tv hR gI th lavo).2
  have fVavo := RC.vo hR lavo
  rw [← eavo] at fVavo
  obtain ⟨fy0avo, fy1avo, fy2avo, fy3avo, fy4avo, fySavo, fyLavo, fyhavo⟩ := fVavo
  have fBavo : 0 ≤ (fa 7 ((fa 21 a).toNatClampNeg)).toInt ∧ (fa 7 ((fa 21 a).toNatClampNeg)).toInt ≤ 3000 := RC.A hR 7 _
  have fSavo := onc_i fySavo
  have fLavo := onc_i fyLavo
  rw [navo] at fy0avo fSavo fLavo
  have fEo := hE.1 a ha
  rw [← ea] at fEo
  obtain ⟨⟨fn1o, fn2o, fn3o⟩, fgo, ⟨fl1o, fl2o, fl3o⟩, ⟨ff1o, ff2o⟩, ⟨fs1o, fs2o, fs3o, fs4o, fs5o⟩⟩ := fEo
  unfold rXg at fgo
  have fX_1 : 0 ≤ (fa 30 a).toInt ∧ (fa 30 a).toInt ≤ 6 := RC.A hR 30 _
  have fX_2 : 0 ≤ (fa 31 a).toInt ∧ (fa 31 a).toInt ≤ 20 := RC.A hR 31 _
  refine lv_aload_n hx hb dX1_allotmentsPaid_0 rfl (lv_at hl 0 rfl) ?_
  obtain ⟨q_3, hq_3⟩ := og (cq := cq) to.1 (oE_1 to.2)
  refine va_get (D := (dC, dI)) (ci := 1) (v := .int (oI Z o 11)) (C := RX1) (T := TX1) (N := 18) hx hb hts in_wsX1_allotmentsPaid_X1 hown hK hP q_3 hq_3 rfl 11 (by decide) (hts (.fieldLink RX1 133 "ShipOffice$Agreement" "allotment" "I") iw_X1_allotmentsPaid_1) (fun _ h9 => h9) rfl dX1_allotmentsPaid_1 ?_
  refine lv_topi (fun x_4 ex_4 => ?_)
  have hx_4 : 0 ≤ x_4.toInt ∧ x_4.toInt ≤ 9999 := iv_of ex_4 (by omega)
  have gx_4 : x_4.toInt = (oI Z o 11).toInt := iv_to ex_4
  clear ex_4
  refine lv_if_eq (tgt := 19) hx hb dX1_allotmentsPaid_4 (by decide) (fun c_5 => ?_) (fun c_5 => ?_)
  · have dc_5 := c_eq (a := x_4.toInt) (b := 0) rfl (by decide) c_5
    refine lv_iconst (v := 0) hx hb dX1_allotmentsPaid_19 (by decide) ?_
    exact W.iret (v := 0) hx hb hr (fun t ht hW => ⟨⟨0, (), rfl, ⟨(by decide), (by have rc : (0 : Int32).toInt = 0 := (by decide); rw [almV_0 (by omega)]; omega)⟩, trivial⟩, hS.F ht⟩) hS.2.2 dX1_allotmentsPaid_20
  · have dc_5 := c_ne (a := x_4.toInt) (b := 0) rfl (by decide) c_5
    refine lv_aload_n hx hb dX1_allotmentsPaid_7 rfl (lv_at hl 0 rfl) ?_
    refine va_get (D := (dC, dI)) (ci := 1) (v := .ref avo) (C := RX1) (T := TX1) (N := 18) hx hb hts in_wsX1_allotmentsPaid_X1 hown hK hP q_3 hq_3 rfl 1 (by decide) (hts (.fieldLink RX1 33 "ShipOffice$Agreement" "voyage" "LShipOffice$Voyage;") iw_X1_allotmentsPaid_2) (fun _ h9 => h9) (o_rd fv3o) dX1_allotmentsPaid_8 ?_
    refine lv_iload_n hx hb dX1_allotmentsPaid_11 rfl (lv_at hl 1 rfl) ?_
    refine lv_iload_n hx hb dX1_allotmentsPaid_12 rfl (lv_at hl 2 rfl) ?_
    have hFc : ∀ q, va_A [] s.heap.size q → A q := pu_free hS hA
    obtain ⟨q_6, hq_6⟩ := og (cq := cq) tavo.1 (oE_9 tavo.2)
    refine va_calli (va_runV (As := [.int x1, .int x2]) (rest := []) ⟨hx, hb, hml, hown, hts⟩ (c_X9_sailedBy_c l dC dI s.heap.size cq Z gI avo tavo x1 x2 h0 th v fa hR ((fa 21 a).toNatClampNeg) lavo eavo (by omega)) (cwV 2 hts gX1_allotmentsPaid_X9_sailedBy rfl rfl rfl (by decide +kernel) ⟨(Nat.le_of_ble_eq_true rfl), (Nat.le_of_ble_eq_true rfl)⟩) (pr_V (r := (RX9, TX9, 10)) hP hK hD q_6 9 rfl hq_6) rfl rfl hl.1 rfl (lv_room (Nat.le_of_ble_eq_true rfl)) dX1_allotmentsPaid_13 ⟨(Nat.le_of_ble_eq_true rfl), (Nat.le_of_ble_eq_true rfl)⟩) hS (fun q _ h => hFc q h) hFc (fun r_8 u t H locs ht hvm w_7 hB hz1 hk1 hS => ?_)
    have hP := pu_keep hP hk1
    clear hk1 hz1 hvm hB ht hFc
    obtain ⟨hb_9, hx_10⟩ := w_7
    have hsb9 := hx_10
    rw [navo] at hsb9
    have hsi9 := hsO_i (v := v) (fa := fa) (x := (fa 21 a).toInt) (d := x1.toInt) (k := x2.toInt)
    have hsl9 := onc_sl (k := x2.toInt) fySavo (by omega)
    rw [navo] at hsl9
    refine lv_if_ne (tgt := 21) hx hb dX1_allotmentsPaid_16 (by decide) (fun c_11 => ?_) (fun c_11 => ?_)
    · have dc_11 := c_ne (a := r_8.toInt) (b := 0) rfl (by decide) c_11
      refine lv_iconst (v := 0) hx hb dX1_allotmentsPaid_21 (by decide) ?_
      refine lv_istore (lv' := [(4, .int 0), (0, .ref o), (1, .int x1), (2, .int x2), (3, .ref a3)]) hx hb dX1_allotmentsPaid_22 hl (by decide) rfl (fun ls hl => ?_)
      refine lv_aload_n hx hb dX1_allotmentsPaid_24 rfl (lv_at hl 1 rfl) ?_
      refine va_get (D := (dC, dI)) (ci := 1) (v := .ref avo) (C := RX1) (T := TX1) (N := 18) hx hb hts in_wsX1_allotmentsPaid_X1 hown hK hP q_3 hq_3 rfl 1 (by decide) (hts (.fieldLink RX1 33 "ShipOffice$Agreement" "voyage" "LShipOffice$Voyage;") iw_X1_allotmentsPaid_2) (fun _ h9 => h9) (o_rd fv3o) dX1_allotmentsPaid_25 ?_
      refine va_get (D := (dC, dI)) (ci := 9) (v := .int (oI Z avo 5)) (C := RX9) (T := TX9) (N := 10) hx hb hts in_wsX1_allotmentsPaid_X9 hown hK hP q_6 hq_6 rfl 5 (by decide) (hts (.fieldLink RX1 130 "ShipOffice$Voyage" "sailedDay" "I") iw_X1_allotmentsPaid_3) (fun _ h9 => h9) rfl dX1_allotmentsPaid_28 ?_
      refine lv_topi (fun x_12 ex_12 => ?_)
      have hx_12 : 0 ≤ x_12.toInt ∧ x_12.toInt ≤ 1000000 := iv_of ex_12 (oInv.iv gI tavo.2 rfl rfl)
      have gx_12 : x_12.toInt = (oI Z avo 5).toInt := iv_to ex_12
      clear ex_12
      refine lv_bipush (v := 30) hx hb dX1_allotmentsPaid_31 (by decide) ?_
      refine lv_iadd hx hb dX1_allotmentsPaid_33 ?_
      refine lv_topi (fun x_13 ex_13 => ?_)
      have hx_13 : x_13.toInt = x_12.toInt + 30 := (iv_to ex_13).trans (ad_i rfl (by decide) (by omega) (by omega))
      clear ex_13
      refine lv_istore (lv' := [(5, .int x_13), (4, .int 0), (0, .ref o), (1, .int x1), (2, .int x2), (3, .ref a3)]) hx hb dX1_allotmentsPaid_34 hl (by decide) rfl (fun ls hl => ?_)
      have cut_14 : ∀ (n : Nat) (y_15 : Int32) (y_16 : Int32) (H : Heap) (locs : List Loc) (ls : Array Slot), 3030 - y_15.toInt ≤ (n : Int) → (30 ≤ y_15.toInt ∧ y_15.toInt ≤ 3030) → (0 ≤ y_16.toInt ∧ y_16.toInt ≤ 999900) → 30 * y_16.toInt ≤ 9999 * (y_15.toInt - 30) → atI v fa a (slO v fa (fa 21 a).toInt x2.toInt) x1.toInt x2.toInt 0 y_15.toInt (-y_16.toInt) → va_P (dC, dI) vwCl (oW cq Z) H → va_S A s.heap H locs → lv_has ls 6 [(5, .int y_15), (4, .int y_16), (0, .ref o), (1, .int x1), (2, .int x2), (3, .ref a3)] → W p l e (headSpec wsX1_allotmentsPaid { frames := 2, cells := 0, slots := 0, locals := 49 }).room s m #[Value.ref o, Value.int x1, Value.int x2, Value.ref a3] below meth c H locs 0 0 (MQ below (va_Qi (fun (r : Int32) (u : Unit) => (0 ≤ r.toInt ∧ r.toInt ≤ 999900) ∧ (r.toInt = almV v fa a x1.toInt x2.toInt)) (fun _ _ => True) A) #[Value.ref o, Value.int x1, Value.int x2, Value.ref a3] s 0 0 A) (F0 m 36 ls []) := by
        intro n
        induction n using Nat.strongRecOn with
        | ind n ih =>
          intro y_15 y_16 H locs ls hm hy_15 hy_16 hq0_cut_14 hq1_cut_14 hP hS hl
          refine lv_iload hx hb dX1_allotmentsPaid_36 (lv_at hl 0 rfl) ?_
          refine lv_iload_n hx hb dX1_allotmentsPaid_38 rfl (lv_at hl 3 rfl) ?_
          refine lv_icmp_gt (tgt := 69) hx hb dX1_allotmentsPaid_39 (by decide) (fun c_17 => ?_) (fun c_17 => ?_)
          · have dc_17 := c_lt (a := x1.toInt) (b := y_15.toInt) rfl rfl c_17
            refine lv_iload hx hb dX1_allotmentsPaid_69 (lv_at hl 1 rfl) ?_
            exact W.iret (v := y_16) hx hb hr (fun t ht hW => ⟨⟨y_16, (), rfl, ⟨(by omega), (by have q := atI_e hq1_cut_14 (by omega); omega)⟩, trivial⟩, hS.F ht⟩) hS.2.2 dX1_allotmentsPaid_71
          · have dc_17 := c_nlt (a := x1.toInt) (b := y_15.toInt) rfl rfl c_17
            refine lv_aload_n hx hb dX1_allotmentsPaid_42 rfl (lv_at hl 2 rfl) ?_
            refine lv_iload hx hb dX1_allotmentsPaid_43 (lv_at hl 0 rfl) ?_
            refine lv_iload_n hx hb dX1_allotmentsPaid_45 rfl (lv_at hl 4 rfl) ?_
            refine lv_aload_n hx hb dX1_allotmentsPaid_46 rfl (lv_at hl 5 rfl) ?_
            have hFc : ∀ q, va_A [] H.size q → A q := pu_free hS hA
            obtain ⟨q_18, hq_18⟩ := og (cq := cq) to.1 (oE_1 to.2)
            refine va_calli (va_runV (As := [.int y_15, .int x2, .ref a3]) (rest := []) ⟨hx, hb, hml, hown, hts⟩ (c_X1_stateOn_c l dC dI H.size cq Z gI o to y_15 (by omega) x2 (by omega) a3 ta3 h0 th v fa hR a ha ea hLr (by omega)) (cwV 3 hts gX1_allotmentsPaid_X1_stateOn rfl rfl rfl (by decide +kernel) ⟨(Nat.le_of_ble_eq_true rfl), (Nat.le_of_ble_eq_true rfl)⟩) (pr_V (r := (RX1, TX1, 18)) hP hK hD q_18 1 rfl hq_18) rfl rfl hl.1 rfl (lv_room (Nat.le_of_ble_eq_true rfl)) dX1_allotmentsPaid_47 ⟨(Nat.le_of_ble_eq_true rfl), (Nat.le_of_ble_eq_true rfl)⟩) hS (fun q _ h => hFc q h) hFc (fun r_20 u t H locs ht hvm w_19 hB hz1 hk1 hS => ?_)
            have hP := pu_keep hP hk1
            clear hk1 hz1 hvm hB ht hFc
            obtain ⟨hb_21, hx_22⟩ := w_19
            refine lv_iconst (v := 1) hx hb dX1_allotmentsPaid_50 (by decide) ?_
            refine lv_icmp_ne (tgt := 63) hx hb dX1_allotmentsPaid_51 (by decide) (fun c_23 => ?_) (fun c_23 => ?_)
            · have dc_23 := c_ne (a := r_20.toInt) (b := 1) rfl (by decide) c_23
              obtain ⟨x_24, ex_24⟩ : ∃ zq : Int32, y_15 + 30 = zq := ⟨_, rfl⟩
              have hx_24 : x_24.toInt = y_15.toInt + 30 := (iv_to ex_24).symm.trans (ad_i rfl (by decide) (by omega) (by omega))
              refine lv_iinc (v := x_24) (lv' := [(5, .int x_24), (4, .int y_16), (0, .ref o), (1, .int x1), (2, .int x2), (3, .ref a3)]) hx hb dX1_allotmentsPaid_63 hl (k := 0) rfl ex_24 (by decide) rfl (fun ls hl => ?_)
              clear ex_24
              refine lv_goto (tgt := 36) hx hb dX1_allotmentsPaid_66 (by decide) ?_
              exact ih (n - 1) (by omega) x_24 y_16 _ _ ls (by omega) (by omega) (by omega) (by omega) (atI_s hq1_cut_14 (by omega) (by omega) (by omega) (by omega) (by omega) (by have hst9 := hx_22; omega)) hP hS (lv_sub hl [0, 1, 2, 3, 4, 5] rfl)
            · have dc_23 := c_eq (a := r_20.toInt) (b := 1) rfl (by decide) c_23
              refine lv_iload hx hb dX1_allotmentsPaid_54 (lv_at hl 1 rfl) ?_
              refine lv_aload_n hx hb dX1_allotmentsPaid_56 rfl (lv_at hl 2 rfl) ?_
              refine va_get (D := (dC, dI)) (ci := 1) (v := .int (oI Z o 11)) (C := RX1) (T := TX1) (N := 18) hx hb hts in_wsX1_allotmentsPaid_X1 hown hK hP q_18 hq_18 rfl 11 (by decide) (hts (.fieldLink RX1 133 "ShipOffice$Agreement" "allotment" "I") iw_X1_allotmentsPaid_1) (fun _ h9 => h9) rfl dX1_allotmentsPaid_57 ?_
              refine lv_topi (fun x_25 ex_25 => ?_)
              have hx_25 : 0 ≤ x_25.toInt ∧ x_25.toInt ≤ 9999 := iv_of ex_25 (by omega)
              have gx_25 : x_25.toInt = (oI Z o 11).toInt := iv_to ex_25
              clear ex_25
              refine lv_iadd hx hb dX1_allotmentsPaid_60 ?_
              refine lv_topi (fun x_26 ex_26 => ?_)
              have hx_26 : x_26.toInt = y_16.toInt + x_25.toInt := (iv_to ex_26).trans (ad_i rfl rfl (by omega) (by omega))
              clear ex_26
              refine lv_istore (lv' := [(4, .int x_26), (5, .int y_15), (0, .ref o), (1, .int x1), (2, .int x2), (3, .ref a3)]) hx hb dX1_allotmentsPaid_61 hl (by decide) rfl (fun ls hl => ?_)
              obtain ⟨x_27, ex_27⟩ : ∃ zq : Int32, y_15 + 30 = zq := ⟨_, rfl⟩
              have hx_27 : x_27.toInt = y_15.toInt + 30 := (iv_to ex_27).symm.trans (ad_i rfl (by decide) (by omega) (by omega))
              refine lv_iinc (v := x_27) (lv' := [(5, .int x_27), (4, .int x_26), (0, .ref o), (1, .int x1), (2, .int x2), (3, .ref a3)]) hx hb dX1_allotmentsPaid_63 hl (k := 1) rfl ex_27 (by decide) rfl (fun ls hl => ?_)
              clear ex_27
              refine lv_goto (tgt := 36) hx hb dX1_allotmentsPaid_66 (by decide) ?_
              exact ih (n - 1) (by omega) x_27 x_26 _ _ ls (by omega) (by omega) (by omega) (by omega) (atI_s hq1_cut_14 (by omega) (by omega) (by omega) (by omega) (by omega) (by have hst9 := hx_22; omega)) hP hS (lv_sub hl [0, 1, 2, 3, 4, 5] rfl)
      have kc_28 : (0 : Int32).toInt = 0 := by decide
      exact cut_14 3031 x_13 0 _ _ ls (by omega) (by omega) (by decide) (by have rc : (0 : Int32).toInt = 0 := (by decide); omega) (atI_0 (by omega) (by decide)) hP hS (lv_sub hl [0, 1, 2, 3, 4, 5] rfl)
    · have dc_11 := c_eq (a := r_8.toInt) (b := 0) rfl (by decide) c_11
      refine lv_iconst (v := 0) hx hb dX1_allotmentsPaid_19 (by decide) ?_
      exact W.iret (v := 0) hx hb hr (fun t ht hW => ⟨⟨0, (), rfl, ⟨(by decide), (by have rc : (0 : Int32).toInt = 0 := (by decide); rw [almV_0 (by omega)]; omega)⟩, trivial⟩, hS.F ht⟩) hS.2.2 dX1_allotmentsPaid_20
