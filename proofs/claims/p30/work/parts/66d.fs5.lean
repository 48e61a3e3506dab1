


set_option maxHeartbeats 4000000 in
set_option maxRecDepth 100000 in
theorem c_X9_sailedBy_c (l : Launch) (dC : Nat → ClassId) (dI : Nat → Nat → Nat) (sz : Nat) (cq : Nat → ClassId) (Z : oS) (gI : oInv Z) (o : Nat) (to : oty Z o 9) (x1 : Int32) (x2 : Int32) (h0 : Nat) (th : oty Z h0 10) (v : Nat → Int32) (fa : Nat → Nat → Int32) (hR : RC Z h0 v fa) (x : Nat) (hxv : x < (v 40).toNatClampNeg) (ex : o = voA Z h0 x) (hk3 : x2.toInt ≤ 3000) : Met l yX9_sailedBy wsX9_sailedBy ({ frames := 0, cells := 0, slots := 0, locals := 0 }) (va_Pc [.ref o, .int x1, .int x2] (pcW (dC, dI) (oT cq) (oW cq Z) sz)) (va_Qi (fun (r : Int32) (u : Unit) => (0 ≤ r.toInt ∧ r.toInt ≤ 1) ∧ (r.toInt = hsO v fa x x1.toInt x2.toInt)) (fun _ _ => True) (va_A [] sz)) 0 0 (va_A [] sz) := by
  refine Met.ofW (cc := cX9_sailedBy) (maxL := 3) (ret := (some .boolean)) (by decide) rfl ?_
  intro p e s m args below meth c s₁ B hml hv
  obtain ⟨rfl, hsz, hP, hK, hD0⟩ := hv
  have hx := B.exec
  have hb := B.bytes
  have hr := B.returns
  have hts := atoms_spec (ws := wsX9_sailedBy) B.pre
  have hown : s.vm.findClass RX9 = some m.cls := findClass_of_methodNamed B.named
  have hlocks := B.notSynchronized
  subst hsz
  have hD := hD0
  generalize hAe : va_A [] s.heap.size = A at ⊢
  have hA : ∀ q : Nat, s.heap.size ≤ q → A q := fun q h => by rw [← hAe]; exact Or.inr h
  have hS : va_S A s.heap s.heap [] := va_S.rf
  have hP : va_P (dC, dI) vwCl (oW cq Z) s.heap := hP
  have hl := lv_entry ([.ref o, .int x1, .int x2]) (n := 3) (Nat.le_of_ble_eq_true rfl)
  rw [lg_entry_eq]
  generalize (lg_sl ([.ref o, .int x1, .int x2]) ++ List.replicate (3 - (lg_sl ([.ref o, .int x1, .int x2])).length) Slot.unset).toArray = ls at hl ⊢
  have hl : lv_has ls 3 [(0, .ref o), (1, .int x1), (2, .int x2)] := hl
  obtain ⟨fn0, fn1, fn2, fn3, fn4⟩ := RC.n hR
  have fb38 : 0 ≤ (v 38).toInt ∧ (v 38).toInt ≤ 3000 := RC.V hR 38
  have fb39 : 0 ≤ (v 39).toInt ∧ (v 39).toInt ≤ 40 := RC.V hR 39
  have fb40 : 0 ≤ (v 40).toInt ∧ (v 40).toInt ≤ 20 := RC.V hR 40
  have fb43 : 0 ≤ (v 43).toInt ∧ (v 43).toInt ≤ 60 := RC.V hR 43
  have fb41 : 0 ≤ (v 41).toInt ∧ (v 41).toInt ≤ 200 := RC.V hR 41
  have fVo := RC.vo hR hxv
  rw [← ex] at fVo
  obtain ⟨fy0o, fy1o, fy2o, fy3o, fy4o, fySo, fyLo, fyho⟩ := fVo
  have fBo : 0 ≤ (fa 7 x).toInt ∧ (fa 7 x).toInt ≤ 3000 := RC.A hR 7 _
  have fSo := onc_i fySo
  have fLo := onc_i fyLo
  refine lv_aload_n hx hb dX9_sailedBy_0 rfl (lv_at hl 0 rfl) ?_
  obtain ⟨q_1, hq_1⟩ := og (cq := cq) to.1 (oE_9 to.2)
  refine va_get (D := (dC, dI)) (ci := 9) (v := .int (oI Z o 6)) (C := RX9) (T := TX9) (N := 10) hx hb hts in_wsX9_sailedBy_X9 hown hK hP q_1 hq_1 rfl 6 (by decide) (hts (.fieldLink RX9 16 "ShipOffice$Voyage" "sailedTold" "I") iw_X9_sailedBy_1) (fun _ h9 => h9) rfl dX9_sailedBy_1 ?_
  refine lv_topi (fun x_2 ex_2 => ?_)
  have gx_2 : x_2.toInt = (oI Z o 6).toInt := iv_to ex_2
  clear ex_2
  refine lv_iload_n hx hb dX9_sailedBy_4 rfl (lv_at hl 2 rfl) ?_
  refine lv_icmp_gt (tgt := 20) hx hb dX9_sailedBy_5 (by decide) (fun c_3 => ?_) (fun c_3 => ?_)
  · have dc_3 := c_lt (a := x2.toInt) (b := x_2.toInt) rfl rfl c_3
    refine lv_iconst (v := 0) hx hb dX9_sailedBy_20 (by decide) ?_
    exact W.zret (v := 0) hx hb hr rfl (fun t ht hW => ⟨⟨0, (), rfl, ⟨(by decide), (by have rc : (0 : Int32).toInt = 0 := (by decide); have q := onc_sl (k := x2.toInt) fySo hk3; unfold hsO; repeat (first | rw [if_pos (by omega)] | rw [if_neg (by omega)]); omega)⟩, trivial⟩, hS.F ht⟩) hS.2.2 dX9_sailedBy_21
  · have dc_3 := c_nlt (a := x2.toInt) (b := x_2.toInt) rfl rfl c_3
    refine lv_aload_n hx hb dX9_sailedBy_8 rfl (lv_at hl 0 rfl) ?_
    refine va_get (D := (dC, dI)) (ci := 9) (v := .int (oI Z o 5)) (C := RX9) (T := TX9) (N := 10) hx hb hts in_wsX9_sailedBy_X9 hown hK hP q_1 hq_1 rfl 5 (by decide) (hts (.fieldLink RX9 10 "ShipOffice$Voyage" "sailedDay" "I") iw_X9_sailedBy_2) (fun _ h9 => h9) rfl dX9_sailedBy_9 ?_
    refine lv_topi (fun x_4 ex_4 => ?_)
    have hx_4 : 0 ≤ x_4.toInt ∧ x_4.toInt ≤ 1000000 := iv_of ex_4 (oInv.iv gI to.2 rfl rfl)
    have gx_4 : x_4.toInt = (oI Z o 5).toInt := iv_to ex_4
    clear ex_4
    refine lv_iload_n hx hb dX9_sailedBy_12 rfl (lv_at hl 1 rfl) ?_
    refine lv_icmp_gt (tgt := 20) hx hb dX9_sailedBy_13 (by decide) (fun c_5 => ?_) (fun c_5 => ?_)
    · have dc_5 := c_lt (a := x1.toInt) (b := x_4.toInt) rfl rfl c_5
      refine lv_iconst (v := 0) hx hb dX9_sailedBy_20 (by decide) ?_
      exact W.zret (v := 0) hx hb hr rfl (fun t ht hW => ⟨⟨0, (), rfl, ⟨(by decide), (by have rc : (0 : Int32).toInt = 0 := (by decide); have q := onc_sl (k := x2.toInt) fySo hk3; unfold hsO; repeat (first | rw [if_pos (by omega)] | rw [if_neg (by omega)]); omega)⟩, trivial⟩, hS.F ht⟩) hS.2.2 dX9_sailedBy_21
    · have dc_5 := c_nlt (a := x1.toInt) (b := x_4.toInt) rfl rfl c_5
      refine lv_iconst (v := 1) hx hb dX9_sailedBy_16 (by decide) ?_
      refine lv_goto (tgt := 21) hx hb dX9_sailedBy_17 (by decide) ?_
      exact W.zret (v := 1) hx hb hr rfl (fun t ht hW => ⟨⟨1, (), rfl, ⟨(by decide), (by have rc : (1 : Int32).toInt = 1 := (by decide); have q := onc_sl (k := x2.toInt) fySo hk3; unfold hsO; repeat (first | rw [if_pos (by omega)] | rw [if_neg (by omega)]); omega)⟩, trivial⟩, hS.F ht⟩) hS.2.2 dX9_sailedBy_21
set_option maxHeartbeats 4000000 in
set_option maxRecDepth 100000 in
theorem c_X9_lostBy_c (l : Launch) (dC : Nat → ClassId) (dI : Nat → Nat → Nat) (sz : Nat) (cq : Nat → ClassId) (Z : oS) (gI : oInv Z) (o : Nat) (to : oty Z o 9) (x1 : Int32) (x2 : Int32) (h0 : Nat) (th : oty Z h0 10) (v : Nat → Int32) (fa : Nat → Nat → Int32) (hR : RC Z h0 v fa) (x : Nat) (hxv : x < (v 40).toNatClampNeg) (ex : o = voA Z h0 x) (hk3 : x2.toInt ≤ 3000) : Met l yX9_lostBy wsX9_lostBy ({ frames := 0, cells := 0, slots := 0, locals := 0 }) (va_Pc [.ref o, .int x1, .int x2] (pcW (dC, dI) (oT cq) (oW cq Z) sz)) (va_Qi (fun (r : Int32) (u : Unit) => (0 ≤ r.toInt ∧ r.toInt ≤ 1) ∧ (r.toInt = lsI v fa x x1.toInt x2.toInt)) (fun _ _ => True) (va_A [] sz)) 0 0 (va_A [] sz) := by
  refine Met.ofW (cc := cX9_lostBy) (maxL := 3) (ret := (some .boolean)) (by decide) rfl ?_
  intro p e s m args below meth c s₁ B hml hv
  obtain ⟨rfl, hsz, hP, hK, hD0⟩ := hv
  have hx := B.exec
  have hb := B.bytes
  have hr := B.returns
  have hts := atoms_spec (ws := wsX9_lostBy) B.pre
  have hown : s.vm.findClass RX9 = some m.cls := findClass_of_methodNamed B.named
  have hlocks := B.notSynchronized
  subst hsz
  have hD := hD0
  generalize hAe : va_A [] s.heap.size = A at ⊢
  have hA : ∀ q : Nat, s.heap.size ≤ q → A q := fun q h => by rw [← hAe]; exact Or.inr h
  have hS : va_S A s.heap s.heap [] := va_S.rf
  have hP : va_P (dC, dI) vwCl (oW cq Z) s.heap := hP
  have hl := lv_entry ([.ref o, .int x1, .int x2]) (n := 3) (Nat.le_of_ble_eq_true rfl)
  rw [lg_entry_eq]
  generalize (lg_sl ([.ref o, .int x1, .int x2]) ++ List.replicate (3 - (lg_sl ([.ref o, .int x1, .int x2])).length) Slot.unset).toArray = ls at hl ⊢
  have hl : lv_has ls 3 [(0, .ref o), (1, .int x1), (2, .int x2)] := hl
  obtain ⟨fn0, fn1, fn2, fn3, fn4⟩ := RC.n hR
  have fb38 : 0 ≤ (v 38).toInt ∧ (v 38).toInt ≤ 3000 := RC.V hR 38
  have fb39 : 0 ≤ (v 39).toInt ∧ (v 39).toInt ≤ 40 := RC.V hR 39
  have fb40 : 0 ≤ (v 40).toInt ∧ (v 40).toInt ≤ 20 := RC.V hR 40
  have fb43 : 0 ≤ (v 43).toInt ∧ (v 43).toInt ≤ 60 := RC.V hR 43
  have fb41 : 0 ≤ (v 41).toInt ∧ (v 41).toInt ≤ 200 := RC.V hR 41
  have fVo := RC.vo hR hxv
  rw [← ex] at fVo
  obtain ⟨fy0o, fy1o, fy2o, fy3o, fy4o, fySo, fyLo, fyho⟩ := fVo
  have fBo : 0 ≤ (fa 7 x).toInt ∧ (fa 7 x).toInt ≤ 3000 := RC.A hR 7 _
  have fSo := onc_i fySo
  have fLo := onc_i fyLo
  refine lv_aload_n hx hb dX9_lostBy_0 rfl (lv_at hl 0 rfl) ?_
  obtain ⟨q_1, hq_1⟩ := og (cq := cq) to.1 (oE_9 to.2)
  refine va_get (D := (dC, dI)) (ci := 9) (v := .int (oI Z o 8)) (C := RX9) (T := TX9) (N := 10) hx hb hts in_wsX9_lostBy_X9 hown hK hP q_1 hq_1 rfl 8 (by decide) (hts (.fieldLink RX9 22 "ShipOffice$Voyage" "lostTold" "I") iw_X9_lostBy_1) (fun _ h9 => h9) rfl dX9_lostBy_1 ?_
  refine lv_topi (fun x_2 ex_2 => ?_)
  have gx_2 : x_2.toInt = (oI Z o 8).toInt := iv_to ex_2
  clear ex_2
  refine lv_iload_n hx hb dX9_lostBy_4 rfl (lv_at hl 2 rfl) ?_
  refine lv_icmp_gt (tgt := 20) hx hb dX9_lostBy_5 (by decide) (fun c_3 => ?_) (fun c_3 => ?_)
  · have dc_3 := c_lt (a := x2.toInt) (b := x_2.toInt) rfl rfl c_3
    refine lv_iconst (v := 0) hx hb dX9_lostBy_20 (by decide) ?_
    exact W.zret (v := 0) hx hb hr rfl (fun t ht hW => ⟨⟨0, (), rfl, ⟨(by decide), (by have rc : (0 : Int32).toInt = 0 := (by decide); have q := onc_ls (j := x1.toInt) (k := x2.toInt) fyLo hk3; omega)⟩, trivial⟩, hS.F ht⟩) hS.2.2 dX9_lostBy_21
  · have dc_3 := c_nlt (a := x2.toInt) (b := x_2.toInt) rfl rfl c_3
    refine lv_aload_n hx hb dX9_lostBy_8 rfl (lv_at hl 0 rfl) ?_
    refine va_get (D := (dC, dI)) (ci := 9) (v := .int (oI Z o 7)) (C := RX9) (T := TX9) (N := 10) hx hb hts in_wsX9_lostBy_X9 hown hK hP q_1 hq_1 rfl 7 (by decide) (hts (.fieldLink RX9 19 "ShipOffice$Voyage" "lostDay" "I") iw_X9_lostBy_2) (fun _ h9 => h9) rfl dX9_lostBy_9 ?_
    refine lv_topi (fun x_4 ex_4 => ?_)
    have gx_4 : x_4.toInt = (oI Z o 7).toInt := iv_to ex_4
    clear ex_4
    refine lv_iload_n hx hb dX9_lostBy_12 rfl (lv_at hl 1 rfl) ?_
    refine lv_icmp_gt (tgt := 20) hx hb dX9_lostBy_13 (by decide) (fun c_5 => ?_) (fun c_5 => ?_)
    · have dc_5 := c_lt (a := x1.toInt) (b := x_4.toInt) rfl rfl c_5
      refine lv_iconst (v := 0) hx hb dX9_lostBy_20 (by decide) ?_
      exact W.zret (v := 0) hx hb hr rfl (fun t ht hW => ⟨⟨0, (), rfl, ⟨(by decide), (by have rc : (0 : Int32).toInt = 0 := (by decide); have q := onc_ls (j := x1.toInt) (k := x2.toInt) fyLo hk3; omega)⟩, trivial⟩, hS.F ht⟩) hS.2.2 dX9_lostBy_21
    · have dc_5 := c_nlt (a := x1.toInt) (b := x_4.toInt) rfl rfl c_5
      refine lv_iconst (v := 1) hx hb dX9_lostBy_16 (by decide) ?_
      refine lv_goto (tgt := 21) hx hb dX9_lostBy_17 (by decide) ?_
      exact W.zret (v := 1) hx hb hr rfl (fun t ht hW => ⟨⟨1, (), rfl, ⟨(by decide), (by have rc : (1 : Int32).toInt = 1 := (by decide); have q := onc_ls (j := x1.toInt) (k := x2.toInt) fyLo hk3; omega)⟩, trivial⟩, hS.F ht⟩) hS.2.2 dX9_lostBy_21
set_option maxHeartbeats 4000000 in
set_option maxRecDepth 100000 in
theorem c_X9_lastHeard_c (l : Launch) (dC : Nat → ClassId) (dI : Nat → Nat → Nat) (sz : Nat) (cq : Nat → ClassId) (Z : oS) (gI : oInv Z) (o : Nat) (to : oty Z o 9) (x1 : Int32) (x2 : Int32) (h0 : Nat) (th : oty Z h0 10) (v : Nat → Int32) (fa : Nat → Nat → Int32) (hR : RC Z h0 v fa) (x : Nat) (hxv : x < (v 40).toNatClampNeg) (ex : o = voA Z h0 x) (hk3 : x2.toInt ≤ 3000) : Met l yX9_lastHeard wsX9_lastHeard ({ frames := 0, cells := 0, slots := 0, locals := 0 }) (va_Pc [.ref o, .int x1, .int x2] (pcW (dC, dI) (oT cq) (oW cq Z) sz)) (va_Qi (fun (r : Int32) (u : Unit) => (-1 ≤ r.toInt ∧ r.toInt ≤ 3000) ∧ (r.toInt = lhO v fa x x1.toInt x2.toInt)) (fun _ _ => True) (va_A [] sz)) 0 0 (va_A [] sz) := by
  refine Met.ofW (cc := cX9_lastHeard) (maxL := 5) (ret := (some .int)) (by decide) rfl ?_
  intro p e s m args below meth c s₁ B hml hv
  obtain ⟨rfl, hsz, hP, hK, hD0⟩ := hv
  have hx := B.exec
  have hb := B.bytes
  have hr := B.returns
  have hts := atoms_spec (ws := wsX9_lastHeard) B.pre
  have hown : s.vm.findClass RX9 = some m.cls := findClass_of_methodNamed B.named
  have hlocks := B.notSynchronized
  subst hsz
  have hD := hD0
  generalize hAe : va_A [] s.heap.size = A at ⊢
  have hA : ∀ q : Nat, s.heap.size ≤ q → A q := fun q h => by rw [← hAe]; exact Or.inr h
  have hS : va_S A s.heap s.heap [] := va_S.rf
  have hP : va_P (dC, dI) vwCl (oW cq Z) s.heap := hP
  have hl := lv_entry ([.ref o, .int x1, .int x2]) (n := 5) (Nat.le_of_ble_eq_true rfl)
  rw [lg_entry_eq]
  generalize (lg_sl ([.ref o, .int x1, .int x2]) ++ List.replicate (5 - (lg_sl ([.ref o, .int x1, .int x2])).length) Slot.unset).toArray = ls at hl ⊢
  have hl : lv_has ls 5 [(0, .ref o), (1, .int x1), (2, .int x2)] := hl
  obtain ⟨fn0, fn1, fn2, fn3, fn4⟩ := RC.n hR
  have fb38 : 0 ≤ (v 38).toInt ∧ (v 38).toInt ≤ 3000 := RC.V hR 38
  have fb39 : 0 ≤ (v 39).toInt ∧ (v 39).toInt ≤ 40 := RC.V hR 39
  have fb40 : 0 ≤ (v 40).toInt ∧ (v 40).toInt ≤ 20 := RC.V hR 40
  have fb43 : 0 ≤ (v 43).toInt ∧ (v 43).toInt ≤ 60 := RC.V hR 43
  have fb41 : 0 ≤ (v 41).toInt ∧ (v 41).toInt ≤ 200 := RC.V hR 41
  have fVo := RC.vo hR hxv
  rw [← ex] at fVo
  obtain ⟨fy0o, fy1o, fy2o, fy3o, fy4o, fySo, fyLo, fyho⟩ := fVo
  have fBo : 0 ≤ (fa 7 x).toInt ∧ (fa 7 x).toInt ≤ 3000 := RC.A hR 7 _
  have fSo := onc_i fySo
  have fLo := onc_i fyLo
  have rvo : rV Z o x v fa := by have q := RC.vo hR hxv; rw [← ex] at q; exact q
  refine lv_aload_n hx hb dX9_lastHeard_0 rfl (lv_at hl 0 rfl) ?_
  obtain ⟨q_1, hq_1⟩ := og (cq := cq) to.1 (oE_9 to.2)
  refine va_get (D := (dC, dI)) (ci := 9) (v := .int (oI Z o 6)) (C := RX9) (T := TX9) (N := 10) hx hb hts in_wsX9_lastHeard_X9 hown hK hP q_1 hq_1 rfl 6 (by decide) (hts (.fieldLink RX9 16 "ShipOffice$Voyage" "sailedTold" "I") iw_X9_lastHeard_1) (fun _ h9 => h9) rfl dX9_lastHeard_1 ?_
  refine lv_topi (fun x_2 ex_2 => ?_)
  have gx_2 : x_2.toInt = (oI Z o 6).toInt := iv_to ex_2
  clear ex_2
  refine lv_iload_n hx hb dX9_lastHeard_4 rfl (lv_at hl 2 rfl) ?_
  refine lv_icmp_gt (tgt := 23) hx hb dX9_lastHeard_5 (by decide) (fun c_3 => ?_) (fun c_3 => ?_)
  · have dc_3 := c_lt (a := x2.toInt) (b := x_2.toInt) rfl rfl c_3
    refine lv_iconst (v := (-1)) hx hb dX9_lastHeard_23 (by decide) ?_
    refine lv_istore_n (lv' := [(3, .int (-1)), (0, .ref o), (1, .int x1), (2, .int x2)]) hx hb dX9_lastHeard_24 rfl hl (by decide) rfl (fun ls hl => ?_)
    refine lv_aload_n hx hb dX9_lastHeard_25 rfl (lv_at hl 1 rfl) ?_
    rcases hb_5 : oP Z o 9 with _ | b_4
    · refine va_get (D := (dC, dI)) (ci := 9) (v := .null) (C := RX9) (T := TX9) (N := 10) hx hb hts in_wsX9_lastHeard_X9 hown hK hP q_1 hq_1 rfl 9 (by decide) (hts (.fieldLink RX9 41 "ShipOffice$Voyage" "heardOf" "LShipOffice$Happening;") iw_X9_lastHeard_2) (fun _ h9 => h9) (o_rd hb_5) dX9_lastHeard_26 ?_
      refine lv_astoreN (lv' := [(4, .null), (3, .int (-1)), (0, .ref o), (1, .int x1), (2, .int x2)]) hx hb dX9_lastHeard_29 hl (by decide) rfl (fun ls hl => ?_)
      have cut_6 : ∀ (n : Nat) (y_7 : Option Nat) (y_8 : Int32) (H : Heap) (locs : List Loc) (ls : Array Slot), (oR Z y_7 : Int) ≤ (n : Int) → (∀ b, y_7 = some b → oty Z b 3) → (-1 ≤ y_8.toInt ∧ y_8.toInt ≤ 3000) → lfI Z fa x1.toInt x2.toInt y_8.toInt (lhO v fa x x1.toInt x2.toInt) y_7 → va_P (dC, dI) vwCl (oW cq Z) H → va_S A s.heap H locs → lv_has ls 5 [(4, va_rf y_7), (3, .int y_8), (0, .ref o), (1, .int x1), (2, .int x2)] → W p l e (headSpec wsX9_lastHeard { frames := 0, cells := 0, slots := 0, locals := 0 }).room s m #[Value.ref o, Value.int x1, Value.int x2] below meth c H locs 0 0 (MQ below (va_Qi (fun (r : Int32) (u : Unit) => (-1 ≤ r.toInt ∧ r.toInt ≤ 3000) ∧ (r.toInt = lhO v fa x x1.toInt x2.toInt)) (fun _ _ => True) A) #[Value.ref o, Value.int x1, Value.int x2] s 0 0 A) (F0 m 31 ls []) := by
        intro n
        induction n using Nat.strongRecOn with
        | ind n ih =>
          intro y_7 y_8 H locs ls hm ty_7 hy_8 hq0_cut_6 hP hS hl
          rcases y_7 with _ | b_9
          · have hl : lv_has ls 5 [(4, .null), (3, .int y_8), (0, .ref o), (1, .int x1), (2, .int x2)] := hl
            refine lv_aloadN hx hb dX9_lastHeard_31 (lv_at hl 0 rfl) ?_
            refine lv_ifnullN (tgt := 79) hx hb dX9_lastHeard_33 (by decide) ?_
            refine lv_iload_n hx hb dX9_lastHeard_79 rfl (lv_at hl 1 rfl) ?_
            exact W.iret (v := y_8) hx hb hr (fun t ht hW => ⟨⟨y_8, (), rfl, ⟨(by omega), (lf_n hq0_cut_6)⟩, trivial⟩, hS.F ht⟩) hS.2.2 dX9_lastHeard_80
          · have hl : lv_has ls 5 [(4, .ref b_9), (3, .int y_8), (0, .ref o), (1, .int x1), (2, .int x2)] := hl
            have tb_9 : oty Z b_9 3 := ty_7 b_9 rfl
            have rb_9 : oR Z (some b_9) = oG Z b_9 + 1 := rfl
            have dyb := lf_b (RC.A hR) hq0_cut_6
            refine lv_aload hx hb dX9_lastHeard_31 (lv_at hl 0 rfl) ?_
            refine lv_ifnull hx hb dX9_lastHeard_33 ?_
            refine lv_aload hx hb dX9_lastHeard_36 (lv_at hl 0 rfl) ?_
            obtain ⟨q_10, hq_10⟩ := og (cq := cq) tb_9.1 (oE_3 tb_9.2)
            refine va_get (D := (dC, dI)) (ci := 3) (v := .int (oI Z b_9 2)) (C := RX3) (T := TX3) (N := 6) hx hb hts in_wsX9_lastHeard_X3 hown hK hP q_10 hq_10 rfl 2 (by decide) (hts (.fieldLink RX9 45 "ShipOffice$Happening" "told" "I") iw_X9_lastHeard_3) (fun _ h9 => h9) rfl dX9_lastHeard_38 ?_
            refine lv_topi (fun x_11 ex_11 => ?_)
            have gx_11 : x_11.toInt = (oI Z b_9 2).toInt := iv_to ex_11
            clear ex_11
            refine lv_iload_n hx hb dX9_lastHeard_41 rfl (lv_at hl 4 rfl) ?_
            refine lv_icmp_gt (tgt := 69) hx hb dX9_lastHeard_42 (by decide) (fun c_12 => ?_) (fun c_12 => ?_)
            · have dc_12 := c_lt (a := x2.toInt) (b := x_11.toInt) rfl rfl c_12
              refine lv_aload hx hb dX9_lastHeard_69 (lv_at hl 0 rfl) ?_
              rcases hb_14 : oP Z b_9 5 with _ | b_13
              · refine va_get (D := (dC, dI)) (ci := 3) (v := .null) (C := RX3) (T := TX3) (N := 6) hx hb hts in_wsX9_lastHeard_X3 hown hK hP q_10 hq_10 rfl 5 (by decide) (hts (.fieldLink RX9 53 "ShipOffice$Happening" "before" "LShipOffice$Happening;") iw_X9_lastHeard_4) (fun _ h9 => h9) (o_rd hb_14) dX9_lastHeard_71 ?_
                have r_15 : oR Z none = 0 := rfl
                refine lv_astoreN (lv' := [(4, .null), (3, .int y_8), (0, .ref o), (1, .int x1), (2, .int x2)]) hx hb dX9_lastHeard_74 hl (by decide) rfl (fun ls hl => ?_)
                refine lv_goto (tgt := 31) hx hb dX9_lastHeard_76 (by decide) ?_
                exact ih (n - 1) (by omega) none y_8 _ _ ls (by omega) (fun b h => by cases h) (by omega) (lf_s hq0_cut_6 hb_14 (by omega)) hP hS (lv_sub hl [0, 1, 2, 3, 4] rfl)
              · refine va_get (D := (dC, dI)) (ci := 3) (v := .ref b_13) (C := RX3) (T := TX3) (N := 6) hx hb hts in_wsX9_lastHeard_X3 hown hK hP q_10 hq_10 rfl 5 (by decide) (hts (.fieldLink RX9 53 "ShipOffice$Happening" "before" "LShipOffice$Happening;") iw_X9_lastHeard_4) (fun _ h9 => h9) (o_rd hb_14) dX9_lastHeard_71 ?_
                have tb_13 : oty Z b_13 3 := oInv.rd gI tb_9.2 hb_14 rfl rfl
                have hGb_13 : oG Z b_13 < oG Z b_9 := gI.2.2.2.2.2.1 b_9 b_13 tb_9.2 hb_14
                have rb_13 : oR Z (some b_13) = oG Z b_13 + 1 := rfl
                refine lv_astore (lv' := [(4, .ref b_13), (3, .int y_8), (0, .ref o), (1, .int x1), (2, .int x2)]) hx hb dX9_lastHeard_74 hl (by decide) rfl (fun ls hl => ?_)
                refine lv_goto (tgt := 31) hx hb dX9_lastHeard_76 (by decide) ?_
                exact ih (n - 1) (by omega) (some b_13) y_8 _ _ ls (by omega) (fun b h => by cases h; exact tb_13) (by omega) (lf_s hq0_cut_6 hb_14 (by omega)) hP hS (lv_sub hl [0, 1, 2, 3, 4] rfl)
            · have dc_12 := c_nlt (a := x2.toInt) (b := x_11.toInt) rfl rfl c_12
              refine lv_aload hx hb dX9_lastHeard_45 (lv_at hl 0 rfl) ?_
              refine va_get (D := (dC, dI)) (ci := 3) (v := .int (oI Z b_9 1)) (C := RX3) (T := TX3) (N := 6) hx hb hts in_wsX9_lastHeard_X3 hown hK hP q_10 hq_10 rfl 1 (by decide) (hts (.fieldLink RX9 50 "ShipOffice$Happening" "day" "I") iw_X9_lastHeard_5) (fun _ h9 => h9) rfl dX9_lastHeard_47 ?_
              refine lv_topi (fun x_16 ex_16 => ?_)
              have gx_16 : x_16.toInt = (oI Z b_9 1).toInt := iv_to ex_16
              clear ex_16
              refine lv_iload_n hx hb dX9_lastHeard_50 rfl (lv_at hl 3 rfl) ?_
              refine lv_icmp_gt (tgt := 69) hx hb dX9_lastHeard_51 (by decide) (fun c_17 => ?_) (fun c_17 => ?_)
              · have dc_17 := c_lt (a := x1.toInt) (b := x_16.toInt) rfl rfl c_17
                refine lv_aload hx hb dX9_lastHeard_69 (lv_at hl 0 rfl) ?_
                rcases hb_19 : oP Z b_9 5 with _ | b_18
                · refine va_get (D := (dC, dI)) (ci := 3) (v := .null) (C := RX3) (T := TX3) (N := 6) hx hb hts in_wsX9_lastHeard_X3 hown hK hP q_10 hq_10 rfl 5 (by decide) (hts (.fieldLink RX9 53 "ShipOffice$Happening" "before" "LShipOffice$Happening;") iw_X9_lastHeard_4) (fun _ h9 => h9) (o_rd hb_19) dX9_lastHeard_71 ?_
                  have r_20 : oR Z none = 0 := rfl
                  refine lv_astoreN (lv' := [(4, .null), (3, .int y_8), (0, .ref o), (1, .int x1), (2, .int x2)]) hx hb dX9_lastHeard_74 hl (by decide) rfl (fun ls hl => ?_)
                  refine lv_goto (tgt := 31) hx hb dX9_lastHeard_76 (by decide) ?_
                  exact ih (n - 1) (by omega) none y_8 _ _ ls (by omega) (fun b h => by cases h) (by omega) (lf_s hq0_cut_6 hb_19 (by omega)) hP hS (lv_sub hl [0, 1, 2, 3, 4] rfl)
                · refine va_get (D := (dC, dI)) (ci := 3) (v := .ref b_18) (C := RX3) (T := TX3) (N := 6) hx hb hts in_wsX9_lastHeard_X3 hown hK hP q_10 hq_10 rfl 5 (by decide) (hts (.fieldLink RX9 53 "ShipOffice$Happening" "before" "LShipOffice$Happening;") iw_X9_lastHeard_4) (fun _ h9 => h9) (o_rd hb_19) dX9_lastHeard_71 ?_
                  have tb_18 : oty Z b_18 3 := oInv.rd gI tb_9.2 hb_19 rfl rfl
                  have hGb_18 : oG Z b_18 < oG Z b_9 := gI.2.2.2.2.2.1 b_9 b_18 tb_9.2 hb_19
                  have rb_18 : oR Z (some b_18) = oG Z b_18 + 1 := rfl
                  refine lv_astore (lv' := [(4, .ref b_18), (3, .int y_8), (0, .ref o), (1, .int x1), (2, .int x2)]) hx hb dX9_lastHeard_74 hl (by decide) rfl (fun ls hl => ?_)
                  refine lv_goto (tgt := 31) hx hb dX9_lastHeard_76 (by decide) ?_
                  exact ih (n - 1) (by omega) (some b_18) y_8 _ _ ls (by omega) (fun b h => by cases h; exact tb_18) (by omega) (lf_s hq0_cut_6 hb_19 (by omega)) hP hS (lv_sub hl [0, 1, 2, 3, 4] rfl)
              · have dc_17 := c_nlt (a := x1.toInt) (b := x_16.toInt) rfl rfl c_17
                refine lv_aload hx hb dX9_lastHeard_54 (lv_at hl 0 rfl) ?_
                refine va_get (D := (dC, dI)) (ci := 3) (v := .int (oI Z b_9 1)) (C := RX3) (T := TX3) (N := 6) hx hb hts in_wsX9_lastHeard_X3 hown hK hP q_10 hq_10 rfl 1 (by decide) (hts (.fieldLink RX9 50 "ShipOffice$Happening" "day" "I") iw_X9_lastHeard_5) (fun _ h9 => h9) rfl dX9_lastHeard_56 ?_
                refine lv_topi (fun x_21 ex_21 => ?_)
                have gx_21 : x_21.toInt = (oI Z b_9 1).toInt := iv_to ex_21
                clear ex_21
                refine lv_iload_n hx hb dX9_lastHeard_59 rfl (lv_at hl 1 rfl) ?_
                refine lv_icmp_le (tgt := 69) hx hb dX9_lastHeard_60 (by decide) (fun c_22 => ?_) (fun c_22 => ?_)
                · have dc_22 := c_le (a := x_21.toInt) (b := y_8.toInt) rfl rfl c_22
                  refine lv_aload hx hb dX9_lastHeard_69 (lv_at hl 0 rfl) ?_
                  rcases hb_24 : oP Z b_9 5 with _ | b_23
                  · refine va_get (D := (dC, dI)) (ci := 3) (v := .null) (C := RX3) (T := TX3) (N := 6) hx hb hts in_wsX9_lastHeard_X3 hown hK hP q_10 hq_10 rfl 5 (by decide) (hts (.fieldLink RX9 53 "ShipOffice$Happening" "before" "LShipOffice$Happening;") iw_X9_lastHeard_4) (fun _ h9 => h9) (o_rd hb_24) dX9_lastHeard_71 ?_
                    have r_25 : oR Z none = 0 := rfl
                    refine lv_astoreN (lv' := [(4, .null), (3, .int y_8), (0, .ref o), (1, .int x1), (2, .int x2)]) hx hb dX9_lastHeard_74 hl (by decide) rfl (fun ls hl => ?_)
                    refine lv_goto (tgt := 31) hx hb dX9_lastHeard_76 (by decide) ?_
                    exact ih (n - 1) (by omega) none y_8 _ _ ls (by omega) (fun b h => by cases h) (by omega) (lf_s hq0_cut_6 hb_24 (by omega)) hP hS (lv_sub hl [0, 1, 2, 3, 4] rfl)
                  · refine va_get (D := (dC, dI)) (ci := 3) (v := .ref b_23) (C := RX3) (T := TX3) (N := 6) hx hb hts in_wsX9_lastHeard_X3 hown hK hP q_10 hq_10 rfl 5 (by decide) (hts (.fieldLink RX9 53 "ShipOffice$Happening" "before" "LShipOffice$Happening;") iw_X9_lastHeard_4) (fun _ h9 => h9) (o_rd hb_24) dX9_lastHeard_71 ?_
                    have tb_23 : oty Z b_23 3 := oInv.rd gI tb_9.2 hb_24 rfl rfl
                    have hGb_23 : oG Z b_23 < oG Z b_9 := gI.2.2.2.2.2.1 b_9 b_23 tb_9.2 hb_24
                    have rb_23 : oR Z (some b_23) = oG Z b_23 + 1 := rfl
                    refine lv_astore (lv' := [(4, .ref b_23), (3, .int y_8), (0, .ref o), (1, .int x1), (2, .int x2)]) hx hb dX9_lastHeard_74 hl (by decide) rfl (fun ls hl => ?_)
                    refine lv_goto (tgt := 31) hx hb dX9_lastHeard_76 (by decide) ?_
                    exact ih (n - 1) (by omega) (some b_23) y_8 _ _ ls (by omega) (fun b h => by cases h; exact tb_23) (by omega) (lf_s hq0_cut_6 hb_24 (by omega)) hP hS (lv_sub hl [0, 1, 2, 3, 4] rfl)
                · have dc_22 := c_nle (a := x_21.toInt) (b := y_8.toInt) rfl rfl c_22
                  refine lv_aload hx hb dX9_lastHeard_63 (lv_at hl 0 rfl) ?_
                  refine va_get (D := (dC, dI)) (ci := 3) (v := .int (oI Z b_9 1)) (C := RX3) (T := TX3) (N := 6) hx hb hts in_wsX9_lastHeard_X3 hown hK hP q_10 hq_10 rfl 1 (by decide) (hts (.fieldLink RX9 50 "ShipOffice$Happening" "day" "I") iw_X9_lastHeard_5) (fun _ h9 => h9) rfl dX9_lastHeard_65 ?_
                  refine lv_topi (fun x_26 ex_26 => ?_)
                  have gx_26 : x_26.toInt = (oI Z b_9 1).toInt := iv_to ex_26
                  clear ex_26
                  refine lv_istore_n (lv' := [(3, .int x_26), (4, .ref b_9), (0, .ref o), (1, .int x1), (2, .int x2)]) hx hb dX9_lastHeard_68 rfl hl (by decide) rfl (fun ls hl => ?_)
                  refine lv_aload hx hb dX9_lastHeard_69 (lv_at hl 1 rfl) ?_
                  rcases hb_28 : oP Z b_9 5 with _ | b_27
                  · refine va_get (D := (dC, dI)) (ci := 3) (v := .null) (C := RX3) (T := TX3) (N := 6) hx hb hts in_wsX9_lastHeard_X3 hown hK hP q_10 hq_10 rfl 5 (by decide) (hts (.fieldLink RX9 53 "ShipOffice$Happening" "before" "LShipOffice$Happening;") iw_X9_lastHeard_4) (fun _ h9 => h9) (o_rd hb_28) dX9_lastHeard_71 ?_
                    have r_29 : oR Z none = 0 := rfl
                    refine lv_astoreN (lv' := [(4, .null), (3, .int x_26), (0, .ref o), (1, .int x1), (2, .int x2)]) hx hb dX9_lastHeard_74 hl (by decide) rfl (fun ls hl => ?_)
                    refine lv_goto (tgt := 31) hx hb dX9_lastHeard_76 (by decide) ?_
                    exact ih (n - 1) (by omega) none x_26 _ _ ls (by omega) (fun b h => by cases h) (by omega) (lf_s hq0_cut_6 hb_28 (by omega)) hP hS (lv_sub hl [0, 1, 2, 3, 4] rfl)
                  · refine va_get (D := (dC, dI)) (ci := 3) (v := .ref b_27) (C := RX3) (T := TX3) (N := 6) hx hb hts in_wsX9_lastHeard_X3 hown hK hP q_10 hq_10 rfl 5 (by decide) (hts (.fieldLink RX9 53 "ShipOffice$Happening" "before" "LShipOffice$Happening;") iw_X9_lastHeard_4) (fun _ h9 => h9) (o_rd hb_28) dX9_lastHeard_71 ?_
                    have tb_27 : oty Z b_27 3 := oInv.rd gI tb_9.2 hb_28 rfl rfl
                    have hGb_27 : oG Z b_27 < oG Z b_9 := gI.2.2.2.2.2.1 b_9 b_27 tb_9.2 hb_28
                    have rb_27 : oR Z (some b_27) = oG Z b_27 + 1 := rfl
                    refine lv_astore (lv' := [(4, .ref b_27), (3, .int x_26), (0, .ref o), (1, .int x1), (2, .int x2)]) hx hb dX9_lastHeard_74 hl (by decide) rfl (fun ls hl => ?_)
                    refine lv_goto (tgt := 31) hx hb dX9_lastHeard_76 (by decide) ?_
                    exact ih (n - 1) (by omega) (some b_27) x_26 _ _ ls (by omega) (fun b h => by cases h; exact tb_27) (by omega) (lf_s hq0_cut_6 hb_28 (by omega)) hP hS (lv_sub hl [0, 1, 2, 3, 4] rfl)
      have kc_30 : ((-1) : Int32).toInt = -1 := by decide
      exact cut_6 (oR Z none) none (-1) _ _ ls (by omega) (fun b h => by cases h) (by decide) (lh_init (fa' := ()) (RC.A hR) rvo hk3 (by omega) hb_5) hP hS (lv_sub hl [0, 1, 2, 3, 4] rfl)
    · refine va_get (D := (dC, dI)) (ci := 9) (v := .ref b_4) (C := RX9) (T := TX9) (N := 10) hx hb hts in_wsX9_lastHeard_X9 hown hK hP q_1 hq_1 rfl 9 (by decide) (hts (.fieldLink RX9 41 "ShipOffice$Voyage" "heardOf" "LShipOffice$Happening;") iw_X9_lastHeard_2) (fun _ h9 => h9) (o_rd hb_5) dX9_lastHeard_26 ?_
      have tb_4 : oty Z b_4 3 := oInv.rd gI to.2 hb_5 rfl rfl
      refine lv_astore (lv' := [(4, .ref b_4), (3, .int (-1)), (0, .ref o), (1, .int x1), (2, .int x2)]) hx hb dX9_lastHeard_29 hl (by decide) rfl (fun ls hl => ?_)
      have cut_31 : ∀ (n : Nat) (y_32 : Option Nat) (y_33 : Int32) (H : Heap) (locs : List Loc) (ls : Array Slot), (oR Z y_32 : Int) ≤ (n : Int) → (∀ b, y_32 = some b → oty Z b 3) → (-1 ≤ y_33.toInt ∧ y_33.toInt ≤ 3000) → lfI Z fa x1.toInt x2.toInt y_33.toInt (lhO v fa x x1.toInt x2.toInt) y_32 → va_P (dC, dI) vwCl (oW cq Z) H → va_S A s.heap H locs → lv_has ls 5 [(4, va_rf y_32), (3, .int y_33), (0, .ref o), (1, .int x1), (2, .int x2)] → W p l e (headSpec wsX9_lastHeard { frames := 0, cells := 0, slots := 0, locals := 0 }).room s m #[Value.ref o, Value.int x1, Value.int x2] below meth c H locs 0 0 (MQ below (va_Qi (fun (r : Int32) (u : Unit) => (-1 ≤ r.toInt ∧ r.toInt ≤ 3000) ∧ (r.toInt = lhO v fa x x1.toInt x2.toInt)) (fun _ _ => True) A) #[Value.ref o, Value.int x1, Value.int x2] s 0 0 A) (F0 m 31 ls []) := by
        intro n
        induction n using Nat.strongRecOn with
        | ind n ih =>
          intro y_32 y_33 H locs ls hm ty_32 hy_33 hq0_cut_31 hP hS hl
          rcases y_32 with _ | b_34
          · have hl : lv_has ls 5 [(4, .null), (3, .int y_33), (0, .ref o), (1, .int x1), (2, .int x2)] := hl
            refine lv_aloadN hx hb dX9_lastHeard_31 (lv_at hl 0 rfl) ?_
            refine lv_ifnullN (tgt := 79) hx hb dX9_lastHeard_33 (by decide) ?_
            refine lv_iload_n hx hb dX9_lastHeard_79 rfl (lv_at hl 1 rfl) ?_
            exact W.iret (v := y_33) hx hb hr (fun t ht hW => ⟨⟨y_33, (), rfl, ⟨(by omega), (lf_n hq0_cut_31)⟩, trivial⟩, hS.F ht⟩) hS.2.2 dX9_lastHeard_80
          · have hl : lv_has ls 5 [(4, .ref b_34), (3, .int y_33), (0, .ref o), (1, .int x1), (2, .int x2)] := hl
            have tb_34 : oty Z b_34 3 := ty_32 b_34 rfl
            have rb_34 : oR Z (some b_34) = oG Z b_34 + 1 := rfl
            have dyb := lf_b (RC.A hR) hq0_cut_31
            refine lv_aload hx hb dX9_lastHeard_31 (lv_at hl 0 rfl) ?_
            refine lv_ifnull hx hb dX9_lastHeard_33 ?_
            refine lv_aload hx hb dX9_lastHeard_36 (lv_at hl 0 rfl) ?_
            obtain ⟨q_35, hq_35⟩ := og (cq := cq) tb_34.1 (oE_3 tb_34.2)
            refine va_get (D := (dC, dI)) (ci := 3) (v := .int (oI Z b_34 2)) (C := RX3) (T := TX3) (N := 6) hx hb hts in_wsX9_lastHeard_X3 hown hK hP q_35 hq_35 rfl 2 (by decide) (hts (.fieldLink RX9 45 "ShipOffice$Happening" "told" "I") iw_X9_lastHeard_3) (fun _ h9 => h9) rfl dX9_lastHeard_38 ?_
            refine lv_topi (fun x_36 ex_36 => ?_)
            have gx_36 : x_36.toInt = (oI Z b_34 2).toInt := iv_to ex_36
            clear ex_36
            refine lv_iload_n hx hb dX9_lastHeard_41 rfl (lv_at hl 4 rfl) ?_
            refine lv_icmp_gt (tgt := 69) hx hb dX9_lastHeard_42 (by decide) (fun c_37 => ?_) (fun c_37 => ?_)
            · have dc_37 := c_lt (a := x2.toInt) (b := x_36.toInt) rfl rfl c_37
              refine lv_aload hx hb dX9_lastHeard_69 (lv_at hl 0 rfl) ?_
              rcases hb_39 : oP Z b_34 5 with _ | b_38
              · refine va_get (D := (dC, dI)) (ci := 3) (v := .null) (C := RX3) (T := TX3) (N := 6) hx hb hts in_wsX9_lastHeard_X3 hown hK hP q_35 hq_35 rfl 5 (by decide) (hts (.fieldLink RX9 53 "ShipOffice$Happening" "before" "LShipOffice$Happening;") iw_X9_lastHeard_4) (fun _ h9 => h9) (o_rd hb_39) dX9_lastHeard_71 ?_
                have r_40 : oR Z none = 0 := rfl
                refine lv_astoreN (lv' := [(4, .null), (3, .int y_33), (0, .ref o), (1, .int x1), (2, .int x2)]) hx hb dX9_lastHeard_74 hl (by decide) rfl (fun ls hl => ?_)
                refine lv_goto (tgt := 31) hx hb dX9_lastHeard_76 (by decide) ?_
                exact ih (n - 1) (by omega) none y_33 _ _ ls (by omega) (fun b h => by cases h) (by omega) (lf_s hq0_cut_31 hb_39 (by omega)) hP hS (lv_sub hl [0, 1, 2, 3, 4] rfl)
              · refine va_get (D := (dC, dI)) (ci := 3) (v := .ref b_38) (C := RX3) (T := TX3) (N := 6) hx hb hts in_wsX9_lastHeard_X3 hown hK hP q_35 hq_35 rfl 5 (by decide) (hts (.fieldLink RX9 53 "ShipOffice$Happening" "before" "LShipOffice$Happening;") iw_X9_lastHeard_4) (fun _ h9 => h9) (o_rd hb_39) dX9_lastHeard_71 ?_
                have tb_38 : oty Z b_38 3 := oInv.rd gI tb_34.2 hb_39 rfl rfl
                have hGb_38 : oG Z b_38 < oG Z b_34 := gI.2.2.2.2.2.1 b_34 b_38 tb_34.2 hb_39
                have rb_38 : oR Z (some b_38) = oG Z b_38 + 1 := rfl
                refine lv_astore (lv' := [(4, .ref b_38), (3, .int y_33), (0, .ref o), (1, .int x1), (2, .int x2)]) hx hb dX9_lastHeard_74 hl (by decide) rfl (fun ls hl => ?_)
                refine lv_goto (tgt := 31) hx hb dX9_lastHeard_76 (by decide) ?_
                exact ih (n - 1) (by omega) (some b_38) y_33 _ _ ls (by omega) (fun b h => by cases h; exact tb_38) (by omega) (lf_s hq0_cut_31 hb_39 (by omega)) hP hS (lv_sub hl [0, 1, 2, 3, 4] rfl)
            · have dc_37 := c_nlt (a := x2.toInt) (b := x_36.toInt) rfl rfl c_37
              refine lv_aload hx hb dX9_lastHeard_45 (lv_at hl 0 rfl) ?_
              refine va_get (D := (dC, dI)) (ci := 3) (v := .int (oI Z b_34 1)) (C := RX3) (T := TX3) (N := 6) hx hb hts in_wsX9_lastHeard_X3 hown hK hP q_35 hq_35 rfl 1 (by decide) (hts (.fieldLink RX9 50 "ShipOffice$Happening" "day" "I") iw_X9_lastHeard_5) (fun _ h9 => h9) rfl dX9_lastHeard_47 ?_
              refine lv_topi (fun x_41 ex_41 => ?_)
              have gx_41 : x_41.toInt = (oI Z b_34 1).toInt := iv_to ex_41
              clear ex_41
              refine lv_iload_n hx hb dX9_lastHeard_50 rfl (lv_at hl 3 rfl) ?_
              refine lv_icmp_gt (tgt := 69) hx hb dX9_lastHeard_51 (by decide) (fun c_42 => ?_) (fun c_42 => ?_)
              · have dc_42 := c_lt (a := x1.toInt) (b := x_41.toInt) rfl rfl c_42
                refine lv_aload hx hb dX9_lastHeard_69 (lv_at hl 0 rfl) ?_
                rcases hb_44 : oP Z b_34 5 with _ | b_43
                · refine va_get (D := (dC, dI)) (ci := 3) (v := .null) (C := RX3) (T := TX3) (N := 6) hx hb hts in_wsX9_lastHeard_X3 hown hK hP q_35 hq_35 rfl 5 (by decide) (hts (.fieldLink RX9 53 "ShipOffice$Happening" "before" "LShipOffice$Happening;") iw_X9_lastHeard_4) (fun _ h9 => h9) (o_rd hb_44) dX9_lastHeard_71 ?_
                  have r_45 : oR Z none = 0 := rfl
                  refine lv_astoreN (lv' := [(4, .null), (3, .int y_33), (0, .ref o), (1, .int x1), (2, .int x2)]) hx hb dX9_lastHeard_74 hl (by decide) rfl (fun ls hl => ?_)
                  refine lv_goto (tgt := 31) hx hb dX9_lastHeard_76 (by decide) ?_
                  exact ih (n - 1) (by omega) none y_33 _ _ ls (by omega) (fun b h => by cases h) (by omega) (lf_s hq0_cut_31 hb_44 (by omega)) hP hS (lv_sub hl [0, 1, 2, 3, 4] rfl)
                · refine va_get (D := (dC, dI)) (ci := 3) (v := .ref b_43) (C := RX3) (T := TX3) (N := 6) hx hb hts in_wsX9_lastHeard_X3 hown hK hP q_35 hq_35 rfl 5 (by decide) (hts (.fieldLink RX9 53 "ShipOffice$Happening" "before" "LShipOffice$Happening;") iw_X9_lastHeard_4) (fun _ h9 => h9) (o_rd hb_44) dX9_lastHeard_71 ?_
                  have tb_43 : oty Z b_43 3 := oInv.rd gI tb_34.2 hb_44 rfl rfl
                  have hGb_43 : oG Z b_43 < oG Z b_34 := gI.2.2.2.2.2.1 b_34 b_43 tb_34.2 hb_44
                  have rb_43 : oR Z (some b_43) = oG Z b_43 + 1 := rfl
                  refine lv_astore (lv' := [(4, .ref b_43), (3, .int y_33), (0, .ref o), (1, .int x1), (2, .int x2)]) hx hb dX9_lastHeard_74 hl (by decide) rfl (fun ls hl => ?_)
                  refine lv_goto (tgt := 31) hx hb dX9_lastHeard_76 (by decide) ?_
                  exact ih (n - 1) (by omega) (some b_43) y_33 _ _ ls (by omega) (fun b h => by cases h; exact tb_43) (by omega) (lf_s hq0_cut_31 hb_44 (by omega)) hP hS (lv_sub hl [0, 1, 2, 3, 4] rfl)
              · have dc_42 := c_nlt (a := x1.toInt) (b := x_41.toInt) rfl rfl c_42
                refine lv_aload hx hb dX9_lastHeard_54 (lv_at hl 0 rfl) ?_
                refine va_get (D := (dC, dI)) (ci := 3) (v := .int (oI Z b_34 1)) (C := RX3) (T := TX3) (N := 6) hx hb hts in_wsX9_lastHeard_X3 hown hK hP q_35 hq_35 rfl 1 (by decide) (hts (.fieldLink RX9 50 "ShipOffice$Happening" "day" "I") iw_X9_lastHeard_5) (fun _ h9 => h9) rfl dX9_lastHeard_56 ?_
                refine lv_topi (fun x_46 ex_46 => ?_)
                have gx_46 : x_46.toInt = (oI Z b_34 1).toInt := iv_to ex_46
                clear ex_46
                refine lv_iload_n hx hb dX9_lastHeard_59 rfl (lv_at hl 1 rfl) ?_
                refine lv_icmp_le (tgt := 69) hx hb dX9_lastHeard_60 (by decide) (fun c_47 => ?_) (fun c_47 => ?_)
                · have dc_47 := c_le (a := x_46.toInt) (b := y_33.toInt) rfl rfl c_47
                  refine lv_aload hx hb dX9_lastHeard_69 (lv_at hl 0 rfl) ?_
                  rcases hb_49 : oP Z b_34 5 with _ | b_48
                  · refine va_get (D := (dC, dI)) (ci := 3) (v := .null) (C := RX3) (T := TX3) (N := 6) hx hb hts in_wsX9_lastHeard_X3 hown hK hP q_35 hq_35 rfl 5 (by decide) (hts (.fieldLink RX9 53 "ShipOffice$Happening" "before" "LShipOffice$Happening;") iw_X9_lastHeard_4) (fun _ h9 => h9) (o_rd hb_49) dX9_lastHeard_71 ?_
                    have r_50 : oR Z none = 0 := rfl
                    refine lv_astoreN (lv' := [(4, .null), (3, .int y_33), (0, .ref o), (1, .int x1), (2, .int x2)]) hx hb dX9_lastHeard_74 hl (by decide) rfl (fun ls hl => ?_)
                    refine lv_goto (tgt := 31) hx hb dX9_lastHeard_76 (by decide) ?_
                    exact ih (n - 1) (by omega) none y_33 _ _ ls (by omega) (fun b h => by cases h) (by omega) (lf_s hq0_cut_31 hb_49 (by omega)) hP hS (lv_sub hl [0, 1, 2, 3, 4] rfl)
                  · refine va_get (D := (dC, dI)) (ci := 3) (v := .ref b_48) (C := RX3) (T := TX3) (N := 6) hx hb hts in_wsX9_lastHeard_X3 hown hK hP q_35 hq_35 rfl 5 (by decide) (hts (.fieldLink RX9 53 "ShipOffice$Happening" "before" "LShipOffice$Happening;") iw_X9_lastHeard_4) (fun _ h9 => h9) (o_rd hb_49) dX9_lastHeard_71 ?_
                    have tb_48 : oty Z b_48 3 := oInv.rd gI tb_34.2 hb_49 rfl rfl
                    have hGb_48 : oG Z b_48 < oG Z b_34 := gI.2.2.2.2.2.1 b_34 b_48 tb_34.2 hb_49
                    have rb_48 : oR Z (some b_48) = oG Z b_48 + 1 := rfl
                    refine lv_astore (lv' := [(4, .ref b_48), (3, .int y_33), (0, .ref o), (1, .int x1), (2, .int x2)]) hx hb dX9_lastHeard_74 hl (by decide) rfl (fun ls hl => ?_)
                    refine lv_goto (tgt := 31) hx hb dX9_lastHeard_76 (by decide) ?_
                    exact ih (n - 1) (by omega) (some b_48) y_33 _ _ ls (by omega) (fun b h => by cases h; exact tb_48) (by omega) (lf_s hq0_cut_31 hb_49 (by omega)) hP hS (lv_sub hl [0, 1, 2, 3, 4] rfl)
                · have dc_47 := c_nle (a := x_46.toInt) (b := y_33.toInt) rfl rfl c_47
                  refine lv_aload hx hb dX9_lastHeard_63 (lv_at hl 0 rfl) ?_
                  refine va_get (D := (dC, dI)) (ci := 3) (v := .int (oI Z b_34 1)) (C := RX3) (T := TX3) (N := 6) hx hb hts in_wsX9_lastHeard_X3 hown hK hP q_35 hq_35 rfl 1 (by decide) (hts (.fieldLink RX9 50 "ShipOffice$Happening" "day" "I") iw_X9_lastHeard_5) (fun _ h9 => h9) rfl dX9_lastHeard_65 ?_
                  refine lv_topi (fun x_51 ex_51 => ?_)
                  have gx_51 : x_51.toInt = (oI Z b_34 1).toInt := iv_to ex_51
                  clear ex_51
                  refine lv_istore_n (lv' := [(3, .int x_51), (4, .ref b_34), (0, .ref o), (1, .int x1), (2, .int x2)]) hx hb dX9_lastHeard_68 rfl hl (by decide) rfl (fun ls hl => ?_)
                  refine lv_aload hx hb dX9_lastHeard_69 (lv_at hl 1 rfl) ?_
                  rcases hb_53 : oP Z b_34 5 with _ | b_52
                  · refine va_get (D := (dC, dI)) (ci := 3) (v := .null) (C := RX3) (T := TX3) (N := 6) hx hb hts in_wsX9_lastHeard_X3 hown hK hP q_35 hq_35 rfl 5 (by decide) (hts (.fieldLink RX9 53 "ShipOffice$Happening" "before" "LShipOffice$Happening;") iw_X9_lastHeard_4) (fun _ h9 => h9) (o_rd hb_53) dX9_lastHeard_71 ?_
                    have r_54 : oR Z none = 0 := rfl
                    refine lv_astoreN (lv' := [(4, .null), (3, .int x_51), (0, .ref o), (1, .int x1), (2, .int x2)]) hx hb dX9_lastHeard_74 hl (by decide) rfl (fun ls hl => ?_)
                    refine lv_goto (tgt := 31) hx hb dX9_lastHeard_76 (by decide) ?_
                    exact ih (n - 1) (by omega) none x_51 _ _ ls (by omega) (fun b h => by cases h) (by omega) (lf_s hq0_cut_31 hb_53 (by omega)) hP hS (lv_sub hl [0, 1, 2, 3, 4] rfl)
                  · refine va_get (D := (dC, dI)) (ci := 3) (v := .ref b_52) (C := RX3) (T := TX3) (N := 6) hx hb hts in_wsX9_lastHeard_X3 hown hK hP q_35 hq_35 rfl 5 (by decide) (hts (.fieldLink RX9 53 "ShipOffice$Happening" "before" "LShipOffice$Happening;") iw_X9_lastHeard_4) (fun _ h9 => h9) (o_rd hb_53) dX9_lastHeard_71 ?_
                    have tb_52 : oty Z b_52 3 := oInv.rd gI tb_34.2 hb_53 rfl rfl
                    have hGb_52 : oG Z b_52 < oG Z b_34 := gI.2.2.2.2.2.1 b_34 b_52 tb_34.2 hb_53
                    have rb_52 : oR Z (some b_52) = oG Z b_52 + 1 := rfl
                    refine lv_astore (lv' := [(4, .ref b_52), (3, .int x_51), (0, .ref o), (1, .int x1), (2, .int x2)]) hx hb dX9_lastHeard_74 hl (by decide) rfl (fun ls hl => ?_)
                    refine lv_goto (tgt := 31) hx hb dX9_lastHeard_76 (by decide) ?_
                    exact ih (n - 1) (by omega) (some b_52) x_51 _ _ ls (by omega) (fun b h => by cases h; exact tb_52) (by omega) (lf_s hq0_cut_31 hb_53 (by omega)) hP hS (lv_sub hl [0, 1, 2, 3, 4] rfl)
      have kc_55 : ((-1) : Int32).toInt = -1 := by decide
      exact cut_31 (oR Z (some b_4)) (some b_4) (-1) _ _ ls (by omega) (fun b h => by cases h; exact tb_4) (by decide) (lh_init (fa' := ()) (RC.A hR) rvo hk3 (by omega) hb_5) hP hS (lv_sub hl [0, 1, 2, 3, 4] rfl)
  · have dc_3 := c_nlt (a := x2.toInt) (b := x_2.toInt) rfl rfl c_3
    refine lv_aload_n hx hb dX9_lastHeard_8 rfl (lv_at hl 0 rfl) ?_
    refine va_get (D := (dC, dI)) (ci := 9) (v := .int (oI Z o 5)) (C := RX9) (T := TX9) (N := 10) hx hb hts in_wsX9_lastHeard_X9 hown hK hP q_1 hq_1 rfl 5 (by decide) (hts (.fieldLink RX9 10 "ShipOffice$Voyage" "sailedDay" "I") iw_X9_lastHeard_6) (fun _ h9 => h9) rfl dX9_lastHeard_9 ?_
    refine lv_topi (fun x_56 ex_56 => ?_)
    have hx_56 : 0 ≤ x_56.toInt ∧ x_56.toInt ≤ 1000000 := iv_of ex_56 (oInv.iv gI to.2 rfl rfl)
    have gx_56 : x_56.toInt = (oI Z o 5).toInt := iv_to ex_56
    clear ex_56
    refine lv_iload_n hx hb dX9_lastHeard_12 rfl (lv_at hl 1 rfl) ?_
    refine lv_icmp_gt (tgt := 23) hx hb dX9_lastHeard_13 (by decide) (fun c_57 => ?_) (fun c_57 => ?_)
    · have dc_57 := c_lt (a := x1.toInt) (b := x_56.toInt) rfl rfl c_57
      refine lv_iconst (v := (-1)) hx hb dX9_lastHeard_23 (by decide) ?_
      refine lv_istore_n (lv' := [(3, .int (-1)), (0, .ref o), (1, .int x1), (2, .int x2)]) hx hb dX9_lastHeard_24 rfl hl (by decide) rfl (fun ls hl => ?_)
      refine lv_aload_n hx hb dX9_lastHeard_25 rfl (lv_at hl 1 rfl) ?_
      rcases hb_59 : oP Z o 9 with _ | b_58
      · refine va_get (D := (dC, dI)) (ci := 9) (v := .null) (C := RX9) (T := TX9) (N := 10) hx hb hts in_wsX9_lastHeard_X9 hown hK hP q_1 hq_1 rfl 9 (by decide) (hts (.fieldLink RX9 41 "ShipOffice$Voyage" "heardOf" "LShipOffice$Happening;") iw_X9_lastHeard_2) (fun _ h9 => h9) (o_rd hb_59) dX9_lastHeard_26 ?_
        refine lv_astoreN (lv' := [(4, .null), (3, .int (-1)), (0, .ref o), (1, .int x1), (2, .int x2)]) hx hb dX9_lastHeard_29 hl (by decide) rfl (fun ls hl => ?_)
        have cut_60 : ∀ (n : Nat) (y_61 : Option Nat) (y_62 : Int32) (H : Heap) (locs : List Loc) (ls : Array Slot), (oR Z y_61 : Int) ≤ (n : Int) → (∀ b, y_61 = some b → oty Z b 3) → (-1 ≤ y_62.toInt ∧ y_62.toInt ≤ 3000) → lfI Z fa x1.toInt x2.toInt y_62.toInt (lhO v fa x x1.toInt x2.toInt) y_61 → va_P (dC, dI) vwCl (oW cq Z) H → va_S A s.heap H locs → lv_has ls 5 [(4, va_rf y_61), (3, .int y_62), (0, .ref o), (1, .int x1), (2, .int x2)] → W p l e (headSpec wsX9_lastHeard { frames := 0, cells := 0, slots := 0, locals := 0 }).room s m #[Value.ref o, Value.int x1, Value.int x2] below meth c H locs 0 0 (MQ below (va_Qi (fun (r : Int32) (u : Unit) => (-1 ≤ r.toInt ∧ r.toInt ≤ 3000) ∧ (r.toInt = lhO v fa x x1.toInt x2.toInt)) (fun _ _ => True) A) #[Value.ref o, Value.int x1, Value.int x2] s 0 0 A) (F0 m 31 ls []) := by
          intro n
          induction n using Nat.strongRecOn with
          | ind n ih =>
            intro y_61 y_62 H locs ls hm ty_61 hy_62 hq0_cut_60 hP hS hl
            rcases y_61 with _ | b_63
            · have hl : lv_has ls 5 [(4, .null), (3, .int y_62), (0, .ref o), (1, .int x1), (2, .int x2)] := hl
              refine lv_aloadN hx hb dX9_lastHeard_31 (lv_at hl 0 rfl) ?_
              refine lv_ifnullN (tgt := 79) hx hb dX9_lastHeard_33 (by decide) ?_
              refine lv_iload_n hx hb dX9_lastHeard_79 rfl (lv_at hl 1 rfl) ?_
              exact W.iret (v := y_62) hx hb hr (fun t ht hW => ⟨⟨y_62, (), rfl, ⟨(by omega), (lf_n hq0_cut_60)⟩, trivial⟩, hS.F ht⟩) hS.2.2 dX9_lastHeard_80
            · have hl : lv_has ls 5 [(4, .ref b_63), (3, .int y_62), (0, .ref o), (1, .int x1), (2, .int x2)] := hl
              have tb_63 : oty Z b_63 3 := ty_61 b_63 rfl
              have rb_63 : oR Z (some b_63) = oG Z b_63 + 1 := rfl
              have dyb := lf_b (RC.A hR) hq0_cut_60
              refine lv_aload hx hb dX9_lastHeard_31 (lv_at hl 0 rfl) ?_
              refine lv_ifnull hx hb dX9_lastHeard_33 ?_
              refine lv_aload hx hb dX9_lastHeard_36 (lv_at hl 0 rfl) ?_
              obtain ⟨q_64, hq_64⟩ := og (cq := cq) tb_63.1 (oE_3 tb_63.2)
              refine va_get (D := (dC, dI)) (ci := 3) (v := .int (oI Z b_63 2)) (C := RX3) (T := TX3) (N := 6) hx hb hts in_wsX9_lastHeard_X3 hown hK hP q_64 hq_64 rfl 2 (by decide) (hts (.fieldLink RX9 45 "ShipOffice$Happening" "told" "I") iw_X9_lastHeard_3) (fun _ h9 => h9) rfl dX9_lastHeard_38 ?_
              refine lv_topi (fun x_65 ex_65 => ?_)
              have gx_65 : x_65.toInt = (oI Z b_63 2).toInt := iv_to ex_65
              clear ex_65
              refine lv_iload_n hx hb dX9_lastHeard_41 rfl (lv_at hl 4 rfl) ?_
              refine lv_icmp_gt (tgt := 69) hx hb dX9_lastHeard_42 (by decide) (fun c_66 => ?_) (fun c_66 => ?_)
              · have dc_66 := c_lt (a := x2.toInt) (b := x_65.toInt) rfl rfl c_66
                refine lv_aload hx hb dX9_lastHeard_69 (lv_at hl 0 rfl) ?_
                rcases hb_68 : oP Z b_63 5 with _ | b_67
                · refine va_get (D := (dC, dI)) (ci := 3) (v := .null) (C := RX3) (T := TX3) (N := 6) hx hb hts in_wsX9_lastHeard_X3 hown hK hP q_64 hq_64 rfl 5 (by decide) (hts (.fieldLink RX9 53 "ShipOffice$Happening" "before" "LShipOffice$Happening;") iw_X9_lastHeard_4) (fun _ h9 => h9) (o_rd hb_68) dX9_lastHeard_71 ?_
                  have r_69 : oR Z none = 0 := rfl
                  refine lv_astoreN (lv' := [(4, .null), (3, .int y_62), (0, .ref o), (1, .int x1), (2, .int x2)]) hx hb dX9_lastHeard_74 hl (by decide) rfl (fun ls hl => ?_)
                  refine lv_goto (tgt := 31) hx hb dX9_lastHeard_76 (by decide) ?_
                  exact ih (n - 1) (by omega) none y_62 _ _ ls (by omega) (fun b h => by cases h) (by omega) (lf_s hq0_cut_60 hb_68 (by omega)) hP hS (lv_sub hl [0, 1, 2, 3, 4] rfl)
                · refine va_get (D := (dC, dI)) (ci := 3) (v := .ref b_67) (C := RX3) (T := TX3) (N := 6) hx hb hts in_wsX9_lastHeard_X3 hown hK hP q_64 hq_64 rfl 5 (by decide) (hts (.fieldLink RX9 53 "ShipOffice$Happening" "before" "LShipOffice$Happening;") iw_X9_lastHeard_4) (fun _ h9 => h9) (o_rd hb_68) dX9_lastHeard_71 ?_
                  have tb_67 : oty Z b_67 3 := oInv.rd gI tb_63.2 hb_68 rfl rfl
                  have hGb_67 : oG Z b_67 < oG Z b_63 := gI.2.2.2.2.2.1 b_63 b_67 tb_63.2 hb_68
                  have rb_67 : oR Z (some b_67) = oG Z b_67 + 1 := rfl
                  refine lv_astore (lv' := [(4, .ref b_67), (3, .int y_62), (0, .ref o), (1, .int x1), (2, .int x2)]) hx hb dX9_lastHeard_74 hl (by decide) rfl (fun ls hl => ?_)
                  refine lv_goto (tgt := 31) hx hb dX9_lastHeard_76 (by decide) ?_
                  exact ih (n - 1) (by omega) (some b_67) y_62 _ _ ls (by omega) (fun b h => by cases h; exact tb_67) (by omega) (lf_s hq0_cut_60 hb_68 (by omega)) hP hS (lv_sub hl [0, 1, 2, 3, 4] rfl)
              · have dc_66 := c_nlt (a := x2.toInt) (b := x_65.toInt) rfl rfl c_66
                refine lv_aload hx hb dX9_lastHeard_45 (lv_at hl 0 rfl) ?_
                refine va_get (D := (dC, dI)) (ci := 3) (v := .int (oI Z b_63 1)) (C := RX3) (T := TX3) (N := 6) hx hb hts in_wsX9_lastHeard_X3 hown hK hP q_64 hq_64 rfl 1 (by decide) (hts (.fieldLink RX9 50 "ShipOffice$Happening" "day" "I") iw_X9_lastHeard_5) (fun _ h9 => h9) rfl dX9_lastHeard_47 ?_
                refine lv_topi (fun x_70 ex_70 => ?_)
                have gx_70 : x_70.toInt = (oI Z b_63 1).toInt := iv_to ex_70
                clear ex_70
                refine lv_iload_n hx hb dX9_lastHeard_50 rfl (lv_at hl 3 rfl) ?_
                refine lv_icmp_gt (tgt := 69) hx hb dX9_lastHeard_51 (by decide) (fun c_71 => ?_) (fun c_71 => ?_)
                · have dc_71 := c_lt (a := x1.toInt) (b := x_70.toInt) rfl rfl c_71
                  refine lv_aload hx hb dX9_lastHeard_69 (lv_at hl 0 rfl) ?_
                  rcases hb_73 : oP Z b_63 5 with _ | b_72
                  · refine va_get (D := (dC, dI)) (ci := 3) (v := .null) (C := RX3) (T := TX3) (N := 6) hx hb hts in_wsX9_lastHeard_X3 hown hK hP q_64 hq_64 rfl 5 (by decide) (hts (.fieldLink RX9 53 "ShipOffice$Happening" "before" "LShipOffice$Happening;") iw_X9_lastHeard_4) (fun _ h9 => h9) (o_rd hb_73) dX9_lastHeard_71 ?_
                    have r_74 : oR Z none = 0 := rfl
                    refine lv_astoreN (lv' := [(4, .null), (3, .int y_62), (0, .ref o), (1, .int x1), (2, .int x2)]) hx hb dX9_lastHeard_74 hl (by decide) rfl (fun ls hl => ?_)
                    refine lv_goto (tgt := 31) hx hb dX9_lastHeard_76 (by decide) ?_
                    exact ih (n - 1) (by omega) none y_62 _ _ ls (by omega) (fun b h => by cases h) (by omega) (lf_s hq0_cut_60 hb_73 (by omega)) hP hS (lv_sub hl [0, 1, 2, 3, 4] rfl)
                  · refine va_get (D := (dC, dI)) (ci := 3) (v := .ref b_72) (C := RX3) (T := TX3) (N := 6) hx hb hts in_wsX9_lastHeard_X3 hown hK hP q_64 hq_64 rfl 5 (by decide) (hts (.fieldLink RX9 53 "ShipOffice$Happening" "before" "LShipOffice$Happening;") iw_X9_lastHeard_4) (fun _ h9 => h9) (o_rd hb_73) dX9_lastHeard_71 ?_
                    have tb_72 : oty Z b_72 3 := oInv.rd gI tb_63.2 hb_73 rfl rfl
                    have hGb_72 : oG Z b_72 < oG Z b_63 := gI.2.2.2.2.2.1 b_63 b_72 tb_63.2 hb_73
                    have rb_72 : oR Z (some b_72) = oG Z b_72 + 1 := rfl
                    refine lv_astore (lv' := [(4, .ref b_72), (3, .int y_62), (0, .ref o), (1, .int x1), (2, .int x2)]) hx hb dX9_lastHeard_74 hl (by decide) rfl (fun ls hl => ?_)
                    refine lv_goto (tgt := 31) hx hb dX9_lastHeard_76 (by decide) ?_
                    exact ih (n - 1) (by omega) (some b_72) y_62 _ _ ls (by omega) (fun b h => by cases h; exact tb_72) (by omega) (lf_s hq0_cut_60 hb_73 (by omega)) hP hS (lv_sub hl [0, 1, 2, 3, 4] rfl)
                · have dc_71 := c_nlt (a := x1.toInt) (b := x_70.toInt) rfl rfl c_71
                  refine lv_aload hx hb dX9_lastHeard_54 (lv_at hl 0 rfl) ?_
                  refine va_get (D := (dC, dI)) (ci := 3) (v := .int (oI Z b_63 1)) (C := RX3) (T := TX3) (N := 6) hx hb hts in_wsX9_lastHeard_X3 hown hK hP q_64 hq_64 rfl 1 (by decide) (hts (.fieldLink RX9 50 "ShipOffice$Happening" "day" "I") iw_X9_lastHeard_5) (fun _ h9 => h9) rfl dX9_lastHeard_56 ?_
                  refine lv_topi (fun x_75 ex_75 => ?_)
                  have gx_75 : x_75.toInt = (oI Z b_63 1).toInt := iv_to ex_75
                  clear ex_75
                  refine lv_iload_n hx hb dX9_lastHeard_59 rfl (lv_at hl 1 rfl) ?_
                  refine lv_icmp_le (tgt := 69) hx hb dX9_lastHeard_60 (by decide) (fun c_76 => ?_) (fun c_76 => ?_)
                  · have dc_76 := c_le (a := x_75.toInt) (b := y_62.toInt) rfl rfl c_76
                    refine lv_aload hx hb dX9_lastHeard_69 (lv_at hl 0 rfl) ?_
                    rcases hb_78 : oP Z b_63 5 with _ | b_77
                    · refine va_get (D := (dC, dI)) (ci := 3) (v := .null) (C := RX3) (T := TX3) (N := 6) hx hb hts in_wsX9_lastHeard_X3 hown hK hP q_64 hq_64 rfl 5 (by decide) (hts (.fieldLink RX9 53 "ShipOffice$Happening" "before" "LShipOffice$Happening;") iw_X9_lastHeard_4) (fun _ h9 => h9) (o_rd hb_78) dX9_lastHeard_71 ?_
                      have r_79 : oR Z none = 0 := rfl
                      refine lv_astoreN (lv' := [(4, .null), (3, .int y_62), (0, .ref o), (1, .int x1), (2, .int x2)]) hx hb dX9_lastHeard_74 hl (by decide) rfl (fun ls hl => ?_)
                      refine lv_goto (tgt := 31) hx hb dX9_lastHeard_76 (by decide) ?_
                      exact ih (n - 1) (by omega) none y_62 _ _ ls (by omega) (fun b h => by cases h) (by omega) (lf_s hq0_cut_60 hb_78 (by omega)) hP hS (lv_sub hl [0, 1, 2, 3, 4] rfl)
                    · refine va_get (D := (dC, dI)) (ci := 3) (v := .ref b_77) (C := RX3) (T := TX3) (N := 6) hx hb hts in_wsX9_lastHeard_X3 hown hK hP q_64 hq_64 rfl 5 (by decide) (hts (.fieldLink RX9 53 "ShipOffice$Happening" "before" "LShipOffice$Happening;") iw_X9_lastHeard_4) (fun _ h9 => h9) (o_rd hb_78) dX9_lastHeard_71 ?_
                      have tb_77 : oty Z b_77 3 := oInv.rd gI tb_63.2 hb_78 rfl rfl
                      have hGb_77 : oG Z b_77 < oG Z b_63 := gI.2.2.2.2.2.1 b_63 b_77 tb_63.2 hb_78
                      have rb_77 : oR Z (some b_77) = oG Z b_77 + 1 := rfl
                      refine lv_astore (lv' := [(4, .ref b_77), (3, .int y_62), (0, .ref o), (1, .int x1), (2, .int x2)]) hx hb dX9_lastHeard_74 hl (by decide) rfl (fun ls hl => ?_)
                      refine lv_goto (tgt := 31) hx hb dX9_lastHeard_76 (by decide) ?_
                      exact ih (n - 1) (by omega) (some b_77) y_62 _ _ ls (by omega) (fun b h => by cases h; exact tb_77) (by omega) (lf_s hq0_cut_60 hb_78 (by omega)) hP hS (lv_sub hl [0, 1, 2, 3, 4] rfl)
                  · have dc_76 := c_nle (a := x_75.toInt) (b := y_62.toInt) rfl rfl c_76
                    refine lv_aload hx hb dX9_lastHeard_63 (lv_at hl 0 rfl) ?_
                    refine va_get (D := (dC, dI)) (ci := 3) (v := .int (oI Z b_63 1)) (C := RX3) (T := TX3) (N := 6) hx hb hts in_wsX9_lastHeard_X3 hown hK hP q_64 hq_64 rfl 1 (by decide) (hts (.fieldLink RX9 50 "ShipOffice$Happening" "day" "I") iw_X9_lastHeard_5) (fun _ h9 => h9) rfl dX9_lastHeard_65 ?_
                    refine lv_topi (fun x_80 ex_80 => ?_)
                    have gx_80 : x_80.toInt = (oI Z b_63 1).toInt := iv_to ex_80
                    clear ex_80
                    refine lv_istore_n (lv' := [(3, .int x_80), (4, .ref b_63), (0, .ref o), (1, .int x1), (2, .int x2)]) hx hb dX9_lastHeard_68 rfl hl (by decide) rfl (fun ls hl => ?_)
                    refine lv_aload hx hb dX9_lastHeard_69 (lv_at hl 1 rfl) ?_
                    rcases hb_82 : oP Z b_63 5 with _ | b_81
                    · refine va_get (D := (dC, dI)) (ci := 3) (v := .null) (C := RX3) (T := TX3) (N := 6) hx hb hts in_wsX9_lastHeard_X3 hown hK hP q_64 hq_64 rfl 5 (by decide) (hts (.fieldLink RX9 53 "ShipOffice$Happening" "before" "LShipOffice$Happening;") iw_X9_lastHeard_4) (fun _ h9 => h9) (o_rd hb_82) dX9_lastHeard_71 ?_
                      have r_83 : oR Z none = 0 := rfl
                      refine lv_astoreN (lv' := [(4, .null), (3, .int x_80), (0, .ref o), (1, .int x1), (2, .int x2)]) hx hb dX9_lastHeard_74 hl (by decide) rfl (fun ls hl => ?_)
                      refine lv_goto (tgt := 31) hx hb dX9_lastHeard_76 (by decide) ?_
                      exact ih (n - 1) (by omega) none x_80 _ _ ls (by omega) (fun b h => by cases h) (by omega) (lf_s hq0_cut_60 hb_82 (by omega)) hP hS (lv_sub hl [0, 1, 2, 3, 4] rfl)
                    · refine va_get (D := (dC, dI)) (ci := 3) (v := .ref b_81) (C := RX3) (T := TX3) (N := 6) hx hb hts in_wsX9_lastHeard_X3 hown hK hP q_64 hq_64 rfl 5 (by decide) (hts (.fieldLink RX9 53 "ShipOffice$Happening" "before" "LShipOffice$Happening;") iw_X9_lastHeard_4) (fun _ h9 => h9) (o_rd hb_82) dX9_lastHeard_71 ?_
                      have tb_81 : oty Z b_81 3 := oInv.rd gI tb_63.2 hb_82 rfl rfl
                      have hGb_81 : oG Z b_81 < oG Z b_63 := gI.2.2.2.2.2.1 b_63 b_81 tb_63.2 hb_82
                      have rb_81 : oR Z (some b_81) = oG Z b_81 + 1 := rfl
                      refine lv_astore (lv' := [(4, .ref b_81), (3, .int x_80), (0, .ref o), (1, .int x1), (2, .int x2)]) hx hb dX9_lastHeard_74 hl (by decide) rfl (fun ls hl => ?_)
                      refine lv_goto (tgt := 31) hx hb dX9_lastHeard_76 (by decide) ?_
                      exact ih (n - 1) (by omega) (some b_81) x_80 _ _ ls (by omega) (fun b h => by cases h; exact tb_81) (by omega) (lf_s hq0_cut_60 hb_82 (by omega)) hP hS (lv_sub hl [0, 1, 2, 3, 4] rfl)
        have kc_84 : ((-1) : Int32).toInt = -1 := by decide
        exact cut_60 (oR Z none) none (-1) _ _ ls (by omega) (fun b h => by cases h) (by decide) (lh_init (fa' := ()) (RC.A hR) rvo hk3 (by omega) hb_59) hP hS (lv_sub hl [0, 1, 2, 3, 4] rfl)
      · refine va_get (D := (dC, dI)) (ci := 9) (v := .ref b_58) (C := RX9) (T := TX9) (N := 10) hx hb hts in_wsX9_lastHeard_X9 hown hK hP q_1 hq_1 rfl 9 (by decide) (hts (.fieldLink RX9 41 "ShipOffice$Voyage" "heardOf" "LShipOffice$Happening;") iw_X9_lastHeard_2) (fun _ h9 => h9) (o_rd hb_59) dX9_lastHeard_26 ?_
        have tb_58 : oty Z b_58 3 := oInv.rd gI to.2 hb_59 rfl rfl
        refine lv_astore (lv' := [(4, .ref b_58), (3, .int (-1)), (0, .ref o), (1, .int x1), (2, .int x2)]) hx hb dX9_lastHeard_29 hl (by decide) rfl (fun ls hl => ?_)
        have cut_85 : ∀ (n : Nat) (y_86 : Option Nat) (y_87 : Int32) (H : Heap) (locs : List Loc) (ls : Array Slot), (oR Z y_86 : Int) ≤ (n : Int) → (∀ b, y_86 = some b → oty Z b 3) → (-1 ≤ y_87.toInt ∧ y_87.toInt ≤ 3000) → lfI Z fa x1.toInt x2.toInt y_87.toInt (lhO v fa x x1.toInt x2.toInt) y_86 → va_P (dC, dI) vwCl (oW cq Z) H → va_S A s.heap H locs → lv_has ls 5 [(4, va_rf y_86), (3, .int y_87), (0, .ref o), (1, .int x1), (2, .int x2)] → W p l e (headSpec wsX9_lastHeard { frames := 0, cells := 0, slots := 0, locals := 0 }).room s m #[Value.ref o, Value.int x1, Value.int x2] below meth c H locs 0 0 (MQ below (va_Qi (fun (r : Int32) (u : Unit) => (-1 ≤ r.toInt ∧ r.toInt ≤ 3000) ∧ (r.toInt = lhO v fa x x1.toInt x2.toInt)) (fun _ _ => True) A) #[Value.ref o, Value.int x1, Value.int x2] s 0 0 A) (F0 m 31 ls []) := by
          intro n
          induction n using Nat.strongRecOn with
          | ind n ih =>
            intro y_86 y_87 H locs ls hm ty_86 hy_87 hq0_cut_85 hP hS hl
            rcases y_86 with _ | b_88
            · have hl : lv_has ls 5 [(4, .null), (3, .int y_87), (0, .ref o), (1, .int x1), (2, .int x2)] := hl
              refine lv_aloadN hx hb dX9_lastHeard_31 (lv_at hl 0 rfl) ?_
              refine lv_ifnullN (tgt := 79) hx hb dX9_lastHeard_33 (by decide) ?_
              refine lv_iload_n hx hb dX9_lastHeard_79 rfl (lv_at hl 1 rfl) ?_
              exact W.iret (v := y_87) hx hb hr (fun t ht hW => ⟨⟨y_87, (), rfl, ⟨(by omega), (lf_n hq0_cut_85)⟩, trivial⟩, hS.F ht⟩) hS.2.2 dX9_lastHeard_80
            · have hl : lv_has ls 5 [(4, .ref b_88), (3, .int y_87), (0, .ref o), (1, .int x1), (2, .int x2)] := hl
              have tb_88 : oty Z b_88 3 := ty_86 b_88 rfl
              have rb_88 : oR Z (some b_88) = oG Z b_88 + 1 := rfl
              have dyb := lf_b (RC.A hR) hq0_cut_85
              refine lv_aload hx hb dX9_lastHeard_31 (lv_at hl 0 rfl) ?_
              refine lv_ifnull hx hb dX9_lastHeard_33 ?_
              refine lv_aload hx hb dX9_lastHeard_36 (lv_at hl 0 rfl) ?_
              obtain ⟨q_89, hq_89⟩ := og (cq := cq) tb_88.1 (oE_3 tb_88.2)
              refine va_get (D := (dC, dI)) (ci := 3) (v := .int (oI Z b_88 2)) (C := RX3) (T := TX3) (N := 6) hx hb hts in_wsX9_lastHeard_X3 hown hK hP q_89 hq_89 rfl 2 (by decide) (hts (.fieldLink RX9 45 "ShipOffice$Happening" "told" "I") iw_X9_lastHeard_3) (fun _ h9 => h9) rfl dX9_lastHeard_38 ?_
              refine lv_topi (fun x_90 ex_90 => ?_)
              have gx_90 : x_90.toInt = (oI Z b_88 2).toInt := iv_to ex_90
              clear ex_90
              refine lv_iload_n hx hb dX9_lastHeard_41 rfl (lv_at hl 4 rfl) ?_
              refine lv_icmp_gt (tgt := 69) hx hb dX9_lastHeard_42 (by decide) (fun c_91 => ?_) (fun c_91 => ?_)
              · have dc_91 := c_lt (a := x2.toInt) (b := x_90.toInt) rfl rfl c_91
                refine lv_aload hx hb dX9_lastHeard_69 (lv_at hl 0 rfl) ?_
                rcases hb_93 : oP Z b_88 5 with _ | b_92
                · refine va_get (D := (dC, dI)) (ci := 3) (v := .null) (C := RX3) (T := TX3) (N := 6) hx hb hts in_wsX9_lastHeard_X3 hown hK hP q_89 hq_89 rfl 5 (by decide) (hts (.fieldLink RX9 53 "ShipOffice$Happening" "before" "LShipOffice$Happening;") iw_X9_lastHeard_4) (fun _ h9 => h9) (o_rd hb_93) dX9_lastHeard_71 ?_
                  have r_94 : oR Z none = 0 := rfl
                  refine lv_astoreN (lv' := [(4, .null), (3, .int y_87), (0, .ref o), (1, .int x1), (2, .int x2)]) hx hb dX9_lastHeard_74 hl (by decide) rfl (fun ls hl => ?_)
                  refine lv_goto (tgt := 31) hx hb dX9_lastHeard_76 (by decide) ?_
                  exact ih (n - 1) (by omega) none y_87 _ _ ls (by omega) (fun b h => by cases h) (by omega) (lf_s hq0_cut_85 hb_93 (by omega)) hP hS (lv_sub hl [0, 1, 2, 3, 4] rfl)
                · refine va_get (D := (dC, dI)) (ci := 3) (v := .ref b_92) (C := RX3) (T := TX3) (N := 6) hx hb hts in_wsX9_lastHeard_X3 hown hK hP q_89 hq_89 rfl 5 (by decide) (hts (.fieldLink RX9 53 "ShipOffice$Happening" "before" "LShipOffice$Happening;") iw_X9_lastHeard_4) (fun _ h9 => h9) (o_rd hb_93) dX9_lastHeard_71 ?_
                  have tb_92 : oty Z b_92 3 := oInv.rd gI tb_88.2 hb_93 rfl rfl
                  have hGb_92 : oG Z b_92 < oG Z b_88 := gI.2.2.2.2.2.1 b_88 b_92 tb_88.2 hb_93
                  have rb_92 : oR Z (some b_92) = oG Z b_92 + 1 := rfl
                  refine lv_astore (lv' := [(4, .ref b_92), (3, .int y_87), (0, .ref o), (1, .int x1), (2, .int x2)]) hx hb dX9_lastHeard_74 hl (by decide) rfl (fun ls hl => ?_)
                  refine lv_goto (tgt := 31) hx hb dX9_lastHeard_76 (by decide) ?_
                  exact ih (n - 1) (by omega) (some b_92) y_87 _ _ ls (by omega) (fun b h => by cases h; exact tb_92) (by omega) (lf_s hq0_cut_85 hb_93 (by omega)) hP hS (lv_sub hl [0, 1, 2, 3, 4] rfl)
              · have dc_91 := c_nlt (a := x2.toInt) (b := x_90.toInt) rfl rfl c_91
                refine lv_aload hx hb dX9_lastHeard_45 (lv_at hl 0 rfl) ?_
                refine va_get (D := (dC, dI)) (ci := 3) (v := .int (oI Z b_88 1)) (C := RX3) (T := TX3) (N := 6) hx hb hts in_wsX9_lastHeard_X3 hown hK hP q_89 hq_89 rfl 1 (by decide) (hts (.fieldLink RX9 50 "ShipOffice$Happening" "day" "I") iw_X9_lastHeard_5) (fun _ h9 => h9) rfl dX9_lastHeard_47 ?_
                refine lv_topi (fun x_95 ex_95 => ?_)
                have gx_95 : x_95.toInt = (oI Z b_88 1).toInt := iv_to ex_95
                clear ex_95
                refine lv_iload_n hx hb dX9_lastHeard_50 rfl (lv_at hl 3 rfl) ?_
                refine lv_icmp_gt (tgt := 69) hx hb dX9_lastHeard_51 (by decide) (fun c_96 => ?_) (fun c_96 => ?_)
                · have dc_96 := c_lt (a := x1.toInt) (b := x_95.toInt) rfl rfl c_96
                  refine lv_aload hx hb dX9_lastHeard_69 (lv_at hl 0 rfl) ?_
                  rcases hb_98 : oP Z b_88 5 with _ | b_97
                  · refine va_get (D := (dC, dI)) (ci := 3) (v := .null) (C := RX3) (T := TX3) (N := 6) hx hb hts in_wsX9_lastHeard_X3 hown hK hP q_89 hq_89 rfl 5 (by decide) (hts (.fieldLink RX9 53 "ShipOffice$Happening" "before" "LShipOffice$Happening;") iw_X9_lastHeard_4) (fun _ h9 => h9) (o_rd hb_98) dX9_lastHeard_71 ?_
                    have r_99 : oR Z none = 0 := rfl
                    refine lv_astoreN (lv' := [(4, .null), (3, .int y_87), (0, .ref o), (1, .int x1), (2, .int x2)]) hx hb dX9_lastHeard_74 hl (by decide) rfl (fun ls hl => ?_)
                    refine lv_goto (tgt := 31) hx hb dX9_lastHeard_76 (by decide) ?_
                    exact ih (n - 1) (by omega) none y_87 _ _ ls (by omega) (fun b h => by cases h) (by omega) (lf_s hq0_cut_85 hb_98 (by omega)) hP hS (lv_sub hl [0, 1, 2, 3, 4] rfl)
                  · refine va_get (D := (dC, dI)) (ci := 3) (v := .ref b_97) (C := RX3) (T := TX3) (N := 6) hx hb hts in_wsX9_lastHeard_X3 hown hK hP q_89 hq_89 rfl 5 (by decide) (hts (.fieldLink RX9 53 "ShipOffice$Happening" "before" "LShipOffice$Happening;") iw_X9_lastHeard_4) (fun _ h9 => h9) (o_rd hb_98) dX9_lastHeard_71 ?_
                    have tb_97 : oty Z b_97 3 := oInv.rd gI tb_88.2 hb_98 rfl rfl
                    have hGb_97 : oG Z b_97 < oG Z b_88 := gI.2.2.2.2.2.1 b_88 b_97 tb_88.2 hb_98
                    have rb_97 : oR Z (some b_97) = oG Z b_97 + 1 := rfl
                    refine lv_astore (lv' := [(4, .ref b_97), (3, .int y_87), (0, .ref o), (1, .int x1), (2, .int x2)]) hx hb dX9_lastHeard_74 hl (by decide) rfl (fun ls hl => ?_)
                    refine lv_goto (tgt := 31) hx hb dX9_lastHeard_76 (by decide) ?_
                    exact ih (n - 1) (by omega) (some b_97) y_87 _ _ ls (by omega) (fun b h => by cases h; exact tb_97) (by omega) (lf_s hq0_cut_85 hb_98 (by omega)) hP hS (lv_sub hl [0, 1, 2, 3, 4] rfl)
                · have dc_96 := c_nlt (a := x1.toInt) (b := x_95.toInt) rfl rfl c_96
                  refine lv_aload hx hb dX9_lastHeard_54 (lv_at hl 0 rfl) ?_
                  refine va_get (D := (dC, dI)) (ci := 3) (v := .int (oI Z b_88 1)) (C := RX3) (T := TX3) (N := 6) hx hb hts in_wsX9_lastHeard_X3 hown hK hP q_89 hq_89 rfl 1 (by decide) (hts (.fieldLink RX9 50 "ShipOffice$Happening" "day" "I") iw_X9_lastHeard_5) (fun _ h9 => h9) rfl dX9_lastHeard_56 ?_
                  refine lv_topi (fun x_100 ex_100 => ?_)
                  have gx_100 : x_100.toInt = (oI Z b_88 1).toInt := iv_to ex_100
                  clear ex_100
                  refine lv_iload_n hx hb dX9_lastHeard_59 rfl (lv_at hl 1 rfl) ?_
                  refine lv_icmp_le (tgt := 69) hx hb dX9_lastHeard_60 (by decide) (fun c_101 => ?_) (fun c_101 => ?_)
                  · have dc_101 := c_le (a := x_100.toInt) (b := y_87.toInt) rfl rfl c_101
                    refine lv_aload hx hb dX9_lastHeard_69 (lv_at hl 0 rfl) ?_
                    rcases hb_103 : oP Z b_88 5 with _ | b_102
                    · refine va_get (D := (dC, dI)) (ci := 3) (v := .null) (C := RX3) (T := TX3) (N := 6) hx hb hts in_wsX9_lastHeard_X3 hown hK hP q_89 hq_89 rfl 5 (by decide) (hts (.fieldLink RX9 53 "ShipOffice$Happening" "before" "LShipOffice$Happening;") iw_X9_lastHeard_4) (fun _ h9 => h9) (o_rd hb_103) dX9_lastHeard_71 ?_
                      have r_104 : oR Z none = 0 := rfl
                      refine lv_astoreN (lv' := [(4, .null), (3, .int y_87), (0, .ref o), (1, .int x1), (2, .int x2)]) hx hb dX9_lastHeard_74 hl (by decide) rfl (fun ls hl => ?_)
                      refine lv_goto (tgt := 31) hx hb dX9_lastHeard_76 (by decide) ?_
                      exact ih (n - 1) (by omega) none y_87 _ _ ls (by omega) (fun b h => by cases h) (by omega) (lf_s hq0_cut_85 hb_103 (by omega)) hP hS (lv_sub hl [0, 1, 2, 3, 4] rfl)
                    · refine va_get (D := (dC, dI)) (ci := 3) (v := .ref b_102) (C := RX3) (T := TX3) (N := 6) hx hb hts in_wsX9_lastHeard_X3 hown hK hP q_89 hq_89 rfl 5 (by decide) (hts (.fieldLink RX9 53 "ShipOffice$Happening" "before" "LShipOffice$Happening;") iw_X9_lastHeard_4) (fun _ h9 => h9) (o_rd hb_103) dX9_lastHeard_71 ?_
                      have tb_102 : oty Z b_102 3 := oInv.rd gI tb_88.2 hb_103 rfl rfl
                      have hGb_102 : oG Z b_102 < oG Z b_88 := gI.2.2.2.2.2.1 b_88 b_102 tb_88.2 hb_103
                      have rb_102 : oR Z (some b_102) = oG Z b_102 + 1 := rfl
                      refine lv_astore (lv' := [(4, .ref b_102), (3, .int y_87), (0, .ref o), (1, .int x1), (2, .int x2)]) hx hb dX9_lastHeard_74 hl (by decide) rfl (fun ls hl => ?_)
                      refine lv_goto (tgt := 31) hx hb dX9_lastHeard_76 (by decide) ?_
                      exact ih (n - 1) (by omega) (some b_102) y_87 _ _ ls (by omega) (fun b h => by cases h; exact tb_102) (by omega) (lf_s hq0_cut_85 hb_103 (by omega)) hP hS (lv_sub hl [0, 1, 2, 3, 4] rfl)
                  · have dc_101 := c_nle (a := x_100.toInt) (b := y_87.toInt) rfl rfl c_101
                    refine lv_aload hx hb dX9_lastHeard_63 (lv_at hl 0 rfl) ?_
                    refine va_get (D := (dC, dI)) (ci := 3) (v := .int (oI Z b_88 1)) (C := RX3) (T := TX3) (N := 6) hx hb hts in_wsX9_lastHeard_X3 hown hK hP q_89 hq_89 rfl 1 (by decide) (hts (.fieldLink RX9 50 "ShipOffice$Happening" "day" "I") iw_X9_lastHeard_5) (fun _ h9 => h9) rfl dX9_lastHeard_65 ?_
                    refine lv_topi (fun x_105 ex_105 => ?_)
                    have gx_105 : x_105.toInt = (oI Z b_88 1).toInt := iv_to ex_105
                    clear ex_105
                    refine lv_istore_n (lv' := [(3, .int x_105), (4, .ref b_88), (0, .ref o), (1, .int x1), (2, .int x2)]) hx hb dX9_lastHeard_68 rfl hl (by decide) rfl (fun ls hl => ?_)
                    refine lv_aload hx hb dX9_lastHeard_69 (lv_at hl 1 rfl) ?_
                    rcases hb_107 : oP Z b_88 5 with _ | b_106
                    · refine va_get (D := (dC, dI)) (ci := 3) (v := .null) (C := RX3) (T := TX3) (N := 6) hx hb hts in_wsX9_lastHeard_X3 hown hK hP q_89 hq_89 rfl 5 (by decide) (hts (.fieldLink RX9 53 "ShipOffice$Happening" "before" "LShipOffice$Happening;") iw_X9_lastHeard_4) (fun _ h9 => h9) (o_rd hb_107) dX9_lastHeard_71 ?_
                      have r_108 : oR Z none = 0 := rfl
                      refine lv_astoreN (lv' := [(4, .null), (3, .int x_105), (0, .ref o), (1, .int x1), (2, .int x2)]) hx hb dX9_lastHeard_74 hl (by decide) rfl (fun ls hl => ?_)
                      refine lv_goto (tgt := 31) hx hb dX9_lastHeard_76 (by decide) ?_
                      exact ih (n - 1) (by omega) none x_105 _ _ ls (by omega) (fun b h => by cases h) (by omega) (lf_s hq0_cut_85 hb_107 (by omega)) hP hS (lv_sub hl [0, 1, 2, 3, 4] rfl)
                    · refine va_get (D := (dC, dI)) (ci := 3) (v := .ref b_106) (C := RX3) (T := TX3) (N := 6) hx hb hts in_wsX9_lastHeard_X3 hown hK hP q_89 hq_89 rfl 5 (by decide) (hts (.fieldLink RX9 53 "ShipOffice$Happening" "before" "LShipOffice$Happening;") iw_X9_lastHeard_4) (fun _ h9 => h9) (o_rd hb_107) dX9_lastHeard_71 ?_
                      have tb_106 : oty Z b_106 3 := oInv.rd gI tb_88.2 hb_107 rfl rfl
                      have hGb_106 : oG Z b_106 < oG Z b_88 := gI.2.2.2.2.2.1 b_88 b_106 tb_88.2 hb_107
                      have rb_106 : oR Z (some b_106) = oG Z b_106 + 1 := rfl
                      refine lv_astore (lv' := [(4, .ref b_106), (3, .int x_105), (0, .ref o), (1, .int x1), (2, .int x2)]) hx hb dX9_lastHeard_74 hl (by decide) rfl (fun ls hl => ?_)
                      refine lv_goto (tgt := 31) hx hb dX9_lastHeard_76 (by decide) ?_
                      exact ih (n - 1) (by omega) (some b_106) x_105 _ _ ls (by omega) (fun b h => by cases h; exact tb_106) (by omega) (lf_s hq0_cut_85 hb_107 (by omega)) hP hS (lv_sub hl [0, 1, 2, 3, 4] rfl)
        have kc_109 : ((-1) : Int32).toInt = -1 := by decide
        exact cut_85 (oR Z (some b_58)) (some b_58) (-1) _ _ ls (by omega) (fun b h => by cases h; exact tb_58) (by decide) (lh_init (fa' := ()) (RC.A hR) rvo hk3 (by omega) hb_59) hP hS (lv_sub hl [0, 1, 2, 3, 4] rfl)
    · have dc_57 := c_nlt (a := x1.toInt) (b := x_56.toInt) rfl rfl c_57
      refine lv_aload_n hx hb dX9_lastHeard_16 rfl (lv_at hl 0 rfl) ?_
      refine va_get (D := (dC, dI)) (ci := 9) (v := .int (oI Z o 5)) (C := RX9) (T := TX9) (N := 10) hx hb hts in_wsX9_lastHeard_X9 hown hK hP q_1 hq_1 rfl 5 (by decide) (hts (.fieldLink RX9 10 "ShipOffice$Voyage" "sailedDay" "I") iw_X9_lastHeard_6) (fun _ h9 => h9) rfl dX9_lastHeard_17 ?_
      refine lv_topi (fun x_110 ex_110 => ?_)
      have hx_110 : 0 ≤ x_110.toInt ∧ x_110.toInt ≤ 1000000 := iv_of ex_110 (oInv.iv gI to.2 rfl rfl)
      have gx_110 : x_110.toInt = (oI Z o 5).toInt := iv_to ex_110
      clear ex_110
      refine lv_goto (tgt := 24) hx hb dX9_lastHeard_20 (by decide) ?_
      refine lv_istore_n (lv' := [(3, .int x_110), (0, .ref o), (1, .int x1), (2, .int x2)]) hx hb dX9_lastHeard_24 rfl hl (by decide) rfl (fun ls hl => ?_)
      refine lv_aload_n hx hb dX9_lastHeard_25 rfl (lv_at hl 1 rfl) ?_
      rcases hb_112 : oP Z o 9 with _ | b_111
      · refine va_get (D := (dC, dI)) (ci := 9) (v := .null) (C := RX9) (T := TX9) (N := 10) hx hb hts in_wsX9_lastHeard_X9 hown hK hP q_1 hq_1 rfl 9 (by decide) (hts (.fieldLink RX9 41 "ShipOffice$Voyage" "heardOf" "LShipOffice$Happening;") iw_X9_lastHeard_2) (fun _ h9 => h9) (o_rd hb_112) dX9_lastHeard_26 ?_
        refine lv_astoreN (lv' := [(4, .null), (3, .int x_110), (0, .ref o), (1, .int x1), (2, .int x2)]) hx hb dX9_lastHeard_29 hl (by decide) rfl (fun ls hl => ?_)
        have cut_113 : ∀ (n : Nat) (y_114 : Option Nat) (y_115 : Int32) (H : Heap) (locs : List Loc) (ls : Array Slot), (oR Z y_114 : Int) ≤ (n : Int) → (∀ b, y_114 = some b → oty Z b 3) → (-1 ≤ y_115.toInt ∧ y_115.toInt ≤ 3000) → lfI Z fa x1.toInt x2.toInt y_115.toInt (lhO v fa x x1.toInt x2.toInt) y_114 → va_P (dC, dI) vwCl (oW cq Z) H → va_S A s.heap H locs → lv_has ls 5 [(4, va_rf y_114), (3, .int y_115), (0, .ref o), (1, .int x1), (2, .int x2)] → W p l e (headSpec wsX9_lastHeard { frames := 0, cells := 0, slots := 0, locals := 0 }).room s m #[Value.ref o, Value.int x1, Value.int x2] below meth c H locs 0 0 (MQ below (va_Qi (fun (r : Int32) (u : Unit) => (-1 ≤ r.toInt ∧ r.toInt ≤ 3000) ∧ (r.toInt = lhO v fa x x1.toInt x2.toInt)) (fun _ _ => True) A) #[Value.ref o, Value.int x1, Value.int x2] s 0 0 A) (F0 m 31 ls []) := by
          intro n
          induction n using Nat.strongRecOn with
          | ind n ih =>
            intro y_114 y_115 H locs ls hm ty_114 hy_115 hq0_cut_113 hP hS hl
            rcases y_114 with _ | b_116
            · have hl : lv_has ls 5 [(4, .null), (3, .int y_115), (0, .ref o), (1, .int x1), (2, .int x2)] := hl
              refine lv_aloadN hx hb dX9_lastHeard_31 (lv_at hl 0 rfl) ?_
              refine lv_ifnullN (tgt := 79) hx hb dX9_lastHeard_33 (by decide) ?_
              refine lv_iload_n hx hb dX9_lastHeard_79 rfl (lv_at hl 1 rfl) ?_
              exact W.iret (v := y_115) hx hb hr (fun t ht hW => ⟨⟨y_115, (), rfl, ⟨(by omega), (lf_n hq0_cut_113)⟩, trivial⟩, hS.F ht⟩) hS.2.2 dX9_lastHeard_80
            · have hl : lv_has ls 5 [(4, .ref b_116), (3, .int y_115), (0, .ref o), (1, .int x1), (2, .int x2)] := hl
              have tb_116 : oty Z b_116 3 := ty_114 b_116 rfl
              have rb_116 : oR Z (some b_116) = oG Z b_116 + 1 := rfl
              have dyb := lf_b (RC.A hR) hq0_cut_113
              refine lv_aload hx hb dX9_lastHeard_31 (lv_at hl 0 rfl) ?_
              refine lv_ifnull hx hb dX9_lastHeard_33 ?_
              refine lv_aload hx hb dX9_lastHeard_36 (lv_at hl 0 rfl) ?_
              obtain ⟨q_117, hq_117⟩ := og (cq := cq) tb_116.1 (oE_3 tb_116.2)
              refine va_get (D := (dC, dI)) (ci := 3) (v := .int (oI Z b_116 2)) (C := RX3) (T := TX3) (N := 6) hx hb hts in_wsX9_lastHeard_X3 hown hK hP q_117 hq_117 rfl 2 (by decide) (hts (.fieldLink RX9 45 "ShipOffice$Happening" "told" "I") iw_X9_lastHeard_3) (fun _ h9 => h9) rfl dX9_lastHeard_38 ?_
              refine lv_topi (fun x_118 ex_118 => ?_)
              have gx_118 : x_118.toInt = (oI Z b_116 2).toInt := iv_to ex_118
              clear ex_118
              refine lv_iload_n hx hb dX9_lastHeard_41 rfl (lv_at hl 4 rfl) ?_
              refine lv_icmp_gt (tgt := 69) hx hb dX9_lastHeard_42 (by decide) (fun c_119 => ?_) (fun c_119 => ?_)
              · have dc_119 := c_lt (a := x2.toInt) (b := x_118.toInt) rfl rfl c_119
                refine lv_aload hx hb dX9_lastHeard_69 (lv_at hl 0 rfl) ?_
                rcases hb_121 : oP Z b_116 5 with _ | b_120
                · refine va_get (D := (dC, dI)) (ci := 3) (v := .null) (C := RX3) (T := TX3) (N := 6) hx hb hts in_wsX9_lastHeard_X3 hown hK hP q_117 hq_117 rfl 5 (by decide) (hts (.fieldLink RX9 53 "ShipOffice$Happening" "before" "LShipOffice$Happening;") iw_X9_lastHeard_4) (fun _ h9 => h9) (o_rd hb_121) dX9_lastHeard_71 ?_
                  have r_122 : oR Z none = 0 := rfl
                  refine lv_astoreN (lv' := [(4, .null), (3, .int y_115), (0, .ref o), (1, .int x1), (2, .int x2)]) hx hb dX9_lastHeard_74 hl (by decide) rfl (fun ls hl => ?_)
                  refine lv_goto (tgt := 31) hx hb dX9_lastHeard_76 (by decide) ?_
                  exact ih (n - 1) (by omega) none y_115 _ _ ls (by omega) (fun b h => by cases h) (by omega) (lf_s hq0_cut_113 hb_121 (by omega)) hP hS (lv_sub hl [0, 1, 2, 3, 4] rfl)
                · refine va_get (D := (dC, dI)) (ci := 3) (v := .ref b_120) (C := RX3) (T := TX3) (N := 6) hx hb hts in_wsX9_lastHeard_X3 hown hK hP q_117 hq_117 rfl 5 (by decide) (hts (.fieldLink RX9 53 "ShipOffice$Happening" "before" "LShipOffice$Happening;") iw_X9_lastHeard_4) (fun _ h9 => h9) (o_rd hb_121) dX9_lastHeard_71 ?_
                  have tb_120 : oty Z b_120 3 := oInv.rd gI tb_116.2 hb_121 rfl rfl
                  have hGb_120 : oG Z b_120 < oG Z b_116 := gI.2.2.2.2.2.1 b_116 b_120 tb_116.2 hb_121
                  have rb_120 : oR Z (some b_120) = oG Z b_120 + 1 := rfl
                  refine lv_astore (lv' := [(4, .ref b_120), (3, .int y_115), (0, .ref o), (1, .int x1), (2, .int x2)]) hx hb dX9_lastHeard_74 hl (by decide) rfl (fun ls hl => ?_)
                  refine lv_goto (tgt := 31) hx hb dX9_lastHeard_76 (by decide) ?_
                  exact ih (n - 1) (by omega) (some b_120) y_115 _ _ ls (by omega) (fun b h => by cases h; exact tb_120) (by omega) (lf_s hq0_cut_113 hb_121 (by omega)) hP hS (lv_sub hl [0, 1, 2, 3, 4] rfl)
              · have dc_119 := c_nlt (a := x2.toInt) (b := x_118.toInt) rfl rfl c_119
                refine lv_aload hx hb dX9_lastHeard_45 (lv_at hl 0 rfl) ?_
                refine va_get (D := (dC, dI)) (ci := 3) (v := .int (oI Z b_116 1)) (C := RX3) (T := TX3) (N := 6) hx hb hts in_wsX9_lastHeard_X3 hown hK hP q_117 hq_117 rfl 1 (by decide) (hts (.fieldLink RX9 50 "ShipOffice$Happening" "day" "I") iw_X9_lastHeard_5) (fun _ h9 => h9) rfl dX9_lastHeard_47 ?_
                refine lv_topi (fun x_123 ex_123 => ?_)
                have gx_123 : x_123.toInt = (oI Z b_116 1).toInt := iv_to ex_123
                clear ex_123
                refine lv_iload_n hx hb dX9_lastHeard_50 rfl (lv_at hl 3 rfl) ?_
                refine lv_icmp_gt (tgt := 69) hx hb dX9_lastHeard_51 (by decide) (fun c_124 => ?_) (fun c_124 => ?_)
                · have dc_124 := c_lt (a := x1.toInt) (b := x_123.toInt) rfl rfl c_124
                  refine lv_aload hx hb dX9_lastHeard_69 (lv_at hl 0 rfl) ?_
                  rcases hb_126 : oP Z b_116 5 with _ | b_125
                  · refine va_get (D := (dC, dI)) (ci := 3) (v := .null) (C := RX3) (T := TX3) (N := 6) hx hb hts in_wsX9_lastHeard_X3 hown hK hP q_117 hq_117 rfl 5 (by decide) (hts (.fieldLink RX9 53 "ShipOffice$Happening" "before" "LShipOffice$Happening;") iw_X9_lastHeard_4) (fun _ h9 => h9) (o_rd hb_126) dX9_lastHeard_71 ?_
                    have r_127 : oR Z none = 0 := rfl
                    refine lv_astoreN (lv' := [(4, .null), (3, .int y_115), (0, .ref o), (1, .int x1), (2, .int x2)]) hx hb dX9_lastHeard_74 hl (by decide) rfl (fun ls hl => ?_)
                    refine lv_goto (tgt := 31) hx hb dX9_lastHeard_76 (by decide) ?_
                    exact ih (n - 1) (by omega) none y_115 _ _ ls (by omega) (fun b h => by cases h) (by omega) (lf_s hq0_cut_113 hb_126 (by omega)) hP hS (lv_sub hl [0, 1, 2, 3, 4] rfl)
                  · refine va_get (D := (dC, dI)) (ci := 3) (v := .ref b_125) (C := RX3) (T := TX3) (N := 6) hx hb hts in_wsX9_lastHeard_X3 hown hK hP q_117 hq_117 rfl 5 (by decide) (hts (.fieldLink RX9 53 "ShipOffice$Happening" "before" "LShipOffice$Happening;") iw_X9_lastHeard_4) (fun _ h9 => h9) (o_rd hb_126) dX9_lastHeard_71 ?_
                    have tb_125 : oty Z b_125 3 := oInv.rd gI tb_116.2 hb_126 rfl rfl
                    have hGb_125 : oG Z b_125 < oG Z b_116 := gI.2.2.2.2.2.1 b_116 b_125 tb_116.2 hb_126
                    have rb_125 : oR Z (some b_125) = oG Z b_125 + 1 := rfl
                    refine lv_astore (lv' := [(4, .ref b_125), (3, .int y_115), (0, .ref o), (1, .int x1), (2, .int x2)]) hx hb dX9_lastHeard_74 hl (by decide) rfl (fun ls hl => ?_)
                    refine lv_goto (tgt := 31) hx hb dX9_lastHeard_76 (by decide) ?_
                    exact ih (n - 1) (by omega) (some b_125) y_115 _ _ ls (by omega) (fun b h => by cases h; exact tb_125) (by omega) (lf_s hq0_cut_113 hb_126 (by omega)) hP hS (lv_sub hl [0, 1, 2, 3, 4] rfl)
                · have dc_124 := c_nlt (a := x1.toInt) (b := x_123.toInt) rfl rfl c_124
                  refine lv_aload hx hb dX9_lastHeard_54 (lv_at hl 0 rfl) ?_
                  refine va_get (D := (dC, dI)) (ci := 3) (v := .int (oI Z b_116 1)) (C := RX3) (T := TX3) (N := 6) hx hb hts in_wsX9_lastHeard_X3 hown hK hP q_117 hq_117 rfl 1 (by decide) (hts (.fieldLink RX9 50 "ShipOffice$Happening" "day" "I") iw_X9_lastHeard_5) (fun _ h9 => h9) rfl dX9_lastHeard_56 ?_
                  refine lv_topi (fun x_128 ex_128 => ?_)
                  have gx_128 : x_128.toInt = (oI Z b_116 1).toInt := iv_to ex_128
                  clear ex_128
                  refine lv_iload_n hx hb dX9_lastHeard_59 rfl (lv_at hl 1 rfl) ?_
                  refine lv_icmp_le (tgt := 69) hx hb dX9_lastHeard_60 (by decide) (fun c_129 => ?_) (fun c_129 => ?_)
                  · have dc_129 := c_le (a := x_128.toInt) (b := y_115.toInt) rfl rfl c_129
                    refine lv_aload hx hb dX9_lastHeard_69 (lv_at hl 0 rfl) ?_
                    rcases hb_131 : oP Z b_116 5 with _ | b_130
                    · refine va_get (D := (dC, dI)) (ci := 3) (v := .null) (C := RX3) (T := TX3) (N := 6) hx hb hts in_wsX9_lastHeard_X3 hown hK hP q_117 hq_117 rfl 5 (by decide) (hts (.fieldLink RX9 53 "ShipOffice$Happening" "before" "LShipOffice$Happening;") iw_X9_lastHeard_4) (fun _ h9 => h9) (o_rd hb_131) dX9_lastHeard_71 ?_
                      have r_132 : oR Z none = 0 := rfl
                      refine lv_astoreN (lv' := [(4, .null), (3, .int y_115), (0, .ref o), (1, .int x1), (2, .int x2)]) hx hb dX9_lastHeard_74 hl (by decide) rfl (fun ls hl => ?_)
                      refine lv_goto (tgt := 31) hx hb dX9_lastHeard_76 (by decide) ?_
                      exact ih (n - 1) (by omega) none y_115 _ _ ls (by omega) (fun b h => by cases h) (by omega) (lf_s hq0_cut_113 hb_131 (by omega)) hP hS (lv_sub hl [0, 1, 2, 3, 4] rfl)
                    · refine va_get (D := (dC, dI)) (ci := 3) (v := .ref b_130) (C := RX3) (T := TX3) (N := 6) hx hb hts in_wsX9_lastHeard_X3 hown hK hP q_117 hq_117 rfl 5 (by decide) (hts (.fieldLink RX9 53 "ShipOffice$Happening" "before" "LShipOffice$Happening;") iw_X9_lastHeard_4) (fun _ h9 => h9) (o_rd hb_131) dX9_lastHeard_71 ?_
                      have tb_130 : oty Z b_130 3 := oInv.rd gI tb_116.2 hb_131 rfl rfl
                      have hGb_130 : oG Z b_130 < oG Z b_116 := gI.2.2.2.2.2.1 b_116 b_130 tb_116.2 hb_131
                      have rb_130 : oR Z (some b_130) = oG Z b_130 + 1 := rfl
                      refine lv_astore (lv' := [(4, .ref b_130), (3, .int y_115), (0, .ref o), (1, .int x1), (2, .int x2)]) hx hb dX9_lastHeard_74 hl (by decide) rfl (fun ls hl => ?_)
                      refine lv_goto (tgt := 31) hx hb dX9_lastHeard_76 (by decide) ?_
                      exact ih (n - 1) (by omega) (some b_130) y_115 _ _ ls (by omega) (fun b h => by cases h; exact tb_130) (by omega) (lf_s hq0_cut_113 hb_131 (by omega)) hP hS (lv_sub hl [0, 1, 2, 3, 4] rfl)
                  · have dc_129 := c_nle (a := x_128.toInt) (b := y_115.toInt) rfl rfl c_129
                    refine lv_aload hx hb dX9_lastHeard_63 (lv_at hl 0 rfl) ?_
                    refine va_get (D := (dC, dI)) (ci := 3) (v := .int (oI Z b_116 1)) (C := RX3) (T := TX3) (N := 6) hx hb hts in_wsX9_lastHeard_X3 hown hK hP q_117 hq_117 rfl 1 (by decide) (hts (.fieldLink RX9 50 "ShipOffice$Happening" "day" "I") iw_X9_lastHeard_5) (fun _ h9 => h9) rfl dX9_lastHeard_65 ?_
                    refine lv_topi (fun x_133 ex_133 => ?_)
                    have gx_133 : x_133.toInt = (oI Z b_116 1).toInt := iv_to ex_133
                    clear ex_133
                    refine lv_istore_n (lv' := [(3, .int x_133), (4, .ref b_116), (0, .ref o), (1, .int x1), (2, .int x2)]) hx hb dX9_lastHeard_68 rfl hl (by decide) rfl (fun ls hl => ?_)
                    refine lv_aload hx hb dX9_lastHeard_69 (lv_at hl 1 rfl) ?_
                    rcases hb_135 : oP Z b_116 5 with _ | b_134
                    · refine va_get (D := (dC, dI)) (ci := 3) (v := .null) (C := RX3) (T := TX3) (N := 6) hx hb hts in_wsX9_lastHeard_X3 hown hK hP q_117 hq_117 rfl 5 (by decide) (hts (.fieldLink RX9 53 "ShipOffice$Happening" "before" "LShipOffice$Happening;") iw_X9_lastHeard_4) (fun _ h9 => h9) (o_rd hb_135) dX9_lastHeard_71 ?_
                      have r_136 : oR Z none = 0 := rfl
                      refine lv_astoreN (lv' := [(4, .null), (3, .int x_133), (0, .ref o), (1, .int x1), (2, .int x2)]) hx hb dX9_lastHeard_74 hl (by decide) rfl (fun ls hl => ?_)
                      refine lv_goto (tgt := 31) hx hb dX9_lastHeard_76 (by decide) ?_
                      exact ih (n - 1) (by omega) none x_133 _ _ ls (by omega) (fun b h => by cases h) (by omega) (lf_s hq0_cut_113 hb_135 (by omega)) hP hS (lv_sub hl [0, 1, 2, 3, 4] rfl)
                    · refine va_get (D := (dC, dI)) (ci := 3) (v := .ref b_134) (C := RX3) (T := TX3) (N := 6) hx hb hts in_wsX9_lastHeard_X3 hown hK hP q_117 hq_117 rfl 5 (by decide) (hts (.fieldLink RX9 53 "ShipOffice$Happening" "before" "LShipOffice$Happening;") iw_X9_lastHeard_4) (fun _ h9 => h9) (o_rd hb_135) dX9_lastHeard_71 ?_
                      have tb_134 : oty Z b_134 3 := oInv.rd gI tb_116.2 hb_135 rfl rfl
                      have hGb_134 : oG Z b_134 < oG Z b_116 := gI.2.2.2.2.2.1 b_116 b_134 tb_116.2 hb_135
                      have rb_134 : oR Z (some b_134) = oG Z b_134 + 1 := rfl
                      refine lv_astore (lv' := [(4, .ref b_134), (3, .int x_133), (0, .ref o), (1, .int x1), (2, .int x2)]) hx hb dX9_lastHeard_74 hl (by decide) rfl (fun ls hl => ?_)
                      refine lv_goto (tgt := 31) hx hb dX9_lastHeard_76 (by decide) ?_
                      exact ih (n - 1) (by omega) (some b_134) x_133 _ _ ls (by omega) (fun b h => by cases h; exact tb_134) (by omega) (lf_s hq0_cut_113 hb_135 (by omega)) hP hS (lv_sub hl [0, 1, 2, 3, 4] rfl)
        exact cut_113 (oR Z none) none x_110 _ _ ls (by omega) (fun b h => by cases h) (by omega) (lh_init (fa' := ()) (RC.A hR) rvo hk3 (by omega) hb_112) hP hS (lv_sub hl [0, 1, 2, 3, 4] rfl)
      · refine va_get (D := (dC, dI)) (ci := 9) (v := .ref b_111) (C := RX9) (T := TX9) (N := 10) hx hb hts in_wsX9_lastHeard_X9 hown hK hP q_1 hq_1 rfl 9 (by decide) (hts (.fieldLink RX9 41 "ShipOffice$Voyage" "heardOf" "LShipOffice$Happening;") iw_X9_lastHeard_2) (fun _ h9 => h9) (o_rd hb_112) dX9_lastHeard_26 ?_
        have tb_111 : oty Z b_111 3 := oInv.rd gI to.2 hb_112 rfl rfl
        refine lv_astore (lv' := [(4, .ref b_111), (3, .int x_110), (0, .ref o), (1, .int x1), (2, .int x2)]) hx hb dX9_lastHeard_29 hl (by decide) rfl (fun ls hl => ?_)
        have cut_137 : ∀ (n : Nat) (y_138 : Option Nat) (y_139 : Int32) (H : Heap) (locs : List Loc) (ls : Array Slot), (oR Z y_138 : Int) ≤ (n : Int) → (∀ b, y_138 = some b → oty Z b 3) → (-1 ≤ y_139.toInt ∧ y_139.toInt ≤ 3000) → lfI Z fa x1.toInt x2.toInt y_139.toInt (lhO v fa x x1.toInt x2.toInt) y_138 → va_P (dC, dI) vwCl (oW cq Z) H → va_S A s.heap H locs → lv_has ls 5 [(4, va_rf y_138), (3, .int y_139), (0, .ref o), (1, .int x1), (2, .int x2)] → W p l e (headSpec wsX9_lastHeard { frames := 0, cells := 0, slots := 0, locals := 0 }).room s m #[Value.ref o, Value.int x1, Value.int x2] below meth c H locs 0 0 (MQ below (va_Qi (fun (r : Int32) (u : Unit) => (-1 ≤ r.toInt ∧ r.toInt ≤ 3000) ∧ (r.toInt = lhO v fa x x1.toInt x2.toInt)) (fun _ _ => True) A) #[Value.ref o, Value.int x1, Value.int x2] s 0 0 A) (F0 m 31 ls []) := by
          intro n
          induction n using Nat.strongRecOn with
          | ind n ih =>
            intro y_138 y_139 H locs ls hm ty_138 hy_139 hq0_cut_137 hP hS hl
            rcases y_138 with _ | b_140
            · have hl : lv_has ls 5 [(4, .null), (3, .int y_139), (0, .ref o), (1, .int x1), (2, .int x2)] := hl
              refine lv_aloadN hx hb dX9_lastHeard_31 (lv_at hl 0 rfl) ?_
              refine lv_ifnullN (tgt := 79) hx hb dX9_lastHeard_33 (by decide) ?_
              refine lv_iload_n hx hb dX9_lastHeard_79 rfl (lv_at hl 1 rfl) ?_
              exact W.iret (v := y_139) hx hb hr (fun t ht hW => ⟨⟨y_139, (), rfl, ⟨(by omega), (lf_n hq0_cut_137)⟩, trivial⟩, hS.F ht⟩) hS.2.2 dX9_lastHeard_80
            · have hl : lv_has ls 5 [(4, .ref b_140), (3, .int y_139), (0, .ref o), (1, .int x1), (2, .int x2)] := hl
              have tb_140 : oty Z b_140 3 := ty_138 b_140 rfl
              have rb_140 : oR Z (some b_140) = oG Z b_140 + 1 := rfl
              have dyb := lf_b (RC.A hR) hq0_cut_137
              refine lv_aload hx hb dX9_lastHeard_31 (lv_at hl 0 rfl) ?_
              refine lv_ifnull hx hb dX9_lastHeard_33 ?_
              refine lv_aload hx hb dX9_lastHeard_36 (lv_at hl 0 rfl) ?_
              obtain ⟨q_141, hq_141⟩ := og (cq := cq) tb_140.1 (oE_3 tb_140.2)
              refine va_get (D := (dC, dI)) (ci := 3) (v := .int (oI Z b_140 2)) (C := RX3) (T := TX3) (N := 6) hx hb hts in_wsX9_lastHeard_X3 hown hK hP q_141 hq_141 rfl 2 (by decide) (hts (.fieldLink RX9 45 "ShipOffice$Happening" "told" "I") iw_X9_lastHeard_3) (fun _ h9 => h9) rfl dX9_lastHeard_38 ?_
              refine lv_topi (fun x_142 ex_142 => ?_)
              have gx_142 : x_142.toInt = (oI Z b_140 2).toInt := iv_to ex_142
              clear ex_142
              refine lv_iload_n hx hb dX9_lastHeard_41 rfl (lv_at hl 4 rfl) ?_
              refine lv_icmp_gt (tgt := 69) hx hb dX9_lastHeard_42 (by decide) (fun c_143 => ?_) (fun c_143 => ?_)
              · have dc_143 := c_lt (a := x2.toInt) (b := x_142.toInt) rfl rfl c_143
                refine lv_aload hx hb dX9_lastHeard_69 (lv_at hl 0 rfl) ?_
                rcases hb_145 : oP Z b_140 5 with _ | b_144
                · refine va_get (D := (dC, dI)) (ci := 3) (v := .null) (C := RX3) (T := TX3) (N := 6) hx hb hts in_wsX9_lastHeard_X3 hown hK hP q_141 hq_141 rfl 5 (by decide) (hts (.fieldLink RX9 53 "ShipOffice$Happening" "before" "LShipOffice$Happening;") iw_X9_lastHeard_4) (fun _ h9 => h9) (o_rd hb_145) dX9_lastHeard_71 ?_
                  have r_146 : oR Z none = 0 := rfl
                  refine lv_astoreN (lv' := [(4, .null), (3, .int y_139), (0, .ref o), (1, .int x1), (2, .int x2)]) hx hb dX9_lastHeard_74 hl (by decide) rfl (fun ls hl => ?_)
                  refine lv_goto (tgt := 31) hx hb dX9_lastHeard_76 (by decide) ?_
                  exact ih (n - 1) (by omega) none y_139 _ _ ls (by omega) (fun b h => by cases h) (by omega) (lf_s hq0_cut_137 hb_145 (by omega)) hP hS (lv_sub hl [0, 1, 2, 3, 4] rfl)
                · refine va_get (D := (dC, dI)) (ci := 3) (v := .ref b_144) (C := RX3) (T := TX3) (N := 6) hx hb hts in_wsX9_lastHeard_X3 hown hK hP q_141 hq_141 rfl 5 (by decide) (hts (.fieldLink RX9 53 "ShipOffice$Happening" "before" "LShipOffice$Happening;") iw_X9_lastHeard_4) (fun _ h9 => h9) (o_rd hb_145) dX9_lastHeard_71 ?_
                  have tb_144 : oty Z b_144 3 := oInv.rd gI tb_140.2 hb_145 rfl rfl
                  have hGb_144 : oG Z b_144 < oG Z b_140 := gI.2.2.2.2.2.1 b_140 b_144 tb_140.2 hb_145
                  have rb_144 : oR Z (some b_144) = oG Z b_144 + 1 := rfl
                  refine lv_astore (lv' := [(4, .ref b_144), (3, .int y_139), (0, .ref o), (1, .int x1), (2, .int x2)]) hx hb dX9_lastHeard_74 hl (by decide) rfl (fun ls hl => ?_)
                  refine lv_goto (tgt := 31) hx hb dX9_lastHeard_76 (by decide) ?_
                  exact ih (n - 1) (by omega) (some b_144) y_139 _ _ ls (by omega) (fun b h => by cases h; exact tb_144) (by omega) (lf_s hq0_cut_137 hb_145 (by omega)) hP hS (lv_sub hl [0, 1, 2, 3, 4] rfl)
              · have dc_143 := c_nlt (a := x2.toInt) (b := x_142.toInt) rfl rfl c_143
                refine lv_aload hx hb dX9_lastHeard_45 (lv_at hl 0 rfl) ?_
                refine va_get (D := (dC, dI)) (ci := 3) (v := .int (oI Z b_140 1)) (C := RX3) (T := TX3) (N := 6) hx hb hts in_wsX9_lastHeard_X3 hown hK hP q_141 hq_141 rfl 1 (by decide) (hts (.fieldLink RX9 50 "ShipOffice$Happening" "day" "I") iw_X9_lastHeard_5) (fun _ h9 => h9) rfl dX9_lastHeard_47 ?_
                refine lv_topi (fun x_147 ex_147 => ?_)
                have gx_147 : x_147.toInt = (oI Z b_140 1).toInt := iv_to ex_147
                clear ex_147
                refine lv_iload_n hx hb dX9_lastHeard_50 rfl (lv_at hl 3 rfl) ?_
                refine lv_icmp_gt (tgt := 69) hx hb dX9_lastHeard_51 (by decide) (fun c_148 => ?_) (fun c_148 => ?_)
                · have dc_148 := c_lt (a := x1.toInt) (b := x_147.toInt) rfl rfl c_148
                  refine lv_aload hx hb dX9_lastHeard_69 (lv_at hl 0 rfl) ?_
                  rcases hb_150 : oP Z b_140 5 with _ | b_149
                  · refine va_get (D := (dC, dI)) (ci := 3) (v := .null) (C := RX3) (T := TX3) (N := 6) hx hb hts in_wsX9_lastHeard_X3 hown hK hP q_141 hq_141 rfl 5 (by decide) (hts (.fieldLink RX9 53 "ShipOffice$Happening" "before" "LShipOffice$Happening;") iw_X9_lastHeard_4) (fun _ h9 => h9) (o_rd hb_150) dX9_lastHeard_71 ?_
                    have r_151 : oR Z none = 0 := rfl
                    refine lv_astoreN (lv' := [(4, .null), (3, .int y_139), (0, .ref o), (1, .int x1), (2, .int x2)]) hx hb dX9_lastHeard_74 hl (by decide) rfl (fun ls hl => ?_)
                    refine lv_goto (tgt := 31) hx hb dX9_lastHeard_76 (by decide) ?_
                    exact ih (n - 1) (by omega) none y_139 _ _ ls (by omega) (fun b h => by cases h) (by omega) (lf_s hq0_cut_137 hb_150 (by omega)) hP hS (lv_sub hl [0, 1, 2, 3, 4] rfl)
                  · refine va_get (D := (dC, dI)) (ci := 3) (v := .ref b_149) (C := RX3) (T := TX3) (N := 6) hx hb hts in_wsX9_lastHeard_X3 hown hK hP q_141 hq_141 rfl 5 (by decide) (hts (.fieldLink RX9 53 "ShipOffice$Happening" "before" "LShipOffice$Happening;") iw_X9_lastHeard_4) (fun _ h9 => h9) (o_rd hb_150) dX9_lastHeard_71 ?_
                    have tb_149 : oty Z b_149 3 := oInv.rd gI tb_140.2 hb_150 rfl rfl
                    have hGb_149 : oG Z b_149 < oG Z b_140 := gI.2.2.2.2.2.1 b_140 b_149 tb_140.2 hb_150
                    have rb_149 : oR Z (some b_149) = oG Z b_149 + 1 := rfl
                    refine lv_astore (lv' := [(4, .ref b_149), (3, .int y_139), (0, .ref o), (1, .int x1), (2, .int x2)]) hx hb dX9_lastHeard_74 hl (by decide) rfl (fun ls hl => ?_)
                    refine lv_goto (tgt := 31) hx hb dX9_lastHeard_76 (by decide) ?_
                    exact ih (n - 1) (by omega) (some b_149) y_139 _ _ ls (by omega) (fun b h => by cases h; exact tb_149) (by omega) (lf_s hq0_cut_137 hb_150 (by omega)) hP hS (lv_sub hl [0, 1, 2, 3, 4] rfl)
                · have dc_148 := c_nlt (a := x1.toInt) (b := x_147.toInt) rfl rfl c_148
                  refine lv_aload hx hb dX9_lastHeard_54 (lv_at hl 0 rfl) ?_
                  refine va_get (D := (dC, dI)) (ci := 3) (v := .int (oI Z b_140 1)) (C := RX3) (T := TX3) (N := 6) hx hb hts in_wsX9_lastHeard_X3 hown hK hP q_141 hq_141 rfl 1 (by decide) (hts (.fieldLink RX9 50 "ShipOffice$Happening" "day" "I") iw_X9_lastHeard_5) (fun _ h9 => h9) rfl dX9_lastHeard_56 ?_
                  refine lv_topi (fun x_152 ex_152 => ?_)
                  have gx_152 : x_152.toInt = (oI Z b_140 1).toInt := iv_to ex_152
                  clear ex_152
                  refine lv_iload_n hx hb dX9_lastHeard_59 rfl (lv_at hl 1 rfl) ?_
                  refine lv_icmp_le (tgt := 69) hx hb dX9_lastHeard_60 (by decide) (fun c_153 => ?_) (fun c_153 => ?_)
                  · have dc_153 := c_le (a := x_152.toInt) (b := y_139.toInt) rfl rfl c_153
                    refine lv_aload hx hb dX9_lastHeard_69 (lv_at hl 0 rfl) ?_
                    rcases hb_155 : oP Z b_140 5 with _ | b_154
                    · refine va_get (D := (dC, dI)) (ci := 3) (v := .null) (C := RX3) (T := TX3) (N := 6) hx hb hts in_wsX9_lastHeard_X3 hown hK hP q_141 hq_141 rfl 5 (by decide) (hts (.fieldLink RX9 53 "ShipOffice$Happening" "before" "LShipOffice$Happening;") iw_X9_lastHeard_4) (fun _ h9 => h9) (o_rd hb_155) dX9_lastHeard_71 ?_
                      have r_156 : oR Z none = 0 := rfl
                      refine lv_astoreN (lv' := [(4, .null), (3, .int y_139), (0, .ref o), (1, .int x1), (2, .int x2)]) hx hb dX9_lastHeard_74 hl (by decide) rfl (fun ls hl => ?_)
                      refine lv_goto (tgt := 31) hx hb dX9_lastHeard_76 (by decide) ?_
                      exact ih (n - 1) (by omega) none y_139 _ _ ls (by omega) (fun b h => by cases h) (by omega) (lf_s hq0_cut_137 hb_155 (by omega)) hP hS (lv_sub hl [0, 1, 2, 3, 4] rfl)
                    · refine va_get (D := (dC, dI)) (ci := 3) (v := .ref b_154) (C := RX3) (T := TX3) (N := 6) hx hb hts in_wsX9_lastHeard_X3 hown hK hP q_141 hq_141 rfl 5 (by decide) (hts (.fieldLink RX9 53 "ShipOffice$Happening" "before" "LShipOffice$Happening;") iw_X9_lastHeard_4) (fun _ h9 => h9) (o_rd hb_155) dX9_lastHeard_71 ?_
                      have tb_154 : oty Z b_154 3 := oInv.rd gI tb_140.2 hb_155 rfl rfl
                      have hGb_154 : oG Z b_154 < oG Z b_140 := gI.2.2.2.2.2.1 b_140 b_154 tb_140.2 hb_155
                      have rb_154 : oR Z (some b_154) = oG Z b_154 + 1 := rfl
                      refine lv_astore (lv' := [(4, .ref b_154), (3, .int y_139), (0, .ref o), (1, .int x1), (2, .int x2)]) hx hb dX9_lastHeard_74 hl (by decide) rfl (fun ls hl => ?_)
                      refine lv_goto (tgt := 31) hx hb dX9_lastHeard_76 (by decide) ?_
                      exact ih (n - 1) (by omega) (some b_154) y_139 _ _ ls (by omega) (fun b h => by cases h; exact tb_154) (by omega) (lf_s hq0_cut_137 hb_155 (by omega)) hP hS (lv_sub hl [0, 1, 2, 3, 4] rfl)
                  · have dc_153 := c_nle (a := x_152.toInt) (b := y_139.toInt) rfl rfl c_153
                    refine lv_aload hx hb dX9_lastHeard_63 (lv_at hl 0 rfl) ?_
                    refine va_get (D := (dC, dI)) (ci := 3) (v := .int (oI Z b_140 1)) (C := RX3) (T := TX3) (N := 6) hx hb hts in_wsX9_lastHeard_X3 hown hK hP q_141 hq_141 rfl 1 (by decide) (hts (.fieldLink RX9 50 "ShipOffice$Happening" "day" "I") iw_X9_lastHeard_5) (fun _ h9 => h9) rfl dX9_lastHeard_65 ?_
                    refine lv_topi (fun x_157 ex_157 => ?_)
                    have gx_157 : x_157.toInt = (oI Z b_140 1).toInt := iv_to ex_157
                    clear ex_157
                    refine lv_istore_n (lv' := [(3, .int x_157), (4, .ref b_140), (0, .ref o), (1, .int x1), (2, .int x2)]) hx hb dX9_lastHeard_68 rfl hl (by decide) rfl (fun ls hl => ?_)
                    refine lv_aload hx hb dX9_lastHeard_69 (lv_at hl 1 rfl) ?_
                    rcases hb_159 : oP Z b_140 5 with _ | b_158
                    · refine va_get (D := (dC, dI)) (ci := 3) (v := .null) (C := RX3) (T := TX3) (N := 6) hx hb hts in_wsX9_lastHeard_X3 hown hK hP q_141 hq_141 rfl 5 (by decide) (hts (.fieldLink RX9 53 "ShipOffice$Happening" "before" "LShipOffice$Happening;") iw_X9_lastHeard_4) (fun _ h9 => h9) (o_rd hb_159) dX9_lastHeard_71 ?_
                      have r_160 : oR Z none = 0 := rfl
                      refine lv_astoreN (lv' := [(4, .null), (3, .int x_157), (0, .ref o), (1, .int x1), (2, .int x2)]) hx hb dX9_lastHeard_74 hl (by decide) rfl (fun ls hl => ?_)
                      refine lv_goto (tgt := 31) hx hb dX9_lastHeard_76 (by decide) ?_
                      exact ih (n - 1) (by omega) none x_157 _ _ ls (by omega) (fun b h => by cases h) (by omega) (lf_s hq0_cut_137 hb_159 (by omega)) hP hS (lv_sub hl [0, 1, 2, 3, 4] rfl)
                    · refine va_get (D := (dC, dI)) (ci := 3) (v := .ref b_158) (C := RX3) (T := TX3) (N := 6) hx hb hts in_wsX9_lastHeard_X3 hown hK hP q_141 hq_141 rfl 5 (by decide) (hts (.fieldLink RX9 53 "ShipOffice$Happening" "before" "LShipOffice$Happening;") iw_X9_lastHeard_4) (fun _ h9 => h9) (o_rd hb_159) dX9_lastHeard_71 ?_
                      have tb_158 : oty Z b_158 3 := oInv.rd gI tb_140.2 hb_159 rfl rfl
                      have hGb_158 : oG Z b_158 < oG Z b_140 := gI.2.2.2.2.2.1 b_140 b_158 tb_140.2 hb_159
                      have rb_158 : oR Z (some b_158) = oG Z b_158 + 1 := rfl
                      refine lv_astore (lv' := [(4, .ref b_158), (3, .int x_157), (0, .ref o), (1, .int x1), (2, .int x2)]) hx hb dX9_lastHeard_74 hl (by decide) rfl (fun ls hl => ?_)
                      refine lv_goto (tgt := 31) hx hb dX9_lastHeard_76 (by decide) ?_
                      exact ih (n - 1) (by omega) (some b_158) x_157 _ _ ls (by omega) (fun b h => by cases h; exact tb_158) (by omega) (lf_s hq0_cut_137 hb_159 (by omega)) hP hS (lv_sub hl [0, 1, 2, 3, 4] rfl)
        exact cut_137 (oR Z (some b_111)) (some b_111) x_110 _ _ ls (by omega) (fun b h => by cases h; exact tb_111) (by omega) (lh_init (fa' := ()) (RC.A hR) rvo hk3 (by omega) hb_112) hP hS (lv_sub hl [0, 1, 2, 3, 4] rfl)
set_option maxHeartbeats 4000000 in
set_option maxRecDepth 100000 in
theorem c_X9_daysUnheard_c (l : Launch) (dC : Nat → ClassId) (dI : Nat → Nat → Nat) (sz : Nat) (cq : Nat → ClassId) (Z : oS) (gI : oInv Z) (o : Nat) (to : oty Z o 9) (x1 : Int32) (hx1 : 0 ≤ x1.toInt ∧ x1.toInt ≤ 3000) (x2 : Int32) (h0 : Nat) (th : oty Z h0 10) (v : Nat → Int32) (fa : Nat → Nat → Int32) (hR : RC Z h0 v fa) (x : Nat) (hxv : x < (v 40).toNatClampNeg) (ex : o = voA Z h0 x) (hk3 : x2.toInt ≤ 3000) : Met l yX9_daysUnheard wsX9_daysUnheard ({ frames := 1, cells := 0, slots := 0, locals := 24 }) (va_Pc [.ref o, .int x1, .int x2] (pcW (dC, dI) (oT cq) (oW cq Z) sz)) (va_Qi (fun (r : Int32) (u : Unit) => (0 ≤ r.toInt ∧ r.toInt ≤ 3000) ∧ (r.toInt = if lhO v fa x x1.toInt x2.toInt < 0 then 0 else x1.toInt - lhO v fa x x1.toInt x2.toInt)) (fun _ _ => True) (va_A [] sz)) 0 0 (va_A [] sz) := by
  refine Met.ofW (cc := cX9_daysUnheard) (maxL := 4) (ret := (some .int)) (by decide) rfl ?_
  intro p e s m args below meth c s₁ B hml hv
  obtain ⟨rfl, hsz, hP, hK, hD0⟩ := hv
  have hx := B.exec
  have hb := B.bytes
  have hr := B.returns
  have hts := atoms_spec (ws := wsX9_daysUnheard) B.pre
  have hown : s.vm.findClass RX9 = some m.cls := findClass_of_methodNamed B.named
  have hlocks := B.notSynchronized
  subst hsz
  have hD := hD0
  generalize hAe : va_A [] s.heap.size = A at ⊢
  have hA : ∀ q : Nat, s.heap.size ≤ q → A q := fun q h => by rw [← hAe]; exact Or.inr h
  have hS : va_S A s.heap s.heap [] := va_S.rf
  have hP : va_P (dC, dI) vwCl (oW cq Z) s.heap := hP
  have hl := lv_entry ([.ref o, .int x1, .int x2]) (n := 4) (Nat.le_of_ble_eq_true rfl)
  rw [lg_entry_eq]
  generalize (lg_sl ([.ref o, .int x1, .int x2]) ++ List.replicate (4 - (lg_sl ([.ref o, .int x1, .int x2])).length) Slot.unset).toArray = ls at hl ⊢
  have hl : lv_has ls 4 [(0, .ref o), (1, .int x1), (2, .int x2)] := hl
  obtain ⟨fn0, fn1, fn2, fn3, fn4⟩ := RC.n hR
  have fb38 : 0 ≤ (v 38).toInt ∧ (v 38).toInt ≤ 3000 := RC.V hR 38
  have fb39 : 0 ≤ (v 39).toInt ∧ (v 39).toInt ≤ 40 := RC.V hR 39
  have fb40 : 0 ≤ (v 40).toInt ∧ (v 40).toInt ≤ 20 := RC.V hR 40
  have fb43 : 0 ≤ (v 43).toInt ∧ (v 43).toInt ≤ 60 := RC.V hR 43
  have fb41 : 0 ≤ (v 41).toInt ∧ (v 41).toInt ≤ 200 := RC.V hR 41
  have fVo := RC.vo hR hxv
  rw [← ex] at fVo
  obtain ⟨fy0o, fy1o, fy2o, fy3o, fy4o, fySo, fyLo, fyho⟩ := fVo
  have fBo : 0 ≤ (fa 7 x).toInt ∧ (fa 7 x).toInt ≤ 3000 := RC.A hR 7 _
  have fSo := onc_i fySo
  have fLo := onc_i fyLo
  have hlb := lhO_b (v := v) (e := (x : Int)) (d := x1.toInt) (k := x2.toInt) (RC.A hR)
  refine lv_aload_n hx hb dX9_daysUnheard_0 rfl (lv_at hl 0 rfl) ?_
  refine lv_iload_n hx hb dX9_daysUnheard_1 rfl (lv_at hl 1 rfl) ?_
  refine lv_iload_n hx hb dX9_daysUnheard_2 rfl (lv_at hl 2 rfl) ?_
  have hFc : ∀ q, va_A [] s.heap.size q → A q := pu_free hS hA
  obtain ⟨q_1, hq_1⟩ := og (cq := cq) to.1 (oE_9 to.2)
  refine va_calli (va_runV (As := [.int x1, .int x2]) (rest := []) ⟨hx, hb, hml, hown, hts⟩ (c_X9_lastHeard_c l dC dI s.heap.size cq Z gI o to x1 x2 h0 th v fa hR x hxv ex (by omega)) (cwV 2 hts gX9_daysUnheard_X9_lastHeard rfl rfl rfl (by decide +kernel) ⟨(Nat.le_of_ble_eq_true rfl), (Nat.le_of_ble_eq_true rfl)⟩) (pr_V (r := (RX9, TX9, 10)) hP hK hD q_1 9 rfl hq_1) rfl rfl hl.1 rfl (lv_room (Nat.le_of_ble_eq_true rfl)) dX9_daysUnheard_3 ⟨(Nat.le_of_ble_eq_true rfl), (Nat.le_of_ble_eq_true rfl)⟩) hS (fun q _ h => hFc q h) hFc (fun r_3 u t H locs ht hvm w_2 hB hz1 hk1 hS => ?_)
  have hP := pu_keep hP hk1
  clear hk1 hz1 hvm hB ht hFc
  obtain ⟨hb_4, hx_5⟩ := w_2
  refine lv_istore_n (lv' := [(3, .int r_3), (0, .ref o), (1, .int x1), (2, .int x2)]) hx hb dX9_daysUnheard_6 rfl hl (by decide) rfl (fun ls hl => ?_)
  refine lv_iload_n hx hb dX9_daysUnheard_7 rfl (lv_at hl 0 rfl) ?_
  refine lv_if_ge (tgt := 15) hx hb dX9_daysUnheard_8 (by decide) (fun c_6 => ?_) (fun c_6 => ?_)
  · have dc_6 := c_le (a := 0) (b := r_3.toInt) (by decide) rfl c_6
    refine lv_iload_n hx hb dX9_daysUnheard_15 rfl (lv_at hl 2 rfl) ?_
    refine lv_iload_n hx hb dX9_daysUnheard_16 rfl (lv_at hl 0 rfl) ?_
    refine lv_isub hx hb dX9_daysUnheard_17 ?_
    refine lv_topi (fun x_7 ex_7 => ?_)
    have hx_7 : x_7.toInt = x1.toInt - r_3.toInt := (iv_to ex_7).trans (sb_i rfl rfl (by omega) (by omega))
    clear ex_7
    exact W.iret (v := x_7) hx hb hr (fun t ht hW => ⟨⟨x_7, (), rfl, ⟨(by omega), (by repeat (first | rw [if_pos (by omega)] | rw [if_neg (by omega)]); omega)⟩, trivial⟩, hS.F ht⟩) hS.2.2 dX9_daysUnheard_18
  · have dc_6 := c_nle (a := 0) (b := r_3.toInt) (by decide) rfl c_6
    refine lv_iconst (v := 0) hx hb dX9_daysUnheard_11 (by decide) ?_
    refine lv_goto (tgt := 18) hx hb dX9_daysUnheard_12 (by decide) ?_
    exact W.iret (v := 0) hx hb hr (fun t ht hW => ⟨⟨0, (), rfl, ⟨(by decide), (by have rc : (0 : Int32).toInt = 0 := (by decide); repeat (first | rw [if_pos (by omega)] | rw [if_neg (by omega)]); omega)⟩, trivial⟩, hS.F ht⟩) hS.2.2 dX9_daysUnheard_18
set_option maxHeartbeats 4000000 in
set_option maxRecDepth 100000 in
theorem c_X1_diedBy_c (l : Launch) (dC : Nat → ClassId) (dI : Nat → Nat → Nat) (sz : Nat) (cq : Nat → ClassId) (Z : oS) (gI : oInv Z) (o : Nat) (to : oty Z o 1) (x1 : Int32) (x2 : Int32) (h0 : Nat) (th : oty Z h0 10) (v : Nat → Int32) (fa : Nat → Nat → Int32) (hR : RC Z h0 v fa) (a : Nat) (ha : a < (v 43).toNatClampNeg) (ea : o = agA Z h0 a) : Met l yX1_diedBy wsX1_diedBy ({ frames := 0, cells := 0, slots := 0, locals := 0 }) (va_Pc [.ref o, .int x1, .int x2] (pcW (dC, dI) (oT cq) (oW cq Z) sz)) (va_Qi (fun (r : Int32) (u : Unit) => (0 ≤ r.toInt ∧ r.toInt ≤ 1) ∧ (r.toInt = dyI v fa a x1.toInt x2.toInt)) (fun _ _ => True) (va_A [] sz)) 0 0 (va_A [] sz) := by
  refine Met.ofW (cc := cX1_diedBy) (maxL := 4) (ret := (some .boolean)) (by decide) rfl ?_
  intro p e s m args below meth c s₁ B hml hv
  obtain ⟨rfl, hsz, hP, hK, hD0⟩ := hv
  have hx := B.exec
  have hb := B.bytes
  have hr := B.returns
  have hts := atoms_spec (ws := wsX1_diedBy) B.pre
  have hown : s.vm.findClass RX1 = some m.cls := findClass_of_methodNamed B.named
  have hlocks := B.notSynchronized
  subst hsz
  have hD := hD0
  generalize hAe : va_A [] s.heap.size = A at ⊢
  have hA : ∀ q : Nat, s.heap.size ≤ q → A q := fun q h => by rw [← hAe]; exact Or.inr h
  have hS : va_S A s.heap s.heap [] := va_S.rf
  have hP : va_P (dC, dI) vwCl (oW cq Z) s.heap := hP
  have hl := lv_entry ([.ref o, .int x1, .int x2]) (n := 4) (Nat.le_of_ble_eq_true rfl)
  rw [lg_entry_eq]
  generalize (lg_sl ([.ref o, .int x1, .int x2]) ++ List.replicate (4 - (lg_sl ([.ref o, .int x1, .int x2])).length) Slot.unset).toArray = ls at hl ⊢
  have hl : lv_has ls 4 [(0, .ref o), (1, .int x1), (2, .int x2)] := hl
  obtain ⟨fn0, fn1, fn2, fn3, fn4⟩ := RC.n hR
  have fb38 : 0 ≤ (v 38).toInt ∧ (v 38).toInt ≤ 3000 := RC.V hR 38
  have fb39 : 0 ≤ (v 39).toInt ∧ (v 39).toInt ≤ 40 := RC.V hR 39
  have fb40 : 0 ≤ (v 40).toInt ∧ (v 40).toInt ≤ 20 := RC.V hR 40
  have fb43 : 0 ≤ (v 43).toInt ∧ (v 43).toInt ≤ 60 := RC.V hR 43
  have fb41 : 0 ≤ (v 41).toInt ∧ (v 41).toInt ≤ 200 := RC.V hR 41
  have fAo := RC.a hR ha
  rw [← ea] at fAo
  obtain ⟨⟨fm1o, fm2o, fm3o⟩, ⟨fv1o, fv2o, fv3o⟩, fsio, fppo, fwgo, frko, fofo, fdeo, fcho⟩ := fAo
  have fBo : 0 ≤ (fa 25 a).toInt ∧ (fa 25 a).toInt ≤ 3000 := RC.A hR 25 _
  have lamo : (fa 20 a).toNatClampNeg < (v 39).toNatClampNeg := ni_lt fm1o fm2o
  have namo : (((fa 20 a).toNatClampNeg : Nat) : Int) = (fa 20 a).toInt := tn_i fm1o
  obtain ⟨amo, eamo⟩ : ∃ z, z = mnA Z h0 (fa 20 a).toNatClampNeg := ⟨_, rfl⟩
  rw [← eamo] at fm3o
  have tamo : oty Z amo 6 := by rw [eamo]; exact (RC.tm hR gI th lamo).2
  have fMamo := RC.m hR lamo
  rw [← eamo] at fMamo
  obtain ⟨fz0amo, fz1amo, fz2amo, fz3amo⟩ := fMamo
  rw [namo] at fz0amo
  have lavo : (fa 21 a).toNatClampNeg < (v 40).toNatClampNeg := ni_lt fv1o fv2o
  have navo : (((fa 21 a).toNatClampNeg : Nat) : Int) = (fa 21 a).toInt := tn_i fv1o
  obtain ⟨avo, eavo⟩ : ∃ z, z = voA Z h0 (fa 21 a).toNatClampNeg := ⟨_, rfl⟩
  rw [← eavo] at fv3o
  have tavo : oty Z avo 9 := by rw [eavo]; exact (RC.tv hR gI th lavo).2
  have fVavo := RC.vo hR lavo
  rw [← eavo] at fVavo
  obtain ⟨fy0avo, fy1avo, fy2avo, fy3avo, fy4avo, fySavo, fyLavo, fyhavo⟩ := fVavo
  have fBavo : 0 ≤ (fa 7 ((fa 21 a).toNatClampNeg)).toInt ∧ (fa 7 ((fa 21 a).toNatClampNeg)).toInt ≤ 3000 := RC.A hR 7 _
  have fSavo := onc_i fySavo
  have fLavo := onc_i fyLavo
  rw [navo] at fy0avo fSavo fLavo
  refine lv_aload_n hx hb dX1_diedBy_0 rfl (lv_at hl 0 rfl) ?_
  obtain ⟨q_1, hq_1⟩ := og (cq := cq) to.1 (oE_1 to.2)
  rcases hb_3 : oP Z o 8 with _ | b_2
  · refine va_get (D := (dC, dI)) (ci := 1) (v := .null) (C := RX1) (T := TX1) (N := 18) hx hb hts in_wsX1_diedBy_X1 hown hK hP q_1 hq_1 rfl 8 (by decide) (hts (.fieldLink RX1 87 "ShipOffice$Agreement" "tidings" "LShipOffice$Happening;") iw_X1_diedBy_1) (fun _ h9 => h9) (o_rd hb_3) dX1_diedBy_1 ?_
    refine lv_astore_nN (lv' := [(3, .null), (0, .ref o), (1, .int x1), (2, .int x2)]) hx hb dX1_diedBy_4 rfl hl (by decide) rfl (fun ls hl => ?_)
    have cut_4 : ∀ (n : Nat) (y_5 : Option Nat) (H : Heap) (locs : List Loc) (ls : Array Slot), (oR Z y_5 : Int) ≤ (n : Int) → (∀ b, y_5 = some b → oty Z b 3) → (dsI Z fa x1.toInt x2.toInt (∃ j, j < (v 41).toNatClampNeg ∧ dyP fa a x1.toInt x2.toInt j) y_5) → va_P (dC, dI) vwCl (oW cq Z) H → va_S A s.heap H locs → lv_has ls 4 [(3, va_rf y_5), (0, .ref o), (1, .int x1), (2, .int x2)] → W p l e (headSpec wsX1_diedBy { frames := 0, cells := 0, slots := 0, locals := 0 }).room s m #[Value.ref o, Value.int x1, Value.int x2] below meth c H locs 0 0 (MQ below (va_Qi (fun (r : Int32) (u : Unit) => (0 ≤ r.toInt ∧ r.toInt ≤ 1) ∧ (r.toInt = dyI v fa a x1.toInt x2.toInt)) (fun _ _ => True) A) #[Value.ref o, Value.int x1, Value.int x2] s 0 0 A) (F0 m 5 ls []) := by
      intro n
      induction n using Nat.strongRecOn with
      | ind n ih =>
        intro y_5 H locs ls hm ty_5 hq0_cut_4 hP hS hl
        rcases y_5 with _ | b_6
        · have hl : lv_has ls 4 [(3, .null), (0, .ref o), (1, .int x1), (2, .int x2)] := hl
          refine lv_aload_nN hx hb dX1_diedBy_5 rfl (lv_at hl 0 rfl) ?_
          refine lv_ifnullN (tgt := 43) hx hb dX1_diedBy_6 (by decide) ?_
          refine lv_iconst (v := 0) hx hb dX1_diedBy_43 (by decide) ?_
          exact W.zret (v := 0) hx hb hr rfl (fun t ht hW => ⟨⟨0, (), rfl, ⟨(by decide), (b1_f (ds_n hq0_cut_4))⟩, trivial⟩, hS.F ht⟩) hS.2.2 dX1_diedBy_44
        · have hl : lv_has ls 4 [(3, .ref b_6), (0, .ref o), (1, .int x1), (2, .int x2)] := hl
          have tb_6 : oty Z b_6 3 := ty_5 b_6 rfl
          have rb_6 : oR Z (some b_6) = oG Z b_6 + 1 := rfl
          refine lv_aload_n hx hb dX1_diedBy_5 rfl (lv_at hl 0 rfl) ?_
          refine lv_ifnull hx hb dX1_diedBy_6 ?_
          refine lv_aload_n hx hb dX1_diedBy_9 rfl (lv_at hl 0 rfl) ?_
          obtain ⟨q_7, hq_7⟩ := og (cq := cq) tb_6.1 (oE_3 tb_6.2)
          refine va_get (D := (dC, dI)) (ci := 3) (v := .int (oI Z b_6 0)) (C := RX3) (T := TX3) (N := 6) hx hb hts in_wsX1_diedBy_X3 hown hK hP q_7 hq_7 rfl 0 (by decide) (hts (.fieldLink RX1 64 "ShipOffice$Happening" "kind" "I") iw_X1_diedBy_2) (fun _ h9 => h9) rfl dX1_diedBy_10 ?_
          refine lv_topi (fun x_8 ex_8 => ?_)
          have gx_8 : x_8.toInt = (oI Z b_6 0).toInt := iv_to ex_8
          clear ex_8
          refine lv_iconst (v := 2) hx hb dX1_diedBy_13 (by decide) ?_
          refine lv_icmp_ne (tgt := 35) hx hb dX1_diedBy_14 (by decide) (fun c_9 => ?_) (fun c_9 => ?_)
          · have dc_9 := c_ne (a := x_8.toInt) (b := 2) rfl (by decide) c_9
            refine lv_aload_n hx hb dX1_diedBy_35 rfl (lv_at hl 0 rfl) ?_
            rcases hb_11 : oP Z b_6 5 with _ | b_10
            · refine va_get (D := (dC, dI)) (ci := 3) (v := .null) (C := RX3) (T := TX3) (N := 6) hx hb hts in_wsX1_diedBy_X3 hown hK hP q_7 hq_7 rfl 5 (by decide) (hts (.fieldLink RX1 97 "ShipOffice$Happening" "before" "LShipOffice$Happening;") iw_X1_diedBy_3) (fun _ h9 => h9) (o_rd hb_11) dX1_diedBy_36 ?_
              have r_12 : oR Z none = 0 := rfl
              refine lv_astore_nN (lv' := [(3, .null), (0, .ref o), (1, .int x1), (2, .int x2)]) hx hb dX1_diedBy_39 rfl hl (by decide) rfl (fun ls hl => ?_)
              refine lv_goto (tgt := 5) hx hb dX1_diedBy_40 (by decide) ?_
              exact ih (n - 1) (by omega) none _ _ ls (by omega) (fun b h => by cases h) (ds_s hq0_cut_4 hb_11 (by omega)) hP hS (lv_sub hl [0, 1, 2, 3] rfl)
            · refine va_get (D := (dC, dI)) (ci := 3) (v := .ref b_10) (C := RX3) (T := TX3) (N := 6) hx hb hts in_wsX1_diedBy_X3 hown hK hP q_7 hq_7 rfl 5 (by decide) (hts (.fieldLink RX1 97 "ShipOffice$Happening" "before" "LShipOffice$Happening;") iw_X1_diedBy_3) (fun _ h9 => h9) (o_rd hb_11) dX1_diedBy_36 ?_
              have tb_10 : oty Z b_10 3 := oInv.rd gI tb_6.2 hb_11 rfl rfl
              have hGb_10 : oG Z b_10 < oG Z b_6 := gI.2.2.2.2.2.1 b_6 b_10 tb_6.2 hb_11
              have rb_10 : oR Z (some b_10) = oG Z b_10 + 1 := rfl
              refine lv_astore_n (lv' := [(3, .ref b_10), (0, .ref o), (1, .int x1), (2, .int x2)]) hx hb dX1_diedBy_39 rfl hl (by decide) rfl (fun ls hl => ?_)
              refine lv_goto (tgt := 5) hx hb dX1_diedBy_40 (by decide) ?_
              exact ih (n - 1) (by omega) (some b_10) _ _ ls (by omega) (fun b h => by cases h; exact tb_10) (ds_s hq0_cut_4 hb_11 (by omega)) hP hS (lv_sub hl [0, 1, 2, 3] rfl)
          · have dc_9 := c_eq (a := x_8.toInt) (b := 2) rfl (by decide) c_9
            refine lv_aload_n hx hb dX1_diedBy_17 rfl (lv_at hl 0 rfl) ?_
            refine va_get (D := (dC, dI)) (ci := 3) (v := .int (oI Z b_6 2)) (C := RX3) (T := TX3) (N := 6) hx hb hts in_wsX1_diedBy_X3 hown hK hP q_7 hq_7 rfl 2 (by decide) (hts (.fieldLink RX1 91 "ShipOffice$Happening" "told" "I") iw_X1_diedBy_4) (fun _ h9 => h9) rfl dX1_diedBy_18 ?_
            refine lv_topi (fun x_13 ex_13 => ?_)
            have gx_13 : x_13.toInt = (oI Z b_6 2).toInt := iv_to ex_13
            clear ex_13
            refine lv_iload_n hx hb dX1_diedBy_21 rfl (lv_at hl 3 rfl) ?_
            refine lv_icmp_gt (tgt := 35) hx hb dX1_diedBy_22 (by decide) (fun c_14 => ?_) (fun c_14 => ?_)
            · have dc_14 := c_lt (a := x2.toInt) (b := x_13.toInt) rfl rfl c_14
              refine lv_aload_n hx hb dX1_diedBy_35 rfl (lv_at hl 0 rfl) ?_
              rcases hb_16 : oP Z b_6 5 with _ | b_15
              · refine va_get (D := (dC, dI)) (ci := 3) (v := .null) (C := RX3) (T := TX3) (N := 6) hx hb hts in_wsX1_diedBy_X3 hown hK hP q_7 hq_7 rfl 5 (by decide) (hts (.fieldLink RX1 97 "ShipOffice$Happening" "before" "LShipOffice$Happening;") iw_X1_diedBy_3) (fun _ h9 => h9) (o_rd hb_16) dX1_diedBy_36 ?_
                have r_17 : oR Z none = 0 := rfl
                refine lv_astore_nN (lv' := [(3, .null), (0, .ref o), (1, .int x1), (2, .int x2)]) hx hb dX1_diedBy_39 rfl hl (by decide) rfl (fun ls hl => ?_)
                refine lv_goto (tgt := 5) hx hb dX1_diedBy_40 (by decide) ?_
                exact ih (n - 1) (by omega) none _ _ ls (by omega) (fun b h => by cases h) (ds_s hq0_cut_4 hb_16 (by omega)) hP hS (lv_sub hl [0, 1, 2, 3] rfl)
              · refine va_get (D := (dC, dI)) (ci := 3) (v := .ref b_15) (C := RX3) (T := TX3) (N := 6) hx hb hts in_wsX1_diedBy_X3 hown hK hP q_7 hq_7 rfl 5 (by decide) (hts (.fieldLink RX1 97 "ShipOffice$Happening" "before" "LShipOffice$Happening;") iw_X1_diedBy_3) (fun _ h9 => h9) (o_rd hb_16) dX1_diedBy_36 ?_
                have tb_15 : oty Z b_15 3 := oInv.rd gI tb_6.2 hb_16 rfl rfl
                have hGb_15 : oG Z b_15 < oG Z b_6 := gI.2.2.2.2.2.1 b_6 b_15 tb_6.2 hb_16
                have rb_15 : oR Z (some b_15) = oG Z b_15 + 1 := rfl
                refine lv_astore_n (lv' := [(3, .ref b_15), (0, .ref o), (1, .int x1), (2, .int x2)]) hx hb dX1_diedBy_39 rfl hl (by decide) rfl (fun ls hl => ?_)
                refine lv_goto (tgt := 5) hx hb dX1_diedBy_40 (by decide) ?_
                exact ih (n - 1) (by omega) (some b_15) _ _ ls (by omega) (fun b h => by cases h; exact tb_15) (ds_s hq0_cut_4 hb_16 (by omega)) hP hS (lv_sub hl [0, 1, 2, 3] rfl)
            · have dc_14 := c_nlt (a := x2.toInt) (b := x_13.toInt) rfl rfl c_14
              refine lv_aload_n hx hb dX1_diedBy_25 rfl (lv_at hl 0 rfl) ?_
              refine va_get (D := (dC, dI)) (ci := 3) (v := .int (oI Z b_6 1)) (C := RX3) (T := TX3) (N := 6) hx hb hts in_wsX1_diedBy_X3 hown hK hP q_7 hq_7 rfl 1 (by decide) (hts (.fieldLink RX1 94 "ShipOffice$Happening" "day" "I") iw_X1_diedBy_5) (fun _ h9 => h9) rfl dX1_diedBy_26 ?_
              refine lv_topi (fun x_18 ex_18 => ?_)
              have gx_18 : x_18.toInt = (oI Z b_6 1).toInt := iv_to ex_18
              clear ex_18
              refine lv_iload_n hx hb dX1_diedBy_29 rfl (lv_at hl 2 rfl) ?_
              refine lv_icmp_gt (tgt := 35) hx hb dX1_diedBy_30 (by decide) (fun c_19 => ?_) (fun c_19 => ?_)
              · have dc_19 := c_lt (a := x1.toInt) (b := x_18.toInt) rfl rfl c_19
                refine lv_aload_n hx hb dX1_diedBy_35 rfl (lv_at hl 0 rfl) ?_
                rcases hb_21 : oP Z b_6 5 with _ | b_20
                · refine va_get (D := (dC, dI)) (ci := 3) (v := .null) (C := RX3) (T := TX3) (N := 6) hx hb hts in_wsX1_diedBy_X3 hown hK hP q_7 hq_7 rfl 5 (by decide) (hts (.fieldLink RX1 97 "ShipOffice$Happening" "before" "LShipOffice$Happening;") iw_X1_diedBy_3) (fun _ h9 => h9) (o_rd hb_21) dX1_diedBy_36 ?_
                  have r_22 : oR Z none = 0 := rfl
                  refine lv_astore_nN (lv' := [(3, .null), (0, .ref o), (1, .int x1), (2, .int x2)]) hx hb dX1_diedBy_39 rfl hl (by decide) rfl (fun ls hl => ?_)
                  refine lv_goto (tgt := 5) hx hb dX1_diedBy_40 (by decide) ?_
                  exact ih (n - 1) (by omega) none _ _ ls (by omega) (fun b h => by cases h) (ds_s hq0_cut_4 hb_21 (by omega)) hP hS (lv_sub hl [0, 1, 2, 3] rfl)
                · refine va_get (D := (dC, dI)) (ci := 3) (v := .ref b_20) (C := RX3) (T := TX3) (N := 6) hx hb hts in_wsX1_diedBy_X3 hown hK hP q_7 hq_7 rfl 5 (by decide) (hts (.fieldLink RX1 97 "ShipOffice$Happening" "before" "LShipOffice$Happening;") iw_X1_diedBy_3) (fun _ h9 => h9) (o_rd hb_21) dX1_diedBy_36 ?_
                  have tb_20 : oty Z b_20 3 := oInv.rd gI tb_6.2 hb_21 rfl rfl
                  have hGb_20 : oG Z b_20 < oG Z b_6 := gI.2.2.2.2.2.1 b_6 b_20 tb_6.2 hb_21
                  have rb_20 : oR Z (some b_20) = oG Z b_20 + 1 := rfl
                  refine lv_astore_n (lv' := [(3, .ref b_20), (0, .ref o), (1, .int x1), (2, .int x2)]) hx hb dX1_diedBy_39 rfl hl (by decide) rfl (fun ls hl => ?_)
                  refine lv_goto (tgt := 5) hx hb dX1_diedBy_40 (by decide) ?_
                  exact ih (n - 1) (by omega) (some b_20) _ _ ls (by omega) (fun b h => by cases h; exact tb_20) (ds_s hq0_cut_4 hb_21 (by omega)) hP hS (lv_sub hl [0, 1, 2, 3] rfl)
              · have dc_19 := c_nlt (a := x1.toInt) (b := x_18.toInt) rfl rfl c_19
                refine lv_iconst (v := 1) hx hb dX1_diedBy_33 (by decide) ?_
                exact W.zret (v := 1) hx hb hr rfl (fun t ht hW => ⟨⟨1, (), rfl, ⟨(by decide), (b1_t (ds_t hq0_cut_4 (by omega)))⟩, trivial⟩, hS.F ht⟩) hS.2.2 dX1_diedBy_34
    exact cut_4 (oR Z none) none _ _ ls (by omega) (fun b h => by cases h) (ds_init fcho hb_3) hP hS (lv_sub hl [0, 1, 2, 3] rfl)
  · refine va_get (D := (dC, dI)) (ci := 1) (v := .ref b_2) (C := RX1) (T := TX1) (N := 18) hx hb hts in_wsX1_diedBy_X1 hown hK hP q_1 hq_1 rfl 8 (by decide) (hts (.fieldLink RX1 87 "ShipOffice$Agreement" "tidings" "LShipOffice$Happening;") iw_X1_diedBy_1) (fun _ h9 => h9) (o_rd hb_3) dX1_diedBy_1 ?_
    have tb_2 : oty Z b_2 3 := oInv.rd gI to.2 hb_3 rfl rfl
    refine lv_astore_n (lv' := [(3, .ref b_2), (0, .ref o), (1, .int x1), (2, .int x2)]) hx hb dX1_diedBy_4 rfl hl (by decide) rfl (fun ls hl => ?_)
    have cut_23 : ∀ (n : Nat) (y_24 : Option Nat) (H : Heap) (locs : List Loc) (ls : Array Slot), (oR Z y_24 : Int) ≤ (n : Int) → (∀ b, y_24 = some b → oty Z b 3) → (dsI Z fa x1.toInt x2.toInt (∃ j, j < (v 41).toNatClampNeg ∧ dyP fa a x1.toInt x2.toInt j) y_24) → va_P (dC, dI) vwCl (oW cq Z) H → va_S A s.heap H locs → lv_has ls 4 [(3, va_rf y_24), (0, .ref o), (1, .int x1), (2, .int x2)] → W p l e (headSpec wsX1_diedBy { frames := 0, cells := 0, slots := 0, locals := 0 }).room s m #[Value.ref o, Value.int x1, Value.int x2] below meth c H locs 0 0 (MQ below (va_Qi (fun (r : Int32) (u : Unit) => (0 ≤ r.toInt ∧ r.toInt ≤ 1) ∧ (r.toInt = dyI v fa a x1.toInt x2.toInt)) (fun _ _ => True) A) #[Value.ref o, Value.int x1, Value.int x2] s 0 0 A) (F0 m 5 ls []) := by
      intro n
      induction n using Nat.strongRecOn with
      | ind n ih =>
        intro y_24 H locs ls hm ty_24 hq0_cut_23 hP hS hl
        rcases y_24 with _ | b_25
        · have hl : lv_has ls 4 [(3, .null), (0, .ref o), (1, .int x1), (2, .int x2)] := hl
          refine lv_aload_nN hx hb dX1_diedBy_5 rfl (lv_at hl 0 rfl) ?_
          refine lv_ifnullN (tgt := 43) hx hb dX1_diedBy_6 (by decide) ?_
          refine lv_iconst (v := 0) hx hb dX1_diedBy_43 (by decide) ?_
          exact W.zret (v := 0) hx hb hr rfl (fun t ht hW => ⟨⟨0, (), rfl, ⟨(by decide), (b1_f (ds_n hq0_cut_23))⟩, trivial⟩, hS.F ht⟩) hS.2.2 dX1_diedBy_44
        · have hl : lv_has ls 4 [(3, .ref b_25), (0, .ref o), (1, .int x1), (2, .int x2)] := hl
          have tb_25 : oty Z b_25 3 := ty_24 b_25 rfl
          have rb_25 : oR Z (some b_25) = oG Z b_25 + 1 := rfl
          refine lv_aload_n hx hb dX1_diedBy_5 rfl (lv_at hl 0 rfl) ?_
          refine lv_ifnull hx hb dX1_diedBy_6 ?_
          refine lv_aload_n hx hb dX1_diedBy_9 rfl (lv_at hl 0 rfl) ?_
          obtain ⟨q_26, hq_26⟩ := og (cq := cq) tb_25.1 (oE_3 tb_25.2)
          refine va_get (D := (dC, dI)) (ci := 3) (v := .int (oI Z b_25 0)) (C := RX3) (T := TX3) (N := 6) hx hb hts in_wsX1_diedBy_X3 hown hK hP q_26 hq_26 rfl 0 (by decide) (hts (.fieldLink RX1 64 "ShipOffice$Happening" "kind" "I") iw_X1_diedBy_2) (fun _ h9 => h9) rfl dX1_diedBy_10 ?_
          refine lv_topi (fun x_27 ex_27 => ?_)
          have gx_27 : x_27.toInt = (oI Z b_25 0).toInt := iv_to ex_27
          clear ex_27
          refine lv_iconst (v := 2) hx hb dX1_diedBy_13 (by decide) ?_
          refine lv_icmp_ne (tgt := 35) hx hb dX1_diedBy_14 (by decide) (fun c_28 => ?_) (fun c_28 => ?_)
          · have dc_28 := c_ne (a := x_27.toInt) (b := 2) rfl (by decide) c_28
            refine lv_aload_n hx hb dX1_diedBy_35 rfl (lv_at hl 0 rfl) ?_
            rcases hb_30 : oP Z b_25 5 with _ | b_29
            · refine va_get (D := (dC, dI)) (ci := 3) (v := .null) (C := RX3) (T := TX3) (N := 6) hx hb hts in_wsX1_diedBy_X3 hown hK hP q_26 hq_26 rfl 5 (by decide) (hts (.fieldLink RX1 97 "ShipOffice$Happening" "before" "LShipOffice$Happening;") iw_X1_diedBy_3) (fun _ h9 => h9) (o_rd hb_30) dX1_diedBy_36 ?_
              have r_31 : oR Z none = 0 := rfl
              refine lv_astore_nN (lv' := [(3, .null), (0, .ref o), (1, .int x1), (2, .int x2)]) hx hb dX1_diedBy_39 rfl hl (by decide) rfl (fun ls hl => ?_)
              refine lv_goto (tgt := 5) hx hb dX1_diedBy_40 (by decide) ?_
              exact ih (n - 1) (by omega) none _ _ ls (by omega) (fun b h => by cases h) (ds_s hq0_cut_23 hb_30 (by omega)) hP hS (lv_sub hl [0, 1, 2, 3] rfl)
            · refine va_get (D := (dC, dI)) (ci := 3) (v := .ref b_29) (C := RX3) (T := TX3) (N := 6) hx hb hts in_wsX1_diedBy_X3 hown hK hP q_26 hq_26 rfl 5 (by decide) (hts (.fieldLink RX1 97 "ShipOffice$Happening" "before" "LShipOffice$Happening;") iw_X1_diedBy_3) (fun _ h9 => h9) (o_rd hb_30) dX1_diedBy_36 ?_
              have tb_29 : oty Z b_29 3 := oInv.rd gI tb_25.2 hb_30 rfl rfl
              have hGb_29 : oG Z b_29 < oG Z b_25 := gI.2.2.2.2.2.1 b_25 b_29 tb_25.2 hb_30
              have rb_29 : oR Z (some b_29) = oG Z b_29 + 1 := rfl
              refine lv_astore_n (lv' := [(3, .ref b_29), (0, .ref o), (1, .int x1), (2, .int x2)]) hx hb dX1_diedBy_39 rfl hl (by decide) rfl (fun ls hl => ?_)
              refine lv_goto (tgt := 5) hx hb dX1_diedBy_40 (by decide) ?_
              exact ih (n - 1) (by omega) (some b_29) _ _ ls (by omega) (fun b h => by cases h; exact tb_29) (ds_s hq0_cut_23 hb_30 (by omega)) hP hS (lv_sub hl [0, 1, 2, 3] rfl)
          · have dc_28 := c_eq (a := x_27.toInt) (b := 2) rfl (by decide) c_28
            refine lv_aload_n hx hb dX1_diedBy_17 rfl (lv_at hl 0 rfl) ?_
            refine va_get (D := (dC, dI)) (ci := 3) (v := .int (oI Z b_25 2)) (C := RX3) (T := TX3) (N := 6) hx hb hts in_wsX1_diedBy_X3 hown hK hP q_26 hq_26 rfl 2 (by decide) (hts (.fieldLink RX1 91 "ShipOffice$Happening" "told" "I") iw_X1_diedBy_4) (fun _ h9 => h9) rfl dX1_diedBy_18 ?_
            refine lv_topi (fun x_32 ex_32 => ?_)
            have gx_32 : x_32.toInt = (oI Z b_25 2).toInt := iv_to ex_32
            clear ex_32
            refine lv_iload_n hx hb dX1_diedBy_21 rfl (lv_at hl 3 rfl) ?_
            refine lv_icmp_gt (tgt := 35) hx hb dX1_diedBy_22 (by decide) (fun c_33 => ?_) (fun c_33 => ?_)
            · have dc_33 := c_lt (a := x2.toInt) (b := x_32.toInt) rfl rfl c_33
              refine lv_aload_n hx hb dX1_diedBy_35 rfl (lv_at hl 0 rfl) ?_
              rcases hb_35 : oP Z b_25 5 with _ | b_34
              · refine va_get (D := (dC, dI)) (ci := 3) (v := .null) (C := RX3) (T := TX3) (N := 6) hx hb hts in_wsX1_diedBy_X3 hown hK hP q_26 hq_26 rfl 5 (by decide) (hts (.fieldLink RX1 97 "ShipOffice$Happening" "before" "LShipOffice$Happening;") iw_X1_diedBy_3) (fun _ h9 => h9) (o_rd hb_35) dX1_diedBy_36 ?_
                have r_36 : oR Z none = 0 := rfl
                refine lv_astore_nN (lv' := [(3, .null), (0, .ref o), (1, .int x1), (2, .int x2)]) hx hb dX1_diedBy_39 rfl hl (by decide) rfl (fun ls hl => ?_)
                refine lv_goto (tgt := 5) hx hb dX1_diedBy_40 (by decide) ?_
                exact ih (n - 1) (by omega) none _ _ ls (by omega) (fun b h => by cases h) (ds_s hq0_cut_23 hb_35 (by omega)) hP hS (lv_sub hl [0, 1, 2, 3] rfl)
              · refine va_get (D := (dC, dI)) (ci := 3) (v := .ref b_34) (C := RX3) (T := TX3) (N := 6) hx hb hts in_wsX1_diedBy_X3 hown hK hP q_26 hq_26 rfl 5 (by decide) (hts (.fieldLink RX1 97 "ShipOffice$Happening" "before" "LShipOffice$Happening;") iw_X1_diedBy_3) (fun _ h9 => h9) (o_rd hb_35) dX1_diedBy_36 ?_
                have tb_34 : oty Z b_34 3 := oInv.rd gI tb_25.2 hb_35 rfl rfl
                have hGb_34 : oG Z b_34 < oG Z b_25 := gI.2.2.2.2.2.1 b_25 b_34 tb_25.2 hb_35
                have rb_34 : oR Z (some b_34) = oG Z b_34 + 1 := rfl
                refine lv_astore_n (lv' := [(3, .ref b_34), (0, .ref o), (1, .int x1), (2, .int x2)]) hx hb dX1_diedBy_39 rfl hl (by decide) rfl (fun ls hl => ?_)
                refine lv_goto (tgt := 5) hx hb dX1_diedBy_40 (by decide) ?_
                exact ih (n - 1) (by omega) (some b_34) _ _ ls (by omega) (fun b h => by cases h; exact tb_34) (ds_s hq0_cut_23 hb_35 (by omega)) hP hS (lv_sub hl [0, 1, 2, 3] rfl)
            · have dc_33 := c_nlt (a := x2.toInt) (b := x_32.toInt) rfl rfl c_33
              refine lv_aload_n hx hb dX1_diedBy_25 rfl (lv_at hl 0 rfl) ?_
              refine va_get (D := (dC, dI)) (ci := 3) (v := .int (oI Z b_25 1)) (C := RX3) (T := TX3) (N := 6) hx hb hts in_wsX1_diedBy_X3 hown hK hP q_26 hq_26 rfl 1 (by decide) (hts (.fieldLink RX1 94 "ShipOffice$Happening" "day" "I") iw_X1_diedBy_5) (fun _ h9 => h9) rfl dX1_diedBy_26 ?_
              refine lv_topi (fun x_37 ex_37 => ?_)
              have gx_37 : x_37.toInt = (oI Z b_25 1).toInt := iv_to ex_37
              clear ex_37
              refine lv_iload_n hx hb dX1_diedBy_29 rfl (lv_at hl 2 rfl) ?_
              refine lv_icmp_gt (tgt := 35) hx hb dX1_diedBy_30 (by decide) (fun c_38 => ?_) (fun c_38 => ?_)
              · have dc_38 := c_lt (a := x1.toInt) (b := x_37.toInt) rfl rfl c_38
                refine lv_aload_n hx hb dX1_diedBy_35 rfl (lv_at hl 0 rfl) ?_
                rcases hb_40 : oP Z b_25 5 with _ | b_39
                · refine va_get (D := (dC, dI)) (ci := 3) (v := .null) (C := RX3) (T := TX3) (N := 6) hx hb hts in_wsX1_diedBy_X3 hown hK hP q_26 hq_26 rfl 5 (by decide) (hts (.fieldLink RX1 97 "ShipOffice$Happening" "before" "LShipOffice$Happening;") iw_X1_diedBy_3) (fun _ h9 => h9) (o_rd hb_40) dX1_diedBy_36 ?_
                  have r_41 : oR Z none = 0 := rfl
                  refine lv_astore_nN (lv' := [(3, .null), (0, .ref o), (1, .int x1), (2, .int x2)]) hx hb dX1_diedBy_39 rfl hl (by decide) rfl (fun ls hl => ?_)
                  refine lv_goto (tgt := 5) hx hb dX1_diedBy_40 (by decide) ?_
                  exact ih (n - 1) (by omega) none _ _ ls (by omega) (fun b h => by cases h) (ds_s hq0_cut_23 hb_40 (by omega)) hP hS (lv_sub hl [0, 1, 2, 3] rfl)
                · refine va_get (D := (dC, dI)) (ci := 3) (v := .ref b_39) (C := RX3) (T := TX3) (N := 6) hx hb hts in_wsX1_diedBy_X3 hown hK hP q_26 hq_26 rfl 5 (by decide) (hts (.fieldLink RX1 97 "ShipOffice$Happening" "before" "LShipOffice$Happening;") iw_X1_diedBy_3) (fun _ h9 => h9) (o_rd hb_40) dX1_diedBy_36 ?_
                  have tb_39 : oty Z b_39 3 := oInv.rd gI tb_25.2 hb_40 rfl rfl
                  have hGb_39 : oG Z b_39 < oG Z b_25 := gI.2.2.2.2.2.1 b_25 b_39 tb_25.2 hb_40
                  have rb_39 : oR Z (some b_39) = oG Z b_39 + 1 := rfl
                  refine lv_astore_n (lv' := [(3, .ref b_39), (0, .ref o), (1, .int x1), (2, .int x2)]) hx hb dX1_diedBy_39 rfl hl (by decide) rfl (fun ls hl => ?_)
                  refine lv_goto (tgt := 5) hx hb dX1_diedBy_40 (by decide) ?_
                  exact ih (n - 1) (by omega) (some b_39) _ _ ls (by omega) (fun b h => by cases h; exact tb_39) (ds_s hq0_cut_23 hb_40 (by omega)) hP hS (lv_sub hl [0, 1, 2, 3] rfl)
              · have dc_38 := c_nlt (a := x1.toInt) (b := x_37.toInt) rfl rfl c_38
                refine lv_iconst (v := 1) hx hb dX1_diedBy_33 (by decide) ?_
                exact W.zret (v := 1) hx hb hr rfl (fun t ht hW => ⟨⟨1, (), rfl, ⟨(by decide), (b1_t (ds_t hq0_cut_23 (by omega)))⟩, trivial⟩, hS.F ht⟩) hS.2.2 dX1_diedBy_34
    exact cut_23 (oR Z (some b_2)) (some b_2) _ _ ls (by omega) (fun b h => by cases h; exact tb_2) (ds_init fcho hb_3) hP hS (lv_sub hl [0, 1, 2, 3] rfl)
set_option maxHeartbeats 4000000 in
set_option maxRecDepth 100000 in
theorem c_X1_lastMove_c (l : Launch) (dC : Nat → ClassId) (dI : Nat → Nat → Nat) (sz : Nat) (cq : Nat → ClassId) (Z : oS) (gI : oInv Z) (o : Nat) (to : oty Z o 1) (x1 : Int32) (x2 : Int32) (h0 : Nat) (th : oty Z h0 10) (v : Nat → Int32) (fa : Nat → Nat → Int32) (hR : RC Z h0 v fa) (a : Nat) (ha : a < (v 43).toNatClampNeg) (ea : o = agA Z h0 a) : Met l yX1_lastMove wsX1_lastMove ({ frames := 0, cells := 0, slots := 0, locals := 0 }) (va_Pc [.ref o, .int x1, .int x2] (pcW (dC, dI) (oT cq) (oW cq Z) sz)) (va_Qq (fun (r : Option Nat) (u : Unit) => (∀ b, r = some b → oty Z b 3) ∧ (lmR Z fa r (if whO v fa a x1.toInt x2.toInt < 0 then none else some (whO v fa a x1.toInt x2.toInt).toNat))) (fun _ _ => True) (va_A [] sz)) 0 0 (va_A [] sz) := by
  refine Met.ofW (cc := cX1_lastMove) (maxL := 6) (ret := (some (.object "ShipOffice$Happening"))) (by decide) rfl ?_
  intro p e s m args below meth c s₁ B hml hv
  obtain ⟨rfl, hsz, hP, hK, hD0⟩ := hv
  have hx := B.exec
  have hb := B.bytes
  have hr := B.returns
  have hts := atoms_spec (ws := wsX1_lastMove) B.pre
  have hown : s.vm.findClass RX1 = some m.cls := findClass_of_methodNamed B.named
  have hlocks := B.notSynchronized
  subst hsz
  have hD := hD0
  generalize hAe : va_A [] s.heap.size = A at ⊢
  have hA : ∀ q : Nat, s.heap.size ≤ q → A q := fun q h => by rw [← hAe]; exact Or.inr h
  have hS : va_S A s.heap s.heap [] := va_S.rf
  have hP : va_P (dC, dI) vwCl (oW cq Z) s.heap := hP
  have hl := lv_entry ([.ref o, .int x1, .int x2]) (n := 6) (Nat.le_of_ble_eq_true rfl)
  rw [lg_entry_eq]
  generalize (lg_sl ([.ref o, .int x1, .int x2]) ++ List.replicate (6 - (lg_sl ([.ref o, .int x1, .int x2])).length) Slot.unset).toArray = ls at hl ⊢
  have hl : lv_has ls 6 [(0, .ref o), (1, .int x1), (2, .int x2)] := hl
  obtain ⟨fn0, fn1, fn2, fn3, fn4⟩ := RC.n hR
  have fb38 : 0 ≤ (v 38).toInt ∧ (v 38).toInt ≤ 3000 := RC.V hR 38
  have fb39 : 0 ≤ (v 39).toInt ∧ (v 39).toInt ≤ 40 := RC.V hR 39
  have fb40 : 0 ≤ (v 40).toInt ∧ (v 40).toInt ≤ 20 := RC.V hR 40
  have fb43 : 0 ≤ (v 43).toInt ∧ (v 43).toInt ≤ 60 := RC.V hR 43
  have fb41 : 0 ≤ (v 41).toInt ∧ (v 41).toInt ≤ 200 := RC.V hR 41
  have fAo := RC.a hR ha
  rw [← ea] at fAo
  obtain ⟨⟨fm1o, fm2o, fm3o⟩, ⟨fv1o, fv2o, fv3o⟩, fsio, fppo, fwgo, frko, fofo, fdeo, fcho⟩ := fAo
  have fBo : 0 ≤ (fa 25 a).toInt ∧ (fa 25 a).toInt ≤ 3000 := RC.A hR 25 _
  have lamo : (fa 20 a).toNatClampNeg < (v 39).toNatClampNeg := ni_lt fm1o fm2o
  have namo : (((fa 20 a).toNatClampNeg : Nat) : Int) = (fa 20 a).toInt := tn_i fm1o
  obtain ⟨amo, eamo⟩ : ∃ z, z = mnA Z h0 (fa 20 a).toNatClampNeg := ⟨_, rfl⟩
  rw [← eamo] at fm3o
  have tamo : oty Z amo 6 := by rw [eamo]; exact (RC.tm hR gI th lamo).2
  have fMamo := RC.m hR lamo
  rw [← eamo] at fMamo
  obtain ⟨fz0amo, fz1amo, fz2amo, fz3amo⟩ := fMamo
  rw [namo] at fz0amo
  have lavo : (fa 21 a).toNatClampNeg < (v 40).toNatClampNeg := ni_lt fv1o fv2o
  have navo : (((fa 21 a).toNatClampNeg : Nat) : Int) = (fa 21 a).toInt := tn_i fv1o
  obtain ⟨avo, eavo⟩ : ∃ z, z = voA Z h0 (fa 21 a).toNatClampNeg := ⟨_, rfl⟩
  rw [← eavo] at fv3o
  have tavo : oty Z avo 9 := by rw [eavo]; exact (RC.tv hR gI th lavo).2
  have fVavo := RC.vo hR lavo
  rw [← eavo] at fVavo
  obtain ⟨fy0avo, fy1avo, fy2avo, fy3avo, fy4avo, fySavo, fyLavo, fyhavo⟩ := fVavo
  have fBavo : 0 ≤ (fa 7 ((fa 21 a).toNatClampNeg)).toInt ∧ (fa 7 ((fa 21 a).toNatClampNeg)).toInt ≤ 3000 := RC.A hR 7 _
  have fSavo := onc_i fySavo
  have fLavo := onc_i fyLavo
  rw [navo] at fy0avo fSavo fLavo
  refine lv_null hx hb dX1_lastMove_0 ?_
  refine lv_astore_nN (lv' := [(3, .null), (0, .ref o), (1, .int x1), (2, .int x2)]) hx hb dX1_lastMove_1 rfl hl (by decide) rfl (fun ls hl => ?_)
  refine lv_aload_n hx hb dX1_lastMove_2 rfl (lv_at hl 1 rfl) ?_
  obtain ⟨q_1, hq_1⟩ := og (cq := cq) to.1 (oE_1 to.2)
  rcases hb_3 : oP Z o 8 with _ | b_2
  · refine va_get (D := (dC, dI)) (ci := 1) (v := .null) (C := RX1) (T := TX1) (N := 18) hx hb hts in_wsX1_lastMove_X1 hown hK hP q_1 hq_1 rfl 8 (by decide) (hts (.fieldLink RX1 87 "ShipOffice$Agreement" "tidings" "LShipOffice$Happening;") iw_X1_lastMove_1) (fun _ h9 => h9) (o_rd hb_3) dX1_lastMove_3 ?_
    refine lv_astoreN (lv' := [(4, .null), (3, .null), (0, .ref o), (1, .int x1), (2, .int x2)]) hx hb dX1_lastMove_6 hl (by decide) rfl (fun ls hl => ?_)
    have cut_4 : ∀ (n : Nat) (y_5 : Option Nat) (y_6 : Option Nat) (H : Heap) (locs : List Loc) (ls : Array Slot), (oR Z y_5 : Int) ≤ (n : Int) → (∀ b, y_5 = some b → oty Z b 3) → (∀ b, y_6 = some b → oty Z b 3) → lmI Z fa x1.toInt x2.toInt (if whO v fa a x1.toInt x2.toInt < 0 then none else some (whO v fa a x1.toInt x2.toInt).toNat) y_6 y_5 → va_P (dC, dI) vwCl (oW cq Z) H → va_S A s.heap H locs → lv_has ls 6 [(4, va_rf y_5), (3, va_rf y_6), (0, .ref o), (1, .int x1), (2, .int x2)] → W p l e (headSpec wsX1_lastMove { frames := 0, cells := 0, slots := 0, locals := 0 }).room s m #[Value.ref o, Value.int x1, Value.int x2] below meth c H locs 0 0 (MQ below (va_Qq (fun (r : Option Nat) (u : Unit) => (∀ b, r = some b → oty Z b 3) ∧ (lmR Z fa r (if whO v fa a x1.toInt x2.toInt < 0 then none else some (whO v fa a x1.toInt x2.toInt).toNat))) (fun _ _ => True) A) #[Value.ref o, Value.int x1, Value.int x2] s 0 0 A) (F0 m 8 ls []) := by
      intro n
      induction n using Nat.strongRecOn with
      | ind n ih =>
        intro y_5 y_6 H locs ls hm ty_5 ty_6 hq0_cut_4 hP hS hl
        rcases y_5 with _ | b_7
        · have hl : lv_has ls 6 [(4, .null), (3, va_rf y_6), (0, .ref o), (1, .int x1), (2, .int x2)] := hl
          rcases y_6 with _ | b_8
          · have hl : lv_has ls 6 [(4, .null), (3, .null), (0, .ref o), (1, .int x1), (2, .int x2)] := hl
            refine lv_aloadN hx hb dX1_lastMove_8 (lv_at hl 0 rfl) ?_
            refine lv_ifnullN (tgt := 81) hx hb dX1_lastMove_10 (by decide) ?_
            refine lv_aload_nN hx hb dX1_lastMove_81 rfl (lv_at hl 1 rfl) ?_
            exact W.aret (v := .null) hx hb hr (Or.inl ⟨_, rfl⟩) (Or.inl rfl) (fun t ht hW => ⟨⟨none, (), rfl, ⟨(fun b h => by cases h), (lm_n hq0_cut_4)⟩, trivial⟩, hS.F ht⟩) hS.2.2 dX1_lastMove_82
          · have hl : lv_has ls 6 [(4, .null), (3, .ref b_8), (0, .ref o), (1, .int x1), (2, .int x2)] := hl
            have tb_8 : oty Z b_8 3 := ty_6 b_8 rfl
            have rb_8 : oR Z (some b_8) = oG Z b_8 + 1 := rfl
            refine lv_aloadN hx hb dX1_lastMove_8 (lv_at hl 0 rfl) ?_
            refine lv_ifnullN (tgt := 81) hx hb dX1_lastMove_10 (by decide) ?_
            refine lv_aload_n hx hb dX1_lastMove_81 rfl (lv_at hl 1 rfl) ?_
            exact W.aret (v := .ref b_8) hx hb hr (Or.inl ⟨_, rfl⟩) (Or.inr ⟨_, rfl⟩) (fun t ht hW => ⟨⟨(some b_8), (), rfl, ⟨(fun b h => by cases h; exact tb_8), (lm_n hq0_cut_4)⟩, trivial⟩, hS.F ht⟩) hS.2.2 dX1_lastMove_82
        · have hl : lv_has ls 6 [(4, .ref b_7), (3, va_rf y_6), (0, .ref o), (1, .int x1), (2, .int x2)] := hl
          have tb_7 : oty Z b_7 3 := ty_5 b_7 rfl
          have rb_7 : oR Z (some b_7) = oG Z b_7 + 1 := rfl
          rcases y_6 with _ | b_9
          · have hl : lv_has ls 6 [(4, .ref b_7), (3, .null), (0, .ref o), (1, .int x1), (2, .int x2)] := hl
            refine lv_aload hx hb dX1_lastMove_8 (lv_at hl 0 rfl) ?_
            refine lv_ifnull hx hb dX1_lastMove_10 ?_
            refine lv_aload hx hb dX1_lastMove_13 (lv_at hl 0 rfl) ?_
            obtain ⟨q_10, hq_10⟩ := og (cq := cq) tb_7.1 (oE_3 tb_7.2)
            refine va_get (D := (dC, dI)) (ci := 3) (v := .int (oI Z b_7 0)) (C := RX3) (T := TX3) (N := 6) hx hb hts in_wsX1_lastMove_X3 hown hK hP q_10 hq_10 rfl 0 (by decide) (hts (.fieldLink RX1 64 "ShipOffice$Happening" "kind" "I") iw_X1_lastMove_2) (fun _ h9 => h9) rfl dX1_lastMove_15 ?_
            refine lv_topi (fun x_11 ex_11 => ?_)
            have gx_11 : x_11.toInt = (oI Z b_7 0).toInt := iv_to ex_11
            clear ex_11
            refine lv_iconst (v := 2) hx hb dX1_lastMove_18 (by decide) ?_
            refine lv_icmp_eq (tgt := 44) hx hb dX1_lastMove_19 (by decide) (fun c_12 => ?_) (fun c_12 => ?_)
            · have dc_12 := c_eq (a := x_11.toInt) (b := 2) rfl (by decide) c_12
              refine lv_iconst (v := 0) hx hb dX1_lastMove_44 (by decide) ?_
              refine lv_istore (lv' := [(5, .int 0), (4, .ref b_7), (3, .null), (0, .ref o), (1, .int x1), (2, .int x2)]) hx hb dX1_lastMove_45 hl (by decide) rfl (fun ls hl => ?_)
              refine lv_iload hx hb dX1_lastMove_47 (lv_at hl 0 rfl) ?_
              refine lv_if_eq (tgt := 71) hx hb dX1_lastMove_49 (by decide) (fun _ => ?_) (fun c_13 => absurd c_13 (by decide))
              refine lv_aload hx hb dX1_lastMove_71 (lv_at hl 1 rfl) ?_
              rcases hb_15 : oP Z b_7 5 with _ | b_14
              · refine va_get (D := (dC, dI)) (ci := 3) (v := .null) (C := RX3) (T := TX3) (N := 6) hx hb hts in_wsX1_lastMove_X3 hown hK hP q_10 hq_10 rfl 5 (by decide) (hts (.fieldLink RX1 97 "ShipOffice$Happening" "before" "LShipOffice$Happening;") iw_X1_lastMove_3) (fun _ h9 => h9) (o_rd hb_15) dX1_lastMove_73 ?_
                have r_16 : oR Z none = 0 := rfl
                refine lv_astoreN (lv' := [(4, .null), (5, .int 0), (3, .null), (0, .ref o), (1, .int x1), (2, .int x2)]) hx hb dX1_lastMove_76 hl (by decide) rfl (fun ls hl => ?_)
                refine lv_goto (tgt := 8) hx hb dX1_lastMove_78 (by decide) ?_
                exact ih (n - 1) (by omega) none none _ _ ls (by omega) (fun b h => by cases h) (fun b h => by cases h) (lm_f hq0_cut_4 hb_15 (Or.inl (by omega))) hP hS (lv_sub hl [0, 2, 3, 4, 5] rfl)
              · refine va_get (D := (dC, dI)) (ci := 3) (v := .ref b_14) (C := RX3) (T := TX3) (N := 6) hx hb hts in_wsX1_lastMove_X3 hown hK hP q_10 hq_10 rfl 5 (by decide) (hts (.fieldLink RX1 97 "ShipOffice$Happening" "before" "LShipOffice$Happening;") iw_X1_lastMove_3) (fun _ h9 => h9) (o_rd hb_15) dX1_lastMove_73 ?_
                have tb_14 : oty Z b_14 3 := oInv.rd gI tb_7.2 hb_15 rfl rfl
                have hGb_14 : oG Z b_14 < oG Z b_7 := gI.2.2.2.2.2.1 b_7 b_14 tb_7.2 hb_15
                have rb_14 : oR Z (some b_14) = oG Z b_14 + 1 := rfl
                refine lv_astore (lv' := [(4, .ref b_14), (5, .int 0), (3, .null), (0, .ref o), (1, .int x1), (2, .int x2)]) hx hb dX1_lastMove_76 hl (by decide) rfl (fun ls hl => ?_)
                refine lv_goto (tgt := 8) hx hb dX1_lastMove_78 (by decide) ?_
                exact ih (n - 1) (by omega) (some b_14) none _ _ ls (by omega) (fun b h => by cases h; exact tb_14) (fun b h => by cases h) (lm_f hq0_cut_4 hb_15 (Or.inl (by omega))) hP hS (lv_sub hl [0, 2, 3, 4, 5] rfl)
            · have dc_12 := c_ne (a := x_11.toInt) (b := 2) rfl (by decide) c_12
              refine lv_aload hx hb dX1_lastMove_22 (lv_at hl 0 rfl) ?_
              refine va_get (D := (dC, dI)) (ci := 3) (v := .int (oI Z b_7 2)) (C := RX3) (T := TX3) (N := 6) hx hb hts in_wsX1_lastMove_X3 hown hK hP q_10 hq_10 rfl 2 (by decide) (hts (.fieldLink RX1 91 "ShipOffice$Happening" "told" "I") iw_X1_lastMove_4) (fun _ h9 => h9) rfl dX1_lastMove_24 ?_
              refine lv_topi (fun x_17 ex_17 => ?_)
              have gx_17 : x_17.toInt = (oI Z b_7 2).toInt := iv_to ex_17
              clear ex_17
              refine lv_iload_n hx hb dX1_lastMove_27 rfl (lv_at hl 4 rfl) ?_
              refine lv_icmp_gt (tgt := 44) hx hb dX1_lastMove_28 (by decide) (fun c_18 => ?_) (fun c_18 => ?_)
              · have dc_18 := c_lt (a := x2.toInt) (b := x_17.toInt) rfl rfl c_18
                refine lv_iconst (v := 0) hx hb dX1_lastMove_44 (by decide) ?_
                refine lv_istore (lv' := [(5, .int 0), (4, .ref b_7), (3, .null), (0, .ref o), (1, .int x1), (2, .int x2)]) hx hb dX1_lastMove_45 hl (by decide) rfl (fun ls hl => ?_)
                refine lv_iload hx hb dX1_lastMove_47 (lv_at hl 0 rfl) ?_
                refine lv_if_eq (tgt := 71) hx hb dX1_lastMove_49 (by decide) (fun _ => ?_) (fun c_19 => absurd c_19 (by decide))
                refine lv_aload hx hb dX1_lastMove_71 (lv_at hl 1 rfl) ?_
                rcases hb_21 : oP Z b_7 5 with _ | b_20
                · refine va_get (D := (dC, dI)) (ci := 3) (v := .null) (C := RX3) (T := TX3) (N := 6) hx hb hts in_wsX1_lastMove_X3 hown hK hP q_10 hq_10 rfl 5 (by decide) (hts (.fieldLink RX1 97 "ShipOffice$Happening" "before" "LShipOffice$Happening;") iw_X1_lastMove_3) (fun _ h9 => h9) (o_rd hb_21) dX1_lastMove_73 ?_
                  have r_22 : oR Z none = 0 := rfl
                  refine lv_astoreN (lv' := [(4, .null), (5, .int 0), (3, .null), (0, .ref o), (1, .int x1), (2, .int x2)]) hx hb dX1_lastMove_76 hl (by decide) rfl (fun ls hl => ?_)
                  refine lv_goto (tgt := 8) hx hb dX1_lastMove_78 (by decide) ?_
                  exact ih (n - 1) (by omega) none none _ _ ls (by omega) (fun b h => by cases h) (fun b h => by cases h) (lm_f hq0_cut_4 hb_21 (Or.inl (by omega))) hP hS (lv_sub hl [0, 2, 3, 4, 5] rfl)
                · refine va_get (D := (dC, dI)) (ci := 3) (v := .ref b_20) (C := RX3) (T := TX3) (N := 6) hx hb hts in_wsX1_lastMove_X3 hown hK hP q_10 hq_10 rfl 5 (by decide) (hts (.fieldLink RX1 97 "ShipOffice$Happening" "before" "LShipOffice$Happening;") iw_X1_lastMove_3) (fun _ h9 => h9) (o_rd hb_21) dX1_lastMove_73 ?_
                  have tb_20 : oty Z b_20 3 := oInv.rd gI tb_7.2 hb_21 rfl rfl
                  have hGb_20 : oG Z b_20 < oG Z b_7 := gI.2.2.2.2.2.1 b_7 b_20 tb_7.2 hb_21
                  have rb_20 : oR Z (some b_20) = oG Z b_20 + 1 := rfl
                  refine lv_astore (lv' := [(4, .ref b_20), (5, .int 0), (3, .null), (0, .ref o), (1, .int x1), (2, .int x2)]) hx hb dX1_lastMove_76 hl (by decide) rfl (fun ls hl => ?_)
                  refine lv_goto (tgt := 8) hx hb dX1_lastMove_78 (by decide) ?_
                  exact ih (n - 1) (by omega) (some b_20) none _ _ ls (by omega) (fun b h => by cases h; exact tb_20) (fun b h => by cases h) (lm_f hq0_cut_4 hb_21 (Or.inl (by omega))) hP hS (lv_sub hl [0, 2, 3, 4, 5] rfl)
              · have dc_18 := c_nlt (a := x2.toInt) (b := x_17.toInt) rfl rfl c_18
                refine lv_aload hx hb dX1_lastMove_31 (lv_at hl 0 rfl) ?_
                refine va_get (D := (dC, dI)) (ci := 3) (v := .int (oI Z b_7 1)) (C := RX3) (T := TX3) (N := 6) hx hb hts in_wsX1_lastMove_X3 hown hK hP q_10 hq_10 rfl 1 (by decide) (hts (.fieldLink RX1 94 "ShipOffice$Happening" "day" "I") iw_X1_lastMove_5) (fun _ h9 => h9) rfl dX1_lastMove_33 ?_
                refine lv_topi (fun x_23 ex_23 => ?_)
                have gx_23 : x_23.toInt = (oI Z b_7 1).toInt := iv_to ex_23
                clear ex_23
                refine lv_iload_n hx hb dX1_lastMove_36 rfl (lv_at hl 3 rfl) ?_
                refine lv_icmp_gt (tgt := 44) hx hb dX1_lastMove_37 (by decide) (fun c_24 => ?_) (fun c_24 => ?_)
                · have dc_24 := c_lt (a := x1.toInt) (b := x_23.toInt) rfl rfl c_24
                  refine lv_iconst (v := 0) hx hb dX1_lastMove_44 (by decide) ?_
                  refine lv_istore (lv' := [(5, .int 0), (4, .ref b_7), (3, .null), (0, .ref o), (1, .int x1), (2, .int x2)]) hx hb dX1_lastMove_45 hl (by decide) rfl (fun ls hl => ?_)
                  refine lv_iload hx hb dX1_lastMove_47 (lv_at hl 0 rfl) ?_
                  refine lv_if_eq (tgt := 71) hx hb dX1_lastMove_49 (by decide) (fun _ => ?_) (fun c_25 => absurd c_25 (by decide))
                  refine lv_aload hx hb dX1_lastMove_71 (lv_at hl 1 rfl) ?_
                  rcases hb_27 : oP Z b_7 5 with _ | b_26
                  · refine va_get (D := (dC, dI)) (ci := 3) (v := .null) (C := RX3) (T := TX3) (N := 6) hx hb hts in_wsX1_lastMove_X3 hown hK hP q_10 hq_10 rfl 5 (by decide) (hts (.fieldLink RX1 97 "ShipOffice$Happening" "before" "LShipOffice$Happening;") iw_X1_lastMove_3) (fun _ h9 => h9) (o_rd hb_27) dX1_lastMove_73 ?_
                    have r_28 : oR Z none = 0 := rfl
                    refine lv_astoreN (lv' := [(4, .null), (5, .int 0), (3, .null), (0, .ref o), (1, .int x1), (2, .int x2)]) hx hb dX1_lastMove_76 hl (by decide) rfl (fun ls hl => ?_)
                    refine lv_goto (tgt := 8) hx hb dX1_lastMove_78 (by decide) ?_
                    exact ih (n - 1) (by omega) none none _ _ ls (by omega) (fun b h => by cases h) (fun b h => by cases h) (lm_f hq0_cut_4 hb_27 (Or.inl (by omega))) hP hS (lv_sub hl [0, 2, 3, 4, 5] rfl)
                  · refine va_get (D := (dC, dI)) (ci := 3) (v := .ref b_26) (C := RX3) (T := TX3) (N := 6) hx hb hts in_wsX1_lastMove_X3 hown hK hP q_10 hq_10 rfl 5 (by decide) (hts (.fieldLink RX1 97 "ShipOffice$Happening" "before" "LShipOffice$Happening;") iw_X1_lastMove_3) (fun _ h9 => h9) (o_rd hb_27) dX1_lastMove_73 ?_
                    have tb_26 : oty Z b_26 3 := oInv.rd gI tb_7.2 hb_27 rfl rfl
                    have hGb_26 : oG Z b_26 < oG Z b_7 := gI.2.2.2.2.2.1 b_7 b_26 tb_7.2 hb_27
                    have rb_26 : oR Z (some b_26) = oG Z b_26 + 1 := rfl
                    refine lv_astore (lv' := [(4, .ref b_26), (5, .int 0), (3, .null), (0, .ref o), (1, .int x1), (2, .int x2)]) hx hb dX1_lastMove_76 hl (by decide) rfl (fun ls hl => ?_)
                    refine lv_goto (tgt := 8) hx hb dX1_lastMove_78 (by decide) ?_
                    exact ih (n - 1) (by omega) (some b_26) none _ _ ls (by omega) (fun b h => by cases h; exact tb_26) (fun b h => by cases h) (lm_f hq0_cut_4 hb_27 (Or.inl (by omega))) hP hS (lv_sub hl [0, 2, 3, 4, 5] rfl)
                · have dc_24 := c_nlt (a := x1.toInt) (b := x_23.toInt) rfl rfl c_24
                  refine lv_iconst (v := 1) hx hb dX1_lastMove_40 (by decide) ?_
                  refine lv_goto (tgt := 45) hx hb dX1_lastMove_41 (by decide) ?_
                  refine lv_istore (lv' := [(5, .int 1), (4, .ref b_7), (3, .null), (0, .ref o), (1, .int x1), (2, .int x2)]) hx hb dX1_lastMove_45 hl (by decide) rfl (fun ls hl => ?_)
                  refine lv_iload hx hb dX1_lastMove_47 (lv_at hl 0 rfl) ?_
                  refine lv_if_eq (tgt := 71) hx hb dX1_lastMove_49 (by decide) (fun c_29 => absurd c_29 (by decide)) (fun _ => ?_)
                  refine lv_aload_nN hx hb dX1_lastMove_52 rfl (lv_at hl 2 rfl) ?_
                  refine lv_ifnullN (tgt := 68) hx hb dX1_lastMove_53 (by decide) ?_
                  refine lv_aload hx hb dX1_lastMove_68 (lv_at hl 1 rfl) ?_
                  refine lv_astore_n (lv' := [(3, .ref b_7), (5, .int 1), (4, .ref b_7), (0, .ref o), (1, .int x1), (2, .int x2)]) hx hb dX1_lastMove_70 rfl hl (by decide) rfl (fun ls hl => ?_)
                  refine lv_aload hx hb dX1_lastMove_71 (lv_at hl 2 rfl) ?_
                  rcases hb_31 : oP Z b_7 5 with _ | b_30
                  · refine va_get (D := (dC, dI)) (ci := 3) (v := .null) (C := RX3) (T := TX3) (N := 6) hx hb hts in_wsX1_lastMove_X3 hown hK hP q_10 hq_10 rfl 5 (by decide) (hts (.fieldLink RX1 97 "ShipOffice$Happening" "before" "LShipOffice$Happening;") iw_X1_lastMove_3) (fun _ h9 => h9) (o_rd hb_31) dX1_lastMove_73 ?_
                    have r_32 : oR Z none = 0 := rfl
                    refine lv_astoreN (lv' := [(4, .null), (3, .ref b_7), (5, .int 1), (0, .ref o), (1, .int x1), (2, .int x2)]) hx hb dX1_lastMove_76 hl (by decide) rfl (fun ls hl => ?_)
                    refine lv_goto (tgt := 8) hx hb dX1_lastMove_78 (by decide) ?_
                    exact ih (n - 1) (by omega) none (some b_7) _ _ ls (by omega) (fun b h => by cases h) (fun b h => by cases h; exact tb_7) (lm_t hq0_cut_4 hb_31 (by omega) (fun p hp => by cases hp)) hP hS (lv_sub hl [0, 1, 3, 4, 5] rfl)
                  · refine va_get (D := (dC, dI)) (ci := 3) (v := .ref b_30) (C := RX3) (T := TX3) (N := 6) hx hb hts in_wsX1_lastMove_X3 hown hK hP q_10 hq_10 rfl 5 (by decide) (hts (.fieldLink RX1 97 "ShipOffice$Happening" "before" "LShipOffice$Happening;") iw_X1_lastMove_3) (fun _ h9 => h9) (o_rd hb_31) dX1_lastMove_73 ?_
                    have tb_30 : oty Z b_30 3 := oInv.rd gI tb_7.2 hb_31 rfl rfl
                    have hGb_30 : oG Z b_30 < oG Z b_7 := gI.2.2.2.2.2.1 b_7 b_30 tb_7.2 hb_31
                    have rb_30 : oR Z (some b_30) = oG Z b_30 + 1 := rfl
                    refine lv_astore (lv' := [(4, .ref b_30), (3, .ref b_7), (5, .int 1), (0, .ref o), (1, .int x1), (2, .int x2)]) hx hb dX1_lastMove_76 hl (by decide) rfl (fun ls hl => ?_)
                    refine lv_goto (tgt := 8) hx hb dX1_lastMove_78 (by decide) ?_
                    exact ih (n - 1) (by omega) (some b_30) (some b_7) _ _ ls (by omega) (fun b h => by cases h; exact tb_30) (fun b h => by cases h; exact tb_7) (lm_t hq0_cut_4 hb_31 (by omega) (fun p hp => by cases hp)) hP hS (lv_sub hl [0, 1, 3, 4, 5] rfl)
          · have hl : lv_has ls 6 [(4, .ref b_7), (3, .ref b_9), (0, .ref o), (1, .int x1), (2, .int x2)] := hl
            have tb_9 : oty Z b_9 3 := ty_6 b_9 rfl
            have rb_9 : oR Z (some b_9) = oG Z b_9 + 1 := rfl
            refine lv_aload hx hb dX1_lastMove_8 (lv_at hl 0 rfl) ?_
            refine lv_ifnull hx hb dX1_lastMove_10 ?_
            refine lv_aload hx hb dX1_lastMove_13 (lv_at hl 0 rfl) ?_
            obtain ⟨q_33, hq_33⟩ := og (cq := cq) tb_7.1 (oE_3 tb_7.2)
            refine va_get (D := (dC, dI)) (ci := 3) (v := .int (oI Z b_7 0)) (C := RX3) (T := TX3) (N := 6) hx hb hts in_wsX1_lastMove_X3 hown hK hP q_33 hq_33 rfl 0 (by decide) (hts (.fieldLink RX1 64 "ShipOffice$Happening" "kind" "I") iw_X1_lastMove_2) (fun _ h9 => h9) rfl dX1_lastMove_15 ?_
            refine lv_topi (fun x_34 ex_34 => ?_)
            have gx_34 : x_34.toInt = (oI Z b_7 0).toInt := iv_to ex_34
            clear ex_34
            refine lv_iconst (v := 2) hx hb dX1_lastMove_18 (by decide) ?_
            refine lv_icmp_eq (tgt := 44) hx hb dX1_lastMove_19 (by decide) (fun c_35 => ?_) (fun c_35 => ?_)
            · have dc_35 := c_eq (a := x_34.toInt) (b := 2) rfl (by decide) c_35
              refine lv_iconst (v := 0) hx hb dX1_lastMove_44 (by decide) ?_
              refine lv_istore (lv' := [(5, .int 0), (4, .ref b_7), (3, .ref b_9), (0, .ref o), (1, .int x1), (2, .int x2)]) hx hb dX1_lastMove_45 hl (by decide) rfl (fun ls hl => ?_)
              refine lv_iload hx hb dX1_lastMove_47 (lv_at hl 0 rfl) ?_
              refine lv_if_eq (tgt := 71) hx hb dX1_lastMove_49 (by decide) (fun _ => ?_) (fun c_36 => absurd c_36 (by decide))
              refine lv_aload hx hb dX1_lastMove_71 (lv_at hl 1 rfl) ?_
              rcases hb_38 : oP Z b_7 5 with _ | b_37
              · refine va_get (D := (dC, dI)) (ci := 3) (v := .null) (C := RX3) (T := TX3) (N := 6) hx hb hts in_wsX1_lastMove_X3 hown hK hP q_33 hq_33 rfl 5 (by decide) (hts (.fieldLink RX1 97 "ShipOffice$Happening" "before" "LShipOffice$Happening;") iw_X1_lastMove_3) (fun _ h9 => h9) (o_rd hb_38) dX1_lastMove_73 ?_
                have r_39 : oR Z none = 0 := rfl
                refine lv_astoreN (lv' := [(4, .null), (5, .int 0), (3, .ref b_9), (0, .ref o), (1, .int x1), (2, .int x2)]) hx hb dX1_lastMove_76 hl (by decide) rfl (fun ls hl => ?_)
                refine lv_goto (tgt := 8) hx hb dX1_lastMove_78 (by decide) ?_
                exact ih (n - 1) (by omega) none (some b_9) _ _ ls (by omega) (fun b h => by cases h) (fun b h => by cases h; exact tb_9) (lm_f hq0_cut_4 hb_38 (by first | exact Or.inl (by omega) | exact Or.inr ⟨_, rfl, by omega⟩)) hP hS (lv_sub hl [0, 2, 3, 4, 5] rfl)
              · refine va_get (D := (dC, dI)) (ci := 3) (v := .ref b_37) (C := RX3) (T := TX3) (N := 6) hx hb hts in_wsX1_lastMove_X3 hown hK hP q_33 hq_33 rfl 5 (by decide) (hts (.fieldLink RX1 97 "ShipOffice$Happening" "before" "LShipOffice$Happening;") iw_X1_lastMove_3) (fun _ h9 => h9) (o_rd hb_38) dX1_lastMove_73 ?_
                have tb_37 : oty Z b_37 3 := oInv.rd gI tb_7.2 hb_38 rfl rfl
                have hGb_37 : oG Z b_37 < oG Z b_7 := gI.2.2.2.2.2.1 b_7 b_37 tb_7.2 hb_38
                have rb_37 : oR Z (some b_37) = oG Z b_37 + 1 := rfl
                refine lv_astore (lv' := [(4, .ref b_37), (5, .int 0), (3, .ref b_9), (0, .ref o), (1, .int x1), (2, .int x2)]) hx hb dX1_lastMove_76 hl (by decide) rfl (fun ls hl => ?_)
                refine lv_goto (tgt := 8) hx hb dX1_lastMove_78 (by decide) ?_
                exact ih (n - 1) (by omega) (some b_37) (some b_9) _ _ ls (by omega) (fun b h => by cases h; exact tb_37) (fun b h => by cases h; exact tb_9) (lm_f hq0_cut_4 hb_38 (by first | exact Or.inl (by omega) | exact Or.inr ⟨_, rfl, by omega⟩)) hP hS (lv_sub hl [0, 2, 3, 4, 5] rfl)
            · have dc_35 := c_ne (a := x_34.toInt) (b := 2) rfl (by decide) c_35
              refine lv_aload hx hb dX1_lastMove_22 (lv_at hl 0 rfl) ?_
              refine va_get (D := (dC, dI)) (ci := 3) (v := .int (oI Z b_7 2)) (C := RX3) (T := TX3) (N := 6) hx hb hts in_wsX1_lastMove_X3 hown hK hP q_33 hq_33 rfl 2 (by decide) (hts (.fieldLink RX1 91 "ShipOffice$Happening" "told" "I") iw_X1_lastMove_4) (fun _ h9 => h9) rfl dX1_lastMove_24 ?_
              refine lv_topi (fun x_40 ex_40 => ?_)
              have gx_40 : x_40.toInt = (oI Z b_7 2).toInt := iv_to ex_40
              clear ex_40
              refine lv_iload_n hx hb dX1_lastMove_27 rfl (lv_at hl 4 rfl) ?_
              refine lv_icmp_gt (tgt := 44) hx hb dX1_lastMove_28 (by decide) (fun c_41 => ?_) (fun c_41 => ?_)
              · have dc_41 := c_lt (a := x2.toInt) (b := x_40.toInt) rfl rfl c_41
                refine lv_iconst (v := 0) hx hb dX1_lastMove_44 (by decide) ?_
                refine lv_istore (lv' := [(5, .int 0), (4, .ref b_7), (3, .ref b_9), (0, .ref o), (1, .int x1), (2, .int x2)]) hx hb dX1_lastMove_45 hl (by decide) rfl (fun ls hl => ?_)
                refine lv_iload hx hb dX1_lastMove_47 (lv_at hl 0 rfl) ?_
                refine lv_if_eq (tgt := 71) hx hb dX1_lastMove_49 (by decide) (fun _ => ?_) (fun c_42 => absurd c_42 (by decide))
                refine lv_aload hx hb dX1_lastMove_71 (lv_at hl 1 rfl) ?_
                rcases hb_44 : oP Z b_7 5 with _ | b_43
                · refine va_get (D := (dC, dI)) (ci := 3) (v := .null) (C := RX3) (T := TX3) (N := 6) hx hb hts in_wsX1_lastMove_X3 hown hK hP q_33 hq_33 rfl 5 (by decide) (hts (.fieldLink RX1 97 "ShipOffice$Happening" "before" "LShipOffice$Happening;") iw_X1_lastMove_3) (fun _ h9 => h9) (o_rd hb_44) dX1_lastMove_73 ?_
                  have r_45 : oR Z none = 0 := rfl
                  refine lv_astoreN (lv' := [(4, .null), (5, .int 0), (3, .ref b_9), (0, .ref o), (1, .int x1), (2, .int x2)]) hx hb dX1_lastMove_76 hl (by decide) rfl (fun ls hl => ?_)
                  refine lv_goto (tgt := 8) hx hb dX1_lastMove_78 (by decide) ?_
                  exact ih (n - 1) (by omega) none (some b_9) _ _ ls (by omega) (fun b h => by cases h) (fun b h => by cases h; exact tb_9) (lm_f hq0_cut_4 hb_44 (by first | exact Or.inl (by omega) | exact Or.inr ⟨_, rfl, by omega⟩)) hP hS (lv_sub hl [0, 2, 3, 4, 5] rfl)
                · refine va_get (D := (dC, dI)) (ci := 3) (v := .ref b_43) (C := RX3) (T := TX3) (N := 6) hx hb hts in_wsX1_lastMove_X3 hown hK hP q_33 hq_33 rfl 5 (by decide) (hts (.fieldLink RX1 97 "ShipOffice$Happening" "before" "LShipOffice$Happening;") iw_X1_lastMove_3) (fun _ h9 => h9) (o_rd hb_44) dX1_lastMove_73 ?_
                  have tb_43 : oty Z b_43 3 := oInv.rd gI tb_7.2 hb_44 rfl rfl
                  have hGb_43 : oG Z b_43 < oG Z b_7 := gI.2.2.2.2.2.1 b_7 b_43 tb_7.2 hb_44
                  have rb_43 : oR Z (some b_43) = oG Z b_43 + 1 := rfl
                  refine lv_astore (lv' := [(4, .ref b_43), (5, .int 0), (3, .ref b_9), (0, .ref o), (1, .int x1), (2, .int x2)]) hx hb dX1_lastMove_76 hl (by decide) rfl (fun ls hl => ?_)
                  refine lv_goto (tgt := 8) hx hb dX1_lastMove_78 (by decide) ?_
                  exact ih (n - 1) (by omega) (some b_43) (some b_9) _ _ ls (by omega) (fun b h => by cases h; exact tb_43) (fun b h => by cases h; exact tb_9) (lm_f hq0_cut_4 hb_44 (by first | exact Or.inl (by omega) | exact Or.inr ⟨_, rfl, by omega⟩)) hP hS (lv_sub hl [0, 2, 3, 4, 5] rfl)
              · have dc_41 := c_nlt (a := x2.toInt) (b := x_40.toInt) rfl rfl c_41
                refine lv_aload hx hb dX1_lastMove_31 (lv_at hl 0 rfl) ?_
                refine va_get (D := (dC, dI)) (ci := 3) (v := .int (oI Z b_7 1)) (C := RX3) (T := TX3) (N := 6) hx hb hts in_wsX1_lastMove_X3 hown hK hP q_33 hq_33 rfl 1 (by decide) (hts (.fieldLink RX1 94 "ShipOffice$Happening" "day" "I") iw_X1_lastMove_5) (fun _ h9 => h9) rfl dX1_lastMove_33 ?_
                refine lv_topi (fun x_46 ex_46 => ?_)
                have gx_46 : x_46.toInt = (oI Z b_7 1).toInt := iv_to ex_46
                clear ex_46
                refine lv_iload_n hx hb dX1_lastMove_36 rfl (lv_at hl 3 rfl) ?_
                refine lv_icmp_gt (tgt := 44) hx hb dX1_lastMove_37 (by decide) (fun c_47 => ?_) (fun c_47 => ?_)
                · have dc_47 := c_lt (a := x1.toInt) (b := x_46.toInt) rfl rfl c_47
                  refine lv_iconst (v := 0) hx hb dX1_lastMove_44 (by decide) ?_
                  refine lv_istore (lv' := [(5, .int 0), (4, .ref b_7), (3, .ref b_9), (0, .ref o), (1, .int x1), (2, .int x2)]) hx hb dX1_lastMove_45 hl (by decide) rfl (fun ls hl => ?_)
                  refine lv_iload hx hb dX1_lastMove_47 (lv_at hl 0 rfl) ?_
                  refine lv_if_eq (tgt := 71) hx hb dX1_lastMove_49 (by decide) (fun _ => ?_) (fun c_48 => absurd c_48 (by decide))
                  refine lv_aload hx hb dX1_lastMove_71 (lv_at hl 1 rfl) ?_
                  rcases hb_50 : oP Z b_7 5 with _ | b_49
                  · refine va_get (D := (dC, dI)) (ci := 3) (v := .null) (C := RX3) (T := TX3) (N := 6) hx hb hts in_wsX1_lastMove_X3 hown hK hP q_33 hq_33 rfl 5 (by decide) (hts (.fieldLink RX1 97 "ShipOffice$Happening" "before" "LShipOffice$Happening;") iw_X1_lastMove_3) (fun _ h9 => h9) (o_rd hb_50) dX1_lastMove_73 ?_
                    have r_51 : oR Z none = 0 := rfl
                    refine lv_astoreN (lv' := [(4, .null), (5, .int 0), (3, .ref b_9), (0, .ref o), (1, .int x1), (2, .int x2)]) hx hb dX1_lastMove_76 hl (by decide) rfl (fun ls hl => ?_)
                    refine lv_goto (tgt := 8) hx hb dX1_lastMove_78 (by decide) ?_
                    exact ih (n - 1) (by omega) none (some b_9) _ _ ls (by omega) (fun b h => by cases h) (fun b h => by cases h; exact tb_9) (lm_f hq0_cut_4 hb_50 (by first | exact Or.inl (by omega) | exact Or.inr ⟨_, rfl, by omega⟩)) hP hS (lv_sub hl [0, 2, 3, 4, 5] rfl)
                  · refine va_get (D := (dC, dI)) (ci := 3) (v := .ref b_49) (C := RX3) (T := TX3) (N := 6) hx hb hts in_wsX1_lastMove_X3 hown hK hP q_33 hq_33 rfl 5 (by decide) (hts (.fieldLink RX1 97 "ShipOffice$Happening" "before" "LShipOffice$Happening;") iw_X1_lastMove_3) (fun _ h9 => h9) (o_rd hb_50) dX1_lastMove_73 ?_
                    have tb_49 : oty Z b_49 3 := oInv.rd gI tb_7.2 hb_50 rfl rfl
                    have hGb_49 : oG Z b_49 < oG Z b_7 := gI.2.2.2.2.2.1 b_7 b_49 tb_7.2 hb_50
                    have rb_49 : oR Z (some b_49) = oG Z b_49 + 1 := rfl
                    refine lv_astore (lv' := [(4, .ref b_49), (5, .int 0), (3, .ref b_9), (0, .ref o), (1, .int x1), (2, .int x2)]) hx hb dX1_lastMove_76 hl (by decide) rfl (fun ls hl => ?_)
                    refine lv_goto (tgt := 8) hx hb dX1_lastMove_78 (by decide) ?_
                    exact ih (n - 1) (by omega) (some b_49) (some b_9) _ _ ls (by omega) (fun b h => by cases h; exact tb_49) (fun b h => by cases h; exact tb_9) (lm_f hq0_cut_4 hb_50 (by first | exact Or.inl (by omega) | exact Or.inr ⟨_, rfl, by omega⟩)) hP hS (lv_sub hl [0, 2, 3, 4, 5] rfl)
                · have dc_47 := c_nlt (a := x1.toInt) (b := x_46.toInt) rfl rfl c_47
                  refine lv_iconst (v := 1) hx hb dX1_lastMove_40 (by decide) ?_
                  refine lv_goto (tgt := 45) hx hb dX1_lastMove_41 (by decide) ?_
                  refine lv_istore (lv' := [(5, .int 1), (4, .ref b_7), (3, .ref b_9), (0, .ref o), (1, .int x1), (2, .int x2)]) hx hb dX1_lastMove_45 hl (by decide) rfl (fun ls hl => ?_)
                  refine lv_iload hx hb dX1_lastMove_47 (lv_at hl 0 rfl) ?_
                  refine lv_if_eq (tgt := 71) hx hb dX1_lastMove_49 (by decide) (fun c_52 => absurd c_52 (by decide)) (fun _ => ?_)
                  refine lv_aload_n hx hb dX1_lastMove_52 rfl (lv_at hl 2 rfl) ?_
                  refine lv_ifnull hx hb dX1_lastMove_53 ?_
                  refine lv_aload hx hb dX1_lastMove_56 (lv_at hl 1 rfl) ?_
                  refine va_get (D := (dC, dI)) (ci := 3) (v := .int (oI Z b_7 1)) (C := RX3) (T := TX3) (N := 6) hx hb hts in_wsX1_lastMove_X3 hown hK hP q_33 hq_33 rfl 1 (by decide) (hts (.fieldLink RX1 94 "ShipOffice$Happening" "day" "I") iw_X1_lastMove_5) (fun _ h9 => h9) rfl dX1_lastMove_58 ?_
                  refine lv_topi (fun x_53 ex_53 => ?_)
                  have gx_53 : x_53.toInt = (oI Z b_7 1).toInt := iv_to ex_53
                  clear ex_53
                  refine lv_aload_n hx hb dX1_lastMove_61 rfl (lv_at hl 2 rfl) ?_
                  obtain ⟨q_54, hq_54⟩ := og (cq := cq) tb_9.1 (oE_3 tb_9.2)
                  refine va_get (D := (dC, dI)) (ci := 3) (v := .int (oI Z b_9 1)) (C := RX3) (T := TX3) (N := 6) hx hb hts in_wsX1_lastMove_X3 hown hK hP q_54 hq_54 rfl 1 (by decide) (hts (.fieldLink RX1 94 "ShipOffice$Happening" "day" "I") iw_X1_lastMove_5) (fun _ h9 => h9) rfl dX1_lastMove_62 ?_
                  refine lv_topi (fun x_55 ex_55 => ?_)
                  have gx_55 : x_55.toInt = (oI Z b_9 1).toInt := iv_to ex_55
                  clear ex_55
                  refine lv_icmp_le (tgt := 71) hx hb dX1_lastMove_65 (by decide) (fun c_56 => ?_) (fun c_56 => ?_)
                  · have dc_56 := c_le (a := x_53.toInt) (b := x_55.toInt) rfl rfl c_56
                    refine lv_aload hx hb dX1_lastMove_71 (lv_at hl 1 rfl) ?_
                    rcases hb_58 : oP Z b_7 5 with _ | b_57
                    · refine va_get (D := (dC, dI)) (ci := 3) (v := .null) (C := RX3) (T := TX3) (N := 6) hx hb hts in_wsX1_lastMove_X3 hown hK hP q_33 hq_33 rfl 5 (by decide) (hts (.fieldLink RX1 97 "ShipOffice$Happening" "before" "LShipOffice$Happening;") iw_X1_lastMove_3) (fun _ h9 => h9) (o_rd hb_58) dX1_lastMove_73 ?_
                      have r_59 : oR Z none = 0 := rfl
                      refine lv_astoreN (lv' := [(4, .null), (5, .int 1), (3, .ref b_9), (0, .ref o), (1, .int x1), (2, .int x2)]) hx hb dX1_lastMove_76 hl (by decide) rfl (fun ls hl => ?_)
                      refine lv_goto (tgt := 8) hx hb dX1_lastMove_78 (by decide) ?_
                      exact ih (n - 1) (by omega) none (some b_9) _ _ ls (by omega) (fun b h => by cases h) (fun b h => by cases h; exact tb_9) (lm_f hq0_cut_4 hb_58 (by first | exact Or.inl (by omega) | exact Or.inr ⟨_, rfl, by omega⟩)) hP hS (lv_sub hl [0, 2, 3, 4, 5] rfl)
                    · refine va_get (D := (dC, dI)) (ci := 3) (v := .ref b_57) (C := RX3) (T := TX3) (N := 6) hx hb hts in_wsX1_lastMove_X3 hown hK hP q_33 hq_33 rfl 5 (by decide) (hts (.fieldLink RX1 97 "ShipOffice$Happening" "before" "LShipOffice$Happening;") iw_X1_lastMove_3) (fun _ h9 => h9) (o_rd hb_58) dX1_lastMove_73 ?_
                      have tb_57 : oty Z b_57 3 := oInv.rd gI tb_7.2 hb_58 rfl rfl
                      have hGb_57 : oG Z b_57 < oG Z b_7 := gI.2.2.2.2.2.1 b_7 b_57 tb_7.2 hb_58
                      have rb_57 : oR Z (some b_57) = oG Z b_57 + 1 := rfl
                      refine lv_astore (lv' := [(4, .ref b_57), (5, .int 1), (3, .ref b_9), (0, .ref o), (1, .int x1), (2, .int x2)]) hx hb dX1_lastMove_76 hl (by decide) rfl (fun ls hl => ?_)
                      refine lv_goto (tgt := 8) hx hb dX1_lastMove_78 (by decide) ?_
                      exact ih (n - 1) (by omega) (some b_57) (some b_9) _ _ ls (by omega) (fun b h => by cases h; exact tb_57) (fun b h => by cases h; exact tb_9) (lm_f hq0_cut_4 hb_58 (by first | exact Or.inl (by omega) | exact Or.inr ⟨_, rfl, by omega⟩)) hP hS (lv_sub hl [0, 2, 3, 4, 5] rfl)
                  · have dc_56 := c_nle (a := x_53.toInt) (b := x_55.toInt) rfl rfl c_56
                    refine lv_aload hx hb dX1_lastMove_68 (lv_at hl 1 rfl) ?_
                    refine lv_astore_n (lv' := [(3, .ref b_7), (5, .int 1), (4, .ref b_7), (0, .ref o), (1, .int x1), (2, .int x2)]) hx hb dX1_lastMove_70 rfl hl (by decide) rfl (fun ls hl => ?_)
                    refine lv_aload hx hb dX1_lastMove_71 (lv_at hl 2 rfl) ?_
                    rcases hb_61 : oP Z b_7 5 with _ | b_60
                    · refine va_get (D := (dC, dI)) (ci := 3) (v := .null) (C := RX3) (T := TX3) (N := 6) hx hb hts in_wsX1_lastMove_X3 hown hK hP q_33 hq_33 rfl 5 (by decide) (hts (.fieldLink RX1 97 "ShipOffice$Happening" "before" "LShipOffice$Happening;") iw_X1_lastMove_3) (fun _ h9 => h9) (o_rd hb_61) dX1_lastMove_73 ?_
                      have r_62 : oR Z none = 0 := rfl
                      refine lv_astoreN (lv' := [(4, .null), (3, .ref b_7), (5, .int 1), (0, .ref o), (1, .int x1), (2, .int x2)]) hx hb dX1_lastMove_76 hl (by decide) rfl (fun ls hl => ?_)
                      refine lv_goto (tgt := 8) hx hb dX1_lastMove_78 (by decide) ?_
                      exact ih (n - 1) (by omega) none (some b_7) _ _ ls (by omega) (fun b h => by cases h) (fun b h => by cases h; exact tb_7) (lm_t hq0_cut_4 hb_61 (by omega) (fun p hp => by cases hp; omega)) hP hS (lv_sub hl [0, 1, 3, 4, 5] rfl)
                    · refine va_get (D := (dC, dI)) (ci := 3) (v := .ref b_60) (C := RX3) (T := TX3) (N := 6) hx hb hts in_wsX1_lastMove_X3 hown hK hP q_33 hq_33 rfl 5 (by decide) (hts (.fieldLink RX1 97 "ShipOffice$Happening" "before" "LShipOffice$Happening;") iw_X1_lastMove_3) (fun _ h9 => h9) (o_rd hb_61) dX1_lastMove_73 ?_
                      have tb_60 : oty Z b_60 3 := oInv.rd gI tb_7.2 hb_61 rfl rfl
                      have hGb_60 : oG Z b_60 < oG Z b_7 := gI.2.2.2.2.2.1 b_7 b_60 tb_7.2 hb_61
                      have rb_60 : oR Z (some b_60) = oG Z b_60 + 1 := rfl
                      refine lv_astore (lv' := [(4, .ref b_60), (3, .ref b_7), (5, .int 1), (0, .ref o), (1, .int x1), (2, .int x2)]) hx hb dX1_lastMove_76 hl (by decide) rfl (fun ls hl => ?_)
                      refine lv_goto (tgt := 8) hx hb dX1_lastMove_78 (by decide) ?_
                      exact ih (n - 1) (by omega) (some b_60) (some b_7) _ _ ls (by omega) (fun b h => by cases h; exact tb_60) (fun b h => by cases h; exact tb_7) (lm_t hq0_cut_4 hb_61 (by omega) (fun p hp => by cases hp; omega)) hP hS (lv_sub hl [0, 1, 3, 4, 5] rfl)
    exact cut_4 (oR Z none) none none _ _ ls (by omega) (fun b h => by cases h) (fun b h => by cases h) (lm_init fcho hb_3) hP hS (lv_sub hl [0, 1, 2, 3, 4] rfl)
  · refine va_get (D := (dC, dI)) (ci := 1) (v := .ref b_2) (C := RX1) (T := TX1) (N := 18) hx hb hts in_wsX1_lastMove_X1 hown hK hP q_1 hq_1 rfl 8 (by decide) (hts (.fieldLink RX1 87 "ShipOffice$Agreement" "tidings" "LShipOffice$Happening;") iw_X1_lastMove_1) (fun _ h9 => h9) (o_rd hb_3) dX1_lastMove_3 ?_
    have tb_2 : oty Z b_2 3 := oInv.rd gI to.2 hb_3 rfl rfl
    refine lv_astore (lv' := [(4, .ref b_2), (3, .null), (0, .ref o), (1, .int x1), (2, .int x2)]) hx hb dX1_lastMove_6 hl (by decide) rfl (fun ls hl => ?_)
    have cut_63 : ∀ (n : Nat) (y_64 : Option Nat) (y_65 : Option Nat) (H : Heap) (locs : List Loc) (ls : Array Slot), (oR Z y_64 : Int) ≤ (n : Int) → (∀ b, y_64 = some b → oty Z b 3) → (∀ b, y_65 = some b → oty Z b 3) → lmI Z fa x1.toInt x2.toInt (if whO v fa a x1.toInt x2.toInt < 0 then none else some (whO v fa a x1.toInt x2.toInt).toNat) y_65 y_64 → va_P (dC, dI) vwCl (oW cq Z) H → va_S A s.heap H locs → lv_has ls 6 [(4, va_rf y_64), (3, va_rf y_65), (0, .ref o), (1, .int x1), (2, .int x2)] → W p l e (headSpec wsX1_lastMove { frames := 0, cells := 0, slots := 0, locals := 0 }).room s m #[Value.ref o, Value.int x1, Value.int x2] below meth c H locs 0 0 (MQ below (va_Qq (fun (r : Option Nat) (u : Unit) => (∀ b, r = some b → oty Z b 3) ∧ (lmR Z fa r (if whO v fa a x1.toInt x2.toInt < 0 then none else some (whO v fa a x1.toInt x2.toInt).toNat))) (fun _ _ => True) A) #[Value.ref o, Value.int x1, Value.int x2] s 0 0 A) (F0 m 8 ls []) := by
      intro n
      induction n using Nat.strongRecOn with
      | ind n ih =>
        intro y_64 y_65 H locs ls hm ty_64 ty_65 hq0_cut_63 hP hS hl
        rcases y_64 with _ | b_66
        · have hl : lv_has ls 6 [(4, .null), (3, va_rf y_65), (0, .ref o), (1, .int x1), (2, .int x2)] := hl
          rcases y_65 with _ | b_67
          · have hl : lv_has ls 6 [(4, .null), (3, .null), (0, .ref o), (1, .int x1), (2, .int x2)] := hl
            refine lv_aloadN hx hb dX1_lastMove_8 (lv_at hl 0 rfl) ?_
            refine lv_ifnullN (tgt := 81) hx hb dX1_lastMove_10 (by decide) ?_
            refine lv_aload_nN hx hb dX1_lastMove_81 rfl (lv_at hl 1 rfl) ?_
            exact W.aret (v := .null) hx hb hr (Or.inl ⟨_, rfl⟩) (Or.inl rfl) (fun t ht hW => ⟨⟨none, (), rfl, ⟨(fun b h => by cases h), (lm_n hq0_cut_63)⟩, trivial⟩, hS.F ht⟩) hS.2.2 dX1_lastMove_82
          · have hl : lv_has ls 6 [(4, .null), (3, .ref b_67), (0, .ref o), (1, .int x1), (2, .int x2)] := hl
            have tb_67 : oty Z b_67 3 := ty_65 b_67 rfl
            have rb_67 : oR Z (some b_67) = oG Z b_67 + 1 := rfl
            refine lv_aloadN hx hb dX1_lastMove_8 (lv_at hl 0 rfl) ?_
            refine lv_ifnullN (tgt := 81) hx hb dX1_lastMove_10 (by decide) ?_
            refine lv_aload_n hx hb dX1_lastMove_81 rfl (lv_at hl 1 rfl) ?_
            exact W.aret (v := .ref b_67) hx hb hr (Or.inl ⟨_, rfl⟩) (Or.inr ⟨_, rfl⟩) (fun t ht hW => ⟨⟨(some b_67), (), rfl, ⟨(fun b h => by cases h; exact tb_67), (lm_n hq0_cut_63)⟩, trivial⟩, hS.F ht⟩) hS.2.2 dX1_lastMove_82
        · have hl : lv_has ls 6 [(4, .ref b_66), (3, va_rf y_65), (0, .ref o), (1, .int x1), (2, .int x2)] := hl
          have tb_66 : oty Z b_66 3 := ty_64 b_66 rfl
          have rb_66 : oR Z (some b_66) = oG Z b_66 + 1 := rfl
          rcases y_65 with _ | b_68
          · have hl : lv_has ls 6 [(4, .ref b_66), (3, .null), (0, .ref o), (1, .int x1), (2, .int x2)] := hl
            refine lv_aload hx hb dX1_lastMove_8 (lv_at hl 0 rfl) ?_
            refine lv_ifnull hx hb dX1_lastMove_10 ?_
            refine lv_aload hx hb dX1_lastMove_13 (lv_at hl 0 rfl) ?_
            obtain ⟨q_69, hq_69⟩ := og (cq := cq) tb_66.1 (oE_3 tb_66.2)
            refine va_get (D := (dC, dI)) (ci := 3) (v := .int (oI Z b_66 0)) (C := RX3) (T := TX3) (N := 6) hx hb hts in_wsX1_lastMove_X3 hown hK hP q_69 hq_69 rfl 0 (by decide) (hts (.fieldLink RX1 64 "ShipOffice$Happening" "kind" "I") iw_X1_lastMove_2) (fun _ h9 => h9) rfl dX1_lastMove_15 ?_
            refine lv_topi (fun x_70 ex_70 => ?_)
            have gx_70 : x_70.toInt = (oI Z b_66 0).toInt := iv_to ex_70
            clear ex_70
            refine lv_iconst (v := 2) hx hb dX1_lastMove_18 (by decide) ?_
            refine lv_icmp_eq (tgt := 44) hx hb dX1_lastMove_19 (by decide) (fun c_71 => ?_) (fun c_71 => ?_)
            · have dc_71 := c_eq (a := x_70.toInt) (b := 2) rfl (by decide) c_71
              refine lv_iconst (v := 0) hx hb dX1_lastMove_44 (by decide) ?_
              refine lv_istore (lv' := [(5, .int 0), (4, .ref b_66), (3, .null), (0, .ref o), (1, .int x1), (2, .int x2)]) hx hb dX1_lastMove_45 hl (by decide) rfl (fun ls hl => ?_)
              refine lv_iload hx hb dX1_lastMove_47 (lv_at hl 0 rfl) ?_
              refine lv_if_eq (tgt := 71) hx hb dX1_lastMove_49 (by decide) (fun _ => ?_) (fun c_72 => absurd c_72 (by decide))
              refine lv_aload hx hb dX1_lastMove_71 (lv_at hl 1 rfl) ?_
              rcases hb_74 : oP Z b_66 5 with _ | b_73
              · refine va_get (D := (dC, dI)) (ci := 3) (v := .null) (C := RX3) (T := TX3) (N := 6) hx hb hts in_wsX1_lastMove_X3 hown hK hP q_69 hq_69 rfl 5 (by decide) (hts (.fieldLink RX1 97 "ShipOffice$Happening" "before" "LShipOffice$Happening;") iw_X1_lastMove_3) (fun _ h9 => h9) (o_rd hb_74) dX1_lastMove_73 ?_
                have r_75 : oR Z none = 0 := rfl
                refine lv_astoreN (lv' := [(4, .null), (5, .int 0), (3, .null), (0, .ref o), (1, .int x1), (2, .int x2)]) hx hb dX1_lastMove_76 hl (by decide) rfl (fun ls hl => ?_)
                refine lv_goto (tgt := 8) hx hb dX1_lastMove_78 (by decide) ?_
                exact ih (n - 1) (by omega) none none _ _ ls (by omega) (fun b h => by cases h) (fun b h => by cases h) (lm_f hq0_cut_63 hb_74 (Or.inl (by omega))) hP hS (lv_sub hl [0, 2, 3, 4, 5] rfl)
              · refine va_get (D := (dC, dI)) (ci := 3) (v := .ref b_73) (C := RX3) (T := TX3) (N := 6) hx hb hts in_wsX1_lastMove_X3 hown hK hP q_69 hq_69 rfl 5 (by decide) (hts (.fieldLink RX1 97 "ShipOffice$Happening" "before" "LShipOffice$Happening;") iw_X1_lastMove_3) (fun _ h9 => h9) (o_rd hb_74) dX1_lastMove_73 ?_
                have tb_73 : oty Z b_73 3 := oInv.rd gI tb_66.2 hb_74 rfl rfl
                have hGb_73 : oG Z b_73 < oG Z b_66 := gI.2.2.2.2.2.1 b_66 b_73 tb_66.2 hb_74
                have rb_73 : oR Z (some b_73) = oG Z b_73 + 1 := rfl
                refine lv_astore (lv' := [(4, .ref b_73), (5, .int 0), (3, .null), (0, .ref o), (1, .int x1), (2, .int x2)]) hx hb dX1_lastMove_76 hl (by decide) rfl (fun ls hl => ?_)
                refine lv_goto (tgt := 8) hx hb dX1_lastMove_78 (by decide) ?_
                exact ih (n - 1) (by omega) (some b_73) none _ _ ls (by omega) (fun b h => by cases h; exact tb_73) (fun b h => by cases h) (lm_f hq0_cut_63 hb_74 (Or.inl (by omega))) hP hS (lv_sub hl [0, 2, 3, 4, 5] rfl)
            · have dc_71 := c_ne (a := x_70.toInt) (b := 2) rfl (by decide) c_71
              refine lv_aload hx hb dX1_lastMove_22 (lv_at hl 0 rfl) ?_
              refine va_get (D := (dC, dI)) (ci := 3) (v := .int (oI Z b_66 2)) (C := RX3) (T := TX3) (N := 6) hx hb hts in_wsX1_lastMove_X3 hown hK hP q_69 hq_69 rfl 2 (by decide) (hts (.fieldLink RX1 91 "ShipOffice$Happening" "told" "I") iw_X1_lastMove_4) (fun _ h9 => h9) rfl dX1_lastMove_24 ?_
              refine lv_topi (fun x_76 ex_76 => ?_)
              have gx_76 : x_76.toInt = (oI Z b_66 2).toInt := iv_to ex_76
              clear ex_76
              refine lv_iload_n hx hb dX1_lastMove_27 rfl (lv_at hl 4 rfl) ?_
              refine lv_icmp_gt (tgt := 44) hx hb dX1_lastMove_28 (by decide) (fun c_77 => ?_) (fun c_77 => ?_)
              · have dc_77 := c_lt (a := x2.toInt) (b := x_76.toInt) rfl rfl c_77
                refine lv_iconst (v := 0) hx hb dX1_lastMove_44 (by decide) ?_
                refine lv_istore (lv' := [(5, .int 0), (4, .ref b_66), (3, .null), (0, .ref o), (1, .int x1), (2, .int x2)]) hx hb dX1_lastMove_45 hl (by decide) rfl (fun ls hl => ?_)
                refine lv_iload hx hb dX1_lastMove_47 (lv_at hl 0 rfl) ?_
                refine lv_if_eq (tgt := 71) hx hb dX1_lastMove_49 (by decide) (fun _ => ?_) (fun c_78 => absurd c_78 (by decide))
                refine lv_aload hx hb dX1_lastMove_71 (lv_at hl 1 rfl) ?_
                rcases hb_80 : oP Z b_66 5 with _ | b_79
                · refine va_get (D := (dC, dI)) (ci := 3) (v := .null) (C := RX3) (T := TX3) (N := 6) hx hb hts in_wsX1_lastMove_X3 hown hK hP q_69 hq_69 rfl 5 (by decide) (hts (.fieldLink RX1 97 "ShipOffice$Happening" "before" "LShipOffice$Happening;") iw_X1_lastMove_3) (fun _ h9 => h9) (o_rd hb_80) dX1_lastMove_73 ?_
                  have r_81 : oR Z none = 0 := rfl
                  refine lv_astoreN (lv' := [(4, .null), (5, .int 0), (3, .null), (0, .ref o), (1, .int x1), (2, .int x2)]) hx hb dX1_lastMove_76 hl (by decide) rfl (fun ls hl => ?_)
                  refine lv_goto (tgt := 8) hx hb dX1_lastMove_78 (by decide) ?_
                  exact ih (n - 1) (by omega) none none _ _ ls (by omega) (fun b h => by cases h) (fun b h => by cases h) (lm_f hq0_cut_63 hb_80 (Or.inl (by omega))) hP hS (lv_sub hl [0, 2, 3, 4, 5] rfl)
                · refine va_get (D := (dC, dI)) (ci := 3) (v := .ref b_79) (C := RX3) (T := TX3) (N := 6) hx hb hts in_wsX1_lastMove_X3 hown hK hP q_69 hq_69 rfl 5 (by decide) (hts (.fieldLink RX1 97 "ShipOffice$Happening" "before" "LShipOffice$Happening;") iw_X1_lastMove_3) (fun _ h9 => h9) (o_rd hb_80) dX1_lastMove_73 ?_
                  have tb_79 : oty Z b_79 3 := oInv.rd gI tb_66.2 hb_80 rfl rfl
                  have hGb_79 : oG Z b_79 < oG Z b_66 := gI.2.2.2.2.2.1 b_66 b_79 tb_66.2 hb_80
                  have rb_79 : oR Z (some b_79) = oG Z b_79 + 1 := rfl
                  refine lv_astore (lv' := [(4, .ref b_79), (5, .int 0), (3, .null), (0, .ref o), (1, .int x1), (2, .int x2)]) hx hb dX1_lastMove_76 hl (by decide) rfl (fun ls hl => ?_)
                  refine lv_goto (tgt := 8) hx hb dX1_lastMove_78 (by decide) ?_
                  exact ih (n - 1) (by omega) (some b_79) none _ _ ls (by omega) (fun b h => by cases h; exact tb_79) (fun b h => by cases h) (lm_f hq0_cut_63 hb_80 (Or.inl (by omega))) hP hS (lv_sub hl [0, 2, 3, 4, 5] rfl)
              · have dc_77 := c_nlt (a := x2.toInt) (b := x_76.toInt) rfl rfl c_77
                refine lv_aload hx hb dX1_lastMove_31 (lv_at hl 0 rfl) ?_
                refine va_get (D := (dC, dI)) (ci := 3) (v := .int (oI Z b_66 1)) (C := RX3) (T := TX3) (N := 6) hx hb hts in_wsX1_lastMove_X3 hown hK hP q_69 hq_69 rfl 1 (by decide) (hts (.fieldLink RX1 94 "ShipOffice$Happening" "day" "I") iw_X1_lastMove_5) (fun _ h9 => h9) rfl dX1_lastMove_33 ?_
                refine lv_topi (fun x_82 ex_82 => ?_)
                have gx_82 : x_82.toInt = (oI Z b_66 1).toInt := iv_to ex_82
                clear ex_82
                refine lv_iload_n hx hb dX1_lastMove_36 rfl (lv_at hl 3 rfl) ?_
                refine lv_icmp_gt (tgt := 44) hx hb dX1_lastMove_37 (by decide) (fun c_83 => ?_) (fun c_83 => ?_)
                · have dc_83 := c_lt (a := x1.toInt) (b := x_82.toInt) rfl rfl c_83
                  refine lv_iconst (v := 0) hx hb dX1_lastMove_44 (by decide) ?_
                  refine lv_istore (lv' := [(5, .int 0), (4, .ref b_66), (3, .null), (0, .ref o), (1, .int x1), (2, .int x2)]) hx hb dX1_lastMove_45 hl (by decide) rfl (fun ls hl => ?_)
                  refine lv_iload hx hb dX1_lastMove_47 (lv_at hl 0 rfl) ?_
                  refine lv_if_eq (tgt := 71) hx hb dX1_lastMove_49 (by decide) (fun _ => ?_) (fun c_84 => absurd c_84 (by decide))
                  refine lv_aload hx hb dX1_lastMove_71 (lv_at hl 1 rfl) ?_
                  rcases hb_86 : oP Z b_66 5 with _ | b_85
                  · refine va_get (D := (dC, dI)) (ci := 3) (v := .null) (C := RX3) (T := TX3) (N := 6) hx hb hts in_wsX1_lastMove_X3 hown hK hP q_69 hq_69 rfl 5 (by decide) (hts (.fieldLink RX1 97 "ShipOffice$Happening" "before" "LShipOffice$Happening;") iw_X1_lastMove_3) (fun _ h9 => h9) (o_rd hb_86) dX1_lastMove_73 ?_
                    have r_87 : oR Z none = 0 := rfl
                    refine lv_astoreN (lv' := [(4, .null), (5, .int 0), (3, .null), (0, .ref o), (1, .int x1), (2, .int x2)]) hx hb dX1_lastMove_76 hl (by decide) rfl (fun ls hl => ?_)
                    refine lv_goto (tgt := 8) hx hb dX1_lastMove_78 (by decide) ?_
                    exact ih (n - 1) (by omega) none none _ _ ls (by omega) (fun b h => by cases h) (fun b h => by cases h) (lm_f hq0_cut_63 hb_86 (Or.inl (by omega))) hP hS (lv_sub hl [0, 2, 3, 4, 5] rfl)
                  · refine va_get (D := (dC, dI)) (ci := 3) (v := .ref b_85) (C := RX3) (T := TX3) (N := 6) hx hb hts in_wsX1_lastMove_X3 hown hK hP q_69 hq_69 rfl 5 (by decide) (hts (.fieldLink RX1 97 "ShipOffice$Happening" "before" "LShipOffice$Happening;") iw_X1_lastMove_3) (fun _ h9 => h9) (o_rd hb_86) dX1_lastMove_73 ?_
                    have tb_85 : oty Z b_85 3 := oInv.rd gI tb_66.2 hb_86 rfl rfl
                    have hGb_85 : oG Z b_85 < oG Z b_66 := gI.2.2.2.2.2.1 b_66 b_85 tb_66.2 hb_86
                    have rb_85 : oR Z (some b_85) = oG Z b_85 + 1 := rfl
                    refine lv_astore (lv' := [(4, .ref b_85), (5, .int 0), (3, .null), (0, .ref o), (1, .int x1), (2, .int x2)]) hx hb dX1_lastMove_76 hl (by decide) rfl (fun ls hl => ?_)
                    refine lv_goto (tgt := 8) hx hb dX1_lastMove_78 (by decide) ?_
                    exact ih (n - 1) (by omega) (some b_85) none _ _ ls (by omega) (fun b h => by cases h; exact tb_85) (fun b h => by cases h) (lm_f hq0_cut_63 hb_86 (Or.inl (by omega))) hP hS (lv_sub hl [0, 2, 3, 4, 5] rfl)
                · have dc_83 := c_nlt (a := x1.toInt) (b := x_82.toInt) rfl rfl c_83
                  refine lv_iconst (v := 1) hx hb dX1_lastMove_40 (by decide) ?_
                  refine lv_goto (tgt := 45) hx hb dX1_lastMove_41 (by decide) ?_
                  refine lv_istore (lv' := [(5, .int 1), (4, .ref b_66), (3, .null), (0, .ref o), (1, .int x1), (2, .int x2)]) hx hb dX1_lastMove_45 hl (by decide) rfl (fun ls hl => ?_)
                  refine lv_iload hx hb dX1_lastMove_47 (lv_at hl 0 rfl) ?_
                  refine lv_if_eq (tgt := 71) hx hb dX1_lastMove_49 (by decide) (fun c_88 => absurd c_88 (by decide)) (fun _ => ?_)
                  refine lv_aload_nN hx hb dX1_lastMove_52 rfl (lv_at hl 2 rfl) ?_
                  refine lv_ifnullN (tgt := 68) hx hb dX1_lastMove_53 (by decide) ?_
                  refine lv_aload hx hb dX1_lastMove_68 (lv_at hl 1 rfl) ?_
                  refine lv_astore_n (lv' := [(3, .ref b_66), (5, .int 1), (4, .ref b_66), (0, .ref o), (1, .int x1), (2, .int x2)]) hx hb dX1_lastMove_70 rfl hl (by decide) rfl (fun ls hl => ?_)
                  refine lv_aload hx hb dX1_lastMove_71 (lv_at hl 2 rfl) ?_
                  rcases hb_90 : oP Z b_66 5 with _ | b_89
                  · refine va_get (D := (dC, dI)) (ci := 3) (v := .null) (C := RX3) (T := TX3) (N := 6) hx hb hts in_wsX1_lastMove_X3 hown hK hP q_69 hq_69 rfl 5 (by decide) (hts (.fieldLink RX1 97 "ShipOffice$Happening" "before" "LShipOffice$Happening;") iw_X1_lastMove_3) (fun _ h9 => h9) (o_rd hb_90) dX1_lastMove_73 ?_
                    have r_91 : oR Z none = 0 := rfl
                    refine lv_astoreN (lv' := [(4, .null), (3, .ref b_66), (5, .int 1), (0, .ref o), (1, .int x1), (2, .int x2)]) hx hb dX1_lastMove_76 hl (by decide) rfl (fun ls hl => ?_)
                    refine lv_goto (tgt := 8) hx hb dX1_lastMove_78 (by decide) ?_
                    exact ih (n - 1) (by omega) none (some b_66) _ _ ls (by omega) (fun b h => by cases h) (fun b h => by cases h; exact tb_66) (lm_t hq0_cut_63 hb_90 (by omega) (fun p hp => by cases hp)) hP hS (lv_sub hl [0, 1, 3, 4, 5] rfl)
                  · refine va_get (D := (dC, dI)) (ci := 3) (v := .ref b_89) (C := RX3) (T := TX3) (N := 6) hx hb hts in_wsX1_lastMove_X3 hown hK hP q_69 hq_69 rfl 5 (by decide) (hts (.fieldLink RX1 97 "ShipOffice$Happening" "before" "LShipOffice$Happening;") iw_X1_lastMove_3) (fun _ h9 => h9) (o_rd hb_90) dX1_lastMove_73 ?_
                    have tb_89 : oty Z b_89 3 := oInv.rd gI tb_66.2 hb_90 rfl rfl
                    have hGb_89 : oG Z b_89 < oG Z b_66 := gI.2.2.2.2.2.1 b_66 b_89 tb_66.2 hb_90
                    have rb_89 : oR Z (some b_89) = oG Z b_89 + 1 := rfl
                    refine lv_astore (lv' := [(4, .ref b_89), (3, .ref b_66), (5, .int 1), (0, .ref o), (1, .int x1), (2, .int x2)]) hx hb dX1_lastMove_76 hl (by decide) rfl (fun ls hl => ?_)
                    refine lv_goto (tgt := 8) hx hb dX1_lastMove_78 (by decide) ?_
                    exact ih (n - 1) (by omega) (some b_89) (some b_66) _ _ ls (by omega) (fun b h => by cases h; exact tb_89) (fun b h => by cases h; exact tb_66) (lm_t hq0_cut_63 hb_90 (by omega) (fun p hp => by cases hp)) hP hS (lv_sub hl [0, 1, 3, 4, 5] rfl)
          · have hl : lv_has ls 6 [(4, .ref b_66), (3, .ref b_68), (0, .ref o), (1, .int x1), (2, .int x2)] := hl
            have tb_68 : oty Z b_68 3 := ty_65 b_68 rfl
            have rb_68 : oR Z (some b_68) = oG Z b_68 + 1 := rfl
            refine lv_aload hx hb dX1_lastMove_8 (lv_at hl 0 rfl) ?_
            refine lv_ifnull hx hb dX1_lastMove_10 ?_
            refine lv_aload hx hb dX1_lastMove_13 (lv_at hl 0 rfl) ?_
            obtain ⟨q_92, hq_92⟩ := og (cq := cq) tb_66.1 (oE_3 tb_66.2)
            refine va_get (D := (dC, dI)) (ci := 3) (v := .int (oI Z b_66 0)) (C := RX3) (T := TX3) (N := 6) hx hb hts in_wsX1_lastMove_X3 hown hK hP q_92 hq_92 rfl 0 (by decide) (hts (.fieldLink RX1 64 "ShipOffice$Happening" "kind" "I") iw_X1_lastMove_2) (fun _ h9 => h9) rfl dX1_lastMove_15 ?_
            refine lv_topi (fun x_93 ex_93 => ?_)
            have gx_93 : x_93.toInt = (oI Z b_66 0).toInt := iv_to ex_93
            clear ex_93
            refine lv_iconst (v := 2) hx hb dX1_lastMove_18 (by decide) ?_
            refine lv_icmp_eq (tgt := 44) hx hb dX1_lastMove_19 (by decide) (fun c_94 => ?_) (fun c_94 => ?_)
            · have dc_94 := c_eq (a := x_93.toInt) (b := 2) rfl (by decide) c_94
              refine lv_iconst (v := 0) hx hb dX1_lastMove_44 (by decide) ?_
              refine lv_istore (lv' := [(5, .int 0), (4, .ref b_66), (3, .ref b_68), (0, .ref o), (1, .int x1), (2, .int x2)]) hx hb dX1_lastMove_45 hl (by decide) rfl (fun ls hl => ?_)
              refine lv_iload hx hb dX1_lastMove_47 (lv_at hl 0 rfl) ?_
              refine lv_if_eq (tgt := 71) hx hb dX1_lastMove_49 (by decide) (fun _ => ?_) (fun c_95 => absurd c_95 (by decide))
              refine lv_aload hx hb dX1_lastMove_71 (lv_at hl 1 rfl) ?_
              rcases hb_97 : oP Z b_66 5 with _ | b_96
              · refine va_get (D := (dC, dI)) (ci := 3) (v := .null) (C := RX3) (T := TX3) (N := 6) hx hb hts in_wsX1_lastMove_X3 hown hK hP q_92 hq_92 rfl 5 (by decide) (hts (.fieldLink RX1 97 "ShipOffice$Happening" "before" "LShipOffice$Happening;") iw_X1_lastMove_3) (fun _ h9 => h9) (o_rd hb_97) dX1_lastMove_73 ?_
                have r_98 : oR Z none = 0 := rfl
                refine lv_astoreN (lv' := [(4, .null), (5, .int 0), (3, .ref b_68), (0, .ref o), (1, .int x1), (2, .int x2)]) hx hb dX1_lastMove_76 hl (by decide) rfl (fun ls hl => ?_)
                refine lv_goto (tgt := 8) hx hb dX1_lastMove_78 (by decide) ?_
                exact ih (n - 1) (by omega) none (some b_68) _ _ ls (by omega) (fun b h => by cases h) (fun b h => by cases h; exact tb_68) (lm_f hq0_cut_63 hb_97 (by first | exact Or.inl (by omega) | exact Or.inr ⟨_, rfl, by omega⟩)) hP hS (lv_sub hl [0, 2, 3, 4, 5] rfl)
              · refine va_get (D := (dC, dI)) (ci := 3) (v := .ref b_96) (C := RX3) (T := TX3) (N := 6) hx hb hts in_wsX1_lastMove_X3 hown hK hP q_92 hq_92 rfl 5 (by decide) (hts (.fieldLink RX1 97 "ShipOffice$Happening" "before" "LShipOffice$Happening;") iw_X1_lastMove_3) (fun _ h9 => h9) (o_rd hb_97) dX1_lastMove_73 ?_
                have tb_96 : oty Z b_96 3 := oInv.rd gI tb_66.2 hb_97 rfl rfl
                have hGb_96 : oG Z b_96 < oG Z b_66 := gI.2.2.2.2.2.1 b_66 b_96 tb_66.2 hb_97
                have rb_96 : oR Z (some b_96) = oG Z b_96 + 1 := rfl
                refine lv_astore (lv' := [(4, .ref b_96), (5, .int 0), (3, .ref b_68), (0, .ref o), (1, .int x1), (2, .int x2)]) hx hb dX1_lastMove_76 hl (by decide) rfl (fun ls hl => ?_)
                refine lv_goto (tgt := 8) hx hb dX1_lastMove_78 (by decide) ?_
                exact ih (n - 1) (by omega) (some b_96) (some b_68) _ _ ls (by omega) (fun b h => by cases h; exact tb_96) (fun b h => by cases h; exact tb_68) (lm_f hq0_cut_63 hb_97 (by first | exact Or.inl (by omega) | exact Or.inr ⟨_, rfl, by omega⟩)) hP hS (lv_sub hl [0, 2, 3, 4, 5] rfl)
            · have dc_94 := c_ne (a := x_93.toInt) (b := 2) rfl (by decide) c_94
              refine lv_aload hx hb dX1_lastMove_22 (lv_at hl 0 rfl) ?_
              refine va_get (D := (dC, dI)) (ci := 3) (v := .int (oI Z b_66 2)) (C := RX3) (T := TX3) (N := 6) hx hb hts in_wsX1_lastMove_X3 hown hK hP q_92 hq_92 rfl 2 (by decide) (hts (.fieldLink RX1 91 "ShipOffice$Happening" "told" "I") iw_X1_lastMove_4) (fun _ h9 => h9) rfl dX1_lastMove_24 ?_
              refine lv_topi (fun x_99 ex_99 => ?_)
              have gx_99 : x_99.toInt = (oI Z b_66 2).toInt := iv_to ex_99
              clear ex_99
              refine lv_iload_n hx hb dX1_lastMove_27 rfl (lv_at hl 4 rfl) ?_
              refine lv_icmp_gt (tgt := 44) hx hb dX1_lastMove_28 (by decide) (fun c_100 => ?_) (fun c_100 => ?_)
              · have dc_100 := c_lt (a := x2.toInt) (b := x_99.toInt) rfl rfl c_100
                refine lv_iconst (v := 0) hx hb dX1_lastMove_44 (by decide) ?_
                refine lv_istore (lv' := [(5, .int 0), (4, .ref b_66), (3, .ref b_68), (0, .ref o), (1, .int x1), (2, .int x2)]) hx hb dX1_lastMove_45 hl (by decide) rfl (fun ls hl => ?_)
                refine lv_iload hx hb dX1_lastMove_47 (lv_at hl 0 rfl) ?_
                refine lv_if_eq (tgt := 71) hx hb dX1_lastMove_49 (by decide) (fun _ => ?_) (fun c_101 => absurd c_101 (by decide))
                refine lv_aload hx hb dX1_lastMove_71 (lv_at hl 1 rfl) ?_
                rcases hb_103 : oP Z b_66 5 with _ | b_102
                · refine va_get (D := (dC, dI)) (ci := 3) (v := .null) (C := RX3) (T := TX3) (N := 6) hx hb hts in_wsX1_lastMove_X3 hown hK hP q_92 hq_92 rfl 5 (by decide) (hts (.fieldLink RX1 97 "ShipOffice$Happening" "before" "LShipOffice$Happening;") iw_X1_lastMove_3) (fun _ h9 => h9) (o_rd hb_103) dX1_lastMove_73 ?_
                  have r_104 : oR Z none = 0 := rfl
                  refine lv_astoreN (lv' := [(4, .null), (5, .int 0), (3, .ref b_68), (0, .ref o), (1, .int x1), (2, .int x2)]) hx hb dX1_lastMove_76 hl (by decide) rfl (fun ls hl => ?_)
                  refine lv_goto (tgt := 8) hx hb dX1_lastMove_78 (by decide) ?_
                  exact ih (n - 1) (by omega) none (some b_68) _ _ ls (by omega) (fun b h => by cases h) (fun b h => by cases h; exact tb_68) (lm_f hq0_cut_63 hb_103 (by first | exact Or.inl (by omega) | exact Or.inr ⟨_, rfl, by omega⟩)) hP hS (lv_sub hl [0, 2, 3, 4, 5] rfl)
                · refine va_get (D := (dC, dI)) (ci := 3) (v := .ref b_102) (C := RX3) (T := TX3) (N := 6) hx hb hts in_wsX1_lastMove_X3 hown hK hP q_92 hq_92 rfl 5 (by decide) (hts (.fieldLink RX1 97 "ShipOffice$Happening" "before" "LShipOffice$Happening;") iw_X1_lastMove_3) (fun _ h9 => h9) (o_rd hb_103) dX1_lastMove_73 ?_
                  have tb_102 : oty Z b_102 3 := oInv.rd gI tb_66.2 hb_103 rfl rfl
                  have hGb_102 : oG Z b_102 < oG Z b_66 := gI.2.2.2.2.2.1 b_66 b_102 tb_66.2 hb_103
                  have rb_102 : oR Z (some b_102) = oG Z b_102 + 1 := rfl
                  refine lv_astore (lv' := [(4, .ref b_102), (5, .int 0), (3, .ref b_68), (0, .ref o), (1, .int x1), (2, .int x2)]) hx hb dX1_lastMove_76 hl (by decide) rfl (fun ls hl => ?_)
                  refine lv_goto (tgt := 8) hx hb dX1_lastMove_78 (by decide) ?_
                  exact ih (n - 1) (by omega) (some b_102) (some b_68) _ _ ls (by omega) (fun b h => by cases h; exact tb_102) (fun b h => by cases h; exact tb_68) (lm_f hq0_cut_63 hb_103 (by first | exact Or.inl (by omega) | exact Or.inr ⟨_, rfl, by omega⟩)) hP hS (lv_sub hl [0, 2, 3, 4, 5] rfl)
              · have dc_100 := c_nlt (a := x2.toInt) (b := x_99.toInt) rfl rfl c_100
                refine lv_aload hx hb dX1_lastMove_31 (lv_at hl 0 rfl) ?_
                refine va_get (D := (dC, dI)) (ci := 3) (v := .int (oI Z b_66 1)) (C := RX3) (T := TX3) (N := 6) hx hb hts in_wsX1_lastMove_X3 hown hK hP q_92 hq_92 rfl 1 (by decide) (hts (.fieldLink RX1 94 "ShipOffice$Happening" "day" "I") iw_X1_lastMove_5) (fun _ h9 => h9) rfl dX1_lastMove_33 ?_
                refine lv_topi (fun x_105 ex_105 => ?_)
                have gx_105 : x_105.toInt = (oI Z b_66 1).toInt := iv_to ex_105
                clear ex_105
                refine lv_iload_n hx hb dX1_lastMove_36 rfl (lv_at hl 3 rfl) ?_
                refine lv_icmp_gt (tgt := 44) hx hb dX1_lastMove_37 (by decide) (fun c_106 => ?_) (fun c_106 => ?_)
                · have dc_106 := c_lt (a := x1.toInt) (b := x_105.toInt) rfl rfl c_106
                  refine lv_iconst (v := 0) hx hb dX1_lastMove_44 (by decide) ?_
                  refine lv_istore (lv' := [(5, .int 0), (4, .ref b_66), (3, .ref b_68), (0, .ref o), (1, .int x1), (2, .int x2)]) hx hb dX1_lastMove_45 hl (by decide) rfl (fun ls hl => ?_)
                  refine lv_iload hx hb dX1_lastMove_47 (lv_at hl 0 rfl) ?_
                  refine lv_if_eq (tgt := 71) hx hb dX1_lastMove_49 (by decide) (fun _ => ?_) (fun c_107 => absurd c_107 (by decide))
                  refine lv_aload hx hb dX1_lastMove_71 (lv_at hl 1 rfl) ?_
                  rcases hb_109 : oP Z b_66 5 with _ | b_108
                  · refine va_get (D := (dC, dI)) (ci := 3) (v := .null) (C := RX3) (T := TX3) (N := 6) hx hb hts in_wsX1_lastMove_X3 hown hK hP q_92 hq_92 rfl 5 (by decide) (hts (.fieldLink RX1 97 "ShipOffice$Happening" "before" "LShipOffice$Happening;") iw_X1_lastMove_3) (fun _ h9 => h9) (o_rd hb_109) dX1_lastMove_73 ?_
                    have r_110 : oR Z none = 0 := rfl
                    refine lv_astoreN (lv' := [(4, .null), (5, .int 0), (3, .ref b_68), (0, .ref o), (1, .int x1), (2, .int x2)]) hx hb dX1_lastMove_76 hl (by decide) rfl (fun ls hl => ?_)
                    refine lv_goto (tgt := 8) hx hb dX1_lastMove_78 (by decide) ?_
                    exact ih (n - 1) (by omega) none (some b_68) _ _ ls (by omega) (fun b h => by cases h) (fun b h => by cases h; exact tb_68) (lm_f hq0_cut_63 hb_109 (by first | exact Or.inl (by omega) | exact Or.inr ⟨_, rfl, by omega⟩)) hP hS (lv_sub hl [0, 2, 3, 4, 5] rfl)
                  · refine va_get (D := (dC, dI)) (ci := 3) (v := .ref b_108) (C := RX3) (T := TX3) (N := 6) hx hb hts in_wsX1_lastMove_X3 hown hK hP q_92 hq_92 rfl 5 (by decide) (hts (.fieldLink RX1 97 "ShipOffice$Happening" "before" "LShipOffice$Happening;") iw_X1_lastMove_3) (fun _ h9 => h9) (o_rd hb_109) dX1_lastMove_73 ?_
                    have tb_108 : oty Z b_108 3 := oInv.rd gI tb_66.2 hb_109 rfl rfl
                    have hGb_108 : oG Z b_108 < oG Z b_66 := gI.2.2.2.2.2.1 b_66 b_108 tb_66.2 hb_109
                    have rb_108 : oR Z (some b_108) = oG Z b_108 + 1 := rfl
                    refine lv_astore (lv' := [(4, .ref b_108), (5, .int 0), (3, .ref b_68), (0, .ref o), (1, .int x1), (2, .int x2)]) hx hb dX1_lastMove_76 hl (by decide) rfl (fun ls hl => ?_)
                    refine lv_goto (tgt := 8) hx hb dX1_lastMove_78 (by decide) ?_
                    exact ih (n - 1) (by omega) (some b_108) (some b_68) _ _ ls (by omega) (fun b h => by cases h; exact tb_108) (fun b h => by cases h; exact tb_68) (lm_f hq0_cut_63 hb_109 (by first | exact Or.inl (by omega) | exact Or.inr ⟨_, rfl, by omega⟩)) hP hS (lv_sub hl [0, 2, 3, 4, 5] rfl)
                · have dc_106 := c_nlt (a := x1.toInt) (b := x_105.toInt) rfl rfl c_106
                  refine lv_iconst (v := 1) hx hb dX1_lastMove_40 (by decide) ?_
                  refine lv_goto (tgt := 45) hx hb dX1_lastMove_41 (by decide) ?_
                  refine lv_istore (lv' := [(5, .int 1), (4, .ref b_66), (3, .ref b_68), (0, .ref o), (1, .int x1), (2, .int x2)]) hx hb dX1_lastMove_45 hl (by decide) rfl (fun ls hl => ?_)
                  refine lv_iload hx hb dX1_lastMove_47 (lv_at hl 0 rfl) ?_
                  refine lv_if_eq (tgt := 71) hx hb dX1_lastMove_49 (by decide) (fun c_111 => absurd c_111 (by decide)) (fun _ => ?_)
                  refine lv_aload_n hx hb dX1_lastMove_52 rfl (lv_at hl 2 rfl) ?_
                  refine lv_ifnull hx hb dX1_lastMove_53 ?_
                  refine lv_aload hx hb dX1_lastMove_56 (lv_at hl 1 rfl) ?_
                  refine va_get (D := (dC, dI)) (ci := 3) (v := .int (oI Z b_66 1)) (C := RX3) (T := TX3) (N := 6) hx hb hts in_wsX1_lastMove_X3 hown hK hP q_92 hq_92 rfl 1 (by decide) (hts (.fieldLink RX1 94 "ShipOffice$Happening" "day" "I") iw_X1_lastMove_5) (fun _ h9 => h9) rfl dX1_lastMove_58 ?_
                  refine lv_topi (fun x_112 ex_112 => ?_)
                  have gx_112 : x_112.toInt = (oI Z b_66 1).toInt := iv_to ex_112
                  clear ex_112
                  refine lv_aload_n hx hb dX1_lastMove_61 rfl (lv_at hl 2 rfl) ?_
                  obtain ⟨q_113, hq_113⟩ := og (cq := cq) tb_68.1 (oE_3 tb_68.2)
                  refine va_get (D := (dC, dI)) (ci := 3) (v := .int (oI Z b_68 1)) (C := RX3) (T := TX3) (N := 6) hx hb hts in_wsX1_lastMove_X3 hown hK hP q_113 hq_113 rfl 1 (by decide) (hts (.fieldLink RX1 94 "ShipOffice$Happening" "day" "I") iw_X1_lastMove_5) (fun _ h9 => h9) rfl dX1_lastMove_62 ?_
                  refine lv_topi (fun x_114 ex_114 => ?_)
                  have gx_114 : x_114.toInt = (oI Z b_68 1).toInt := iv_to ex_114
                  clear ex_114
                  refine lv_icmp_le (tgt := 71) hx hb dX1_lastMove_65 (by decide) (fun c_115 => ?_) (fun c_115 => ?_)
                  · have dc_115 := c_le (a := x_112.toInt) (b := x_114.toInt) rfl rfl c_115
                    refine lv_aload hx hb dX1_lastMove_71 (lv_at hl 1 rfl) ?_
                    rcases hb_117 : oP Z b_66 5 with _ | b_116
                    · refine va_get (D := (dC, dI)) (ci := 3) (v := .null) (C := RX3) (T := TX3) (N := 6) hx hb hts in_wsX1_lastMove_X3 hown hK hP q_92 hq_92 rfl 5 (by decide) (hts (.fieldLink RX1 97 "ShipOffice$Happening" "before" "LShipOffice$Happening;") iw_X1_lastMove_3) (fun _ h9 => h9) (o_rd hb_117) dX1_lastMove_73 ?_
                      have r_118 : oR Z none = 0 := rfl
                      refine lv_astoreN (lv' := [(4, .null), (5, .int 1), (3, .ref b_68), (0, .ref o), (1, .int x1), (2, .int x2)]) hx hb dX1_lastMove_76 hl (by decide) rfl (fun ls hl => ?_)
                      refine lv_goto (tgt := 8) hx hb dX1_lastMove_78 (by decide) ?_
                      exact ih (n - 1) (by omega) none (some b_68) _ _ ls (by omega) (fun b h => by cases h) (fun b h => by cases h; exact tb_68) (lm_f hq0_cut_63 hb_117 (by first | exact Or.inl (by omega) | exact Or.inr ⟨_, rfl, by omega⟩)) hP hS (lv_sub hl [0, 2, 3, 4, 5] rfl)
                    · refine va_get (D := (dC, dI)) (ci := 3) (v := .ref b_116) (C := RX3) (T := TX3) (N := 6) hx hb hts in_wsX1_lastMove_X3 hown hK hP q_92 hq_92 rfl 5 (by decide) (hts (.fieldLink RX1 97 "ShipOffice$Happening" "before" "LShipOffice$Happening;") iw_X1_lastMove_3) (fun _ h9 => h9) (o_rd hb_117) dX1_lastMove_73 ?_
                      have tb_116 : oty Z b_116 3 := oInv.rd gI tb_66.2 hb_117 rfl rfl
                      have hGb_116 : oG Z b_116 < oG Z b_66 := gI.2.2.2.2.2.1 b_66 b_116 tb_66.2 hb_117
                      have rb_116 : oR Z (some b_116) = oG Z b_116 + 1 := rfl
                      refine lv_astore (lv' := [(4, .ref b_116), (5, .int 1), (3, .ref b_68), (0, .ref o), (1, .int x1), (2, .int x2)]) hx hb dX1_lastMove_76 hl (by decide) rfl (fun ls hl => ?_)
                      refine lv_goto (tgt := 8) hx hb dX1_lastMove_78 (by decide) ?_
                      exact ih (n - 1) (by omega) (some b_116) (some b_68) _ _ ls (by omega) (fun b h => by cases h; exact tb_116) (fun b h => by cases h; exact tb_68) (lm_f hq0_cut_63 hb_117 (by first | exact Or.inl (by omega) | exact Or.inr ⟨_, rfl, by omega⟩)) hP hS (lv_sub hl [0, 2, 3, 4, 5] rfl)
                  · have dc_115 := c_nle (a := x_112.toInt) (b := x_114.toInt) rfl rfl c_115
                    refine lv_aload hx hb dX1_lastMove_68 (lv_at hl 1 rfl) ?_
                    refine lv_astore_n (lv' := [(3, .ref b_66), (5, .int 1), (4, .ref b_66), (0, .ref o), (1, .int x1), (2, .int x2)]) hx hb dX1_lastMove_70 rfl hl (by decide) rfl (fun ls hl => ?_)
                    refine lv_aload hx hb dX1_lastMove_71 (lv_at hl 2 rfl) ?_
                    rcases hb_120 : oP Z b_66 5 with _ | b_119
                    · refine va_get (D := (dC, dI)) (ci := 3) (v := .null) (C := RX3) (T := TX3) (N := 6) hx hb hts in_wsX1_lastMove_X3 hown hK hP q_92 hq_92 rfl 5 (by decide) (hts (.fieldLink RX1 97 "ShipOffice$Happening" "before" "LShipOffice$Happening;") iw_X1_lastMove_3) (fun _ h9 => h9) (o_rd hb_120) dX1_lastMove_73 ?_
                      have r_121 : oR Z none = 0 := rfl
                      refine lv_astoreN (lv' := [(4, .null), (3, .ref b_66), (5, .int 1), (0, .ref o), (1, .int x1), (2, .int x2)]) hx hb dX1_lastMove_76 hl (by decide) rfl (fun ls hl => ?_)
                      refine lv_goto (tgt := 8) hx hb dX1_lastMove_78 (by decide) ?_
                      exact ih (n - 1) (by omega) none (some b_66) _ _ ls (by omega) (fun b h => by cases h) (fun b h => by cases h; exact tb_66) (lm_t hq0_cut_63 hb_120 (by omega) (fun p hp => by cases hp; omega)) hP hS (lv_sub hl [0, 1, 3, 4, 5] rfl)
                    · refine va_get (D := (dC, dI)) (ci := 3) (v := .ref b_119) (C := RX3) (T := TX3) (N := 6) hx hb hts in_wsX1_lastMove_X3 hown hK hP q_92 hq_92 rfl 5 (by decide) (hts (.fieldLink RX1 97 "ShipOffice$Happening" "before" "LShipOffice$Happening;") iw_X1_lastMove_3) (fun _ h9 => h9) (o_rd hb_120) dX1_lastMove_73 ?_
                      have tb_119 : oty Z b_119 3 := oInv.rd gI tb_66.2 hb_120 rfl rfl
                      have hGb_119 : oG Z b_119 < oG Z b_66 := gI.2.2.2.2.2.1 b_66 b_119 tb_66.2 hb_120
                      have rb_119 : oR Z (some b_119) = oG Z b_119 + 1 := rfl
                      refine lv_astore (lv' := [(4, .ref b_119), (3, .ref b_66), (5, .int 1), (0, .ref o), (1, .int x1), (2, .int x2)]) hx hb dX1_lastMove_76 hl (by decide) rfl (fun ls hl => ?_)
                      refine lv_goto (tgt := 8) hx hb dX1_lastMove_78 (by decide) ?_
                      exact ih (n - 1) (by omega) (some b_119) (some b_66) _ _ ls (by omega) (fun b h => by cases h; exact tb_119) (fun b h => by cases h; exact tb_66) (lm_t hq0_cut_63 hb_120 (by omega) (fun p hp => by cases hp; omega)) hP hS (lv_sub hl [0, 1, 3, 4, 5] rfl)
    exact cut_63 (oR Z (some b_2)) (some b_2) none _ _ ls (by omega) (fun b h => by cases h; exact tb_2) (fun b h => by cases h) (lm_init fcho hb_3) hP hS (lv_sub hl [0, 1, 2, 3, 4] rfl)
