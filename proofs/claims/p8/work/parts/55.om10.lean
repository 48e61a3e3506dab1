abbrev cX4_handsOf : ByteArray := prog_6_method_3_code
def yX4_handsOf : MethodName := ⟨RX4, "handsOf", "(II)I"⟩
abbrev cX4_handShift : ByteArray := prog_6_method_6_code
def yX4_handShift : MethodName := ⟨RX4, "handShift", "(I)I"⟩
def wsX4_handsOf : List Cond := .code yX4_handsOf cX4_handsOf 2 (some .int) :: ([.fieldLink RX4 44 "ShipOffice$Hiring" "STEP" "[I"])
theorem il_X4_handsOf_1 : ∀ w ∈ ([.fieldLink RX4 44 "ShipOffice$Hiring" "STEP" "[I"] : List Cond), w ∈ wsX4_handsOf := fun w h => (List.mem_cons_of_mem _ h)
theorem iw_X4_handsOf_1 : Cond.fieldLink RX4 44 "ShipOffice$Hiring" "STEP" "[I" ∈ wsX4_handsOf := (mmI il_X4_handsOf_1 0 rfl)
def wsX4_handShift : List Cond := .code yX4_handShift cX4_handShift 1 (some .int) :: ([])
theorem dX4_handsOf_0 : decode cX4_handsOf 0 = .ok (.iload_n 0, 1) := by decide +kernel
theorem dX4_handsOf_1 : decode cX4_handsOf 1 = .ok (.getstatic 44, 3) := by decide +kernel
theorem dX4_handsOf_4 : decode cX4_handsOf 4 = .ok (.iload_n 1, 1) := by decide +kernel
theorem dX4_handsOf_5 : decode cX4_handsOf 5 = .ok (.iaload, 1) := by decide +kernel
theorem dX4_handsOf_6 : decode cX4_handsOf 6 = .ok (.idiv, 1) := by decide +kernel
theorem dX4_handsOf_7 : decode cX4_handsOf 7 = .ok (.iconst 3, 1) := by decide +kernel
theorem dX4_handsOf_8 : decode cX4_handsOf 8 = .ok (.irem, 1) := by decide +kernel
theorem dX4_handsOf_9 : decode cX4_handsOf 9 = .ok (.ireturn, 1) := by decide +kernel
theorem dX4_handShift_0 : decode cX4_handShift 0 = .ok (.bipush 7, 2) := by decide +kernel
theorem dX4_handShift_2 : decode cX4_handShift 2 = .ok (.iload_n 0, 1) := by decide +kernel
theorem dX4_handShift_3 : decode cX4_handShift 3 = .ok (.isub, 1) := by decide +kernel
theorem dX4_handShift_4 : decode cX4_handShift 4 = .ok (.iconst 4, 1) := by decide +kernel
theorem dX4_handShift_5 : decode cX4_handShift 5 = .ok (.imul, 1) := by decide +kernel
theorem dX4_handShift_6 : decode cX4_handShift 6 = .ok (.ireturn, 1) := by decide +kernel


theorem st_i {x : Int32} (h : 0 ≤ x.toInt ∧ x.toInt ≤ 3) : (x = 0 ∨ x = 1) ∨ (x = 2 ∨ x = 3) := by
  have key : ∀ n : Int, ∀ y : Int32, y.toInt = n → x.toInt = n → x = y := fun n y h1 h2 => Int32.toInt_inj.mp (h2.trans h1.symm)
  have : x.toInt = 0 ∨ x.toInt = 1 ∨ x.toInt = 2 ∨ x.toInt = 3 := by omega
  rcases this with g | g | g | g
  · exact Or.inl (Or.inl (key 0 0 (by decide +kernel) g))
  · exact Or.inl (Or.inr (key 1 1 (by decide +kernel) g))
  · exact Or.inr (Or.inl (key 2 2 (by decide +kernel) g))
  · exact Or.inr (Or.inr (key 3 3 (by decide +kernel) g))
theorem l15 (y : Int64) : 0 ≤ ((y &&& 15).toInt32).toInt ∧ ((y &&& 15).toInt32).toInt ≤ 15 := by
  have h : (y &&& 15).toInt = ((y &&& 15).toBitVec.toNat : Int) := by
    show (y &&& 15).toBitVec.toInt = _
    rw [BitVec.toInt_eq_toNat_of_lt]
    have e : (y &&& 15).toBitVec = y.toBitVec &&& 15#64 := rfl
    rw [e, BitVec.toNat_and]
    have := @Nat.and_le_right y.toBitVec.toNat (15#64).toNat
    have e2 : (15#64).toNat = 15 := rfl
    omega
  have hb : (y &&& 15).toBitVec.toNat ≤ 15 := by
    have e : (y &&& 15).toBitVec = y.toBitVec &&& 15#64 := rfl
    rw [e, BitVec.toNat_and]
    exact @Nat.and_le_right y.toBitVec.toNat 15
  have h2 : ((y &&& 15).toInt32).toInt = (y &&& 15).toInt := by
    rw [Int64.toInt_toInt32]
    exact Int.bmod_eq_of_le (by omega) (by omega)
  omega
set_option maxHeartbeats 4000000 in
set_option maxRecDepth 100000 in
theorem c_X4_handsOf (l : Launch) (dC : Nat → ClassId) (dI : Nat → Nat → Nat) (sz : Nat) (tL tS tG : Nat) (cq : Nat → ClassId) (Z : oS) (gI : oInv Z) (x1 : Int32) (hx1 : 0 ≤ x1.toInt ∧ x1.toInt ≤ 80) (x2 : Int32) (hx2 : 0 ≤ x2.toInt ∧ x2.toInt ≤ 3) : Met l yX4_handsOf wsX4_handsOf ({ frames := 0, cells := 0, slots := 0, locals := 0 }) (va_Pc [.int x1, .int x2] (pcO (dC, dI) (oT cq) (oW cq Z) sz tL tS tG [])) (va_Qi (fun (r : Int32) (u : Unit) => (0 ≤ r.toInt ∧ r.toInt ≤ 2) ∧ (r.toInt = x1.toInt / (if x2.toInt = 0 then 1 else if x2.toInt = 1 then 3 else if x2.toInt = 2 then 9 else 27) % 3)) (fun _ _ => True) (va_A [] sz)) 0 0 (va_A [] sz) := by
  refine Met.ofW (cc := cX4_handsOf) (maxL := 2) (ret := (some .int)) (by decide +kernel) rfl ?_
  intro p e s m args below meth c s₁ B hml hv
  obtain ⟨rfl, ⟨hsz, hP, hK, hD0⟩, hZ⟩ := hv
  have hx := B.exec
  have hb := B.bytes
  have hr := B.returns
  have hts := atoms_spec (ws := wsX4_handsOf) B.pre
  have hown : s.vm.findClass RX4 = some m.cls := findClass_of_methodNamed B.named
  have hlocks := B.notSynchronized
  subst hsz
  have hD := hD0
  generalize hAe : va_A [] s.heap.size = A at hZ ⊢
  have hA : ∀ q : Nat, s.heap.size ≤ q → A q := fun q h => by rw [← hAe]; exact Or.inr h
  have hS : va_S A s.heap s.heap [] := va_S.rf
  have hP : va_P (dC, dI) vwCl (oW cq Z) s.heap := hP
  have hl := lv_entry ([.int x1, .int x2]) (n := 2) (Nat.le_of_ble_eq_true rfl)
  rw [lg_entry_eq]
  generalize (lg_sl ([.int x1, .int x2]) ++ List.replicate (2 - (lg_sl ([.int x1, .int x2])).length) Slot.unset).toArray = ls at hl ⊢
  have hl : lv_has ls 2 [(0, .int x1), (1, .int x2)] := hl
  rcases st_i (x := x2) (by omega) with (st_1 | st_1) | (st_1 | st_1)
  · subst st_1
    have kc_2 : (0 : Int32).toInt = 0 := by decide
    refine lv_iload_n hx hb dX4_handsOf_0 rfl (lv_at hl 0 rfl) ?_
    refine va_gets hx hb hZ.1.2.2.1 hS hown (hts (.fieldLink RX4 44 "ShipOffice$Hiring" "STEP" "[I") iw_X4_handsOf_1) (fun _ h9 => h9) dX4_handsOf_1 ?_
    refine lv_iload_n hx hb dX4_handsOf_4 rfl (lv_at hl 1 rfl) ?_
    refine va_ti hx hb hZ.1.2.2.2.1 hS (by unfold vp_in; decide) (v := .int 1) rfl dX4_handsOf_5 ?_
    refine lv_idiv hx hb dX4_handsOf_6 (by decide +kernel) ?_
    refine lv_topi (fun x_3 ex_3 => ?_)
    have hx_3 : x_3.toInt = x1.toInt / 1 := (iv_to ex_3).trans (dv_i (k := 1) rfl (by decide +kernel) (by omega) (by decide +kernel))
    clear ex_3
    refine lv_iconst (v := 3) hx hb dX4_handsOf_7 (by decide +kernel) ?_
    refine lv_irem hx hb dX4_handsOf_8 (by decide +kernel) ?_
    refine lv_topi (fun x_4 ex_4 => ?_)
    have hx_4 : x_4.toInt = x_3.toInt % 3 := (iv_to ex_4).trans (rm_i (k := 3) rfl (by decide +kernel) (by omega) (by decide +kernel))
    clear ex_4
    exact W.iret (v := x_4) hx hb hr (fun t ht hW => ⟨⟨x_4, (), rfl, ⟨(by omega), (by have h0 : (0 : Int32).toInt = 0 := (by decide +kernel); rw [h0]; simp <;> omega)⟩, trivial⟩, hS.F ht⟩) hS.2.2 dX4_handsOf_9
  · subst st_1
    have kc_5 : (1 : Int32).toInt = 1 := by decide
    refine lv_iload_n hx hb dX4_handsOf_0 rfl (lv_at hl 0 rfl) ?_
    refine va_gets hx hb hZ.1.2.2.1 hS hown (hts (.fieldLink RX4 44 "ShipOffice$Hiring" "STEP" "[I") iw_X4_handsOf_1) (fun _ h9 => h9) dX4_handsOf_1 ?_
    refine lv_iload_n hx hb dX4_handsOf_4 rfl (lv_at hl 1 rfl) ?_
    refine va_ti hx hb hZ.1.2.2.2.1 hS (by unfold vp_in; decide) (v := .int 3) rfl dX4_handsOf_5 ?_
    refine lv_idiv hx hb dX4_handsOf_6 (by decide +kernel) ?_
    refine lv_topi (fun x_6 ex_6 => ?_)
    have hx_6 : x_6.toInt = x1.toInt / 3 := (iv_to ex_6).trans (dv_i (k := 3) rfl (by decide +kernel) (by omega) (by decide +kernel))
    clear ex_6
    refine lv_iconst (v := 3) hx hb dX4_handsOf_7 (by decide +kernel) ?_
    refine lv_irem hx hb dX4_handsOf_8 (by decide +kernel) ?_
    refine lv_topi (fun x_7 ex_7 => ?_)
    have hx_7 : x_7.toInt = x_6.toInt % 3 := (iv_to ex_7).trans (rm_i (k := 3) rfl (by decide +kernel) (by omega) (by decide +kernel))
    clear ex_7
    exact W.iret (v := x_7) hx hb hr (fun t ht hW => ⟨⟨x_7, (), rfl, ⟨(by omega), (by have h0 : (1 : Int32).toInt = 1 := (by decide +kernel); rw [h0]; simp <;> omega)⟩, trivial⟩, hS.F ht⟩) hS.2.2 dX4_handsOf_9
  · subst st_1
    have kc_8 : (2 : Int32).toInt = 2 := by decide
    refine lv_iload_n hx hb dX4_handsOf_0 rfl (lv_at hl 0 rfl) ?_
    refine va_gets hx hb hZ.1.2.2.1 hS hown (hts (.fieldLink RX4 44 "ShipOffice$Hiring" "STEP" "[I") iw_X4_handsOf_1) (fun _ h9 => h9) dX4_handsOf_1 ?_
    refine lv_iload_n hx hb dX4_handsOf_4 rfl (lv_at hl 1 rfl) ?_
    refine va_ti hx hb hZ.1.2.2.2.1 hS (by unfold vp_in; decide) (v := .int 9) rfl dX4_handsOf_5 ?_
    refine lv_idiv hx hb dX4_handsOf_6 (by decide +kernel) ?_
    refine lv_topi (fun x_9 ex_9 => ?_)
    have hx_9 : x_9.toInt = x1.toInt / 9 := (iv_to ex_9).trans (dv_i (k := 9) rfl (by decide +kernel) (by omega) (by decide +kernel))
    clear ex_9
    refine lv_iconst (v := 3) hx hb dX4_handsOf_7 (by decide +kernel) ?_
    refine lv_irem hx hb dX4_handsOf_8 (by decide +kernel) ?_
    refine lv_topi (fun x_10 ex_10 => ?_)
    have hx_10 : x_10.toInt = x_9.toInt % 3 := (iv_to ex_10).trans (rm_i (k := 3) rfl (by decide +kernel) (by omega) (by decide +kernel))
    clear ex_10
    exact W.iret (v := x_10) hx hb hr (fun t ht hW => ⟨⟨x_10, (), rfl, ⟨(by omega), (by have h0 : (2 : Int32).toInt = 2 := (by decide +kernel); rw [h0]; simp <;> omega)⟩, trivial⟩, hS.F ht⟩) hS.2.2 dX4_handsOf_9
  · subst st_1
    have kc_11 : (3 : Int32).toInt = 3 := by decide
    refine lv_iload_n hx hb dX4_handsOf_0 rfl (lv_at hl 0 rfl) ?_
    refine va_gets hx hb hZ.1.2.2.1 hS hown (hts (.fieldLink RX4 44 "ShipOffice$Hiring" "STEP" "[I") iw_X4_handsOf_1) (fun _ h9 => h9) dX4_handsOf_1 ?_
    refine lv_iload_n hx hb dX4_handsOf_4 rfl (lv_at hl 1 rfl) ?_
    refine va_ti hx hb hZ.1.2.2.2.1 hS (by unfold vp_in; decide) (v := .int 27) rfl dX4_handsOf_5 ?_
    refine lv_idiv hx hb dX4_handsOf_6 (by decide +kernel) ?_
    refine lv_topi (fun x_12 ex_12 => ?_)
    have hx_12 : x_12.toInt = x1.toInt / 27 := (iv_to ex_12).trans (dv_i (k := 27) rfl (by decide +kernel) (by omega) (by decide +kernel))
    clear ex_12
    refine lv_iconst (v := 3) hx hb dX4_handsOf_7 (by decide +kernel) ?_
    refine lv_irem hx hb dX4_handsOf_8 (by decide +kernel) ?_
    refine lv_topi (fun x_13 ex_13 => ?_)
    have hx_13 : x_13.toInt = x_12.toInt % 3 := (iv_to ex_13).trans (rm_i (k := 3) rfl (by decide +kernel) (by omega) (by decide +kernel))
    clear ex_13
    exact W.iret (v := x_13) hx hb hr (fun t ht hW => ⟨⟨x_13, (), rfl, ⟨(by omega), (by have h0 : (3 : Int32).toInt = 3 := (by decide +kernel); rw [h0]; simp <;> omega)⟩, trivial⟩, hS.F ht⟩) hS.2.2 dX4_handsOf_9
set_option maxHeartbeats 4000000 in
set_option maxRecDepth 100000 in
theorem c_X4_handShift (l : Launch) (dC : Nat → ClassId) (dI : Nat → Nat → Nat) (sz : Nat) (x1 : Int32) : Met l yX4_handShift wsX4_handShift ({ frames := 0, cells := 0, slots := 0, locals := 0 }) (va_Pc [.int x1] (pcW (dC, dI) [] [] sz)) (va_Qi (fun (r : Int32) (u : Unit) => True) (fun _ _ => True) (va_A [] sz)) 0 0 (va_A [] sz) := by
  refine Met.ofW (cc := cX4_handShift) (maxL := 1) (ret := (some .int)) (by decide +kernel) rfl ?_
  intro p e s m args below meth c s₁ B hml hv
  obtain ⟨rfl, hsz, hP, hK, hD0⟩ := hv
  have hx := B.exec
  have hb := B.bytes
  have hr := B.returns
  have hts := atoms_spec (ws := wsX4_handShift) B.pre
  have hown : s.vm.findClass RX4 = some m.cls := findClass_of_methodNamed B.named
  have hlocks := B.notSynchronized
  subst hsz
  have hD := hD0
  generalize hAe : va_A [] s.heap.size = A at ⊢
  have hA : ∀ q : Nat, s.heap.size ≤ q → A q := fun q h => by rw [← hAe]; exact Or.inr h
  have hS : va_S A s.heap s.heap [] := va_S.rf
  have hP : va_P (dC, dI) vwCl [] s.heap := hP
  have hl := lv_entry ([.int x1]) (n := 1) (Nat.le_of_ble_eq_true rfl)
  rw [lg_entry_eq]
  generalize (lg_sl ([.int x1]) ++ List.replicate (1 - (lg_sl ([.int x1])).length) Slot.unset).toArray = ls at hl ⊢
  have hl : lv_has ls 1 [(0, .int x1)] := hl
  refine lv_bipush (v := 7) hx hb dX4_handShift_0 (by decide +kernel) ?_
  refine lv_iload_n hx hb dX4_handShift_2 rfl (lv_at hl 0 rfl) ?_
  refine lv_isub hx hb dX4_handShift_3 ?_
  refine lv_topi (fun x_1 ex_1 => ?_)
  clear ex_1
  refine lv_iconst (v := 4) hx hb dX4_handShift_4 (by decide +kernel) ?_
  refine lv_imul hx hb dX4_handShift_5 ?_
  refine lv_topi (fun x_2 ex_2 => ?_)
  clear ex_2
  exact W.iret (v := x_2) hx hb hr (fun t ht hW => ⟨⟨x_2, (), rfl, trivial, trivial⟩, hS.F ht⟩) hS.2.2 dX4_handShift_6
