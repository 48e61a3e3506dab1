abbrev cX1_init : ByteArray := prog_3_method_1_code
def yX1_init : MethodName := ⟨RX1, "<init>", "(LShipOffice$Man;LShipOffice$Voyage;ILShipOffice$Agreement;)V"⟩
abbrev cX2_init : ByteArray := prog_4_method_1_code
def yX2_init : MethodName := ⟨RX2, "<init>", "(IIZ)V"⟩
def tyX3 : Nat → FieldType := fun k => match k with
  | 0 => .int
  | 1 => .int
  | 2 => .int
  | 3 => .int
  | 4 => .int
  | _ => .object "ShipOffice$Happening"
theorem nmX3 : ∀ a, a < 6 → ∀ b, b < 6 → a ≠ b → (TX3 a).2.1 ≠ (TX3 b).2.1 := by decide +kernel
theorem tyX3_ok : ∀ k, k < 6 → parseFieldDescriptor (TX3 k).2.2.1 = some (tyX3 k) := by decide +kernel
abbrev cX3_init : ByteArray := prog_5_method_1_code
def yX3_init : MethodName := ⟨RX3, "<init>", "(IIIIILShipOffice$Happening;)V"⟩
abbrev cX6_init : ByteArray := prog_8_method_1_code
def yX6_init : MethodName := ⟨RX6, "<init>", "(IIII)V"⟩
abbrev cX9_init : ByteArray := prog_11_method_1_code
def yX9_init : MethodName := ⟨RX9, "<init>", "(IIII)V"⟩
def wsX1_init : List Cond := .code yX1_init cX1_init 5 none :: ([.methodLink RX1 3 objectInit, .instanceMethod objectInit, .code objectInit ⟨#[0xb1]⟩ 1 none, .constant RX1 9 (1000000), .fieldLink RX1 10 "ShipOffice$Agreement" "offDay" "I", .classLink RX1 16 RX2, .fieldLink RX1 18 "ShipOffice$Agreement" "fines" "[LShipOffice$Fine;", .arrayClass .int, .fieldLink RX1 22 "ShipOffice$Agreement" "shortTold" "[I", .fieldLink RX1 26 "ShipOffice$Agreement" "shortSum" "[I", .fieldLink RX1 29 "ShipOffice$Agreement" "man" "LShipOffice$Man;", .fieldLink RX1 33 "ShipOffice$Agreement" "voyage" "LShipOffice$Voyage;", .fieldLink RX1 37 "ShipOffice$Agreement" "signedOn" "I", .fieldLink RX1 40 "ShipOffice$Agreement" "paper" "LShipOffice$Agreement;"] ++ wsX10)
def wsX2_init : List Cond := .code yX2_init cX2_init 4 none :: ([.methodLink RX2 1 objectInit, .instanceMethod objectInit, .code objectInit ⟨#[0xb1]⟩ 1 none, .fieldLink RX2 7 "ShipOffice$Fine" "day" "I", .fieldLink RX2 13 "ShipOffice$Fine" "sum" "I", .fieldLink RX2 16 "ShipOffice$Fine" "isRead" "Z"] ++ wsX20)
def wsX3_init : List Cond := .code yX3_init cX3_init 7 none :: ([.methodLink RX3 1 objectInit, .instanceMethod objectInit, .code objectInit ⟨#[0xb1]⟩ 1 none, .fieldLink RX3 7 "ShipOffice$Happening" "kind" "I", .fieldLink RX3 13 "ShipOffice$Happening" "day" "I", .fieldLink RX3 16 "ShipOffice$Happening" "told" "I", .fieldLink RX3 19 "ShipOffice$Happening" "way" "I", .fieldLink RX3 22 "ShipOffice$Happening" "port" "I", .fieldLink RX3 25 "ShipOffice$Happening" "before" "LShipOffice$Happening;"] ++ wsX30)
def wsX6_init : List Cond := .code yX6_init cX6_init 5 none :: ([.methodLink RX6 3 objectInit, .instanceMethod objectInit, .code objectInit ⟨#[0xb1]⟩ 1 none, .arrayClass .int, .fieldLink RX6 9 "ShipOffice$Man" "wages" "[I", .fieldLink RX6 15 "ShipOffice$Man" "number" "I", .fieldLink RX6 19 "ShipOffice$Man" "name" "I", .fieldLink RX6 22 "ShipOffice$Man" "marks" "I", .fieldLink RX6 25 "ShipOffice$Man" "born" "I", .fieldLink RX6 28 "ShipOffice$Man" "leastAlike" "I"] ++ wsX60)
def wsX9_init : List Cond := .code yX9_init cX9_init 5 none :: ([.methodLink RX9 3 objectInit, .instanceMethod objectInit, .code objectInit ⟨#[0xb1]⟩ 1 none, .constant RX9 9 (1000000), .fieldLink RX9 10 "ShipOffice$Voyage" "sailedDay" "I", .fieldLink RX9 16 "ShipOffice$Voyage" "sailedTold" "I", .fieldLink RX9 19 "ShipOffice$Voyage" "lostDay" "I", .fieldLink RX9 22 "ShipOffice$Voyage" "lostTold" "I", .fieldLink RX9 25 "ShipOffice$Voyage" "number" "I", .fieldLink RX9 28 "ShipOffice$Voyage" "ship" "I", .fieldLink RX9 31 "ShipOffice$Voyage" "port" "I", .fieldLink RX9 34 "ShipOffice$Voyage" "openedOn" "I"] ++ wsX90)
theorem dX1_init_0 : decode cX1_init 0 = .ok (.aload_n 0, 1) := by decide +kernel
theorem dX1_init_1 : decode cX1_init 1 = .ok (.invokespecial 3, 3) := by decide +kernel
theorem dX1_init_4 : decode cX1_init 4 = .ok (.aload_n 0, 1) := by decide +kernel
theorem dX1_init_5 : decode cX1_init 5 = .ok (.ldc 9, 2) := by decide +kernel
theorem dX1_init_7 : decode cX1_init 7 = .ok (.putfield 10, 3) := by decide +kernel
theorem dX1_init_10 : decode cX1_init 10 = .ok (.aload_n 0, 1) := by decide +kernel
theorem dX1_init_11 : decode cX1_init 11 = .ok (.bipush 6, 2) := by decide +kernel
theorem dX1_init_13 : decode cX1_init 13 = .ok (.anewarray 16, 3) := by decide +kernel
theorem dX1_init_16 : decode cX1_init 16 = .ok (.putfield 18, 3) := by decide +kernel
theorem dX1_init_19 : decode cX1_init 19 = .ok (.aload_n 0, 1) := by decide +kernel
theorem dX1_init_20 : decode cX1_init 20 = .ok (.bipush 20, 2) := by decide +kernel
theorem dX1_init_22 : decode cX1_init 22 = .ok (.newarray .int, 2) := by decide +kernel
theorem dX1_init_24 : decode cX1_init 24 = .ok (.putfield 22, 3) := by decide +kernel
theorem dX1_init_27 : decode cX1_init 27 = .ok (.aload_n 0, 1) := by decide +kernel
theorem dX1_init_28 : decode cX1_init 28 = .ok (.bipush 20, 2) := by decide +kernel
theorem dX1_init_30 : decode cX1_init 30 = .ok (.newarray .int, 2) := by decide +kernel
theorem dX1_init_32 : decode cX1_init 32 = .ok (.putfield 26, 3) := by decide +kernel
theorem dX1_init_35 : decode cX1_init 35 = .ok (.aload_n 0, 1) := by decide +kernel
theorem dX1_init_36 : decode cX1_init 36 = .ok (.aload_n 1, 1) := by decide +kernel
theorem dX1_init_37 : decode cX1_init 37 = .ok (.putfield 29, 3) := by decide +kernel
theorem dX1_init_40 : decode cX1_init 40 = .ok (.aload_n 0, 1) := by decide +kernel
theorem dX1_init_41 : decode cX1_init 41 = .ok (.aload_n 2, 1) := by decide +kernel
theorem dX1_init_42 : decode cX1_init 42 = .ok (.putfield 33, 3) := by decide +kernel
theorem dX1_init_45 : decode cX1_init 45 = .ok (.aload_n 0, 1) := by decide +kernel
theorem dX1_init_46 : decode cX1_init 46 = .ok (.iload_n 3, 1) := by decide +kernel
theorem dX1_init_47 : decode cX1_init 47 = .ok (.putfield 37, 3) := by decide +kernel
theorem dX1_init_50 : decode cX1_init 50 = .ok (.aload_n 0, 1) := by decide +kernel
theorem dX1_init_51 : decode cX1_init 51 = .ok (.aload 4, 2) := by decide +kernel
theorem dX1_init_53 : decode cX1_init 53 = .ok (.putfield 40, 3) := by decide +kernel
theorem dX1_init_56 : decode cX1_init 56 = .ok (.return_, 1) := by decide +kernel
theorem dX2_init_0 : decode cX2_init 0 = .ok (.aload_n 0, 1) := by decide +kernel
theorem dX2_init_1 : decode cX2_init 1 = .ok (.invokespecial 1, 3) := by decide +kernel
theorem dX2_init_4 : decode cX2_init 4 = .ok (.aload_n 0, 1) := by decide +kernel
theorem dX2_init_5 : decode cX2_init 5 = .ok (.iload_n 1, 1) := by decide +kernel
theorem dX2_init_6 : decode cX2_init 6 = .ok (.putfield 7, 3) := by decide +kernel
theorem dX2_init_9 : decode cX2_init 9 = .ok (.aload_n 0, 1) := by decide +kernel
theorem dX2_init_10 : decode cX2_init 10 = .ok (.iload_n 2, 1) := by decide +kernel
theorem dX2_init_11 : decode cX2_init 11 = .ok (.putfield 13, 3) := by decide +kernel
theorem dX2_init_14 : decode cX2_init 14 = .ok (.aload_n 0, 1) := by decide +kernel
theorem dX2_init_15 : decode cX2_init 15 = .ok (.iload_n 3, 1) := by decide +kernel
theorem dX2_init_16 : decode cX2_init 16 = .ok (.putfield 16, 3) := by decide +kernel
theorem dX2_init_19 : decode cX2_init 19 = .ok (.return_, 1) := by decide +kernel
theorem dX3_init_0 : decode cX3_init 0 = .ok (.aload_n 0, 1) := by decide +kernel
theorem dX3_init_1 : decode cX3_init 1 = .ok (.invokespecial 1, 3) := by decide +kernel
theorem dX3_init_4 : decode cX3_init 4 = .ok (.aload_n 0, 1) := by decide +kernel
theorem dX3_init_5 : decode cX3_init 5 = .ok (.iload_n 1, 1) := by decide +kernel
theorem dX3_init_6 : decode cX3_init 6 = .ok (.putfield 7, 3) := by decide +kernel
theorem dX3_init_9 : decode cX3_init 9 = .ok (.aload_n 0, 1) := by decide +kernel
theorem dX3_init_10 : decode cX3_init 10 = .ok (.iload_n 2, 1) := by decide +kernel
theorem dX3_init_11 : decode cX3_init 11 = .ok (.putfield 13, 3) := by decide +kernel
theorem dX3_init_14 : decode cX3_init 14 = .ok (.aload_n 0, 1) := by decide +kernel
theorem dX3_init_15 : decode cX3_init 15 = .ok (.iload_n 3, 1) := by decide +kernel
theorem dX3_init_16 : decode cX3_init 16 = .ok (.putfield 16, 3) := by decide +kernel
theorem dX3_init_19 : decode cX3_init 19 = .ok (.aload_n 0, 1) := by decide +kernel
theorem dX3_init_20 : decode cX3_init 20 = .ok (.iload 4, 2) := by decide +kernel
theorem dX3_init_22 : decode cX3_init 22 = .ok (.putfield 19, 3) := by decide +kernel
theorem dX3_init_25 : decode cX3_init 25 = .ok (.aload_n 0, 1) := by decide +kernel
theorem dX3_init_26 : decode cX3_init 26 = .ok (.iload 5, 2) := by decide +kernel
theorem dX3_init_28 : decode cX3_init 28 = .ok (.putfield 22, 3) := by decide +kernel
theorem dX3_init_31 : decode cX3_init 31 = .ok (.aload_n 0, 1) := by decide +kernel
theorem dX3_init_32 : decode cX3_init 32 = .ok (.aload 6, 2) := by decide +kernel
theorem dX3_init_34 : decode cX3_init 34 = .ok (.putfield 25, 3) := by decide +kernel
theorem dX3_init_37 : decode cX3_init 37 = .ok (.return_, 1) := by decide +kernel
theorem dX6_init_0 : decode cX6_init 0 = .ok (.aload_n 0, 1) := by decide +kernel
theorem dX6_init_1 : decode cX6_init 1 = .ok (.invokespecial 3, 3) := by decide +kernel
theorem dX6_init_4 : decode cX6_init 4 = .ok (.aload_n 0, 1) := by decide +kernel
theorem dX6_init_5 : decode cX6_init 5 = .ok (.iconst 4, 1) := by decide +kernel
theorem dX6_init_6 : decode cX6_init 6 = .ok (.newarray .int, 2) := by decide +kernel
theorem dX6_init_8 : decode cX6_init 8 = .ok (.putfield 9, 3) := by decide +kernel
theorem dX6_init_11 : decode cX6_init 11 = .ok (.aload_n 0, 1) := by decide +kernel
theorem dX6_init_12 : decode cX6_init 12 = .ok (.iload_n 1, 1) := by decide +kernel
theorem dX6_init_13 : decode cX6_init 13 = .ok (.putfield 15, 3) := by decide +kernel
theorem dX6_init_16 : decode cX6_init 16 = .ok (.aload_n 0, 1) := by decide +kernel
theorem dX6_init_17 : decode cX6_init 17 = .ok (.iload_n 2, 1) := by decide +kernel
theorem dX6_init_18 : decode cX6_init 18 = .ok (.putfield 19, 3) := by decide +kernel
theorem dX6_init_21 : decode cX6_init 21 = .ok (.aload_n 0, 1) := by decide +kernel
theorem dX6_init_22 : decode cX6_init 22 = .ok (.iload_n 3, 1) := by decide +kernel
theorem dX6_init_23 : decode cX6_init 23 = .ok (.putfield 22, 3) := by decide +kernel
theorem dX6_init_26 : decode cX6_init 26 = .ok (.aload_n 0, 1) := by decide +kernel
theorem dX6_init_27 : decode cX6_init 27 = .ok (.iload 4, 2) := by decide +kernel
theorem dX6_init_29 : decode cX6_init 29 = .ok (.putfield 25, 3) := by decide +kernel
theorem dX6_init_32 : decode cX6_init 32 = .ok (.aload_n 0, 1) := by decide +kernel
theorem dX6_init_33 : decode cX6_init 33 = .ok (.iload_n 1, 1) := by decide +kernel
theorem dX6_init_34 : decode cX6_init 34 = .ok (.putfield 28, 3) := by decide +kernel
theorem dX6_init_37 : decode cX6_init 37 = .ok (.return_, 1) := by decide +kernel
theorem dX9_init_0 : decode cX9_init 0 = .ok (.aload_n 0, 1) := by decide +kernel
theorem dX9_init_1 : decode cX9_init 1 = .ok (.invokespecial 3, 3) := by decide +kernel
theorem dX9_init_4 : decode cX9_init 4 = .ok (.aload_n 0, 1) := by decide +kernel
theorem dX9_init_5 : decode cX9_init 5 = .ok (.ldc 9, 2) := by decide +kernel
theorem dX9_init_7 : decode cX9_init 7 = .ok (.putfield 10, 3) := by decide +kernel
theorem dX9_init_10 : decode cX9_init 10 = .ok (.aload_n 0, 1) := by decide +kernel
theorem dX9_init_11 : decode cX9_init 11 = .ok (.ldc 9, 2) := by decide +kernel
theorem dX9_init_13 : decode cX9_init 13 = .ok (.putfield 16, 3) := by decide +kernel
theorem dX9_init_16 : decode cX9_init 16 = .ok (.aload_n 0, 1) := by decide +kernel
theorem dX9_init_17 : decode cX9_init 17 = .ok (.ldc 9, 2) := by decide +kernel
theorem dX9_init_19 : decode cX9_init 19 = .ok (.putfield 19, 3) := by decide +kernel
theorem dX9_init_22 : decode cX9_init 22 = .ok (.aload_n 0, 1) := by decide +kernel
theorem dX9_init_23 : decode cX9_init 23 = .ok (.ldc 9, 2) := by decide +kernel
theorem dX9_init_25 : decode cX9_init 25 = .ok (.putfield 22, 3) := by decide +kernel
theorem dX9_init_28 : decode cX9_init 28 = .ok (.aload_n 0, 1) := by decide +kernel
theorem dX9_init_29 : decode cX9_init 29 = .ok (.iload_n 1, 1) := by decide +kernel
theorem dX9_init_30 : decode cX9_init 30 = .ok (.putfield 25, 3) := by decide +kernel
theorem dX9_init_33 : decode cX9_init 33 = .ok (.aload_n 0, 1) := by decide +kernel
theorem dX9_init_34 : decode cX9_init 34 = .ok (.iload_n 2, 1) := by decide +kernel
theorem dX9_init_35 : decode cX9_init 35 = .ok (.putfield 28, 3) := by decide +kernel
theorem dX9_init_38 : decode cX9_init 38 = .ok (.aload_n 0, 1) := by decide +kernel
theorem dX9_init_39 : decode cX9_init 39 = .ok (.iload_n 3, 1) := by decide +kernel
theorem dX9_init_40 : decode cX9_init 40 = .ok (.putfield 31, 3) := by decide +kernel
theorem dX9_init_43 : decode cX9_init 43 = .ok (.aload_n 0, 1) := by decide +kernel
theorem dX9_init_44 : decode cX9_init 44 = .ok (.iload 4, 2) := by decide +kernel
theorem dX9_init_46 : decode cX9_init 46 = .ok (.putfield 34, 3) := by decide +kernel
theorem dX9_init_49 : decode cX9_init 49 = .ok (.return_, 1) := by decide +kernel
theorem in_wsX2_init_X2 : ∀ w ∈ wsX20, w ∈ wsX2_init := fun w h => List.mem_cons_of_mem _ (List.mem_append_right _ h)
theorem in_wsX3_init_X3 : ∀ w ∈ wsX30, w ∈ wsX3_init := fun w h => List.mem_cons_of_mem _ (List.mem_append_right _ h)
theorem in_wsX6_init_X6 : ∀ w ∈ wsX60, w ∈ wsX6_init := fun w h => List.mem_cons_of_mem _ (List.mem_append_right _ h)
theorem in_wsX9_init_X9 : ∀ w ∈ wsX90, w ∈ wsX9_init := fun w h => List.mem_cons_of_mem _ (List.mem_append_right _ h)
theorem in_wsX1_init_X1 : ∀ w ∈ wsX10, w ∈ wsX1_init := fun w h => List.mem_cons_of_mem _ (List.mem_append_right _ h)
theorem in_obj_wsX2_init : Cond.code objectInit ⟨#[0xb1]⟩ 1 none ∈ wsX2_init := List.mem_of_getElem? (i := 3) rfl
theorem in_obj_wsX3_init : Cond.code objectInit ⟨#[0xb1]⟩ 1 none ∈ wsX3_init := List.mem_of_getElem? (i := 3) rfl
theorem in_obj_wsX6_init : Cond.code objectInit ⟨#[0xb1]⟩ 1 none ∈ wsX6_init := List.mem_of_getElem? (i := 3) rfl
theorem in_obj_wsX9_init : Cond.code objectInit ⟨#[0xb1]⟩ 1 none ∈ wsX9_init := List.mem_of_getElem? (i := 3) rfl
theorem in_obj_wsX1_init : Cond.code objectInit ⟨#[0xb1]⟩ 1 none ∈ wsX1_init := List.mem_of_getElem? (i := 3) rfl
theorem z_fit {x : Int32} (h : 0 ≤ x.toInt ∧ x.toInt ≤ 1) : fits .boolean (.int x) = true := by
  have key : x = 0 ∨ x = 1 := by
    have : x.toInt = 0 ∨ x.toInt = 1 := by omega
    rcases this with g | g
    · exact Or.inl (Int32.toInt_inj.mp (g.trans (by decide)))
    · exact Or.inr (Int32.toInt_inj.mp (g.trans (by decide)))
  rcases key with rfl | rfl <;> rfl
set_option maxHeartbeats 4000000 in
set_option maxRecDepth 100000 in
theorem c_X2_init (l : Launch) (dC : Nat → ClassId) (dI : Nat → Nat → Nat) (sz : Nat) (cq : Nat → ClassId) (Z : oS) (gI : oInv Z) (o : Nat) (to : oty Z o 32) (x1 : Int32) (x2 : Int32) (x3 : Int32) (hx3 : 0 ≤ x3.toInt ∧ x3.toInt ≤ 1) : Met l yX2_init wsX2_init ({ frames := 1, cells := 0, slots := 0, locals := 14 }) (va_Pc [.ref o, .int x1, .int x2, .int x3] (pcW (dC, dI) (oT cq) (oW cq Z) sz)) (va_Qv (fun (u : oS) => oInv u ∧ oXc o Z u ∧ (oty u o 2 ∧ oFr o Z u)) (fun u t => va_P (dC, dI) vwCl (oW cq u) t.heap ∧ va_K (dC, dI) vwCl (oT cq) t ∧ va_D (va_A (oW cq Z) sz) (oW cq u)) (va_A (oW cq Z) sz)) 0 0 (va_A (oW cq Z) sz) := by
  refine Met.ofW (cc := cX2_init) (maxL := 4) (ret := none) (by decide) rfl ?_
  intro p e s m args below meth c s₁ B hml hv
  obtain ⟨rfl, hsz, hP, hK, hD0⟩ := hv
  have hx := B.exec
  have hb := B.bytes
  have hr := B.returns
  have hts := atoms_spec (ws := wsX2_init) B.pre
  have hown : s.vm.findClass RX2 = some m.cls := findClass_of_methodNamed B.named
  have hlocks := B.notSynchronized
  have hin : meth.name = "<init>" := (name_of_methodNamed B.named B.method).1
  subst hsz
  have hD := hD0.self (sz := s.heap.size)
  generalize hAe : va_A (oW cq Z) s.heap.size = A at hD ⊢
  have hA : ∀ q : Nat, s.heap.size ≤ q → A q := fun q h => by rw [← hAe]; exact Or.inr h
  have hS : va_S A s.heap s.heap [] := va_S.rf
  have hP : va_P (dC, dI) vwCl (oW cq Z) s.heap := hP
  have hl := lv_entry ([.ref o, .int x1, .int x2, .int x3]) (n := 4) (Nat.le_of_ble_eq_true rfl)
  rw [lg_entry_eq]
  generalize (lg_sl ([.ref o, .int x1, .int x2, .int x3]) ++ List.replicate (4 - (lg_sl ([.ref o, .int x1, .int x2, .int x3])).length) Slot.unset).toArray = ls at hl ⊢
  have hl : lv_has ls 4 [(0, .ref o), (1, .int x1), (2, .int x2), (3, .int x3)] := hl
  refine lv_aload_n hx hb dX2_init_0 rfl (lv_at hl 0 rfl) ?_
  refine W.objInit hx hb hown (hts (.methodLink RX2 1 objectInit) (by decide +kernel)) (hts (.instanceMethod objectInit) (by decide +kernel)) (hts (.code objectInit ⟨#[0xb1]⟩ 1 none) (in_obj_wsX2_init)) rfl (by rw [hml]; exact hl.1) rfl dX2_init_1 (Nat.le_of_ble_eq_true rfl) (Nat.le_of_ble_eq_true rfl) ?_
  refine W.eq (g2 := F0 m 4 ls []) rfl ?_
  refine lv_aload_n hx hb dX2_init_4 rfl (lv_at hl 0 rfl) ?_
  refine lv_iload_n hx hb dX2_init_5 rfl (lv_at hl 1 rfl) ?_
  obtain ⟨q_1, hq_1⟩ := og (cq := cq) to.1 (oE_32 to.2)
  refine va_putF (D := (dC, dI)) (ci := 2) (v := .int x1) (ty := .int) (C := RX2) (T := TX2) (N := 3) hx hb hts in_wsX2_init_X2 tyX2 tyX2_ok nmX2 hown hK hP hD hS q_1 hq_1 rfl 0 (by decide) (hts (.fieldLink RX2 7 "ShipOffice$Fine" "day" "I") (by decide +kernel)) (fun _ h9 => h9) rfl hin rfl (by decide +kernel) rfl rfl (Nat.le_of_ble_eq_true rfl) dX2_init_6 (fun H locs hP1 hD1 hS => ?_)
  obtain ⟨S_2, eS_2⟩ : ∃ zq, zq = setI Z o 0 x1 := ⟨_, rfl⟩
  have hP : va_P (dC, dI) vwCl (oW cq S_2) H := by rw [eS_2]; exact cP (oset to.1 hq_1 hD rfl (he_32_0 to.2) neI) hP1
  have hD : va_D A (oW cq S_2) := by rw [eS_2]; exact cD (oset to.1 hq_1 hD rfl (he_32_0 to.2) neI) hD1
  clear hP1 hD1
  have hIS_2 : oInv S_2 := by rw [eS_2]; exact oInv.I0 (k := 32) (lo := -2147483648) (hi := 2147483647) gI to.2 (by decide) rfl rfl rfl (iv_all _)
  have XS_2 : oX Z S_2 := by rw [eS_2]; exact oX.I (k := 32) to.2 (by decide)
  have FS_2 : oFr o Z S_2 := by rw [eS_2]; exact oFr.I oFr.rf
  have X_3 : oX Z S_2 := XS_2
  refine lv_aload_n hx hb dX2_init_9 rfl (lv_at hl 0 rfl) ?_
  refine lv_iload_n hx hb dX2_init_10 rfl (lv_at hl 2 rfl) ?_
  have t_5 : oty S_2 o 32 := (oX.ty XS_2 to)
  obtain ⟨q_6, hq_6⟩ := og (cq := cq) t_5.1 (oE_32 t_5.2)
  refine va_putF (D := (dC, dI)) (ci := 2) (v := .int x2) (ty := .int) (C := RX2) (T := TX2) (N := 3) hx hb hts in_wsX2_init_X2 tyX2 tyX2_ok nmX2 hown hK hP hD hS q_6 hq_6 rfl 1 (by decide) (hts (.fieldLink RX2 13 "ShipOffice$Fine" "sum" "I") (by decide +kernel)) (fun _ h9 => h9) rfl hin rfl (by decide +kernel) rfl rfl (Nat.le_of_ble_eq_true rfl) dX2_init_11 (fun H locs hP1 hD1 hS => ?_)
  obtain ⟨S_7, eS_7⟩ : ∃ zq, zq = setI S_2 o 1 x2 := ⟨_, rfl⟩
  have hP : va_P (dC, dI) vwCl (oW cq S_7) H := by rw [eS_7]; exact cP (oset t_5.1 hq_6 hD rfl (he_32_1 t_5.2) neI) hP1
  have hD : va_D A (oW cq S_7) := by rw [eS_7]; exact cD (oset t_5.1 hq_6 hD rfl (he_32_1 t_5.2) neI) hD1
  clear hP1 hD1
  have hIS_7 : oInv S_7 := by rw [eS_7]; exact oInv.I0 (k := 32) (lo := -2147483648) (hi := 2147483647) hIS_2 t_5.2 (by decide) rfl rfl rfl (iv_all _)
  have XS_7 : oX S_2 S_7 := by rw [eS_7]; exact oX.I (k := 32) t_5.2 (by decide)
  have FS_7 : oFr o Z S_7 := by rw [eS_7]; exact oFr.I FS_2
  have X_8 : oX Z S_7 := oX.tr X_3 XS_7
  refine lv_aload_n hx hb dX2_init_14 rfl (lv_at hl 0 rfl) ?_
  refine lv_iload_n hx hb dX2_init_15 rfl (lv_at hl 3 rfl) ?_
  have t_10 : oty S_7 o 32 := (oX.ty XS_7 t_5)
  obtain ⟨q_11, hq_11⟩ := og (cq := cq) t_10.1 (oE_32 t_10.2)
  refine va_put (D := (dC, dI)) (ci := 2) (v := .int x3) (ty := .boolean) (C := RX2) (T := TX2) (N := 3) hx hb hts in_wsX2_init_X2 tyX2 tyX2_ok nmX2 hown hK hP hD hS q_11 hq_11 rfl 2 (by decide) (hts (.fieldLink RX2 16 "ShipOffice$Fine" "isRead" "Z") (by decide +kernel)) (fun _ h9 => h9) rfl (by decide +kernel) (z_nar (by omega)) (z_fit (by omega)) (Nat.le_of_ble_eq_true rfl) dX2_init_16 (fun H locs hP1 hD1 hS => ?_)
  obtain ⟨S_12, eS_12⟩ : ∃ zq, zq = setI S_7 o 2 x3 := ⟨_, rfl⟩
  have hP : va_P (dC, dI) vwCl (oW cq S_12) H := by rw [eS_12]; exact cP (oset t_10.1 hq_11 hD rfl (he_32_2 t_10.2) neI) hP1
  have hD : va_D A (oW cq S_12) := by rw [eS_12]; exact cD (oset t_10.1 hq_11 hD rfl (he_32_2 t_10.2) neI) hD1
  clear hP1 hD1
  have hIS_12 : oInv S_12 := by rw [eS_12]; exact oInv.I0 (k := 32) (lo := -2147483648) (hi := 2147483647) hIS_7 t_10.2 (by decide) rfl rfl rfl (iv_all _)
  have XS_12 : oX S_7 S_12 := by rw [eS_12]; exact oX.I (k := 32) t_10.2 (by decide)
  have FS_12 : oFr o Z S_12 := by rw [eS_12]; exact oFr.I FS_7
  have X_13 : oX Z S_12 := oX.tr X_8 XS_12
  have t_16 : oty S_12 o 32 := (oX.ty XS_12 t_10)
  obtain ⟨S_15, eS_15⟩ : ∃ zq, zq = setK S_12 o 2 := ⟨_, rfl⟩
  have hP : va_P (dC, dI) vwCl (oW cq S_15) H := by rw [eS_15]; exact cP (ret_W (c := 2) t_16.2 (by decide)) hP
  have hD : va_D A (oW cq S_15) := by rw [eS_15]; exact cD (ret_W (c := 2) t_16.2 (by decide)) hD
  have hIS_15 : oInv S_15 := by rw [eS_15]; exact oInv.ret (c := 2) hIS_12 t_16 (by decide) (fun i hi => (nn_2 hi).elim) (fun i p hp => (ct_no hp (by decide) (by decide) (by decide)).elim) (fun h => absurd h (by decide)) (fun h => absurd h (by decide)) (fun h => absurd h (by decide))
  have XS_15 : oXc o Z S_15 := by rw [eS_15]; exact oXc.ret X_13
  have tS_15 : oty S_15 o 2 := by rw [eS_15]; exact K_ty t_16.1
  have FS_15 : oFr o Z S_15 := by rw [eS_15]; exact oFr.K FS_12
  exact W.vret hx hb hr (fun t ht hW => ⟨⟨S_15, rfl, ⟨hIS_15, XS_15, ⟨tS_15, FS_15⟩⟩, ⟨by rw [ht]; exact hP, va_K.moved hW.alike hK, hD⟩⟩, hS.F ht⟩) hS.2.2 dX2_init_19
set_option maxHeartbeats 4000000 in
set_option maxRecDepth 100000 in
theorem c_X3_init (l : Launch) (dC : Nat → ClassId) (dI : Nat → Nat → Nat) (sz : Nat) (cq : Nat → ClassId) (Z : oS) (gI : oInv Z) (o : Nat) (to : oty Z o 33) (x1 : Int32) (x2 : Int32) (x3 : Int32) (x4 : Int32) (x5 : Int32) (r6 : Option Nat) (tr6 : ∀ b, r6 = some b → oty Z b 3) (hw : (x4.toInt = -9 ∨ (0 ≤ x5.toInt ∧ x5.toInt ≤ 9))) (hg : ∀ b, r6 = some b → oG Z b < oG Z o) : Met l yX3_init wsX3_init ({ frames := 1, cells := 0, slots := 0, locals := 14 }) (va_Pc [.ref o, .int x1, .int x2, .int x3, .int x4, .int x5, va_rf r6] (pcW (dC, dI) (oT cq) (oW cq Z) sz)) (va_Qv (fun (u : oS) => oInv u ∧ oXc o Z u ∧ (oty u o 3 ∧ oFr o Z u)) (fun u t => va_P (dC, dI) vwCl (oW cq u) t.heap ∧ va_K (dC, dI) vwCl (oT cq) t ∧ va_D (va_A (oW cq Z) sz) (oW cq u)) (va_A (oW cq Z) sz)) 0 0 (va_A (oW cq Z) sz) := by
  rcases r6 with _ | br6
  · refine Met.ofW (cc := cX3_init) (maxL := 7) (ret := none) (by decide) rfl ?_
    intro p e s m args below meth c s₁ B hml hv
    obtain ⟨rfl, hsz, hP, hK, hD0⟩ := hv
    have hx := B.exec
    have hb := B.bytes
    have hr := B.returns
    have hts := atoms_spec (ws := wsX3_init) B.pre
    have hown : s.vm.findClass RX3 = some m.cls := findClass_of_methodNamed B.named
    have hlocks := B.notSynchronized
    have hin : meth.name = "<init>" := (name_of_methodNamed B.named B.method).1
    subst hsz
    have hD := hD0.self (sz := s.heap.size)
    generalize hAe : va_A (oW cq Z) s.heap.size = A at hD ⊢
    have hA : ∀ q : Nat, s.heap.size ≤ q → A q := fun q h => by rw [← hAe]; exact Or.inr h
    have hS : va_S A s.heap s.heap [] := va_S.rf
    have hP : va_P (dC, dI) vwCl (oW cq Z) s.heap := hP
    have hl := lv_entry ([.ref o, .int x1, .int x2, .int x3, .int x4, .int x5, va_rf none]) (n := 7) (Nat.le_of_ble_eq_true rfl)
    rw [lg_entry_eq]
    generalize (lg_sl ([.ref o, .int x1, .int x2, .int x3, .int x4, .int x5, va_rf none]) ++ List.replicate (7 - (lg_sl ([.ref o, .int x1, .int x2, .int x3, .int x4, .int x5, va_rf none])).length) Slot.unset).toArray = ls at hl ⊢
    have hl : lv_has ls 7 [(0, .ref o), (1, .int x1), (2, .int x2), (3, .int x3), (4, .int x4), (5, .int x5), (6, va_rf none)] := hl
    have hl : lv_has ls 7 [(0, .ref o), (1, .int x1), (2, .int x2), (3, .int x3), (4, .int x4), (5, .int x5), (6, .null)] := hl
    refine lv_aload_n hx hb dX3_init_0 rfl (lv_at hl 0 rfl) ?_
    refine W.objInit hx hb hown (hts (.methodLink RX3 1 objectInit) (by decide +kernel)) (hts (.instanceMethod objectInit) (by decide +kernel)) (hts (.code objectInit ⟨#[0xb1]⟩ 1 none) (in_obj_wsX3_init)) rfl (by rw [hml]; exact hl.1) rfl dX3_init_1 (Nat.le_of_ble_eq_true rfl) (Nat.le_of_ble_eq_true rfl) ?_
    refine W.eq (g2 := F0 m 4 ls []) rfl ?_
    refine lv_aload_n hx hb dX3_init_4 rfl (lv_at hl 0 rfl) ?_
    refine lv_iload_n hx hb dX3_init_5 rfl (lv_at hl 1 rfl) ?_
    obtain ⟨q_1, hq_1⟩ := og (cq := cq) to.1 (oE_33 to.2)
    refine va_putF (D := (dC, dI)) (ci := 3) (v := .int x1) (ty := .int) (C := RX3) (T := TX3) (N := 6) hx hb hts in_wsX3_init_X3 tyX3 tyX3_ok nmX3 hown hK hP hD hS q_1 hq_1 rfl 0 (by decide) (hts (.fieldLink RX3 7 "ShipOffice$Happening" "kind" "I") (by decide +kernel)) (fun _ h9 => h9) rfl hin rfl (by decide +kernel) rfl rfl (Nat.le_of_ble_eq_true rfl) dX3_init_6 (fun H locs hP1 hD1 hS => ?_)
    obtain ⟨S_2, eS_2⟩ : ∃ zq, zq = setI Z o 0 x1 := ⟨_, rfl⟩
    have hP : va_P (dC, dI) vwCl (oW cq S_2) H := by rw [eS_2]; exact cP (oset to.1 hq_1 hD rfl (he_33_0 to.2) neI) hP1
    have hD : va_D A (oW cq S_2) := by rw [eS_2]; exact cD (oset to.1 hq_1 hD rfl (he_33_0 to.2) neI) hD1
    clear hP1 hD1
    have hIS_2 : oInv S_2 := by rw [eS_2]; exact oInv.I0 (k := 33) (lo := -2147483648) (hi := 2147483647) gI to.2 (by decide) rfl rfl rfl (iv_all _)
    have XS_2 : oX Z S_2 := by rw [eS_2]; exact oX.I (k := 33) to.2 (by decide)
    have FS_2 : oFr o Z S_2 := by rw [eS_2]; exact oFr.I oFr.rf
    have X_3 : oX Z S_2 := XS_2
    refine lv_aload_n hx hb dX3_init_9 rfl (lv_at hl 0 rfl) ?_
    refine lv_iload_n hx hb dX3_init_10 rfl (lv_at hl 2 rfl) ?_
    have t_5 : oty S_2 o 33 := (oX.ty XS_2 to)
    obtain ⟨q_6, hq_6⟩ := og (cq := cq) t_5.1 (oE_33 t_5.2)
    refine va_putF (D := (dC, dI)) (ci := 3) (v := .int x2) (ty := .int) (C := RX3) (T := TX3) (N := 6) hx hb hts in_wsX3_init_X3 tyX3 tyX3_ok nmX3 hown hK hP hD hS q_6 hq_6 rfl 1 (by decide) (hts (.fieldLink RX3 13 "ShipOffice$Happening" "day" "I") (by decide +kernel)) (fun _ h9 => h9) rfl hin rfl (by decide +kernel) rfl rfl (Nat.le_of_ble_eq_true rfl) dX3_init_11 (fun H locs hP1 hD1 hS => ?_)
    obtain ⟨S_7, eS_7⟩ : ∃ zq, zq = setI S_2 o 1 x2 := ⟨_, rfl⟩
    have hP : va_P (dC, dI) vwCl (oW cq S_7) H := by rw [eS_7]; exact cP (oset t_5.1 hq_6 hD rfl (he_33_1 t_5.2) neI) hP1
    have hD : va_D A (oW cq S_7) := by rw [eS_7]; exact cD (oset t_5.1 hq_6 hD rfl (he_33_1 t_5.2) neI) hD1
    clear hP1 hD1
    have hIS_7 : oInv S_7 := by rw [eS_7]; exact oInv.I0 (k := 33) (lo := -2147483648) (hi := 2147483647) hIS_2 t_5.2 (by decide) rfl rfl rfl (iv_all _)
    have XS_7 : oX S_2 S_7 := by rw [eS_7]; exact oX.I (k := 33) t_5.2 (by decide)
    have FS_7 : oFr o Z S_7 := by rw [eS_7]; exact oFr.I FS_2
    have X_8 : oX Z S_7 := oX.tr X_3 XS_7
    refine lv_aload_n hx hb dX3_init_14 rfl (lv_at hl 0 rfl) ?_
    refine lv_iload_n hx hb dX3_init_15 rfl (lv_at hl 3 rfl) ?_
    have t_10 : oty S_7 o 33 := (oX.ty XS_7 t_5)
    obtain ⟨q_11, hq_11⟩ := og (cq := cq) t_10.1 (oE_33 t_10.2)
    refine va_putF (D := (dC, dI)) (ci := 3) (v := .int x3) (ty := .int) (C := RX3) (T := TX3) (N := 6) hx hb hts in_wsX3_init_X3 tyX3 tyX3_ok nmX3 hown hK hP hD hS q_11 hq_11 rfl 2 (by decide) (hts (.fieldLink RX3 16 "ShipOffice$Happening" "told" "I") (by decide +kernel)) (fun _ h9 => h9) rfl hin rfl (by decide +kernel) rfl rfl (Nat.le_of_ble_eq_true rfl) dX3_init_16 (fun H locs hP1 hD1 hS => ?_)
    obtain ⟨S_12, eS_12⟩ : ∃ zq, zq = setI S_7 o 2 x3 := ⟨_, rfl⟩
    have hP : va_P (dC, dI) vwCl (oW cq S_12) H := by rw [eS_12]; exact cP (oset t_10.1 hq_11 hD rfl (he_33_2 t_10.2) neI) hP1
    have hD : va_D A (oW cq S_12) := by rw [eS_12]; exact cD (oset t_10.1 hq_11 hD rfl (he_33_2 t_10.2) neI) hD1
    clear hP1 hD1
    have hIS_12 : oInv S_12 := by rw [eS_12]; exact oInv.I0 (k := 33) (lo := -2147483648) (hi := 2147483647) hIS_7 t_10.2 (by decide) rfl rfl rfl (iv_all _)
    have XS_12 : oX S_7 S_12 := by rw [eS_12]; exact oX.I (k := 33) t_10.2 (by decide)
    have FS_12 : oFr o Z S_12 := by rw [eS_12]; exact oFr.I FS_7
    have X_13 : oX Z S_12 := oX.tr X_8 XS_12
    refine lv_aload_n hx hb dX3_init_19 rfl (lv_at hl 0 rfl) ?_
    refine lv_iload hx hb dX3_init_20 (lv_at hl 4 rfl) ?_
    have t_15 : oty S_12 o 33 := (oX.ty XS_12 t_10)
    obtain ⟨q_16, hq_16⟩ := og (cq := cq) t_15.1 (oE_33 t_15.2)
    refine va_putF (D := (dC, dI)) (ci := 3) (v := .int x4) (ty := .int) (C := RX3) (T := TX3) (N := 6) hx hb hts in_wsX3_init_X3 tyX3 tyX3_ok nmX3 hown hK hP hD hS q_16 hq_16 rfl 3 (by decide) (hts (.fieldLink RX3 19 "ShipOffice$Happening" "way" "I") (by decide +kernel)) (fun _ h9 => h9) rfl hin rfl (by decide +kernel) rfl rfl (Nat.le_of_ble_eq_true rfl) dX3_init_22 (fun H locs hP1 hD1 hS => ?_)
    obtain ⟨S_17, eS_17⟩ : ∃ zq, zq = setI S_12 o 3 x4 := ⟨_, rfl⟩
    have hP : va_P (dC, dI) vwCl (oW cq S_17) H := by rw [eS_17]; exact cP (oset t_15.1 hq_16 hD rfl (he_33_3 t_15.2) neI) hP1
    have hD : va_D A (oW cq S_17) := by rw [eS_17]; exact cD (oset t_15.1 hq_16 hD rfl (he_33_3 t_15.2) neI) hD1
    clear hP1 hD1
    have hIS_17 : oInv S_17 := by rw [eS_17]; exact oInv.I0 (k := 33) (lo := -2147483648) (hi := 2147483647) hIS_12 t_15.2 (by decide) rfl rfl rfl (iv_all _)
    have XS_17 : oX S_12 S_17 := by rw [eS_17]; exact oX.I (k := 33) t_15.2 (by decide)
    have FS_17 : oFr o Z S_17 := by rw [eS_17]; exact oFr.I FS_12
    have X_18 : oX Z S_17 := oX.tr X_13 XS_17
    have pk_19 : oI S_17 o 3 = x4 := by rw [eS_17, setI_same]
    refine lv_aload_n hx hb dX3_init_25 rfl (lv_at hl 0 rfl) ?_
    refine lv_iload hx hb dX3_init_26 (lv_at hl 5 rfl) ?_
    have t_20 : oty S_17 o 33 := (oX.ty XS_17 t_15)
    obtain ⟨q_21, hq_21⟩ := og (cq := cq) t_20.1 (oE_33 t_20.2)
    refine va_putF (D := (dC, dI)) (ci := 3) (v := .int x5) (ty := .int) (C := RX3) (T := TX3) (N := 6) hx hb hts in_wsX3_init_X3 tyX3 tyX3_ok nmX3 hown hK hP hD hS q_21 hq_21 rfl 4 (by decide) (hts (.fieldLink RX3 22 "ShipOffice$Happening" "port" "I") (by decide +kernel)) (fun _ h9 => h9) rfl hin rfl (by decide +kernel) rfl rfl (Nat.le_of_ble_eq_true rfl) dX3_init_28 (fun H locs hP1 hD1 hS => ?_)
    obtain ⟨S_22, eS_22⟩ : ∃ zq, zq = setI S_17 o 4 x5 := ⟨_, rfl⟩
    have hP : va_P (dC, dI) vwCl (oW cq S_22) H := by rw [eS_22]; exact cP (oset t_20.1 hq_21 hD rfl (he_33_4 t_20.2) neI) hP1
    have hD : va_D A (oW cq S_22) := by rw [eS_22]; exact cD (oset t_20.1 hq_21 hD rfl (he_33_4 t_20.2) neI) hD1
    clear hP1 hD1
    have hIS_22 : oInv S_22 := by rw [eS_22]; exact oInv.I0 (k := 33) (lo := -2147483648) (hi := 2147483647) hIS_17 t_20.2 (by decide) rfl rfl rfl (iv_all _)
    have XS_22 : oX S_17 S_22 := by rw [eS_22]; exact oX.I (k := 33) t_20.2 (by decide)
    have ik_23 : oI S_22 o 3 = x4 := by rw [eS_22, setI_ne (by decide)]; exact pk_19
    have FS_22 : oFr o Z S_22 := by rw [eS_22]; exact oFr.I FS_17
    have X_24 : oX Z S_22 := oX.tr X_18 XS_22
    have pk_25 : oI S_22 o 4 = x5 := by rw [eS_22, setI_same]
    refine lv_aload_n hx hb dX3_init_31 rfl (lv_at hl 0 rfl) ?_
    refine lv_aloadN hx hb dX3_init_32 (lv_at hl 6 rfl) ?_
    have t_26 : oty S_22 o 33 := (oX.ty XS_22 t_20)
    obtain ⟨q_27, hq_27⟩ := og (cq := cq) t_26.1 (oE_33 t_26.2)
    refine va_putF (D := (dC, dI)) (ci := 3) (v := .null) (ty := .object "ShipOffice$Happening") (C := RX3) (T := TX3) (N := 6) hx hb hts in_wsX3_init_X3 tyX3 tyX3_ok nmX3 hown hK hP hD hS q_27 hq_27 rfl 5 (by decide) (hts (.fieldLink RX3 25 "ShipOffice$Happening" "before" "LShipOffice$Happening;") (by decide +kernel)) (fun _ h9 => h9) rfl hin rfl (by decide +kernel) rfl rfl (Nat.le_of_ble_eq_true rfl) dX3_init_34 (fun H locs hP1 hD1 hS => ?_)
    obtain ⟨S_28, eS_28⟩ : ∃ zq, zq = setP S_22 o 5 none := ⟨_, rfl⟩
    have hP : va_P (dC, dI) vwCl (oW cq S_28) H := by rw [eS_28]; exact cP (oset t_26.1 hq_27 hD rfl (he_33_5 t_26.2) neP) hP1
    have hD : va_D A (oW cq S_28) := by rw [eS_28]; exact cD (oset t_26.1 hq_27 hD rfl (he_33_5 t_26.2) neP) hD1
    clear hP1 hD1
    have hIS_28 : oInv S_28 := by rw [eS_28]; exact oInv.Pn (k := 33) hIS_22 t_26.2 (by decide) rfl (by decide) rfl
    have XS_28 : oX S_22 S_28 := by rw [eS_28]; exact oX.P
    have ik_29 : oI S_28 o 3 = x4 := by rw [eS_28]; exact ik_23
    have ik_30 : oI S_28 o 4 = x5 := by rw [eS_28]; exact pk_25
    have FS_28 : oFr o Z S_28 := by rw [eS_28]; exact oFr.P FS_22
    have X_31 : oX Z S_28 := oX.tr X_24 XS_28
    have pk_32 : oP S_28 o 5 = none := by rw [eS_28, setP_same]
    have t_34 : oty S_28 o 33 := (oX.ty XS_28 t_26)
    obtain ⟨S_33, eS_33⟩ : ∃ zq, zq = setK S_28 o 3 := ⟨_, rfl⟩
    have hP : va_P (dC, dI) vwCl (oW cq S_33) H := by rw [eS_33]; exact cP (ret_W (c := 3) t_34.2 (by decide)) hP
    have hD : va_D A (oW cq S_33) := by rw [eS_33]; exact cD (ret_W (c := 3) t_34.2 (by decide)) hD
    have hIS_33 : oInv S_33 := by rw [eS_33]; exact oInv.ret (c := 3) hIS_28 t_34 (by decide) (fun i hi => (nn_3 hi).elim) (fun i p hp => (ct_no hp (by decide) (by decide) (by decide)).elim) (fun h => absurd h (by decide)) (fun _ b hb => by rw [pk_32] at hb; cases hb) (fun _ => by rw [ik_29, ik_30]; exact hw)
    have XS_33 : oXc o Z S_33 := by rw [eS_33]; exact oXc.ret X_31
    have tS_33 : oty S_33 o 3 := by rw [eS_33]; exact K_ty t_34.1
    have FS_33 : oFr o Z S_33 := by rw [eS_33]; exact oFr.K FS_28
    exact W.vret hx hb hr (fun t ht hW => ⟨⟨S_33, rfl, ⟨hIS_33, XS_33, ⟨tS_33, FS_33⟩⟩, ⟨by rw [ht]; exact hP, va_K.moved hW.alike hK, hD⟩⟩, hS.F ht⟩) hS.2.2 dX3_init_37
  · refine Met.ofW (cc := cX3_init) (maxL := 7) (ret := none) (by decide) rfl ?_
    intro p e s m args below meth c s₁ B hml hv
    obtain ⟨rfl, hsz, hP, hK, hD0⟩ := hv
    have hx := B.exec
    have hb := B.bytes
    have hr := B.returns
    have hts := atoms_spec (ws := wsX3_init) B.pre
    have hown : s.vm.findClass RX3 = some m.cls := findClass_of_methodNamed B.named
    have hlocks := B.notSynchronized
    have hin : meth.name = "<init>" := (name_of_methodNamed B.named B.method).1
    subst hsz
    have hD := hD0.self (sz := s.heap.size)
    generalize hAe : va_A (oW cq Z) s.heap.size = A at hD ⊢
    have hA : ∀ q : Nat, s.heap.size ≤ q → A q := fun q h => by rw [← hAe]; exact Or.inr h
    have hS : va_S A s.heap s.heap [] := va_S.rf
    have hP : va_P (dC, dI) vwCl (oW cq Z) s.heap := hP
    have hl := lv_entry ([.ref o, .int x1, .int x2, .int x3, .int x4, .int x5, va_rf (some br6)]) (n := 7) (Nat.le_of_ble_eq_true rfl)
    rw [lg_entry_eq]
    generalize (lg_sl ([.ref o, .int x1, .int x2, .int x3, .int x4, .int x5, va_rf (some br6)]) ++ List.replicate (7 - (lg_sl ([.ref o, .int x1, .int x2, .int x3, .int x4, .int x5, va_rf (some br6)])).length) Slot.unset).toArray = ls at hl ⊢
    have hl : lv_has ls 7 [(0, .ref o), (1, .int x1), (2, .int x2), (3, .int x3), (4, .int x4), (5, .int x5), (6, va_rf (some br6))] := hl
    have hl : lv_has ls 7 [(0, .ref o), (1, .int x1), (2, .int x2), (3, .int x3), (4, .int x4), (5, .int x5), (6, .ref br6)] := hl
    have tbbr6 : oty Z br6 3 := tr6 br6 rfl
    refine lv_aload_n hx hb dX3_init_0 rfl (lv_at hl 0 rfl) ?_
    refine W.objInit hx hb hown (hts (.methodLink RX3 1 objectInit) (by decide +kernel)) (hts (.instanceMethod objectInit) (by decide +kernel)) (hts (.code objectInit ⟨#[0xb1]⟩ 1 none) (in_obj_wsX3_init)) rfl (by rw [hml]; exact hl.1) rfl dX3_init_1 (Nat.le_of_ble_eq_true rfl) (Nat.le_of_ble_eq_true rfl) ?_
    refine W.eq (g2 := F0 m 4 ls []) rfl ?_
    refine lv_aload_n hx hb dX3_init_4 rfl (lv_at hl 0 rfl) ?_
    refine lv_iload_n hx hb dX3_init_5 rfl (lv_at hl 1 rfl) ?_
    obtain ⟨q_35, hq_35⟩ := og (cq := cq) to.1 (oE_33 to.2)
    refine va_putF (D := (dC, dI)) (ci := 3) (v := .int x1) (ty := .int) (C := RX3) (T := TX3) (N := 6) hx hb hts in_wsX3_init_X3 tyX3 tyX3_ok nmX3 hown hK hP hD hS q_35 hq_35 rfl 0 (by decide) (hts (.fieldLink RX3 7 "ShipOffice$Happening" "kind" "I") (by decide +kernel)) (fun _ h9 => h9) rfl hin rfl (by decide +kernel) rfl rfl (Nat.le_of_ble_eq_true rfl) dX3_init_6 (fun H locs hP1 hD1 hS => ?_)
    obtain ⟨S_36, eS_36⟩ : ∃ zq, zq = setI Z o 0 x1 := ⟨_, rfl⟩
    have hP : va_P (dC, dI) vwCl (oW cq S_36) H := by rw [eS_36]; exact cP (oset to.1 hq_35 hD rfl (he_33_0 to.2) neI) hP1
    have hD : va_D A (oW cq S_36) := by rw [eS_36]; exact cD (oset to.1 hq_35 hD rfl (he_33_0 to.2) neI) hD1
    clear hP1 hD1
    have hIS_36 : oInv S_36 := by rw [eS_36]; exact oInv.I0 (k := 33) (lo := -2147483648) (hi := 2147483647) gI to.2 (by decide) rfl rfl rfl (iv_all _)
    have XS_36 : oX Z S_36 := by rw [eS_36]; exact oX.I (k := 33) to.2 (by decide)
    have gk_37 : oG S_36 br6 < oG S_36 o := by rw [eS_36]; exact (hg br6 rfl)
    have FS_36 : oFr o Z S_36 := by rw [eS_36]; exact oFr.I oFr.rf
    have X_38 : oX Z S_36 := XS_36
    refine lv_aload_n hx hb dX3_init_9 rfl (lv_at hl 0 rfl) ?_
    refine lv_iload_n hx hb dX3_init_10 rfl (lv_at hl 2 rfl) ?_
    have t_40 : oty S_36 o 33 := (oX.ty XS_36 to)
    obtain ⟨q_41, hq_41⟩ := og (cq := cq) t_40.1 (oE_33 t_40.2)
    refine va_putF (D := (dC, dI)) (ci := 3) (v := .int x2) (ty := .int) (C := RX3) (T := TX3) (N := 6) hx hb hts in_wsX3_init_X3 tyX3 tyX3_ok nmX3 hown hK hP hD hS q_41 hq_41 rfl 1 (by decide) (hts (.fieldLink RX3 13 "ShipOffice$Happening" "day" "I") (by decide +kernel)) (fun _ h9 => h9) rfl hin rfl (by decide +kernel) rfl rfl (Nat.le_of_ble_eq_true rfl) dX3_init_11 (fun H locs hP1 hD1 hS => ?_)
    obtain ⟨S_42, eS_42⟩ : ∃ zq, zq = setI S_36 o 1 x2 := ⟨_, rfl⟩
    have hP : va_P (dC, dI) vwCl (oW cq S_42) H := by rw [eS_42]; exact cP (oset t_40.1 hq_41 hD rfl (he_33_1 t_40.2) neI) hP1
    have hD : va_D A (oW cq S_42) := by rw [eS_42]; exact cD (oset t_40.1 hq_41 hD rfl (he_33_1 t_40.2) neI) hD1
    clear hP1 hD1
    have hIS_42 : oInv S_42 := by rw [eS_42]; exact oInv.I0 (k := 33) (lo := -2147483648) (hi := 2147483647) hIS_36 t_40.2 (by decide) rfl rfl rfl (iv_all _)
    have XS_42 : oX S_36 S_42 := by rw [eS_42]; exact oX.I (k := 33) t_40.2 (by decide)
    have gk_43 : oG S_42 br6 < oG S_42 o := by rw [eS_42]; exact gk_37
    have FS_42 : oFr o Z S_42 := by rw [eS_42]; exact oFr.I FS_36
    have X_44 : oX Z S_42 := oX.tr X_38 XS_42
    refine lv_aload_n hx hb dX3_init_14 rfl (lv_at hl 0 rfl) ?_
    refine lv_iload_n hx hb dX3_init_15 rfl (lv_at hl 3 rfl) ?_
    have t_46 : oty S_42 o 33 := (oX.ty XS_42 t_40)
    obtain ⟨q_47, hq_47⟩ := og (cq := cq) t_46.1 (oE_33 t_46.2)
    refine va_putF (D := (dC, dI)) (ci := 3) (v := .int x3) (ty := .int) (C := RX3) (T := TX3) (N := 6) hx hb hts in_wsX3_init_X3 tyX3 tyX3_ok nmX3 hown hK hP hD hS q_47 hq_47 rfl 2 (by decide) (hts (.fieldLink RX3 16 "ShipOffice$Happening" "told" "I") (by decide +kernel)) (fun _ h9 => h9) rfl hin rfl (by decide +kernel) rfl rfl (Nat.le_of_ble_eq_true rfl) dX3_init_16 (fun H locs hP1 hD1 hS => ?_)
    obtain ⟨S_48, eS_48⟩ : ∃ zq, zq = setI S_42 o 2 x3 := ⟨_, rfl⟩
    have hP : va_P (dC, dI) vwCl (oW cq S_48) H := by rw [eS_48]; exact cP (oset t_46.1 hq_47 hD rfl (he_33_2 t_46.2) neI) hP1
    have hD : va_D A (oW cq S_48) := by rw [eS_48]; exact cD (oset t_46.1 hq_47 hD rfl (he_33_2 t_46.2) neI) hD1
    clear hP1 hD1
    have hIS_48 : oInv S_48 := by rw [eS_48]; exact oInv.I0 (k := 33) (lo := -2147483648) (hi := 2147483647) hIS_42 t_46.2 (by decide) rfl rfl rfl (iv_all _)
    have XS_48 : oX S_42 S_48 := by rw [eS_48]; exact oX.I (k := 33) t_46.2 (by decide)
    have gk_49 : oG S_48 br6 < oG S_48 o := by rw [eS_48]; exact gk_43
    have FS_48 : oFr o Z S_48 := by rw [eS_48]; exact oFr.I FS_42
    have X_50 : oX Z S_48 := oX.tr X_44 XS_48
    refine lv_aload_n hx hb dX3_init_19 rfl (lv_at hl 0 rfl) ?_
    refine lv_iload hx hb dX3_init_20 (lv_at hl 4 rfl) ?_
    have t_52 : oty S_48 o 33 := (oX.ty XS_48 t_46)
    obtain ⟨q_53, hq_53⟩ := og (cq := cq) t_52.1 (oE_33 t_52.2)
    refine va_putF (D := (dC, dI)) (ci := 3) (v := .int x4) (ty := .int) (C := RX3) (T := TX3) (N := 6) hx hb hts in_wsX3_init_X3 tyX3 tyX3_ok nmX3 hown hK hP hD hS q_53 hq_53 rfl 3 (by decide) (hts (.fieldLink RX3 19 "ShipOffice$Happening" "way" "I") (by decide +kernel)) (fun _ h9 => h9) rfl hin rfl (by decide +kernel) rfl rfl (Nat.le_of_ble_eq_true rfl) dX3_init_22 (fun H locs hP1 hD1 hS => ?_)
    obtain ⟨S_54, eS_54⟩ : ∃ zq, zq = setI S_48 o 3 x4 := ⟨_, rfl⟩
    have hP : va_P (dC, dI) vwCl (oW cq S_54) H := by rw [eS_54]; exact cP (oset t_52.1 hq_53 hD rfl (he_33_3 t_52.2) neI) hP1
    have hD : va_D A (oW cq S_54) := by rw [eS_54]; exact cD (oset t_52.1 hq_53 hD rfl (he_33_3 t_52.2) neI) hD1
    clear hP1 hD1
    have hIS_54 : oInv S_54 := by rw [eS_54]; exact oInv.I0 (k := 33) (lo := -2147483648) (hi := 2147483647) hIS_48 t_52.2 (by decide) rfl rfl rfl (iv_all _)
    have XS_54 : oX S_48 S_54 := by rw [eS_54]; exact oX.I (k := 33) t_52.2 (by decide)
    have gk_55 : oG S_54 br6 < oG S_54 o := by rw [eS_54]; exact gk_49
    have FS_54 : oFr o Z S_54 := by rw [eS_54]; exact oFr.I FS_48
    have X_56 : oX Z S_54 := oX.tr X_50 XS_54
    have pk_57 : oI S_54 o 3 = x4 := by rw [eS_54, setI_same]
    refine lv_aload_n hx hb dX3_init_25 rfl (lv_at hl 0 rfl) ?_
    refine lv_iload hx hb dX3_init_26 (lv_at hl 5 rfl) ?_
    have t_58 : oty S_54 o 33 := (oX.ty XS_54 t_52)
    obtain ⟨q_59, hq_59⟩ := og (cq := cq) t_58.1 (oE_33 t_58.2)
    refine va_putF (D := (dC, dI)) (ci := 3) (v := .int x5) (ty := .int) (C := RX3) (T := TX3) (N := 6) hx hb hts in_wsX3_init_X3 tyX3 tyX3_ok nmX3 hown hK hP hD hS q_59 hq_59 rfl 4 (by decide) (hts (.fieldLink RX3 22 "ShipOffice$Happening" "port" "I") (by decide +kernel)) (fun _ h9 => h9) rfl hin rfl (by decide +kernel) rfl rfl (Nat.le_of_ble_eq_true rfl) dX3_init_28 (fun H locs hP1 hD1 hS => ?_)
    obtain ⟨S_60, eS_60⟩ : ∃ zq, zq = setI S_54 o 4 x5 := ⟨_, rfl⟩
    have hP : va_P (dC, dI) vwCl (oW cq S_60) H := by rw [eS_60]; exact cP (oset t_58.1 hq_59 hD rfl (he_33_4 t_58.2) neI) hP1
    have hD : va_D A (oW cq S_60) := by rw [eS_60]; exact cD (oset t_58.1 hq_59 hD rfl (he_33_4 t_58.2) neI) hD1
    clear hP1 hD1
    have hIS_60 : oInv S_60 := by rw [eS_60]; exact oInv.I0 (k := 33) (lo := -2147483648) (hi := 2147483647) hIS_54 t_58.2 (by decide) rfl rfl rfl (iv_all _)
    have XS_60 : oX S_54 S_60 := by rw [eS_60]; exact oX.I (k := 33) t_58.2 (by decide)
    have ik_61 : oI S_60 o 3 = x4 := by rw [eS_60, setI_ne (by decide)]; exact pk_57
    have gk_62 : oG S_60 br6 < oG S_60 o := by rw [eS_60]; exact gk_55
    have FS_60 : oFr o Z S_60 := by rw [eS_60]; exact oFr.I FS_54
    have X_63 : oX Z S_60 := oX.tr X_56 XS_60
    have pk_64 : oI S_60 o 4 = x5 := by rw [eS_60, setI_same]
    refine lv_aload_n hx hb dX3_init_31 rfl (lv_at hl 0 rfl) ?_
    refine lv_aload hx hb dX3_init_32 (lv_at hl 6 rfl) ?_
    have t_65 : oty S_60 o 33 := (oX.ty XS_60 t_58)
    obtain ⟨q_66, hq_66⟩ := og (cq := cq) t_65.1 (oE_33 t_65.2)
    have t_67 : oty S_60 br6 3 := (oX.ty XS_60 (oX.ty XS_54 (oX.ty XS_48 (oX.ty XS_42 (oX.ty XS_36 tbbr6)))))
    refine va_putF (D := (dC, dI)) (ci := 3) (v := .ref br6) (ty := .object "ShipOffice$Happening") (C := RX3) (T := TX3) (N := 6) hx hb hts in_wsX3_init_X3 tyX3 tyX3_ok nmX3 hown hK hP hD hS q_66 hq_66 rfl 5 (by decide) (hts (.fieldLink RX3 25 "ShipOffice$Happening" "before" "LShipOffice$Happening;") (by decide +kernel)) (fun _ h9 => h9) rfl hin rfl (by decide +kernel) rfl rfl (Nat.le_of_ble_eq_true rfl) dX3_init_34 (fun H locs hP1 hD1 hS => ?_)
    obtain ⟨S_68, eS_68⟩ : ∃ zq, zq = setP S_60 o 5 (some br6) := ⟨_, rfl⟩
    have hP : va_P (dC, dI) vwCl (oW cq S_68) H := by rw [eS_68]; exact cP (oset t_65.1 hq_66 hD rfl (he_33_5 t_65.2) neP) hP1
    have hD : va_D A (oW cq S_68) := by rw [eS_68]; exact cD (oset t_65.1 hq_66 hD rfl (he_33_5 t_65.2) neP) hD1
    clear hP1 hD1
    have hIS_68 : oInv S_68 := by rw [eS_68]; exact oInv.P (k := 33) hIS_60 t_65.2 (by decide) rfl (by decide) t_67 (by decide)
    have XS_68 : oX S_60 S_68 := by rw [eS_68]; exact oX.P
    have ik_69 : oI S_68 o 3 = x4 := by rw [eS_68]; exact ik_61
    have ik_70 : oI S_68 o 4 = x5 := by rw [eS_68]; exact pk_64
    have gk_71 : oG S_68 br6 < oG S_68 o := by rw [eS_68]; exact gk_62
    have FS_68 : oFr o Z S_68 := by rw [eS_68]; exact oFr.P FS_60
    have X_72 : oX Z S_68 := oX.tr X_63 XS_68
    have pk_73 : oP S_68 o 5 = some br6 := by rw [eS_68, setP_same]
    have t_75 : oty S_68 o 33 := (oX.ty XS_68 t_65)
    obtain ⟨S_74, eS_74⟩ : ∃ zq, zq = setK S_68 o 3 := ⟨_, rfl⟩
    have hP : va_P (dC, dI) vwCl (oW cq S_74) H := by rw [eS_74]; exact cP (ret_W (c := 3) t_75.2 (by decide)) hP
    have hD : va_D A (oW cq S_74) := by rw [eS_74]; exact cD (ret_W (c := 3) t_75.2 (by decide)) hD
    have hIS_74 : oInv S_74 := by rw [eS_74]; exact oInv.ret (c := 3) hIS_68 t_75 (by decide) (fun i hi => (nn_3 hi).elim) (fun i p hp => (ct_no hp (by decide) (by decide) (by decide)).elim) (fun h => absurd h (by decide)) (fun _ b hb => by rw [pk_73] at hb; cases hb; exact gk_71) (fun _ => by rw [ik_69, ik_70]; exact hw)
    have XS_74 : oXc o Z S_74 := by rw [eS_74]; exact oXc.ret X_72
    have tS_74 : oty S_74 o 3 := by rw [eS_74]; exact K_ty t_75.1
    have FS_74 : oFr o Z S_74 := by rw [eS_74]; exact oFr.K FS_68
    exact W.vret hx hb hr (fun t ht hW => ⟨⟨S_74, rfl, ⟨hIS_74, XS_74, ⟨tS_74, FS_74⟩⟩, ⟨by rw [ht]; exact hP, va_K.moved hW.alike hK, hD⟩⟩, hS.F ht⟩) hS.2.2 dX3_init_37
set_option maxHeartbeats 4000000 in
set_option maxRecDepth 100000 in
theorem c_X6_init (l : Launch) (dC : Nat → ClassId) (dI : Nat → Nat → Nat) (sz : Nat) (cq : Nat → ClassId) (Z : oS) (gI : oInv Z) (o : Nat) (to : oty Z o 36) (x1 : Int32) (x2 : Int32) (x3 : Int32) (x4 : Int32) : Met l yX6_init wsX6_init ({ frames := 1, cells := 1, slots := 4, locals := 14 }) (va_Pc [.ref o, .int x1, .int x2, .int x3, .int x4] (pcW (dC, dI) (oT cq) (oW cq Z) sz)) (va_Qv (fun (u : oS) => oInv u ∧ oXc o Z u ∧ (oty u o 6 ∧ oFr o Z u)) (fun u t => va_P (dC, dI) vwCl (oW cq u) t.heap ∧ va_K (dC, dI) vwCl (oT cq) t ∧ va_D (va_A (oW cq Z) sz) (oW cq u)) (va_A (oW cq Z) sz)) 1 4 (va_A (oW cq Z) sz) := by
  refine Met.ofW (cc := cX6_init) (maxL := 5) (ret := none) (by decide) rfl ?_
  intro p e s m args below meth c s₁ B hml hv
  obtain ⟨rfl, hsz, hP, hK, hD0⟩ := hv
  have hx := B.exec
  have hb := B.bytes
  have hr := B.returns
  have hts := atoms_spec (ws := wsX6_init) B.pre
  have hown : s.vm.findClass RX6 = some m.cls := findClass_of_methodNamed B.named
  have hlocks := B.notSynchronized
  have hin : meth.name = "<init>" := (name_of_methodNamed B.named B.method).1
  subst hsz
  have hD := hD0.self (sz := s.heap.size)
  generalize hAe : va_A (oW cq Z) s.heap.size = A at hD ⊢
  have hA : ∀ q : Nat, s.heap.size ≤ q → A q := fun q h => by rw [← hAe]; exact Or.inr h
  have hS : va_S A s.heap s.heap [] := va_S.rf
  have hP : va_P (dC, dI) vwCl (oW cq Z) s.heap := hP
  have hl := lv_entry ([.ref o, .int x1, .int x2, .int x3, .int x4]) (n := 5) (Nat.le_of_ble_eq_true rfl)
  rw [lg_entry_eq]
  generalize (lg_sl ([.ref o, .int x1, .int x2, .int x3, .int x4]) ++ List.replicate (5 - (lg_sl ([.ref o, .int x1, .int x2, .int x3, .int x4])).length) Slot.unset).toArray = ls at hl ⊢
  have hl : lv_has ls 5 [(0, .ref o), (1, .int x1), (2, .int x2), (3, .int x3), (4, .int x4)] := hl
  refine lv_aload_n hx hb dX6_init_0 rfl (lv_at hl 0 rfl) ?_
  refine W.objInit hx hb hown (hts (.methodLink RX6 3 objectInit) (by decide +kernel)) (hts (.instanceMethod objectInit) (by decide +kernel)) (hts (.code objectInit ⟨#[0xb1]⟩ 1 none) (in_obj_wsX6_init)) rfl (by rw [hml]; exact hl.1) rfl dX6_init_1 (Nat.le_of_ble_eq_true rfl) (Nat.le_of_ble_eq_true rfl) ?_
  refine W.eq (g2 := F0 m 4 ls []) rfl ?_
  refine lv_aload_n hx hb dX6_init_4 rfl (lv_at hl 0 rfl) ?_
  refine lv_iconst (v := 4) hx hb dX6_init_5 (by decide) ?_
  refine va_newa (atype := .int) (ty := .int) (a0 := (4, .inl (fun _ => 0))) hx hb (hts (.arrayClass .int) (by decide +kernel)) rfl hK hP hD hS hA (fun _ => rfl) (by decide) (by decide) (by decide) (Nat.le_of_ble_eq_true rfl) (Nat.le_of_ble_eq_true rfl) dX6_init_6 (fun q_1 k_2 H hK1 hP1 hD1 hS => ?_)
  obtain ⟨rfl, -⟩ := lv_ad (k := 0) hK1 rfl
  clear hK1
  have hnq_1 := add_q hD1
  obtain ⟨S_3, eS_3⟩ : ∃ zq, zq = addO Z q_1 104 := ⟨_, rfl⟩
  have hP : va_P (dC, dI) vwCl (oW cq S_3) H := by rw [eS_3]; exact cP (onew hD1 (by rw [oE_ar (n := 4) add_K, add_I])) hP1
  have hD : va_D A (oW cq S_3) := by rw [eS_3]; exact cD (onew hD1 (by rw [oE_ar (n := 4) add_K, add_I])) hD1
  clear hP1 hD1
  have hIS_3 : oInv S_3 := by rw [eS_3]; exact oInv.add gI hnq_1 (by decide)
  have XS_3 : oX Z S_3 := by rw [eS_3]; exact oX.add hnq_1
  have FS_3 : oFr o Z S_3 := by rw [eS_3]; exact oFr.add oFr.rf oX.rf hnq_1
  have X_4 : oX Z S_3 := XS_3
  have tq_1 : oty S_3 q_1 104 := by rw [eS_3]; exact add_ty
  refine W.widen (k := 1) (n := 4) (Nat.le_of_ble_eq_true rfl) (Nat.le_of_ble_eq_true rfl) ?_
  have t_5 : oty S_3 o 36 := (oX.ty XS_3 to)
  obtain ⟨q_6, hq_6⟩ := og (cq := cq) t_5.1 (oE_36 t_5.2)
  refine va_putF (D := (dC, dI)) (ci := 6) (v := .ref q_1) (ty := .array .int) (C := RX6) (T := TX6) (N := 6) hx hb hts in_wsX6_init_X6 tyX6 tyX6_ok nmX6 hown hK hP hD hS q_6 hq_6 rfl 4 (by decide) (hts (.fieldLink RX6 9 "ShipOffice$Man" "wages" "[I") (by decide +kernel)) (fun _ h9 => h9) rfl hin rfl (by decide +kernel) rfl rfl (Nat.le_of_ble_eq_true rfl) dX6_init_8 (fun H locs hP1 hD1 hS => ?_)
  obtain ⟨S_7, eS_7⟩ : ∃ zq, zq = setP S_3 o 4 (some q_1) := ⟨_, rfl⟩
  have hP : va_P (dC, dI) vwCl (oW cq S_7) H := by rw [eS_7]; exact cP (oset t_5.1 hq_6 hD rfl (he_36_4 t_5.2) neP) hP1
  have hD : va_D A (oW cq S_7) := by rw [eS_7]; exact cD (oset t_5.1 hq_6 hD rfl (he_36_4 t_5.2) neP) hD1
  clear hP1 hD1
  have hIS_7 : oInv S_7 := by rw [eS_7]; exact oInv.P (k := 36) hIS_3 t_5.2 (by decide) rfl (by decide) tq_1 (by decide)
  have XS_7 : oX S_3 S_7 := by rw [eS_7]; exact oX.P
  have FS_7 : oFr o Z S_7 := by rw [eS_7]; exact oFr.P FS_3
  have X_8 : oX Z S_7 := oX.tr X_4 XS_7
  have pk_9 : oP S_7 o 4 = some q_1 := by rw [eS_7, setP_same]
  refine lv_aload_n hx hb dX6_init_11 rfl (lv_at hl 0 rfl) ?_
  refine lv_iload_n hx hb dX6_init_12 rfl (lv_at hl 1 rfl) ?_
  have t_10 : oty S_7 o 36 := (oX.ty XS_7 t_5)
  obtain ⟨q_11, hq_11⟩ := og (cq := cq) t_10.1 (oE_36 t_10.2)
  refine va_putF (D := (dC, dI)) (ci := 6) (v := .int x1) (ty := .int) (C := RX6) (T := TX6) (N := 6) hx hb hts in_wsX6_init_X6 tyX6 tyX6_ok nmX6 hown hK hP hD hS q_11 hq_11 rfl 0 (by decide) (hts (.fieldLink RX6 15 "ShipOffice$Man" "number" "I") (by decide +kernel)) (fun _ h9 => h9) rfl hin rfl (by decide +kernel) rfl rfl (Nat.le_of_ble_eq_true rfl) dX6_init_13 (fun H locs hP1 hD1 hS => ?_)
  obtain ⟨S_12, eS_12⟩ : ∃ zq, zq = setI S_7 o 0 x1 := ⟨_, rfl⟩
  have hP : va_P (dC, dI) vwCl (oW cq S_12) H := by rw [eS_12]; exact cP (oset t_10.1 hq_11 hD rfl (he_36_0 t_10.2) neI) hP1
  have hD : va_D A (oW cq S_12) := by rw [eS_12]; exact cD (oset t_10.1 hq_11 hD rfl (he_36_0 t_10.2) neI) hD1
  clear hP1 hD1
  have hIS_12 : oInv S_12 := by rw [eS_12]; exact oInv.I0 (k := 36) (lo := -2147483648) (hi := 2147483647) hIS_7 t_10.2 (by decide) rfl rfl rfl (iv_all _)
  have XS_12 : oX S_7 S_12 := by rw [eS_12]; exact oX.I (k := 36) t_10.2 (by decide)
  have pk_13 : oP S_12 o 4 = some q_1 := by rw [eS_12]; exact pk_9
  have FS_12 : oFr o Z S_12 := by rw [eS_12]; exact oFr.I FS_7
  have X_14 : oX Z S_12 := oX.tr X_8 XS_12
  refine lv_aload_n hx hb dX6_init_16 rfl (lv_at hl 0 rfl) ?_
  refine lv_iload_n hx hb dX6_init_17 rfl (lv_at hl 2 rfl) ?_
  have t_16 : oty S_12 o 36 := (oX.ty XS_12 t_10)
  obtain ⟨q_17, hq_17⟩ := og (cq := cq) t_16.1 (oE_36 t_16.2)
  refine va_putF (D := (dC, dI)) (ci := 6) (v := .int x2) (ty := .int) (C := RX6) (T := TX6) (N := 6) hx hb hts in_wsX6_init_X6 tyX6 tyX6_ok nmX6 hown hK hP hD hS q_17 hq_17 rfl 1 (by decide) (hts (.fieldLink RX6 19 "ShipOffice$Man" "name" "I") (by decide +kernel)) (fun _ h9 => h9) rfl hin rfl (by decide +kernel) rfl rfl (Nat.le_of_ble_eq_true rfl) dX6_init_18 (fun H locs hP1 hD1 hS => ?_)
  obtain ⟨S_18, eS_18⟩ : ∃ zq, zq = setI S_12 o 1 x2 := ⟨_, rfl⟩
  have hP : va_P (dC, dI) vwCl (oW cq S_18) H := by rw [eS_18]; exact cP (oset t_16.1 hq_17 hD rfl (he_36_1 t_16.2) neI) hP1
  have hD : va_D A (oW cq S_18) := by rw [eS_18]; exact cD (oset t_16.1 hq_17 hD rfl (he_36_1 t_16.2) neI) hD1
  clear hP1 hD1
  have hIS_18 : oInv S_18 := by rw [eS_18]; exact oInv.I0 (k := 36) (lo := -2147483648) (hi := 2147483647) hIS_12 t_16.2 (by decide) rfl rfl rfl (iv_all _)
  have XS_18 : oX S_12 S_18 := by rw [eS_18]; exact oX.I (k := 36) t_16.2 (by decide)
  have pk_19 : oP S_18 o 4 = some q_1 := by rw [eS_18]; exact pk_13
  have FS_18 : oFr o Z S_18 := by rw [eS_18]; exact oFr.I FS_12
  have X_20 : oX Z S_18 := oX.tr X_14 XS_18
  refine lv_aload_n hx hb dX6_init_21 rfl (lv_at hl 0 rfl) ?_
  refine lv_iload_n hx hb dX6_init_22 rfl (lv_at hl 3 rfl) ?_
  have t_22 : oty S_18 o 36 := (oX.ty XS_18 t_16)
  obtain ⟨q_23, hq_23⟩ := og (cq := cq) t_22.1 (oE_36 t_22.2)
  refine va_putF (D := (dC, dI)) (ci := 6) (v := .int x3) (ty := .int) (C := RX6) (T := TX6) (N := 6) hx hb hts in_wsX6_init_X6 tyX6 tyX6_ok nmX6 hown hK hP hD hS q_23 hq_23 rfl 2 (by decide) (hts (.fieldLink RX6 22 "ShipOffice$Man" "marks" "I") (by decide +kernel)) (fun _ h9 => h9) rfl hin rfl (by decide +kernel) rfl rfl (Nat.le_of_ble_eq_true rfl) dX6_init_23 (fun H locs hP1 hD1 hS => ?_)
  obtain ⟨S_24, eS_24⟩ : ∃ zq, zq = setI S_18 o 2 x3 := ⟨_, rfl⟩
  have hP : va_P (dC, dI) vwCl (oW cq S_24) H := by rw [eS_24]; exact cP (oset t_22.1 hq_23 hD rfl (he_36_2 t_22.2) neI) hP1
  have hD : va_D A (oW cq S_24) := by rw [eS_24]; exact cD (oset t_22.1 hq_23 hD rfl (he_36_2 t_22.2) neI) hD1
  clear hP1 hD1
  have hIS_24 : oInv S_24 := by rw [eS_24]; exact oInv.I0 (k := 36) (lo := -2147483648) (hi := 2147483647) hIS_18 t_22.2 (by decide) rfl rfl rfl (iv_all _)
  have XS_24 : oX S_18 S_24 := by rw [eS_24]; exact oX.I (k := 36) t_22.2 (by decide)
  have pk_25 : oP S_24 o 4 = some q_1 := by rw [eS_24]; exact pk_19
  have FS_24 : oFr o Z S_24 := by rw [eS_24]; exact oFr.I FS_18
  have X_26 : oX Z S_24 := oX.tr X_20 XS_24
  refine lv_aload_n hx hb dX6_init_26 rfl (lv_at hl 0 rfl) ?_
  refine lv_iload hx hb dX6_init_27 (lv_at hl 4 rfl) ?_
  have t_28 : oty S_24 o 36 := (oX.ty XS_24 t_22)
  obtain ⟨q_29, hq_29⟩ := og (cq := cq) t_28.1 (oE_36 t_28.2)
  refine va_putF (D := (dC, dI)) (ci := 6) (v := .int x4) (ty := .int) (C := RX6) (T := TX6) (N := 6) hx hb hts in_wsX6_init_X6 tyX6 tyX6_ok nmX6 hown hK hP hD hS q_29 hq_29 rfl 3 (by decide) (hts (.fieldLink RX6 25 "ShipOffice$Man" "born" "I") (by decide +kernel)) (fun _ h9 => h9) rfl hin rfl (by decide +kernel) rfl rfl (Nat.le_of_ble_eq_true rfl) dX6_init_29 (fun H locs hP1 hD1 hS => ?_)
  obtain ⟨S_30, eS_30⟩ : ∃ zq, zq = setI S_24 o 3 x4 := ⟨_, rfl⟩
  have hP : va_P (dC, dI) vwCl (oW cq S_30) H := by rw [eS_30]; exact cP (oset t_28.1 hq_29 hD rfl (he_36_3 t_28.2) neI) hP1
  have hD : va_D A (oW cq S_30) := by rw [eS_30]; exact cD (oset t_28.1 hq_29 hD rfl (he_36_3 t_28.2) neI) hD1
  clear hP1 hD1
  have hIS_30 : oInv S_30 := by rw [eS_30]; exact oInv.I0 (k := 36) (lo := -2147483648) (hi := 2147483647) hIS_24 t_28.2 (by decide) rfl rfl rfl (iv_all _)
  have XS_30 : oX S_24 S_30 := by rw [eS_30]; exact oX.I (k := 36) t_28.2 (by decide)
  have pk_31 : oP S_30 o 4 = some q_1 := by rw [eS_30]; exact pk_25
  have FS_30 : oFr o Z S_30 := by rw [eS_30]; exact oFr.I FS_24
  have X_32 : oX Z S_30 := oX.tr X_26 XS_30
  refine lv_aload_n hx hb dX6_init_32 rfl (lv_at hl 0 rfl) ?_
  refine lv_iload_n hx hb dX6_init_33 rfl (lv_at hl 1 rfl) ?_
  have t_34 : oty S_30 o 36 := (oX.ty XS_30 t_28)
  obtain ⟨q_35, hq_35⟩ := og (cq := cq) t_34.1 (oE_36 t_34.2)
  refine va_put (D := (dC, dI)) (ci := 6) (v := .int x1) (ty := .int) (C := RX6) (T := TX6) (N := 6) hx hb hts in_wsX6_init_X6 tyX6 tyX6_ok nmX6 hown hK hP hD hS q_35 hq_35 rfl 5 (by decide) (hts (.fieldLink RX6 28 "ShipOffice$Man" "leastAlike" "I") (by decide +kernel)) (fun _ h9 => h9) rfl (by decide +kernel) rfl rfl (Nat.le_of_ble_eq_true rfl) dX6_init_34 (fun H locs hP1 hD1 hS => ?_)
  obtain ⟨S_36, eS_36⟩ : ∃ zq, zq = setI S_30 o 5 x1 := ⟨_, rfl⟩
  have hP : va_P (dC, dI) vwCl (oW cq S_36) H := by rw [eS_36]; exact cP (oset t_34.1 hq_35 hD rfl (he_36_5 t_34.2) neI) hP1
  have hD : va_D A (oW cq S_36) := by rw [eS_36]; exact cD (oset t_34.1 hq_35 hD rfl (he_36_5 t_34.2) neI) hD1
  clear hP1 hD1
  have hIS_36 : oInv S_36 := by rw [eS_36]; exact oInv.I0 (k := 36) (lo := -2147483648) (hi := 2147483647) hIS_30 t_34.2 (by decide) rfl rfl rfl (iv_all _)
  have XS_36 : oX S_30 S_36 := by rw [eS_36]; exact oX.I (k := 36) t_34.2 (by decide)
  have pk_37 : oP S_36 o 4 = some q_1 := by rw [eS_36]; exact pk_31
  have FS_36 : oFr o Z S_36 := by rw [eS_36]; exact oFr.I FS_30
  have X_38 : oX Z S_36 := oX.tr X_32 XS_36
  have t_41 : oty S_36 o 36 := (oX.ty XS_36 t_34)
  obtain ⟨S_40, eS_40⟩ : ∃ zq, zq = setK S_36 o 6 := ⟨_, rfl⟩
  have hP : va_P (dC, dI) vwCl (oW cq S_40) H := by rw [eS_40]; exact cP (ret_W (c := 6) t_41.2 (by decide)) hP
  have hD : va_D A (oW cq S_40) := by rw [eS_40]; exact cD (ret_W (c := 6) t_41.2 (by decide)) hD
  have hIS_40 : oInv S_40 := by rw [eS_40]; exact oInv.ret (c := 6) hIS_36 t_41 (by decide) (fun i hi => by rcases nn_6 hi with rfl <;> first | exact ⟨_, pk_37⟩) (fun i p hp => (ct_no hp (by decide) (by decide) (by decide)).elim) (fun h => absurd h (by decide)) (fun h => absurd h (by decide)) (fun h => absurd h (by decide))
  have XS_40 : oXc o Z S_40 := by rw [eS_40]; exact oXc.ret X_38
  have tS_40 : oty S_40 o 6 := by rw [eS_40]; exact K_ty t_41.1
  have FS_40 : oFr o Z S_40 := by rw [eS_40]; exact oFr.K FS_36
  exact W.vret hx hb hr (fun t ht hW => ⟨⟨S_40, rfl, ⟨hIS_40, XS_40, ⟨tS_40, FS_40⟩⟩, ⟨by rw [ht]; exact hP, va_K.moved hW.alike hK, hD⟩⟩, hS.F ht⟩) hS.2.2 dX6_init_37
set_option maxHeartbeats 4000000 in
set_option maxRecDepth 100000 in
theorem c_X9_init (l : Launch) (dC : Nat → ClassId) (dI : Nat → Nat → Nat) (sz : Nat) (cq : Nat → ClassId) (Z : oS) (gI : oInv Z) (o : Nat) (to : oty Z o 39) (x1 : Int32) (x2 : Int32) (x3 : Int32) (hx3 : 0 ≤ x3.toInt ∧ x3.toInt ≤ 9) (x4 : Int32) (hx4 : 0 ≤ x4.toInt ∧ x4.toInt ≤ 3000) : Met l yX9_init wsX9_init ({ frames := 1, cells := 0, slots := 0, locals := 14 }) (va_Pc [.ref o, .int x1, .int x2, .int x3, .int x4] (pcW (dC, dI) (oT cq) (oW cq Z) sz)) (va_Qv (fun (u : oS) => oInv u ∧ oXc o Z u ∧ (oty u o 9 ∧ oFr o Z u)) (fun u t => va_P (dC, dI) vwCl (oW cq u) t.heap ∧ va_K (dC, dI) vwCl (oT cq) t ∧ va_D (va_A (oW cq Z) sz) (oW cq u)) (va_A (oW cq Z) sz)) 0 0 (va_A (oW cq Z) sz) := by
  refine Met.ofW (cc := cX9_init) (maxL := 5) (ret := none) (by decide) rfl ?_
  intro p e s m args below meth c s₁ B hml hv
  obtain ⟨rfl, hsz, hP, hK, hD0⟩ := hv
  have hx := B.exec
  have hb := B.bytes
  have hr := B.returns
  have hts := atoms_spec (ws := wsX9_init) B.pre
  have hown : s.vm.findClass RX9 = some m.cls := findClass_of_methodNamed B.named
  have hlocks := B.notSynchronized
  have hin : meth.name = "<init>" := (name_of_methodNamed B.named B.method).1
  subst hsz
  have hD := hD0.self (sz := s.heap.size)
  generalize hAe : va_A (oW cq Z) s.heap.size = A at hD ⊢
  have hA : ∀ q : Nat, s.heap.size ≤ q → A q := fun q h => by rw [← hAe]; exact Or.inr h
  have hS : va_S A s.heap s.heap [] := va_S.rf
  have hP : va_P (dC, dI) vwCl (oW cq Z) s.heap := hP
  have hl := lv_entry ([.ref o, .int x1, .int x2, .int x3, .int x4]) (n := 5) (Nat.le_of_ble_eq_true rfl)
  rw [lg_entry_eq]
  generalize (lg_sl ([.ref o, .int x1, .int x2, .int x3, .int x4]) ++ List.replicate (5 - (lg_sl ([.ref o, .int x1, .int x2, .int x3, .int x4])).length) Slot.unset).toArray = ls at hl ⊢
  have hl : lv_has ls 5 [(0, .ref o), (1, .int x1), (2, .int x2), (3, .int x3), (4, .int x4)] := hl
  refine lv_aload_n hx hb dX9_init_0 rfl (lv_at hl 0 rfl) ?_
  refine W.objInit hx hb hown (hts (.methodLink RX9 3 objectInit) (by decide +kernel)) (hts (.instanceMethod objectInit) (by decide +kernel)) (hts (.code objectInit ⟨#[0xb1]⟩ 1 none) (in_obj_wsX9_init)) rfl (by rw [hml]; exact hl.1) rfl dX9_init_1 (Nat.le_of_ble_eq_true rfl) (Nat.le_of_ble_eq_true rfl) ?_
  refine W.eq (g2 := F0 m 4 ls []) rfl ?_
  refine lv_aload_n hx hb dX9_init_4 rfl (lv_at hl 0 rfl) ?_
  refine lv_ldc (v := 1000000) hx hb hown (hts (.constant RX9 9 (1000000)) (by decide +kernel)) dX9_init_5 ?_
  obtain ⟨q_1, hq_1⟩ := og (cq := cq) to.1 (oE_39 to.2)
  refine va_put (D := (dC, dI)) (ci := 9) (v := .int 1000000) (ty := .int) (C := RX9) (T := TX9) (N := 10) hx hb hts in_wsX9_init_X9 tyX9 tyX9_ok nmX9 hown hK hP hD hS q_1 hq_1 rfl 5 (by decide) (hts (.fieldLink RX9 10 "ShipOffice$Voyage" "sailedDay" "I") (by decide +kernel)) (fun _ h9 => h9) rfl (by decide +kernel) rfl rfl (Nat.le_of_ble_eq_true rfl) dX9_init_7 (fun H locs hP1 hD1 hS => ?_)
  obtain ⟨S_2, eS_2⟩ : ∃ zq, zq = setI Z o 5 1000000 := ⟨_, rfl⟩
  have hP : va_P (dC, dI) vwCl (oW cq S_2) H := by rw [eS_2]; exact cP (oset to.1 hq_1 hD rfl (he_39_5 to.2) neI) hP1
  have hD : va_D A (oW cq S_2) := by rw [eS_2]; exact cD (oset to.1 hq_1 hD rfl (he_39_5 to.2) neI) hD1
  clear hP1 hD1
  have hIS_2 : oInv S_2 := by rw [eS_2]; exact oInv.I0 (k := 39) (lo := 0) (hi := 1000000) gI to.2 (by decide) rfl rfl rfl (by decide)
  have XS_2 : oX Z S_2 := by rw [eS_2]; exact oX.I (k := 39) to.2 (by decide)
  have FS_2 : oFr o Z S_2 := by rw [eS_2]; exact oFr.I oFr.rf
  have X_3 : oX Z S_2 := XS_2
  refine lv_aload_n hx hb dX9_init_10 rfl (lv_at hl 0 rfl) ?_
  refine lv_ldc (v := 1000000) hx hb hown (hts (.constant RX9 9 (1000000)) (by decide +kernel)) dX9_init_11 ?_
  have t_5 : oty S_2 o 39 := (oX.ty XS_2 to)
  obtain ⟨q_6, hq_6⟩ := og (cq := cq) t_5.1 (oE_39 t_5.2)
  refine va_put (D := (dC, dI)) (ci := 9) (v := .int 1000000) (ty := .int) (C := RX9) (T := TX9) (N := 10) hx hb hts in_wsX9_init_X9 tyX9 tyX9_ok nmX9 hown hK hP hD hS q_6 hq_6 rfl 6 (by decide) (hts (.fieldLink RX9 16 "ShipOffice$Voyage" "sailedTold" "I") (by decide +kernel)) (fun _ h9 => h9) rfl (by decide +kernel) rfl rfl (Nat.le_of_ble_eq_true rfl) dX9_init_13 (fun H locs hP1 hD1 hS => ?_)
  obtain ⟨S_7, eS_7⟩ : ∃ zq, zq = setI S_2 o 6 1000000 := ⟨_, rfl⟩
  have hP : va_P (dC, dI) vwCl (oW cq S_7) H := by rw [eS_7]; exact cP (oset t_5.1 hq_6 hD rfl (he_39_6 t_5.2) neI) hP1
  have hD : va_D A (oW cq S_7) := by rw [eS_7]; exact cD (oset t_5.1 hq_6 hD rfl (he_39_6 t_5.2) neI) hD1
  clear hP1 hD1
  have hIS_7 : oInv S_7 := by rw [eS_7]; exact oInv.I0 (k := 39) (lo := -2147483648) (hi := 2147483647) hIS_2 t_5.2 (by decide) rfl rfl rfl (iv_all _)
  have XS_7 : oX S_2 S_7 := by rw [eS_7]; exact oX.I (k := 39) t_5.2 (by decide)
  have FS_7 : oFr o Z S_7 := by rw [eS_7]; exact oFr.I FS_2
  have X_8 : oX Z S_7 := oX.tr X_3 XS_7
  refine lv_aload_n hx hb dX9_init_16 rfl (lv_at hl 0 rfl) ?_
  refine lv_ldc (v := 1000000) hx hb hown (hts (.constant RX9 9 (1000000)) (by decide +kernel)) dX9_init_17 ?_
  have t_10 : oty S_7 o 39 := (oX.ty XS_7 t_5)
  obtain ⟨q_11, hq_11⟩ := og (cq := cq) t_10.1 (oE_39 t_10.2)
  refine va_put (D := (dC, dI)) (ci := 9) (v := .int 1000000) (ty := .int) (C := RX9) (T := TX9) (N := 10) hx hb hts in_wsX9_init_X9 tyX9 tyX9_ok nmX9 hown hK hP hD hS q_11 hq_11 rfl 7 (by decide) (hts (.fieldLink RX9 19 "ShipOffice$Voyage" "lostDay" "I") (by decide +kernel)) (fun _ h9 => h9) rfl (by decide +kernel) rfl rfl (Nat.le_of_ble_eq_true rfl) dX9_init_19 (fun H locs hP1 hD1 hS => ?_)
  obtain ⟨S_12, eS_12⟩ : ∃ zq, zq = setI S_7 o 7 1000000 := ⟨_, rfl⟩
  have hP : va_P (dC, dI) vwCl (oW cq S_12) H := by rw [eS_12]; exact cP (oset t_10.1 hq_11 hD rfl (he_39_7 t_10.2) neI) hP1
  have hD : va_D A (oW cq S_12) := by rw [eS_12]; exact cD (oset t_10.1 hq_11 hD rfl (he_39_7 t_10.2) neI) hD1
  clear hP1 hD1
  have hIS_12 : oInv S_12 := by rw [eS_12]; exact oInv.I0 (k := 39) (lo := -2147483648) (hi := 2147483647) hIS_7 t_10.2 (by decide) rfl rfl rfl (iv_all _)
  have XS_12 : oX S_7 S_12 := by rw [eS_12]; exact oX.I (k := 39) t_10.2 (by decide)
  have FS_12 : oFr o Z S_12 := by rw [eS_12]; exact oFr.I FS_7
  have X_13 : oX Z S_12 := oX.tr X_8 XS_12
  refine lv_aload_n hx hb dX9_init_22 rfl (lv_at hl 0 rfl) ?_
  refine lv_ldc (v := 1000000) hx hb hown (hts (.constant RX9 9 (1000000)) (by decide +kernel)) dX9_init_23 ?_
  have t_15 : oty S_12 o 39 := (oX.ty XS_12 t_10)
  obtain ⟨q_16, hq_16⟩ := og (cq := cq) t_15.1 (oE_39 t_15.2)
  refine va_put (D := (dC, dI)) (ci := 9) (v := .int 1000000) (ty := .int) (C := RX9) (T := TX9) (N := 10) hx hb hts in_wsX9_init_X9 tyX9 tyX9_ok nmX9 hown hK hP hD hS q_16 hq_16 rfl 8 (by decide) (hts (.fieldLink RX9 22 "ShipOffice$Voyage" "lostTold" "I") (by decide +kernel)) (fun _ h9 => h9) rfl (by decide +kernel) rfl rfl (Nat.le_of_ble_eq_true rfl) dX9_init_25 (fun H locs hP1 hD1 hS => ?_)
  obtain ⟨S_17, eS_17⟩ : ∃ zq, zq = setI S_12 o 8 1000000 := ⟨_, rfl⟩
  have hP : va_P (dC, dI) vwCl (oW cq S_17) H := by rw [eS_17]; exact cP (oset t_15.1 hq_16 hD rfl (he_39_8 t_15.2) neI) hP1
  have hD : va_D A (oW cq S_17) := by rw [eS_17]; exact cD (oset t_15.1 hq_16 hD rfl (he_39_8 t_15.2) neI) hD1
  clear hP1 hD1
  have hIS_17 : oInv S_17 := by rw [eS_17]; exact oInv.I0 (k := 39) (lo := -2147483648) (hi := 2147483647) hIS_12 t_15.2 (by decide) rfl rfl rfl (iv_all _)
  have XS_17 : oX S_12 S_17 := by rw [eS_17]; exact oX.I (k := 39) t_15.2 (by decide)
  have FS_17 : oFr o Z S_17 := by rw [eS_17]; exact oFr.I FS_12
  have X_18 : oX Z S_17 := oX.tr X_13 XS_17
  refine lv_aload_n hx hb dX9_init_28 rfl (lv_at hl 0 rfl) ?_
  refine lv_iload_n hx hb dX9_init_29 rfl (lv_at hl 1 rfl) ?_
  have t_20 : oty S_17 o 39 := (oX.ty XS_17 t_15)
  obtain ⟨q_21, hq_21⟩ := og (cq := cq) t_20.1 (oE_39 t_20.2)
  refine va_putF (D := (dC, dI)) (ci := 9) (v := .int x1) (ty := .int) (C := RX9) (T := TX9) (N := 10) hx hb hts in_wsX9_init_X9 tyX9 tyX9_ok nmX9 hown hK hP hD hS q_21 hq_21 rfl 0 (by decide) (hts (.fieldLink RX9 25 "ShipOffice$Voyage" "number" "I") (by decide +kernel)) (fun _ h9 => h9) rfl hin rfl (by decide +kernel) rfl rfl (Nat.le_of_ble_eq_true rfl) dX9_init_30 (fun H locs hP1 hD1 hS => ?_)
  obtain ⟨S_22, eS_22⟩ : ∃ zq, zq = setI S_17 o 0 x1 := ⟨_, rfl⟩
  have hP : va_P (dC, dI) vwCl (oW cq S_22) H := by rw [eS_22]; exact cP (oset t_20.1 hq_21 hD rfl (he_39_0 t_20.2) neI) hP1
  have hD : va_D A (oW cq S_22) := by rw [eS_22]; exact cD (oset t_20.1 hq_21 hD rfl (he_39_0 t_20.2) neI) hD1
  clear hP1 hD1
  have hIS_22 : oInv S_22 := by rw [eS_22]; exact oInv.I0 (k := 39) (lo := -2147483648) (hi := 2147483647) hIS_17 t_20.2 (by decide) rfl rfl rfl (iv_all _)
  have XS_22 : oX S_17 S_22 := by rw [eS_22]; exact oX.I (k := 39) t_20.2 (by decide)
  have FS_22 : oFr o Z S_22 := by rw [eS_22]; exact oFr.I FS_17
  have X_23 : oX Z S_22 := oX.tr X_18 XS_22
  refine lv_aload_n hx hb dX9_init_33 rfl (lv_at hl 0 rfl) ?_
  refine lv_iload_n hx hb dX9_init_34 rfl (lv_at hl 2 rfl) ?_
  have t_25 : oty S_22 o 39 := (oX.ty XS_22 t_20)
  obtain ⟨q_26, hq_26⟩ := og (cq := cq) t_25.1 (oE_39 t_25.2)
  refine va_putF (D := (dC, dI)) (ci := 9) (v := .int x2) (ty := .int) (C := RX9) (T := TX9) (N := 10) hx hb hts in_wsX9_init_X9 tyX9 tyX9_ok nmX9 hown hK hP hD hS q_26 hq_26 rfl 1 (by decide) (hts (.fieldLink RX9 28 "ShipOffice$Voyage" "ship" "I") (by decide +kernel)) (fun _ h9 => h9) rfl hin rfl (by decide +kernel) rfl rfl (Nat.le_of_ble_eq_true rfl) dX9_init_35 (fun H locs hP1 hD1 hS => ?_)
  obtain ⟨S_27, eS_27⟩ : ∃ zq, zq = setI S_22 o 1 x2 := ⟨_, rfl⟩
  have hP : va_P (dC, dI) vwCl (oW cq S_27) H := by rw [eS_27]; exact cP (oset t_25.1 hq_26 hD rfl (he_39_1 t_25.2) neI) hP1
  have hD : va_D A (oW cq S_27) := by rw [eS_27]; exact cD (oset t_25.1 hq_26 hD rfl (he_39_1 t_25.2) neI) hD1
  clear hP1 hD1
  have hIS_27 : oInv S_27 := by rw [eS_27]; exact oInv.I0 (k := 39) (lo := -2147483648) (hi := 2147483647) hIS_22 t_25.2 (by decide) rfl rfl rfl (iv_all _)
  have XS_27 : oX S_22 S_27 := by rw [eS_27]; exact oX.I (k := 39) t_25.2 (by decide)
  have FS_27 : oFr o Z S_27 := by rw [eS_27]; exact oFr.I FS_22
  have X_28 : oX Z S_27 := oX.tr X_23 XS_27
  refine lv_aload_n hx hb dX9_init_38 rfl (lv_at hl 0 rfl) ?_
  refine lv_iload_n hx hb dX9_init_39 rfl (lv_at hl 3 rfl) ?_
  have t_30 : oty S_27 o 39 := (oX.ty XS_27 t_25)
  obtain ⟨q_31, hq_31⟩ := og (cq := cq) t_30.1 (oE_39 t_30.2)
  refine va_putF (D := (dC, dI)) (ci := 9) (v := .int x3) (ty := .int) (C := RX9) (T := TX9) (N := 10) hx hb hts in_wsX9_init_X9 tyX9 tyX9_ok nmX9 hown hK hP hD hS q_31 hq_31 rfl 2 (by decide) (hts (.fieldLink RX9 31 "ShipOffice$Voyage" "port" "I") (by decide +kernel)) (fun _ h9 => h9) rfl hin rfl (by decide +kernel) rfl rfl (Nat.le_of_ble_eq_true rfl) dX9_init_40 (fun H locs hP1 hD1 hS => ?_)
  obtain ⟨S_32, eS_32⟩ : ∃ zq, zq = setI S_27 o 2 x3 := ⟨_, rfl⟩
  have hP : va_P (dC, dI) vwCl (oW cq S_32) H := by rw [eS_32]; exact cP (oset t_30.1 hq_31 hD rfl (he_39_2 t_30.2) neI) hP1
  have hD : va_D A (oW cq S_32) := by rw [eS_32]; exact cD (oset t_30.1 hq_31 hD rfl (he_39_2 t_30.2) neI) hD1
  clear hP1 hD1
  have hIS_32 : oInv S_32 := by rw [eS_32]; exact oInv.I0 (k := 39) (lo := 0) (hi := 9) hIS_27 t_30.2 (by decide) rfl rfl rfl (by omega)
  have XS_32 : oX S_27 S_32 := by rw [eS_32]; exact oX.I (k := 39) t_30.2 (by decide)
  have FS_32 : oFr o Z S_32 := by rw [eS_32]; exact oFr.I FS_27
  have X_33 : oX Z S_32 := oX.tr X_28 XS_32
  refine lv_aload_n hx hb dX9_init_43 rfl (lv_at hl 0 rfl) ?_
  refine lv_iload hx hb dX9_init_44 (lv_at hl 4 rfl) ?_
  have t_35 : oty S_32 o 39 := (oX.ty XS_32 t_30)
  obtain ⟨q_36, hq_36⟩ := og (cq := cq) t_35.1 (oE_39 t_35.2)
  refine va_putF (D := (dC, dI)) (ci := 9) (v := .int x4) (ty := .int) (C := RX9) (T := TX9) (N := 10) hx hb hts in_wsX9_init_X9 tyX9 tyX9_ok nmX9 hown hK hP hD hS q_36 hq_36 rfl 3 (by decide) (hts (.fieldLink RX9 34 "ShipOffice$Voyage" "openedOn" "I") (by decide +kernel)) (fun _ h9 => h9) rfl hin rfl (by decide +kernel) rfl rfl (Nat.le_of_ble_eq_true rfl) dX9_init_46 (fun H locs hP1 hD1 hS => ?_)
  obtain ⟨S_37, eS_37⟩ : ∃ zq, zq = setI S_32 o 3 x4 := ⟨_, rfl⟩
  have hP : va_P (dC, dI) vwCl (oW cq S_37) H := by rw [eS_37]; exact cP (oset t_35.1 hq_36 hD rfl (he_39_3 t_35.2) neI) hP1
  have hD : va_D A (oW cq S_37) := by rw [eS_37]; exact cD (oset t_35.1 hq_36 hD rfl (he_39_3 t_35.2) neI) hD1
  clear hP1 hD1
  have hIS_37 : oInv S_37 := by rw [eS_37]; exact oInv.I0 (k := 39) (lo := 0) (hi := 3000) hIS_32 t_35.2 (by decide) rfl rfl rfl (by omega)
  have XS_37 : oX S_32 S_37 := by rw [eS_37]; exact oX.I (k := 39) t_35.2 (by decide)
  have FS_37 : oFr o Z S_37 := by rw [eS_37]; exact oFr.I FS_32
  have X_38 : oX Z S_37 := oX.tr X_33 XS_37
  have t_41 : oty S_37 o 39 := (oX.ty XS_37 t_35)
  obtain ⟨S_40, eS_40⟩ : ∃ zq, zq = setK S_37 o 9 := ⟨_, rfl⟩
  have hP : va_P (dC, dI) vwCl (oW cq S_40) H := by rw [eS_40]; exact cP (ret_W (c := 9) t_41.2 (by decide)) hP
  have hD : va_D A (oW cq S_40) := by rw [eS_40]; exact cD (ret_W (c := 9) t_41.2 (by decide)) hD
  have hIS_40 : oInv S_40 := by rw [eS_40]; exact oInv.ret (c := 9) hIS_37 t_41 (by decide) (fun i hi => (nn_9 hi).elim) (fun i p hp => (ct_no hp (by decide) (by decide) (by decide)).elim) (fun h => absurd h (by decide)) (fun h => absurd h (by decide)) (fun h => absurd h (by decide))
  have XS_40 : oXc o Z S_40 := by rw [eS_40]; exact oXc.ret X_38
  have tS_40 : oty S_40 o 9 := by rw [eS_40]; exact K_ty t_41.1
  have FS_40 : oFr o Z S_40 := by rw [eS_40]; exact oFr.K FS_37
  exact W.vret hx hb hr (fun t ht hW => ⟨⟨S_40, rfl, ⟨hIS_40, XS_40, ⟨tS_40, FS_40⟩⟩, ⟨by rw [ht]; exact hP, va_K.moved hW.alike hK, hD⟩⟩, hS.F ht⟩) hS.2.2 dX9_init_49
set_option maxHeartbeats 4000000 in
set_option maxRecDepth 100000 in
theorem c_X1_init (l : Launch) (dC : Nat → ClassId) (dI : Nat → Nat → Nat) (sz : Nat) (tL tS tG : Nat) (cq : Nat → ClassId) (Z : oS) (gI : oInv Z) (o : Nat) (to : oty Z o 31) (a1 : Nat) (ta1 : oty Z a1 6) (a2 : Nat) (ta2 : oty Z a2 9) (x3 : Int32) (r4 : Option Nat) (tr4 : ∀ b, r4 = some b → oty Z b 1) (hz : ∀ j, oI Z o j = 0) : Met l yX1_init wsX1_init ({ frames := 1, cells := 3, slots := 46, locals := 14 }) (va_Pc [.ref o, .ref a1, .ref a2, .int x3, va_rf r4] (pcO (dC, dI) (oT cq) (oW cq Z) sz tL tS tG (oW cq Z))) (va_Qv (fun (u : oS) => oInv u ∧ oXc o Z u ∧ (oty u o 1 ∧ oFr o Z u)) (fun u t => va_P (dC, dI) vwCl (oW cq u) t.heap ∧ va_K (dC, dI) vwCl (oT cq) t ∧ va_D (va_A (oW cq Z) sz) (oW cq u)) (va_A (oW cq Z) sz)) 3 46 (va_A (oW cq Z) sz) := by
  rcases r4 with _ | br4
  · refine Met.ofW (cc := cX1_init) (maxL := 5) (ret := none) (by decide) rfl ?_
    intro p e s m args below meth c s₁ B hml hv
    obtain ⟨rfl, ⟨hsz, hP, hK, hD0⟩, hZ⟩ := hv
    have hx := B.exec
    have hb := B.bytes
    have hr := B.returns
    have hts := atoms_spec (ws := wsX1_init) B.pre
    have hown : s.vm.findClass RX1 = some m.cls := findClass_of_methodNamed B.named
    have hlocks := B.notSynchronized
    have hin : meth.name = "<init>" := (name_of_methodNamed B.named B.method).1
    subst hsz
    have hD := hD0.self (sz := s.heap.size)
    generalize hAe : va_A (oW cq Z) s.heap.size = A at hD hZ ⊢
    have hA : ∀ q : Nat, s.heap.size ≤ q → A q := fun q h => by rw [← hAe]; exact Or.inr h
    have hS : va_S A s.heap s.heap [] := va_S.rf
    have hP : va_P (dC, dI) vwCl (oW cq Z) s.heap := hP
    have hl := lv_entry ([.ref o, .ref a1, .ref a2, .int x3, va_rf none]) (n := 5) (Nat.le_of_ble_eq_true rfl)
    rw [lg_entry_eq]
    generalize (lg_sl ([.ref o, .ref a1, .ref a2, .int x3, va_rf none]) ++ List.replicate (5 - (lg_sl ([.ref o, .ref a1, .ref a2, .int x3, va_rf none])).length) Slot.unset).toArray = ls at hl ⊢
    have hl : lv_has ls 5 [(0, .ref o), (1, .ref a1), (2, .ref a2), (3, .int x3), (4, va_rf none)] := hl
    have hl : lv_has ls 5 [(0, .ref o), (1, .ref a1), (2, .ref a2), (3, .int x3), (4, .null)] := hl
    refine lv_aload_n hx hb dX1_init_0 rfl (lv_at hl 0 rfl) ?_
    refine W.objInit hx hb hown (hts (.methodLink RX1 3 objectInit) (by decide +kernel)) (hts (.instanceMethod objectInit) (by decide +kernel)) (hts (.code objectInit ⟨#[0xb1]⟩ 1 none) (in_obj_wsX1_init)) rfl (by rw [hml]; exact hl.1) rfl dX1_init_1 (Nat.le_of_ble_eq_true rfl) (Nat.le_of_ble_eq_true rfl) ?_
    refine W.eq (g2 := F0 m 4 ls []) rfl ?_
    refine lv_aload_n hx hb dX1_init_4 rfl (lv_at hl 0 rfl) ?_
    refine lv_ldc (v := 1000000) hx hb hown (hts (.constant RX1 9 (1000000)) (by decide +kernel)) dX1_init_5 ?_
    obtain ⟨q_1, hq_1⟩ := og (cq := cq) to.1 (oE_31 to.2)
    refine va_put (D := (dC, dI)) (ci := 1) (v := .int 1000000) (ty := .int) (C := RX1) (T := TX1) (N := 18) hx hb hts in_wsX1_init_X1 tyX1 tyX1_ok nmX1 hown hK hP hD hS q_1 hq_1 rfl 6 (by decide) (hts (.fieldLink RX1 10 "ShipOffice$Agreement" "offDay" "I") (by decide +kernel)) (fun _ h9 => h9) rfl (by decide +kernel) rfl rfl (Nat.le_of_ble_eq_true rfl) dX1_init_7 (fun H locs hP1 hD1 hS => ?_)
    obtain ⟨S_2, eS_2⟩ : ∃ zq, zq = setI Z o 6 1000000 := ⟨_, rfl⟩
    have hP : va_P (dC, dI) vwCl (oW cq S_2) H := by rw [eS_2]; exact cP (oset to.1 hq_1 hD rfl (he_31_6 to.2) neI) hP1
    have hD : va_D A (oW cq S_2) := by rw [eS_2]; exact cD (oset to.1 hq_1 hD rfl (he_31_6 to.2) neI) hD1
    clear hP1 hD1
    have hIS_2 : oInv S_2 := by rw [eS_2]; exact oInv.I0 (k := 31) (lo := -2147483648) (hi := 2147483647) gI to.2 (by decide) rfl rfl rfl (iv_all _)
    have XS_2 : oX Z S_2 := by rw [eS_2]; exact oX.I (k := 31) to.2 (by decide)
    have ik_3 : oI S_2 o 13 = 0 := by rw [eS_2, setI_ne (by decide)]; exact (hz 13)
    have FS_2 : oFr o Z S_2 := by rw [eS_2]; exact oFr.I oFr.rf
    have X_4 : oX Z S_2 := XS_2
    refine lv_aload_n hx hb dX1_init_10 rfl (lv_at hl 0 rfl) ?_
    refine lv_bipush (v := 6) hx hb dX1_init_11 (by decide) ?_
    refine va_newq (N' := 6) hx hb hown (hts (.classLink RX1 16 RX2) (by decide +kernel)) hZ.2.2.2.1 hK hP hD hS hA (by decide) (by decide) (by decide) (Nat.le_of_ble_eq_true rfl) (Nat.le_of_ble_eq_true rfl) dX1_init_13 (fun q_6 k_7 H hK1 hP1 hD1 hS => ?_)
    obtain ⟨rfl, -⟩ := lv_ad (k := 6) hK1 rfl
    clear hK1
    have hnq_6 := add_q hD1
    obtain ⟨S_8, eS_8⟩ : ∃ zq, zq = addO S_2 q_6 17 := ⟨_, rfl⟩
    have hP : va_P (dC, dI) vwCl (oW cq S_8) H := by rw [eS_8]; exact cP (onew hD1 (by rw [oE_17 add_K, add_P])) hP1
    have hD : va_D A (oW cq S_8) := by rw [eS_8]; exact cD (onew hD1 (by rw [oE_17 add_K, add_P])) hD1
    clear hP1 hD1
    have hIS_8 : oInv S_8 := by rw [eS_8]; exact oInv.add hIS_2 hnq_6 (by decide)
    have XS_8 : oX S_2 S_8 := by rw [eS_8]; exact oX.add hnq_6
    have ik_9 : oI S_8 o 13 = 0 := by rw [eS_8, add_In hnq_6 (oX.ty XS_2 to).1]; exact ik_3
    have FS_8 : oFr o Z S_8 := by rw [eS_8]; exact oFr.add FS_2 X_4 hnq_6
    have X_10 : oX Z S_8 := oX.tr X_4 XS_8
    have tq_6 : oty S_8 q_6 17 := by rw [eS_8]; exact add_ty
    refine W.widen (k := 1) (n := 6) (Nat.le_of_ble_eq_true rfl) (Nat.le_of_ble_eq_true rfl) ?_
    have t_11 : oty S_8 o 31 := (oX.ty XS_8 (oX.ty XS_2 to))
    obtain ⟨q_12, hq_12⟩ := og (cq := cq) t_11.1 (oE_31 t_11.2)
    refine va_putF (D := (dC, dI)) (ci := 1) (v := .ref q_6) (ty := .array (.object "ShipOffice$Fine")) (C := RX1) (T := TX1) (N := 18) hx hb hts in_wsX1_init_X1 tyX1 tyX1_ok nmX1 hown hK hP hD hS q_12 hq_12 rfl 12 (by decide) (hts (.fieldLink RX1 18 "ShipOffice$Agreement" "fines" "[LShipOffice$Fine;") (by decide +kernel)) (fun _ h9 => h9) rfl hin rfl (by decide +kernel) rfl rfl (Nat.le_of_ble_eq_true rfl) dX1_init_16 (fun H locs hP1 hD1 hS => ?_)
    obtain ⟨S_13, eS_13⟩ : ∃ zq, zq = setP S_8 o 12 (some q_6) := ⟨_, rfl⟩
    have hP : va_P (dC, dI) vwCl (oW cq S_13) H := by rw [eS_13]; exact cP (oset t_11.1 hq_12 hD rfl (he_31_12 t_11.2) neP) hP1
    have hD : va_D A (oW cq S_13) := by rw [eS_13]; exact cD (oset t_11.1 hq_12 hD rfl (he_31_12 t_11.2) neP) hD1
    clear hP1 hD1
    have hIS_13 : oInv S_13 := by rw [eS_13]; exact oInv.P (k := 31) hIS_8 t_11.2 (by decide) rfl (by decide) tq_6 (by decide)
    have XS_13 : oX S_8 S_13 := by rw [eS_13]; exact oX.P
    have ik_14 : oI S_13 o 13 = 0 := by rw [eS_13]; exact ik_9
    have FS_13 : oFr o Z S_13 := by rw [eS_13]; exact oFr.P FS_8
    have X_15 : oX Z S_13 := oX.tr X_10 XS_13
    have pk_16 : oP S_13 o 12 = some q_6 := by rw [eS_13, setP_same]
    refine lv_aload_n hx hb dX1_init_19 rfl (lv_at hl 0 rfl) ?_
    refine lv_bipush (v := 20) hx hb dX1_init_20 (by decide) ?_
    refine va_newa (atype := .int) (ty := .int) (a0 := (20, .inl (fun _ => 0))) hx hb (hts (.arrayClass .int) (by decide +kernel)) rfl hK hP hD hS hA (fun _ => rfl) (by decide) (by decide) (by decide) (Nat.le_of_ble_eq_true rfl) (Nat.le_of_ble_eq_true rfl) dX1_init_22 (fun q_17 k_18 H hK1 hP1 hD1 hS => ?_)
    obtain ⟨rfl, -⟩ := lv_ad (k := 0) hK1 rfl
    clear hK1
    have hnq_17 := add_q hD1
    obtain ⟨S_19, eS_19⟩ : ∃ zq, zq = addO S_13 q_17 120 := ⟨_, rfl⟩
    have hP : va_P (dC, dI) vwCl (oW cq S_19) H := by rw [eS_19]; exact cP (onew hD1 (by rw [oE_ar (n := 20) add_K, add_I])) hP1
    have hD : va_D A (oW cq S_19) := by rw [eS_19]; exact cD (onew hD1 (by rw [oE_ar (n := 20) add_K, add_I])) hD1
    clear hP1 hD1
    have hIS_19 : oInv S_19 := by rw [eS_19]; exact oInv.add hIS_13 hnq_17 (by decide)
    have XS_19 : oX S_13 S_19 := by rw [eS_19]; exact oX.add hnq_17
    have pk_20 : oP S_19 o 12 = some q_6 := by rw [eS_19, add_Pn hnq_17 (oX.ty XS_13 t_11).1]; exact pk_16
    have ik_21 : oI S_19 o 13 = 0 := by rw [eS_19, add_In hnq_17 (oX.ty XS_13 t_11).1]; exact ik_14
    have FS_19 : oFr o Z S_19 := by rw [eS_19]; exact oFr.add FS_13 X_15 hnq_17
    have X_22 : oX Z S_19 := oX.tr X_15 XS_19
    have tq_17 : oty S_19 q_17 120 := by rw [eS_19]; exact add_ty
    refine W.widen (k := 2) (n := 26) (Nat.le_of_ble_eq_true rfl) (Nat.le_of_ble_eq_true rfl) ?_
    have t_23 : oty S_19 o 31 := (oX.ty XS_19 (oX.ty XS_13 t_11))
    obtain ⟨q_24, hq_24⟩ := og (cq := cq) t_23.1 (oE_31 t_23.2)
    refine va_putF (D := (dC, dI)) (ci := 1) (v := .ref q_17) (ty := .array .int) (C := RX1) (T := TX1) (N := 18) hx hb hts in_wsX1_init_X1 tyX1 tyX1_ok nmX1 hown hK hP hD hS q_24 hq_24 rfl 14 (by decide) (hts (.fieldLink RX1 22 "ShipOffice$Agreement" "shortTold" "[I") (by decide +kernel)) (fun _ h9 => h9) rfl hin rfl (by decide +kernel) rfl rfl (Nat.le_of_ble_eq_true rfl) dX1_init_24 (fun H locs hP1 hD1 hS => ?_)
    obtain ⟨S_25, eS_25⟩ : ∃ zq, zq = setP S_19 o 14 (some q_17) := ⟨_, rfl⟩
    have hP : va_P (dC, dI) vwCl (oW cq S_25) H := by rw [eS_25]; exact cP (oset t_23.1 hq_24 hD rfl (he_31_14 t_23.2) neP) hP1
    have hD : va_D A (oW cq S_25) := by rw [eS_25]; exact cD (oset t_23.1 hq_24 hD rfl (he_31_14 t_23.2) neP) hD1
    clear hP1 hD1
    have hIS_25 : oInv S_25 := by rw [eS_25]; exact oInv.P (k := 31) hIS_19 t_23.2 (by decide) rfl (by decide) tq_17 (by decide)
    have XS_25 : oX S_19 S_25 := by rw [eS_25]; exact oX.P
    have pk_26 : oP S_25 o 12 = some q_6 := by rw [eS_25, setP_ne (by decide)]; exact pk_20
    have ik_27 : oI S_25 o 13 = 0 := by rw [eS_25]; exact ik_21
    have FS_25 : oFr o Z S_25 := by rw [eS_25]; exact oFr.P FS_19
    have X_28 : oX Z S_25 := oX.tr X_22 XS_25
    have pk_29 : oP S_25 o 14 = some q_17 := by rw [eS_25, setP_same]
    refine lv_aload_n hx hb dX1_init_27 rfl (lv_at hl 0 rfl) ?_
    refine lv_bipush (v := 20) hx hb dX1_init_28 (by decide) ?_
    refine va_newa (atype := .int) (ty := .int) (a0 := (20, .inl (fun _ => 0))) hx hb (hts (.arrayClass .int) (by decide +kernel)) rfl hK hP hD hS hA (fun _ => rfl) (by decide) (by decide) (by decide) (Nat.le_of_ble_eq_true rfl) (Nat.le_of_ble_eq_true rfl) dX1_init_30 (fun q_30 k_31 H hK1 hP1 hD1 hS => ?_)
    obtain ⟨rfl, -⟩ := lv_ad (k := 0) hK1 rfl
    clear hK1
    have hnq_30 := add_q hD1
    obtain ⟨S_32, eS_32⟩ : ∃ zq, zq = addO S_25 q_30 120 := ⟨_, rfl⟩
    have hP : va_P (dC, dI) vwCl (oW cq S_32) H := by rw [eS_32]; exact cP (onew hD1 (by rw [oE_ar (n := 20) add_K, add_I])) hP1
    have hD : va_D A (oW cq S_32) := by rw [eS_32]; exact cD (onew hD1 (by rw [oE_ar (n := 20) add_K, add_I])) hD1
    clear hP1 hD1
    have hIS_32 : oInv S_32 := by rw [eS_32]; exact oInv.add hIS_25 hnq_30 (by decide)
    have XS_32 : oX S_25 S_32 := by rw [eS_32]; exact oX.add hnq_30
    have pk_33 : oP S_32 o 12 = some q_6 := by rw [eS_32, add_Pn hnq_30 (oX.ty XS_25 t_23).1]; exact pk_26
    have pk_34 : oP S_32 o 14 = some q_17 := by rw [eS_32, add_Pn hnq_30 (oX.ty XS_25 t_23).1]; exact pk_29
    have ik_35 : oI S_32 o 13 = 0 := by rw [eS_32, add_In hnq_30 (oX.ty XS_25 t_23).1]; exact ik_27
    have FS_32 : oFr o Z S_32 := by rw [eS_32]; exact oFr.add FS_25 X_28 hnq_30
    have X_36 : oX Z S_32 := oX.tr X_28 XS_32
    have tq_30 : oty S_32 q_30 120 := by rw [eS_32]; exact add_ty
    refine W.widen (k := 3) (n := 46) (Nat.le_of_ble_eq_true rfl) (Nat.le_of_ble_eq_true rfl) ?_
    have t_37 : oty S_32 o 31 := (oX.ty XS_32 (oX.ty XS_25 t_23))
    obtain ⟨q_38, hq_38⟩ := og (cq := cq) t_37.1 (oE_31 t_37.2)
    refine va_putF (D := (dC, dI)) (ci := 1) (v := .ref q_30) (ty := .array .int) (C := RX1) (T := TX1) (N := 18) hx hb hts in_wsX1_init_X1 tyX1 tyX1_ok nmX1 hown hK hP hD hS q_38 hq_38 rfl 15 (by decide) (hts (.fieldLink RX1 26 "ShipOffice$Agreement" "shortSum" "[I") (by decide +kernel)) (fun _ h9 => h9) rfl hin rfl (by decide +kernel) rfl rfl (Nat.le_of_ble_eq_true rfl) dX1_init_32 (fun H locs hP1 hD1 hS => ?_)
    obtain ⟨S_39, eS_39⟩ : ∃ zq, zq = setP S_32 o 15 (some q_30) := ⟨_, rfl⟩
    have hP : va_P (dC, dI) vwCl (oW cq S_39) H := by rw [eS_39]; exact cP (oset t_37.1 hq_38 hD rfl (he_31_15 t_37.2) neP) hP1
    have hD : va_D A (oW cq S_39) := by rw [eS_39]; exact cD (oset t_37.1 hq_38 hD rfl (he_31_15 t_37.2) neP) hD1
    clear hP1 hD1
    have hIS_39 : oInv S_39 := by rw [eS_39]; exact oInv.P (k := 31) hIS_32 t_37.2 (by decide) rfl (by decide) tq_30 (by decide)
    have XS_39 : oX S_32 S_39 := by rw [eS_39]; exact oX.P
    have pk_40 : oP S_39 o 12 = some q_6 := by rw [eS_39, setP_ne (by decide)]; exact pk_33
    have pk_41 : oP S_39 o 14 = some q_17 := by rw [eS_39, setP_ne (by decide)]; exact pk_34
    have ik_42 : oI S_39 o 13 = 0 := by rw [eS_39]; exact ik_35
    have FS_39 : oFr o Z S_39 := by rw [eS_39]; exact oFr.P FS_32
    have X_43 : oX Z S_39 := oX.tr X_36 XS_39
    have pk_44 : oP S_39 o 15 = some q_30 := by rw [eS_39, setP_same]
    refine lv_aload_n hx hb dX1_init_35 rfl (lv_at hl 0 rfl) ?_
    refine lv_aload_n hx hb dX1_init_36 rfl (lv_at hl 1 rfl) ?_
    have t_45 : oty S_39 o 31 := (oX.ty XS_39 t_37)
    obtain ⟨q_46, hq_46⟩ := og (cq := cq) t_45.1 (oE_31 t_45.2)
    have t_47 : oty S_39 a1 6 := (oX.ty XS_39 (oX.ty XS_32 (oX.ty XS_25 (oX.ty XS_19 (oX.ty XS_13 (oX.ty XS_8 (oX.ty XS_2 ta1)))))))
    refine va_putF (D := (dC, dI)) (ci := 1) (v := .ref a1) (ty := .object "ShipOffice$Man") (C := RX1) (T := TX1) (N := 18) hx hb hts in_wsX1_init_X1 tyX1 tyX1_ok nmX1 hown hK hP hD hS q_46 hq_46 rfl 0 (by decide) (hts (.fieldLink RX1 29 "ShipOffice$Agreement" "man" "LShipOffice$Man;") (by decide +kernel)) (fun _ h9 => h9) rfl hin rfl (by decide +kernel) rfl rfl (Nat.le_of_ble_eq_true rfl) dX1_init_37 (fun H locs hP1 hD1 hS => ?_)
    obtain ⟨S_48, eS_48⟩ : ∃ zq, zq = setP S_39 o 0 (some a1) := ⟨_, rfl⟩
    have hP : va_P (dC, dI) vwCl (oW cq S_48) H := by rw [eS_48]; exact cP (oset t_45.1 hq_46 hD rfl (he_31_0 t_45.2) neP) hP1
    have hD : va_D A (oW cq S_48) := by rw [eS_48]; exact cD (oset t_45.1 hq_46 hD rfl (he_31_0 t_45.2) neP) hD1
    clear hP1 hD1
    have hIS_48 : oInv S_48 := by rw [eS_48]; exact oInv.P (k := 31) hIS_39 t_45.2 (by decide) rfl (by decide) t_47 (by decide)
    have XS_48 : oX S_39 S_48 := by rw [eS_48]; exact oX.P
    have pk_49 : oP S_48 o 12 = some q_6 := by rw [eS_48, setP_ne (by decide)]; exact pk_40
    have pk_50 : oP S_48 o 14 = some q_17 := by rw [eS_48, setP_ne (by decide)]; exact pk_41
    have pk_51 : oP S_48 o 15 = some q_30 := by rw [eS_48, setP_ne (by decide)]; exact pk_44
    have ik_52 : oI S_48 o 13 = 0 := by rw [eS_48]; exact ik_42
    have FS_48 : oFr o Z S_48 := by rw [eS_48]; exact oFr.P FS_39
    have X_53 : oX Z S_48 := oX.tr X_43 XS_48
    have pk_54 : oP S_48 o 0 = some a1 := by rw [eS_48, setP_same]
    refine lv_aload_n hx hb dX1_init_40 rfl (lv_at hl 0 rfl) ?_
    refine lv_aload_n hx hb dX1_init_41 rfl (lv_at hl 2 rfl) ?_
    have t_55 : oty S_48 o 31 := (oX.ty XS_48 t_45)
    obtain ⟨q_56, hq_56⟩ := og (cq := cq) t_55.1 (oE_31 t_55.2)
    have t_57 : oty S_48 a2 9 := (oX.ty XS_48 (oX.ty XS_39 (oX.ty XS_32 (oX.ty XS_25 (oX.ty XS_19 (oX.ty XS_13 (oX.ty XS_8 (oX.ty XS_2 ta2))))))))
    refine va_putF (D := (dC, dI)) (ci := 1) (v := .ref a2) (ty := .object "ShipOffice$Voyage") (C := RX1) (T := TX1) (N := 18) hx hb hts in_wsX1_init_X1 tyX1 tyX1_ok nmX1 hown hK hP hD hS q_56 hq_56 rfl 1 (by decide) (hts (.fieldLink RX1 33 "ShipOffice$Agreement" "voyage" "LShipOffice$Voyage;") (by decide +kernel)) (fun _ h9 => h9) rfl hin rfl (by decide +kernel) rfl rfl (Nat.le_of_ble_eq_true rfl) dX1_init_42 (fun H locs hP1 hD1 hS => ?_)
    obtain ⟨S_58, eS_58⟩ : ∃ zq, zq = setP S_48 o 1 (some a2) := ⟨_, rfl⟩
    have hP : va_P (dC, dI) vwCl (oW cq S_58) H := by rw [eS_58]; exact cP (oset t_55.1 hq_56 hD rfl (he_31_1 t_55.2) neP) hP1
    have hD : va_D A (oW cq S_58) := by rw [eS_58]; exact cD (oset t_55.1 hq_56 hD rfl (he_31_1 t_55.2) neP) hD1
    clear hP1 hD1
    have hIS_58 : oInv S_58 := by rw [eS_58]; exact oInv.P (k := 31) hIS_48 t_55.2 (by decide) rfl (by decide) t_57 (by decide)
    have XS_58 : oX S_48 S_58 := by rw [eS_58]; exact oX.P
    have pk_59 : oP S_58 o 12 = some q_6 := by rw [eS_58, setP_ne (by decide)]; exact pk_49
    have pk_60 : oP S_58 o 14 = some q_17 := by rw [eS_58, setP_ne (by decide)]; exact pk_50
    have pk_61 : oP S_58 o 15 = some q_30 := by rw [eS_58, setP_ne (by decide)]; exact pk_51
    have pk_62 : oP S_58 o 0 = some a1 := by rw [eS_58, setP_ne (by decide)]; exact pk_54
    have ik_63 : oI S_58 o 13 = 0 := by rw [eS_58]; exact ik_52
    have FS_58 : oFr o Z S_58 := by rw [eS_58]; exact oFr.P FS_48
    have X_64 : oX Z S_58 := oX.tr X_53 XS_58
    have pk_65 : oP S_58 o 1 = some a2 := by rw [eS_58, setP_same]
    refine lv_aload_n hx hb dX1_init_45 rfl (lv_at hl 0 rfl) ?_
    refine lv_iload_n hx hb dX1_init_46 rfl (lv_at hl 3 rfl) ?_
    have t_66 : oty S_58 o 31 := (oX.ty XS_58 t_55)
    obtain ⟨q_67, hq_67⟩ := og (cq := cq) t_66.1 (oE_31 t_66.2)
    refine va_putF (D := (dC, dI)) (ci := 1) (v := .int x3) (ty := .int) (C := RX1) (T := TX1) (N := 18) hx hb hts in_wsX1_init_X1 tyX1 tyX1_ok nmX1 hown hK hP hD hS q_67 hq_67 rfl 2 (by decide) (hts (.fieldLink RX1 37 "ShipOffice$Agreement" "signedOn" "I") (by decide +kernel)) (fun _ h9 => h9) rfl hin rfl (by decide +kernel) rfl rfl (Nat.le_of_ble_eq_true rfl) dX1_init_47 (fun H locs hP1 hD1 hS => ?_)
    obtain ⟨S_68, eS_68⟩ : ∃ zq, zq = setI S_58 o 2 x3 := ⟨_, rfl⟩
    have hP : va_P (dC, dI) vwCl (oW cq S_68) H := by rw [eS_68]; exact cP (oset t_66.1 hq_67 hD rfl (he_31_2 t_66.2) neI) hP1
    have hD : va_D A (oW cq S_68) := by rw [eS_68]; exact cD (oset t_66.1 hq_67 hD rfl (he_31_2 t_66.2) neI) hD1
    clear hP1 hD1
    have hIS_68 : oInv S_68 := by rw [eS_68]; exact oInv.I0 (k := 31) (lo := -2147483648) (hi := 2147483647) hIS_58 t_66.2 (by decide) rfl rfl rfl (iv_all _)
    have XS_68 : oX S_58 S_68 := by rw [eS_68]; exact oX.I (k := 31) t_66.2 (by decide)
    have pk_69 : oP S_68 o 12 = some q_6 := by rw [eS_68]; exact pk_59
    have pk_70 : oP S_68 o 14 = some q_17 := by rw [eS_68]; exact pk_60
    have pk_71 : oP S_68 o 15 = some q_30 := by rw [eS_68]; exact pk_61
    have pk_72 : oP S_68 o 0 = some a1 := by rw [eS_68]; exact pk_62
    have pk_73 : oP S_68 o 1 = some a2 := by rw [eS_68]; exact pk_65
    have ik_74 : oI S_68 o 13 = 0 := by rw [eS_68, setI_ne (by decide)]; exact ik_63
    have FS_68 : oFr o Z S_68 := by rw [eS_68]; exact oFr.I FS_58
    have X_75 : oX Z S_68 := oX.tr X_64 XS_68
    refine lv_aload_n hx hb dX1_init_50 rfl (lv_at hl 0 rfl) ?_
    refine lv_aloadN hx hb dX1_init_51 (lv_at hl 4 rfl) ?_
    have t_77 : oty S_68 o 31 := (oX.ty XS_68 t_66)
    obtain ⟨q_78, hq_78⟩ := og (cq := cq) t_77.1 (oE_31 t_77.2)
    refine va_putF (D := (dC, dI)) (ci := 1) (v := .null) (ty := .object "ShipOffice$Agreement") (C := RX1) (T := TX1) (N := 18) hx hb hts in_wsX1_init_X1 tyX1 tyX1_ok nmX1 hown hK hP hD hS q_78 hq_78 rfl 3 (by decide) (hts (.fieldLink RX1 40 "ShipOffice$Agreement" "paper" "LShipOffice$Agreement;") (by decide +kernel)) (fun _ h9 => h9) rfl hin rfl (by decide +kernel) rfl rfl (Nat.le_of_ble_eq_true rfl) dX1_init_53 (fun H locs hP1 hD1 hS => ?_)
    obtain ⟨S_79, eS_79⟩ : ∃ zq, zq = setP S_68 o 3 none := ⟨_, rfl⟩
    have hP : va_P (dC, dI) vwCl (oW cq S_79) H := by rw [eS_79]; exact cP (oset t_77.1 hq_78 hD rfl (he_31_3 t_77.2) neP) hP1
    have hD : va_D A (oW cq S_79) := by rw [eS_79]; exact cD (oset t_77.1 hq_78 hD rfl (he_31_3 t_77.2) neP) hD1
    clear hP1 hD1
    have hIS_79 : oInv S_79 := by rw [eS_79]; exact oInv.Pn (k := 31) hIS_68 t_77.2 (by decide) rfl (by decide) rfl
    have XS_79 : oX S_68 S_79 := by rw [eS_79]; exact oX.P
    have pk_80 : oP S_79 o 12 = some q_6 := by rw [eS_79, setP_ne (by decide)]; exact pk_69
    have pk_81 : oP S_79 o 14 = some q_17 := by rw [eS_79, setP_ne (by decide)]; exact pk_70
    have pk_82 : oP S_79 o 15 = some q_30 := by rw [eS_79, setP_ne (by decide)]; exact pk_71
    have pk_83 : oP S_79 o 0 = some a1 := by rw [eS_79, setP_ne (by decide)]; exact pk_72
    have pk_84 : oP S_79 o 1 = some a2 := by rw [eS_79, setP_ne (by decide)]; exact pk_73
    have ik_85 : oI S_79 o 13 = 0 := by rw [eS_79]; exact ik_74
    have FS_79 : oFr o Z S_79 := by rw [eS_79]; exact oFr.P FS_68
    have X_86 : oX Z S_79 := oX.tr X_75 XS_79
    have t_89 : oty S_79 o 31 := (oX.ty XS_79 t_77)
    obtain ⟨S_88, eS_88⟩ : ∃ zq, zq = setK S_79 o 1 := ⟨_, rfl⟩
    have hP : va_P (dC, dI) vwCl (oW cq S_88) H := by rw [eS_88]; exact cP (ret_W (c := 1) t_89.2 (by decide)) hP
    have hD : va_D A (oW cq S_88) := by rw [eS_88]; exact cD (ret_W (c := 1) t_89.2 (by decide)) hD
    have hIS_88 : oInv S_88 := by rw [eS_88]; exact oInv.ret (c := 1) hIS_79 t_89 (by decide) (fun i hi => by rcases nn_1 hi with rfl | rfl | rfl | rfl | rfl <;> first | exact ⟨_, pk_83⟩ | exact ⟨_, pk_84⟩ | exact ⟨_, pk_80⟩ | exact ⟨_, pk_81⟩ | exact ⟨_, pk_82⟩) (fun i p hp => by rcases ct_1 hp with rfl <;> first | (rw [ik_85]; decide)) (fun h => absurd h (by decide)) (fun h => absurd h (by decide)) (fun h => absurd h (by decide))
    have XS_88 : oXc o Z S_88 := by rw [eS_88]; exact oXc.ret X_86
    have tS_88 : oty S_88 o 1 := by rw [eS_88]; exact K_ty t_89.1
    have FS_88 : oFr o Z S_88 := by rw [eS_88]; exact oFr.K FS_79
    exact W.vret hx hb hr (fun t ht hW => ⟨⟨S_88, rfl, ⟨hIS_88, XS_88, ⟨tS_88, FS_88⟩⟩, ⟨by rw [ht]; exact hP, va_K.moved hW.alike hK, hD⟩⟩, hS.F ht⟩) hS.2.2 dX1_init_56
  · refine Met.ofW (cc := cX1_init) (maxL := 5) (ret := none) (by decide) rfl ?_
    intro p e s m args below meth c s₁ B hml hv
    obtain ⟨rfl, ⟨hsz, hP, hK, hD0⟩, hZ⟩ := hv
    have hx := B.exec
    have hb := B.bytes
    have hr := B.returns
    have hts := atoms_spec (ws := wsX1_init) B.pre
    have hown : s.vm.findClass RX1 = some m.cls := findClass_of_methodNamed B.named
    have hlocks := B.notSynchronized
    have hin : meth.name = "<init>" := (name_of_methodNamed B.named B.method).1
    subst hsz
    have hD := hD0.self (sz := s.heap.size)
    generalize hAe : va_A (oW cq Z) s.heap.size = A at hD hZ ⊢
    have hA : ∀ q : Nat, s.heap.size ≤ q → A q := fun q h => by rw [← hAe]; exact Or.inr h
    have hS : va_S A s.heap s.heap [] := va_S.rf
    have hP : va_P (dC, dI) vwCl (oW cq Z) s.heap := hP
    have hl := lv_entry ([.ref o, .ref a1, .ref a2, .int x3, va_rf (some br4)]) (n := 5) (Nat.le_of_ble_eq_true rfl)
    rw [lg_entry_eq]
    generalize (lg_sl ([.ref o, .ref a1, .ref a2, .int x3, va_rf (some br4)]) ++ List.replicate (5 - (lg_sl ([.ref o, .ref a1, .ref a2, .int x3, va_rf (some br4)])).length) Slot.unset).toArray = ls at hl ⊢
    have hl : lv_has ls 5 [(0, .ref o), (1, .ref a1), (2, .ref a2), (3, .int x3), (4, va_rf (some br4))] := hl
    have hl : lv_has ls 5 [(0, .ref o), (1, .ref a1), (2, .ref a2), (3, .int x3), (4, .ref br4)] := hl
    have tbbr4 : oty Z br4 1 := tr4 br4 rfl
    refine lv_aload_n hx hb dX1_init_0 rfl (lv_at hl 0 rfl) ?_
    refine W.objInit hx hb hown (hts (.methodLink RX1 3 objectInit) (by decide +kernel)) (hts (.instanceMethod objectInit) (by decide +kernel)) (hts (.code objectInit ⟨#[0xb1]⟩ 1 none) (in_obj_wsX1_init)) rfl (by rw [hml]; exact hl.1) rfl dX1_init_1 (Nat.le_of_ble_eq_true rfl) (Nat.le_of_ble_eq_true rfl) ?_
    refine W.eq (g2 := F0 m 4 ls []) rfl ?_
    refine lv_aload_n hx hb dX1_init_4 rfl (lv_at hl 0 rfl) ?_
    refine lv_ldc (v := 1000000) hx hb hown (hts (.constant RX1 9 (1000000)) (by decide +kernel)) dX1_init_5 ?_
    obtain ⟨q_90, hq_90⟩ := og (cq := cq) to.1 (oE_31 to.2)
    refine va_put (D := (dC, dI)) (ci := 1) (v := .int 1000000) (ty := .int) (C := RX1) (T := TX1) (N := 18) hx hb hts in_wsX1_init_X1 tyX1 tyX1_ok nmX1 hown hK hP hD hS q_90 hq_90 rfl 6 (by decide) (hts (.fieldLink RX1 10 "ShipOffice$Agreement" "offDay" "I") (by decide +kernel)) (fun _ h9 => h9) rfl (by decide +kernel) rfl rfl (Nat.le_of_ble_eq_true rfl) dX1_init_7 (fun H locs hP1 hD1 hS => ?_)
    obtain ⟨S_91, eS_91⟩ : ∃ zq, zq = setI Z o 6 1000000 := ⟨_, rfl⟩
    have hP : va_P (dC, dI) vwCl (oW cq S_91) H := by rw [eS_91]; exact cP (oset to.1 hq_90 hD rfl (he_31_6 to.2) neI) hP1
    have hD : va_D A (oW cq S_91) := by rw [eS_91]; exact cD (oset to.1 hq_90 hD rfl (he_31_6 to.2) neI) hD1
    clear hP1 hD1
    have hIS_91 : oInv S_91 := by rw [eS_91]; exact oInv.I0 (k := 31) (lo := -2147483648) (hi := 2147483647) gI to.2 (by decide) rfl rfl rfl (iv_all _)
    have XS_91 : oX Z S_91 := by rw [eS_91]; exact oX.I (k := 31) to.2 (by decide)
    have ik_92 : oI S_91 o 13 = 0 := by rw [eS_91, setI_ne (by decide)]; exact (hz 13)
    have FS_91 : oFr o Z S_91 := by rw [eS_91]; exact oFr.I oFr.rf
    have X_93 : oX Z S_91 := XS_91
    refine lv_aload_n hx hb dX1_init_10 rfl (lv_at hl 0 rfl) ?_
    refine lv_bipush (v := 6) hx hb dX1_init_11 (by decide) ?_
    refine va_newq (N' := 6) hx hb hown (hts (.classLink RX1 16 RX2) (by decide +kernel)) hZ.2.2.2.1 hK hP hD hS hA (by decide) (by decide) (by decide) (Nat.le_of_ble_eq_true rfl) (Nat.le_of_ble_eq_true rfl) dX1_init_13 (fun q_95 k_96 H hK1 hP1 hD1 hS => ?_)
    obtain ⟨rfl, -⟩ := lv_ad (k := 6) hK1 rfl
    clear hK1
    have hnq_95 := add_q hD1
    obtain ⟨S_97, eS_97⟩ : ∃ zq, zq = addO S_91 q_95 17 := ⟨_, rfl⟩
    have hP : va_P (dC, dI) vwCl (oW cq S_97) H := by rw [eS_97]; exact cP (onew hD1 (by rw [oE_17 add_K, add_P])) hP1
    have hD : va_D A (oW cq S_97) := by rw [eS_97]; exact cD (onew hD1 (by rw [oE_17 add_K, add_P])) hD1
    clear hP1 hD1
    have hIS_97 : oInv S_97 := by rw [eS_97]; exact oInv.add hIS_91 hnq_95 (by decide)
    have XS_97 : oX S_91 S_97 := by rw [eS_97]; exact oX.add hnq_95
    have ik_98 : oI S_97 o 13 = 0 := by rw [eS_97, add_In hnq_95 (oX.ty XS_91 to).1]; exact ik_92
    have FS_97 : oFr o Z S_97 := by rw [eS_97]; exact oFr.add FS_91 X_93 hnq_95
    have X_99 : oX Z S_97 := oX.tr X_93 XS_97
    have tq_95 : oty S_97 q_95 17 := by rw [eS_97]; exact add_ty
    refine W.widen (k := 1) (n := 6) (Nat.le_of_ble_eq_true rfl) (Nat.le_of_ble_eq_true rfl) ?_
    have t_100 : oty S_97 o 31 := (oX.ty XS_97 (oX.ty XS_91 to))
    obtain ⟨q_101, hq_101⟩ := og (cq := cq) t_100.1 (oE_31 t_100.2)
    refine va_putF (D := (dC, dI)) (ci := 1) (v := .ref q_95) (ty := .array (.object "ShipOffice$Fine")) (C := RX1) (T := TX1) (N := 18) hx hb hts in_wsX1_init_X1 tyX1 tyX1_ok nmX1 hown hK hP hD hS q_101 hq_101 rfl 12 (by decide) (hts (.fieldLink RX1 18 "ShipOffice$Agreement" "fines" "[LShipOffice$Fine;") (by decide +kernel)) (fun _ h9 => h9) rfl hin rfl (by decide +kernel) rfl rfl (Nat.le_of_ble_eq_true rfl) dX1_init_16 (fun H locs hP1 hD1 hS => ?_)
    obtain ⟨S_102, eS_102⟩ : ∃ zq, zq = setP S_97 o 12 (some q_95) := ⟨_, rfl⟩
    have hP : va_P (dC, dI) vwCl (oW cq S_102) H := by rw [eS_102]; exact cP (oset t_100.1 hq_101 hD rfl (he_31_12 t_100.2) neP) hP1
    have hD : va_D A (oW cq S_102) := by rw [eS_102]; exact cD (oset t_100.1 hq_101 hD rfl (he_31_12 t_100.2) neP) hD1
    clear hP1 hD1
    have hIS_102 : oInv S_102 := by rw [eS_102]; exact oInv.P (k := 31) hIS_97 t_100.2 (by decide) rfl (by decide) tq_95 (by decide)
    have XS_102 : oX S_97 S_102 := by rw [eS_102]; exact oX.P
    have ik_103 : oI S_102 o 13 = 0 := by rw [eS_102]; exact ik_98
    have FS_102 : oFr o Z S_102 := by rw [eS_102]; exact oFr.P FS_97
    have X_104 : oX Z S_102 := oX.tr X_99 XS_102
    have pk_105 : oP S_102 o 12 = some q_95 := by rw [eS_102, setP_same]
    refine lv_aload_n hx hb dX1_init_19 rfl (lv_at hl 0 rfl) ?_
    refine lv_bipush (v := 20) hx hb dX1_init_20 (by decide) ?_
    refine va_newa (atype := .int) (ty := .int) (a0 := (20, .inl (fun _ => 0))) hx hb (hts (.arrayClass .int) (by decide +kernel)) rfl hK hP hD hS hA (fun _ => rfl) (by decide) (by decide) (by decide) (Nat.le_of_ble_eq_true rfl) (Nat.le_of_ble_eq_true rfl) dX1_init_22 (fun q_106 k_107 H hK1 hP1 hD1 hS => ?_)
    obtain ⟨rfl, -⟩ := lv_ad (k := 0) hK1 rfl
    clear hK1
    have hnq_106 := add_q hD1
    obtain ⟨S_108, eS_108⟩ : ∃ zq, zq = addO S_102 q_106 120 := ⟨_, rfl⟩
    have hP : va_P (dC, dI) vwCl (oW cq S_108) H := by rw [eS_108]; exact cP (onew hD1 (by rw [oE_ar (n := 20) add_K, add_I])) hP1
    have hD : va_D A (oW cq S_108) := by rw [eS_108]; exact cD (onew hD1 (by rw [oE_ar (n := 20) add_K, add_I])) hD1
    clear hP1 hD1
    have hIS_108 : oInv S_108 := by rw [eS_108]; exact oInv.add hIS_102 hnq_106 (by decide)
    have XS_108 : oX S_102 S_108 := by rw [eS_108]; exact oX.add hnq_106
    have pk_109 : oP S_108 o 12 = some q_95 := by rw [eS_108, add_Pn hnq_106 (oX.ty XS_102 t_100).1]; exact pk_105
    have ik_110 : oI S_108 o 13 = 0 := by rw [eS_108, add_In hnq_106 (oX.ty XS_102 t_100).1]; exact ik_103
    have FS_108 : oFr o Z S_108 := by rw [eS_108]; exact oFr.add FS_102 X_104 hnq_106
    have X_111 : oX Z S_108 := oX.tr X_104 XS_108
    have tq_106 : oty S_108 q_106 120 := by rw [eS_108]; exact add_ty
    refine W.widen (k := 2) (n := 26) (Nat.le_of_ble_eq_true rfl) (Nat.le_of_ble_eq_true rfl) ?_
    have t_112 : oty S_108 o 31 := (oX.ty XS_108 (oX.ty XS_102 t_100))
    obtain ⟨q_113, hq_113⟩ := og (cq := cq) t_112.1 (oE_31 t_112.2)
    refine va_putF (D := (dC, dI)) (ci := 1) (v := .ref q_106) (ty := .array .int) (C := RX1) (T := TX1) (N := 18) hx hb hts in_wsX1_init_X1 tyX1 tyX1_ok nmX1 hown hK hP hD hS q_113 hq_113 rfl 14 (by decide) (hts (.fieldLink RX1 22 "ShipOffice$Agreement" "shortTold" "[I") (by decide +kernel)) (fun _ h9 => h9) rfl hin rfl (by decide +kernel) rfl rfl (Nat.le_of_ble_eq_true rfl) dX1_init_24 (fun H locs hP1 hD1 hS => ?_)
    obtain ⟨S_114, eS_114⟩ : ∃ zq, zq = setP S_108 o 14 (some q_106) := ⟨_, rfl⟩
    have hP : va_P (dC, dI) vwCl (oW cq S_114) H := by rw [eS_114]; exact cP (oset t_112.1 hq_113 hD rfl (he_31_14 t_112.2) neP) hP1
    have hD : va_D A (oW cq S_114) := by rw [eS_114]; exact cD (oset t_112.1 hq_113 hD rfl (he_31_14 t_112.2) neP) hD1
    clear hP1 hD1
    have hIS_114 : oInv S_114 := by rw [eS_114]; exact oInv.P (k := 31) hIS_108 t_112.2 (by decide) rfl (by decide) tq_106 (by decide)
    have XS_114 : oX S_108 S_114 := by rw [eS_114]; exact oX.P
    have pk_115 : oP S_114 o 12 = some q_95 := by rw [eS_114, setP_ne (by decide)]; exact pk_109
    have ik_116 : oI S_114 o 13 = 0 := by rw [eS_114]; exact ik_110
    have FS_114 : oFr o Z S_114 := by rw [eS_114]; exact oFr.P FS_108
    have X_117 : oX Z S_114 := oX.tr X_111 XS_114
    have pk_118 : oP S_114 o 14 = some q_106 := by rw [eS_114, setP_same]
    refine lv_aload_n hx hb dX1_init_27 rfl (lv_at hl 0 rfl) ?_
    refine lv_bipush (v := 20) hx hb dX1_init_28 (by decide) ?_
    refine va_newa (atype := .int) (ty := .int) (a0 := (20, .inl (fun _ => 0))) hx hb (hts (.arrayClass .int) (by decide +kernel)) rfl hK hP hD hS hA (fun _ => rfl) (by decide) (by decide) (by decide) (Nat.le_of_ble_eq_true rfl) (Nat.le_of_ble_eq_true rfl) dX1_init_30 (fun q_119 k_120 H hK1 hP1 hD1 hS => ?_)
    obtain ⟨rfl, -⟩ := lv_ad (k := 0) hK1 rfl
    clear hK1
    have hnq_119 := add_q hD1
    obtain ⟨S_121, eS_121⟩ : ∃ zq, zq = addO S_114 q_119 120 := ⟨_, rfl⟩
    have hP : va_P (dC, dI) vwCl (oW cq S_121) H := by rw [eS_121]; exact cP (onew hD1 (by rw [oE_ar (n := 20) add_K, add_I])) hP1
    have hD : va_D A (oW cq S_121) := by rw [eS_121]; exact cD (onew hD1 (by rw [oE_ar (n := 20) add_K, add_I])) hD1
    clear hP1 hD1
    have hIS_121 : oInv S_121 := by rw [eS_121]; exact oInv.add hIS_114 hnq_119 (by decide)
    have XS_121 : oX S_114 S_121 := by rw [eS_121]; exact oX.add hnq_119
    have pk_122 : oP S_121 o 12 = some q_95 := by rw [eS_121, add_Pn hnq_119 (oX.ty XS_114 t_112).1]; exact pk_115
    have pk_123 : oP S_121 o 14 = some q_106 := by rw [eS_121, add_Pn hnq_119 (oX.ty XS_114 t_112).1]; exact pk_118
    have ik_124 : oI S_121 o 13 = 0 := by rw [eS_121, add_In hnq_119 (oX.ty XS_114 t_112).1]; exact ik_116
    have FS_121 : oFr o Z S_121 := by rw [eS_121]; exact oFr.add FS_114 X_117 hnq_119
    have X_125 : oX Z S_121 := oX.tr X_117 XS_121
    have tq_119 : oty S_121 q_119 120 := by rw [eS_121]; exact add_ty
    refine W.widen (k := 3) (n := 46) (Nat.le_of_ble_eq_true rfl) (Nat.le_of_ble_eq_true rfl) ?_
    have t_126 : oty S_121 o 31 := (oX.ty XS_121 (oX.ty XS_114 t_112))
    obtain ⟨q_127, hq_127⟩ := og (cq := cq) t_126.1 (oE_31 t_126.2)
    refine va_putF (D := (dC, dI)) (ci := 1) (v := .ref q_119) (ty := .array .int) (C := RX1) (T := TX1) (N := 18) hx hb hts in_wsX1_init_X1 tyX1 tyX1_ok nmX1 hown hK hP hD hS q_127 hq_127 rfl 15 (by decide) (hts (.fieldLink RX1 26 "ShipOffice$Agreement" "shortSum" "[I") (by decide +kernel)) (fun _ h9 => h9) rfl hin rfl (by decide +kernel) rfl rfl (Nat.le_of_ble_eq_true rfl) dX1_init_32 (fun H locs hP1 hD1 hS => ?_)
    obtain ⟨S_128, eS_128⟩ : ∃ zq, zq = setP S_121 o 15 (some q_119) := ⟨_, rfl⟩
    have hP : va_P (dC, dI) vwCl (oW cq S_128) H := by rw [eS_128]; exact cP (oset t_126.1 hq_127 hD rfl (he_31_15 t_126.2) neP) hP1
    have hD : va_D A (oW cq S_128) := by rw [eS_128]; exact cD (oset t_126.1 hq_127 hD rfl (he_31_15 t_126.2) neP) hD1
    clear hP1 hD1
    have hIS_128 : oInv S_128 := by rw [eS_128]; exact oInv.P (k := 31) hIS_121 t_126.2 (by decide) rfl (by decide) tq_119 (by decide)
    have XS_128 : oX S_121 S_128 := by rw [eS_128]; exact oX.P
    have pk_129 : oP S_128 o 12 = some q_95 := by rw [eS_128, setP_ne (by decide)]; exact pk_122
    have pk_130 : oP S_128 o 14 = some q_106 := by rw [eS_128, setP_ne (by decide)]; exact pk_123
    have ik_131 : oI S_128 o 13 = 0 := by rw [eS_128]; exact ik_124
    have FS_128 : oFr o Z S_128 := by rw [eS_128]; exact oFr.P FS_121
    have X_132 : oX Z S_128 := oX.tr X_125 XS_128
    have pk_133 : oP S_128 o 15 = some q_119 := by rw [eS_128, setP_same]
    refine lv_aload_n hx hb dX1_init_35 rfl (lv_at hl 0 rfl) ?_
    refine lv_aload_n hx hb dX1_init_36 rfl (lv_at hl 1 rfl) ?_
    have t_134 : oty S_128 o 31 := (oX.ty XS_128 t_126)
    obtain ⟨q_135, hq_135⟩ := og (cq := cq) t_134.1 (oE_31 t_134.2)
    have t_136 : oty S_128 a1 6 := (oX.ty XS_128 (oX.ty XS_121 (oX.ty XS_114 (oX.ty XS_108 (oX.ty XS_102 (oX.ty XS_97 (oX.ty XS_91 ta1)))))))
    refine va_putF (D := (dC, dI)) (ci := 1) (v := .ref a1) (ty := .object "ShipOffice$Man") (C := RX1) (T := TX1) (N := 18) hx hb hts in_wsX1_init_X1 tyX1 tyX1_ok nmX1 hown hK hP hD hS q_135 hq_135 rfl 0 (by decide) (hts (.fieldLink RX1 29 "ShipOffice$Agreement" "man" "LShipOffice$Man;") (by decide +kernel)) (fun _ h9 => h9) rfl hin rfl (by decide +kernel) rfl rfl (Nat.le_of_ble_eq_true rfl) dX1_init_37 (fun H locs hP1 hD1 hS => ?_)
    obtain ⟨S_137, eS_137⟩ : ∃ zq, zq = setP S_128 o 0 (some a1) := ⟨_, rfl⟩
    have hP : va_P (dC, dI) vwCl (oW cq S_137) H := by rw [eS_137]; exact cP (oset t_134.1 hq_135 hD rfl (he_31_0 t_134.2) neP) hP1
    have hD : va_D A (oW cq S_137) := by rw [eS_137]; exact cD (oset t_134.1 hq_135 hD rfl (he_31_0 t_134.2) neP) hD1
    clear hP1 hD1
    have hIS_137 : oInv S_137 := by rw [eS_137]; exact oInv.P (k := 31) hIS_128 t_134.2 (by decide) rfl (by decide) t_136 (by decide)
    have XS_137 : oX S_128 S_137 := by rw [eS_137]; exact oX.P
    have pk_138 : oP S_137 o 12 = some q_95 := by rw [eS_137, setP_ne (by decide)]; exact pk_129
    have pk_139 : oP S_137 o 14 = some q_106 := by rw [eS_137, setP_ne (by decide)]; exact pk_130
    have pk_140 : oP S_137 o 15 = some q_119 := by rw [eS_137, setP_ne (by decide)]; exact pk_133
    have ik_141 : oI S_137 o 13 = 0 := by rw [eS_137]; exact ik_131
    have FS_137 : oFr o Z S_137 := by rw [eS_137]; exact oFr.P FS_128
    have X_142 : oX Z S_137 := oX.tr X_132 XS_137
    have pk_143 : oP S_137 o 0 = some a1 := by rw [eS_137, setP_same]
    refine lv_aload_n hx hb dX1_init_40 rfl (lv_at hl 0 rfl) ?_
    refine lv_aload_n hx hb dX1_init_41 rfl (lv_at hl 2 rfl) ?_
    have t_144 : oty S_137 o 31 := (oX.ty XS_137 t_134)
    obtain ⟨q_145, hq_145⟩ := og (cq := cq) t_144.1 (oE_31 t_144.2)
    have t_146 : oty S_137 a2 9 := (oX.ty XS_137 (oX.ty XS_128 (oX.ty XS_121 (oX.ty XS_114 (oX.ty XS_108 (oX.ty XS_102 (oX.ty XS_97 (oX.ty XS_91 ta2))))))))
    refine va_putF (D := (dC, dI)) (ci := 1) (v := .ref a2) (ty := .object "ShipOffice$Voyage") (C := RX1) (T := TX1) (N := 18) hx hb hts in_wsX1_init_X1 tyX1 tyX1_ok nmX1 hown hK hP hD hS q_145 hq_145 rfl 1 (by decide) (hts (.fieldLink RX1 33 "ShipOffice$Agreement" "voyage" "LShipOffice$Voyage;") (by decide +kernel)) (fun _ h9 => h9) rfl hin rfl (by decide +kernel) rfl rfl (Nat.le_of_ble_eq_true rfl) dX1_init_42 (fun H locs hP1 hD1 hS => ?_)
    obtain ⟨S_147, eS_147⟩ : ∃ zq, zq = setP S_137 o 1 (some a2) := ⟨_, rfl⟩
    have hP : va_P (dC, dI) vwCl (oW cq S_147) H := by rw [eS_147]; exact cP (oset t_144.1 hq_145 hD rfl (he_31_1 t_144.2) neP) hP1
    have hD : va_D A (oW cq S_147) := by rw [eS_147]; exact cD (oset t_144.1 hq_145 hD rfl (he_31_1 t_144.2) neP) hD1
    clear hP1 hD1
    have hIS_147 : oInv S_147 := by rw [eS_147]; exact oInv.P (k := 31) hIS_137 t_144.2 (by decide) rfl (by decide) t_146 (by decide)
    have XS_147 : oX S_137 S_147 := by rw [eS_147]; exact oX.P
    have pk_148 : oP S_147 o 12 = some q_95 := by rw [eS_147, setP_ne (by decide)]; exact pk_138
    have pk_149 : oP S_147 o 14 = some q_106 := by rw [eS_147, setP_ne (by decide)]; exact pk_139
    have pk_150 : oP S_147 o 15 = some q_119 := by rw [eS_147, setP_ne (by decide)]; exact pk_140
    have pk_151 : oP S_147 o 0 = some a1 := by rw [eS_147, setP_ne (by decide)]; exact pk_143
    have ik_152 : oI S_147 o 13 = 0 := by rw [eS_147]; exact ik_141
    have FS_147 : oFr o Z S_147 := by rw [eS_147]; exact oFr.P FS_137
    have X_153 : oX Z S_147 := oX.tr X_142 XS_147
    have pk_154 : oP S_147 o 1 = some a2 := by rw [eS_147, setP_same]
    refine lv_aload_n hx hb dX1_init_45 rfl (lv_at hl 0 rfl) ?_
    refine lv_iload_n hx hb dX1_init_46 rfl (lv_at hl 3 rfl) ?_
    have t_155 : oty S_147 o 31 := (oX.ty XS_147 t_144)
    obtain ⟨q_156, hq_156⟩ := og (cq := cq) t_155.1 (oE_31 t_155.2)
    refine va_putF (D := (dC, dI)) (ci := 1) (v := .int x3) (ty := .int) (C := RX1) (T := TX1) (N := 18) hx hb hts in_wsX1_init_X1 tyX1 tyX1_ok nmX1 hown hK hP hD hS q_156 hq_156 rfl 2 (by decide) (hts (.fieldLink RX1 37 "ShipOffice$Agreement" "signedOn" "I") (by decide +kernel)) (fun _ h9 => h9) rfl hin rfl (by decide +kernel) rfl rfl (Nat.le_of_ble_eq_true rfl) dX1_init_47 (fun H locs hP1 hD1 hS => ?_)
    obtain ⟨S_157, eS_157⟩ : ∃ zq, zq = setI S_147 o 2 x3 := ⟨_, rfl⟩
    have hP : va_P (dC, dI) vwCl (oW cq S_157) H := by rw [eS_157]; exact cP (oset t_155.1 hq_156 hD rfl (he_31_2 t_155.2) neI) hP1
    have hD : va_D A (oW cq S_157) := by rw [eS_157]; exact cD (oset t_155.1 hq_156 hD rfl (he_31_2 t_155.2) neI) hD1
    clear hP1 hD1
    have hIS_157 : oInv S_157 := by rw [eS_157]; exact oInv.I0 (k := 31) (lo := -2147483648) (hi := 2147483647) hIS_147 t_155.2 (by decide) rfl rfl rfl (iv_all _)
    have XS_157 : oX S_147 S_157 := by rw [eS_157]; exact oX.I (k := 31) t_155.2 (by decide)
    have pk_158 : oP S_157 o 12 = some q_95 := by rw [eS_157]; exact pk_148
    have pk_159 : oP S_157 o 14 = some q_106 := by rw [eS_157]; exact pk_149
    have pk_160 : oP S_157 o 15 = some q_119 := by rw [eS_157]; exact pk_150
    have pk_161 : oP S_157 o 0 = some a1 := by rw [eS_157]; exact pk_151
    have pk_162 : oP S_157 o 1 = some a2 := by rw [eS_157]; exact pk_154
    have ik_163 : oI S_157 o 13 = 0 := by rw [eS_157, setI_ne (by decide)]; exact ik_152
    have FS_157 : oFr o Z S_157 := by rw [eS_157]; exact oFr.I FS_147
    have X_164 : oX Z S_157 := oX.tr X_153 XS_157
    refine lv_aload_n hx hb dX1_init_50 rfl (lv_at hl 0 rfl) ?_
    refine lv_aload hx hb dX1_init_51 (lv_at hl 4 rfl) ?_
    have t_166 : oty S_157 o 31 := (oX.ty XS_157 t_155)
    obtain ⟨q_167, hq_167⟩ := og (cq := cq) t_166.1 (oE_31 t_166.2)
    have t_168 : oty S_157 br4 1 := (oX.ty XS_157 (oX.ty XS_147 (oX.ty XS_137 (oX.ty XS_128 (oX.ty XS_121 (oX.ty XS_114 (oX.ty XS_108 (oX.ty XS_102 (oX.ty XS_97 (oX.ty XS_91 tbbr4))))))))))
    refine va_putF (D := (dC, dI)) (ci := 1) (v := .ref br4) (ty := .object "ShipOffice$Agreement") (C := RX1) (T := TX1) (N := 18) hx hb hts in_wsX1_init_X1 tyX1 tyX1_ok nmX1 hown hK hP hD hS q_167 hq_167 rfl 3 (by decide) (hts (.fieldLink RX1 40 "ShipOffice$Agreement" "paper" "LShipOffice$Agreement;") (by decide +kernel)) (fun _ h9 => h9) rfl hin rfl (by decide +kernel) rfl rfl (Nat.le_of_ble_eq_true rfl) dX1_init_53 (fun H locs hP1 hD1 hS => ?_)
    obtain ⟨S_169, eS_169⟩ : ∃ zq, zq = setP S_157 o 3 (some br4) := ⟨_, rfl⟩
    have hP : va_P (dC, dI) vwCl (oW cq S_169) H := by rw [eS_169]; exact cP (oset t_166.1 hq_167 hD rfl (he_31_3 t_166.2) neP) hP1
    have hD : va_D A (oW cq S_169) := by rw [eS_169]; exact cD (oset t_166.1 hq_167 hD rfl (he_31_3 t_166.2) neP) hD1
    clear hP1 hD1
    have hIS_169 : oInv S_169 := by rw [eS_169]; exact oInv.P (k := 31) hIS_157 t_166.2 (by decide) rfl (by decide) t_168 (by decide)
    have XS_169 : oX S_157 S_169 := by rw [eS_169]; exact oX.P
    have pk_170 : oP S_169 o 12 = some q_95 := by rw [eS_169, setP_ne (by decide)]; exact pk_158
    have pk_171 : oP S_169 o 14 = some q_106 := by rw [eS_169, setP_ne (by decide)]; exact pk_159
    have pk_172 : oP S_169 o 15 = some q_119 := by rw [eS_169, setP_ne (by decide)]; exact pk_160
    have pk_173 : oP S_169 o 0 = some a1 := by rw [eS_169, setP_ne (by decide)]; exact pk_161
    have pk_174 : oP S_169 o 1 = some a2 := by rw [eS_169, setP_ne (by decide)]; exact pk_162
    have ik_175 : oI S_169 o 13 = 0 := by rw [eS_169]; exact ik_163
    have FS_169 : oFr o Z S_169 := by rw [eS_169]; exact oFr.P FS_157
    have X_176 : oX Z S_169 := oX.tr X_164 XS_169
    have pk_177 : oP S_169 o 3 = some br4 := by rw [eS_169, setP_same]
    have t_179 : oty S_169 o 31 := (oX.ty XS_169 t_166)
    obtain ⟨S_178, eS_178⟩ : ∃ zq, zq = setK S_169 o 1 := ⟨_, rfl⟩
    have hP : va_P (dC, dI) vwCl (oW cq S_178) H := by rw [eS_178]; exact cP (ret_W (c := 1) t_179.2 (by decide)) hP
    have hD : va_D A (oW cq S_178) := by rw [eS_178]; exact cD (ret_W (c := 1) t_179.2 (by decide)) hD
    have hIS_178 : oInv S_178 := by rw [eS_178]; exact oInv.ret (c := 1) hIS_169 t_179 (by decide) (fun i hi => by rcases nn_1 hi with rfl | rfl | rfl | rfl | rfl <;> first | exact ⟨_, pk_173⟩ | exact ⟨_, pk_174⟩ | exact ⟨_, pk_177⟩ | exact ⟨_, pk_170⟩ | exact ⟨_, pk_171⟩ | exact ⟨_, pk_172⟩) (fun i p hp => by rcases ct_1 hp with rfl <;> first | (rw [ik_175]; decide)) (fun h => absurd h (by decide)) (fun h => absurd h (by decide)) (fun h => absurd h (by decide))
    have XS_178 : oXc o Z S_178 := by rw [eS_178]; exact oXc.ret X_176
    have tS_178 : oty S_178 o 1 := by rw [eS_178]; exact K_ty t_179.1
    have FS_178 : oFr o Z S_178 := by rw [eS_178]; exact oFr.K FS_169
    exact W.vret hx hb hr (fun t ht hW => ⟨⟨S_178, rfl, ⟨hIS_178, XS_178, ⟨tS_178, FS_178⟩⟩, ⟨by rw [ht]; exact hP, va_K.moved hW.alike hK, hD⟩⟩, hS.F ht⟩) hS.2.2 dX1_init_56
