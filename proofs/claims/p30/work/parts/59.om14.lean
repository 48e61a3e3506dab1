abbrev cX1_init : ByteArray := prog_3_method_1_code
def yX1_init : MethodName := ⟨RX1, "<init>", "(LShipOffice$Man;LShipOffice$Voyage;ILShipOffice$Agreement;)V"⟩
abbrev cX2_init : ByteArray := prog_4_method_1_code
def yX2_init : MethodName := ⟨RX2, "<init>", "(IIZ)V"⟩
def tyX3 : Nat → FieldType := fun k => match k with
  | 0 => .int
  | 1 => .int
  | 2 => .int
  | 3 => .int
  | 4 => .int
  | _ => .object "ShipOffice$Happening"
theorem nmX3 : ∀ a, a < 6 → ∀ b, b < 6 → a ≠ b → (TX3 a).2.1 ≠ (TX3 b).2.1 := by decide +kernel
theorem tyX3_ok : ∀ k, k < 6 → parseFieldDescriptor (TX3 k).2.2.1 = some (tyX3 k) := by decide +kernel
abbrev cX3_init : ByteArray := prog_5_method_1_code
def yX3_init : MethodName := ⟨RX3, "<init>", "(IIIIILShipOffice$Happening;)V"⟩
abbrev cX6_init : ByteArray := prog_8_method_1_code
def yX6_init : MethodName := ⟨RX6, "<init>", "(IIII)V"⟩
abbrev cX9_init : ByteArray := prog_11_method_1_code
def yX9_init : MethodName := ⟨RX9, "<init>", "(IIII)V"⟩
def wsX1_init : List Cond := .code yX1_init cX1_init 5 none :: ([.methodLink RX1 3 objectInit, .instanceMethod objectInit, .code objectInit ⟨#[0xb1]⟩ 1 none, .constant RX1 9 (1000000), .fieldLink RX1 10 "ShipOffice$Agreement" "offDay" "I", .classLink RX1 16 RX2, .fieldLink RX1 18 "ShipOffice$Agreement" "fines" "[LShipOffice$Fine;", .arrayClass .int, .fieldLink RX1 22 "ShipOffice$Agreement" "shortTold" "[I", .fieldLink RX1 26 "ShipOffice$Agreement" "shortSum" "[I", .fieldLink RX1 29 "ShipOffice$Agreement" "man" "LShipOffice$Man;", .fieldLink RX1 33 "ShipOffice$Agreement" "voyage" "LShipOffice$Voyage;", .fieldLink RX1 37 "ShipOffice$Agreement" "signedOn" "I", .fieldLink RX1 40 "ShipOffice$Agreement" "paper" "LShipOffice$Agreement;"] ++ wsX10)
theorem il_X1_init_1 : ∀ w ∈ ([.methodLink RX1 3 objectInit, .instanceMethod objectInit, .code objectInit ⟨#[0xb1]⟩ 1 none, .constant RX1 9 (1000000), .fieldLink RX1 10 "ShipOffice$Agreement" "offDay" "I", .classLink RX1 16 RX2, .fieldLink RX1 18 "ShipOffice$Agreement" "fines" "[LShipOffice$Fine;", .arrayClass .int, .fieldLink RX1 22 "ShipOffice$Agreement" "shortTold" "[I", .fieldLink RX1 26 "ShipOffice$Agreement" "shortSum" "[I", .fieldLink RX1 29 "ShipOffice$Agreement" "man" "LShipOffice$Man;", .fieldLink RX1 33 "ShipOffice$Agreement" "voyage" "LShipOffice$Voyage;", .fieldLink RX1 37 "ShipOffice$Agreement" "signedOn" "I", .fieldLink RX1 40 "ShipOffice$Agreement" "paper" "LShipOffice$Agreement;"] : List Cond), w ∈ wsX1_init := fun w h => (List.mem_cons_of_mem _ (List.mem_append_left _ h))
theorem iw_X1_init_1 : Cond.methodLink RX1 3 objectInit ∈ wsX1_init := (mmI il_X1_init_1 0 rfl)
theorem iw_X1_init_2 : Cond.instanceMethod objectInit ∈ wsX1_init := (mmI il_X1_init_1 1 rfl)
theorem iw_X1_init_3 : Cond.fieldLink RX1 10 "ShipOffice$Agreement" "offDay" "I" ∈ wsX1_init := (mmI il_X1_init_1 4 rfl)
theorem iw_X1_init_4 : Cond.classLink RX1 16 RX2 ∈ wsX1_init := (mmI il_X1_init_1 5 rfl)
theorem iw_X1_init_5 : Cond.fieldLink RX1 18 "ShipOffice$Agreement" "fines" "[LShipOffice$Fine;" ∈ wsX1_init := (mmI il_X1_init_1 6 rfl)
theorem iw_X1_init_6 : Cond.arrayClass .int ∈ wsX1_init := (mmI il_X1_init_1 7 rfl)
theorem iw_X1_init_7 : Cond.fieldLink RX1 22 "ShipOffice$Agreement" "shortTold" "[I" ∈ wsX1_init := (mmI il_X1_init_1 8 rfl)
theorem iw_X1_init_8 : Cond.fieldLink RX1 26 "ShipOffice$Agreement" "shortSum" "[I" ∈ wsX1_init := (mmI il_X1_init_1 9 rfl)
theorem iw_X1_init_9 : Cond.fieldLink RX1 29 "ShipOffice$Agreement" "man" "LShipOffice$Man;" ∈ wsX1_init := (mmI il_X1_init_1 10 rfl)
theorem iw_X1_init_10 : Cond.fieldLink RX1 33 "ShipOffice$Agreement" "voyage" "LShipOffice$Voyage;" ∈ wsX1_init := (mmI il_X1_init_1 11 rfl)
theorem iw_X1_init_11 : Cond.fieldLink RX1 37 "ShipOffice$Agreement" "signedOn" "I" ∈ wsX1_init := (mmI il_X1_init_1 12 rfl)
theorem iw_X1_init_12 : Cond.fieldLink RX1 40 "ShipOffice$Agreement" "paper" "LShipOffice$Agreement;" ∈ wsX1_init := (mmI il_X1_init_1 13 rfl)
def wsX2_init : List Cond := .code yX2_init cX2_init 4 none :: ([.methodLink RX2 1 objectInit, .instanceMethod objectInit, .code objectInit ⟨#[0xb1]⟩ 1 none, .fieldLink RX2 7 "ShipOffice$Fine" "day" "I", .fieldLink RX2 13 "ShipOffice$Fine" "sum" "I", .fieldLink RX2 16 "ShipOffice$Fine" "isRead" "Z"] ++ wsX20)
theorem il_X2_init_1 : ∀ w ∈ ([.methodLink RX2 1 objectInit, .instanceMethod objectInit, .code objectInit ⟨#[0xb1]⟩ 1 none, .fieldLink RX2 7 "ShipOffice$Fine" "day" "I", .fieldLink RX2 13 "ShipOffice$Fine" "sum" "I", .fieldLink RX2 16 "ShipOffice$Fine" "isRead" "Z"] : List Cond), w ∈ wsX2_init := fun w h => (List.mem_cons_of_mem _ (List.mem_append_left _ h))
theorem iw_X2_init_1 : Cond.methodLink RX2 1 objectInit ∈ wsX2_init := (mmI il_X2_init_1 0 rfl)
theorem iw_X2_init_2 : Cond.instanceMethod objectInit ∈ wsX2_init := (mmI il_X2_init_1 1 rfl)
theorem iw_X2_init_3 : Cond.fieldLink RX2 7 "ShipOffice$Fine" "day" "I" ∈ wsX2_init := (mmI il_X2_init_1 3 rfl)
theorem iw_X2_init_4 : Cond.fieldLink RX2 13 "ShipOffice$Fine" "sum" "I" ∈ wsX2_init := (mmI il_X2_init_1 4 rfl)
theorem iw_X2_init_5 : Cond.fieldLink RX2 16 "ShipOffice$Fine" "isRead" "Z" ∈ wsX2_init := (mmI il_X2_init_1 5 rfl)
def wsX3_init : List Cond := .code yX3_init cX3_init 7 none :: ([.methodLink RX3 1 objectInit, .instanceMethod objectInit, .code objectInit ⟨#[0xb1]⟩ 1 none, .fieldLink RX3 7 "ShipOffice$Happening" "kind" "I", .fieldLink RX3 13 "ShipOffice$Happening" "day" "I", .fieldLink RX3 16 "ShipOffice$Happening" "told" "I", .fieldLink RX3 19 "ShipOffice$Happening" "way" "I", .fieldLink RX3 22 "ShipOffice$Happening" "port" "I", .fieldLink RX3 25 "ShipOffice$Happening" "before" "LShipOffice$Happening;"] ++ wsX30)
theorem il_X3_init_1 : ∀ w ∈ ([.methodLink RX3 1 objectInit, .instanceMethod objectInit, .code objectInit ⟨#[0xb1]⟩ 1 none, .fieldLink RX3 7 "ShipOffice$Happening" "kind" "I", .fieldLink RX3 13 "ShipOffice$Happening" "day" "I", .fieldLink RX3 16 "ShipOffice$Happening" "told" "I", .fieldLink RX3 19 "ShipOffice$Happening" "way" "I", .fieldLink RX3 22 "ShipOffice$Happening" "port" "I", .fieldLink RX3 25 "ShipOffice$Happening" "before" "LShipOffice$Happening;"] : List Cond), w ∈ wsX3_init := fun w h => (List.mem_cons_of_mem _ (List.mem_append_left _ h))
theorem iw_X3_init_1 : Cond.methodLink RX3 1 objectInit ∈ wsX3_init := (mmI il_X3_init_1 0 rfl)
theorem iw_X3_init_2 : Cond.instanceMethod objectInit ∈ wsX3_init := (mmI il_X3_init_1 1 rfl)
theorem iw_X3_init_3 : Cond.fieldLink RX3 7 "ShipOffice$Happening" "kind" "I" ∈ wsX3_init := (mmI il_X3_init_1 3 rfl)
theorem iw_X3_init_4 : Cond.fieldLink RX3 13 "ShipOffice$Happening" "day" "I" ∈ wsX3_init := (mmI il_X3_init_1 4 rfl)
theorem iw_X3_init_5 : Cond.fieldLink RX3 16 "ShipOffice$Happening" "told" "I" ∈ wsX3_init := (mmI il_X3_init_1 5 rfl)
theorem iw_X3_init_6 : Cond.fieldLink RX3 19 "ShipOffice$Happening" "way" "I" ∈ wsX3_init := (mmI il_X3_init_1 6 rfl)
theorem iw_X3_init_7 : Cond.fieldLink RX3 22 "ShipOffice$Happening" "port" "I" ∈ wsX3_init := (mmI il_X3_init_1 7 rfl)
theorem iw_X3_init_8 : Cond.fieldLink RX3 25 "ShipOffice$Happening" "before" "LShipOffice$Happening;" ∈ wsX3_init := (mmI il_X3_init_1 8 rfl)
def wsX6_init : List Cond := .code yX6_init cX6_init 5 none :: ([.methodLink RX6 3 objectInit, .instanceMethod objectInit, .code objectInit ⟨#[0xb1]⟩ 1 none, .arrayClass .int, .fieldLink RX6 9 "ShipOffice$Man" "wages" "[I", .fieldLink RX6 15 "ShipOffice$Man" "number" "I", .fieldLink RX6 19 "ShipOffice$Man" "name" "I", .fieldLink RX6 22 "ShipOffice$Man" "marks" "I", .fieldLink RX6 25 "ShipOffice$Man" "born" "I", .fieldLink RX6 28 "ShipOffice$Man" "leastAlike" "I"] ++ wsX60)
theorem il_X6_init_1 : ∀ w ∈ ([.methodLink RX6 3 objectInit, .instanceMethod objectInit, .code objectInit ⟨#[0xb1]⟩ 1 none, .arrayClass .int, .fieldLink RX6 9 "ShipOffice$Man" "wages" "[I", .fieldLink RX6 15 "ShipOffice$Man" "number" "I", .fieldLink RX6 19 "ShipOffice$Man" "name" "I", .fieldLink RX6 22 "ShipOffice$Man" "marks" "I", .fieldLink RX6 25 "ShipOffice$Man" "born" "I", .fieldLink RX6 28 "ShipOffice$Man" "leastAlike" "I"] : List Cond), w ∈ wsX6_init := fun w h => (List.mem_cons_of_mem _ (List.mem_append_left _ h))
theorem iw_X6_init_1 : Cond.methodLink RX6 3 objectInit ∈ wsX6_init := (mmI il_X6_init_1 0 rfl)
theorem iw_X6_init_2 : Cond.instanceMethod objectInit ∈ wsX6_init := (mmI il_X6_init_1 1 rfl)
theorem iw_X6_init_3 : Cond.arrayClass .int ∈ wsX6_init := (mmI il_X6_init_1 3 rfl)
theorem iw_X6_init_4 : Cond.fieldLink RX6 9 "ShipOffice$Man" "wages" "[I" ∈ wsX6_init := (mmI il_X6_init_1 4 rfl)
theorem iw_X6_init_5 : Cond.fieldLink RX6 15 "ShipOffice$Man" "number" "I" ∈ wsX6_init := (mmI il_X6_init_1 5 rfl)
theorem iw_X6_init_6 : Cond.fieldLink RX6 19 "ShipOffice$Man" "name" "I" ∈ wsX6_init := (mmI il_X6_init_1 6 rfl)
theorem iw_X6_init_7 : Cond.fieldLink RX6 22 "ShipOffice$Man" "marks" "I" ∈ wsX6_init := (mmI il_X6_init_1 7 rfl)
theorem iw_X6_init_8 : Cond.fieldLink RX6 25 "ShipOffice$Man" "born" "I" ∈ wsX6_init := (mmI il_X6_init_1 8 rfl)
theorem iw_X6_init_9 : Cond.fieldLink RX6 28 "ShipOffice$Man" "leastAlike" "I" ∈ wsX6_init := (mmI il_X6_init_1 9 rfl)
def wsX9_init : List Cond := .code yX9_init cX9_init 5 none :: ([.methodLink RX9 3 objectInit, .instanceMethod objectInit, .code objectInit ⟨#[0xb1]⟩ 1 none, .constant RX9 9 (1000000), .fieldLink RX9 10 "ShipOffice$Voyage" "sailedDay" "I", .fieldLink RX9 16 "ShipOffice$Voyage" "sailedTold" "I", .fieldLink RX9 19 "ShipOffice$Voyage" "lostDay" "I", .fieldLink RX9 22 "ShipOffice$Voyage" "lostTold" "I", .fieldLink RX9 25 "ShipOffice$Voyage" "number" "I", .fieldLink RX9 28 "ShipOffice$Voyage" "ship" "I", .fieldLink RX9 31 "ShipOffice$Voyage" "port" "I", .fieldLink RX9 34 "ShipOffice$Voyage" "openedOn" "I"] ++ wsX90)
theorem il_X9_init_1 : ∀ w ∈ ([.methodLink RX9 3 objectInit, .instanceMethod objectInit, .code objectInit ⟨#[0xb1]⟩ 1 none, .constant RX9 9 (1000000), .fieldLink RX9 10 "ShipOffice$Voyage" "sailedDay" "I", .fieldLink RX9 16 "ShipOffice$Voyage" "sailedTold" "I", .fieldLink RX9 19 "ShipOffice$Voyage" "lostDay" "I", .fieldLink RX9 22 "ShipOffice$Voyage" "lostTold" "I", .fieldLink RX9 25 "ShipOffice$Voyage" "number" "I", .fieldLink RX9 28 "ShipOffice$Voyage" "ship" "I", .fieldLink RX9 31 "ShipOffice$Voyage" "port" "I", .fieldLink RX9 34 "ShipOffice$Voyage" "openedOn" "I"] : List Cond), w ∈ wsX9_init := fun w h => (List.mem_cons_of_mem _ (List.mem_append_left _ h))
theorem iw_X9_init_1 : Cond.methodLink RX9 3 objectInit ∈ wsX9_init := (mmI il_X9_init_1 0 rfl)
theorem iw_X9_init_2 : Cond.instanceMethod objectInit ∈ wsX9_init := (mmI il_X9_init_1 1 rfl)
theorem iw_X9_init_3 : Cond.fieldLink RX9 10 "ShipOffice$Voyage" "sailedDay" "I" ∈ wsX9_init := (mmI il_X9_init_1 4 rfl)
theorem iw_X9_init_4 : Cond.fieldLink RX9 16 "ShipOffice$Voyage" "sailedTold" "I" ∈ wsX9_init := (mmI il_X9_init_1 5 rfl)
theorem iw_X9_init_5 : Cond.fieldLink RX9 19 "ShipOffice$Voyage" "lostDay" "I" ∈ wsX9_init := (mmI il_X9_init_1 6 rfl)
theorem iw_X9_init_6 : Cond.fieldLink RX9 22 "ShipOffice$Voyage" "lostTold" "I" ∈ wsX9_init := (mmI il_X9_init_1 7 rfl)
theorem iw_X9_init_7 : Cond.fieldLink RX9 25 "ShipOffice$Voyage" "number" "I" ∈ wsX9_init := (mmI il_X9_init_1 8 rfl)
theorem iw_X9_init_8 : Cond.fieldLink RX9 28 "ShipOffice$Voyage" "ship" "I" ∈ wsX9_init := (mmI il_X9_init_1 9 rfl)
theorem iw_X9_init_9 : Cond.fieldLink RX9 31 "ShipOffice$Voyage" "port" "I" ∈ wsX9_init := (mmI il_X9_init_1 10 rfl)
theorem iw_X9_init_10 : Cond.fieldLink RX9 34 "ShipOffice$Voyage" "openedOn" "I" ∈ wsX9_init := (mmI il_X9_init_1 11 rfl)
theorem dX1_init_0 : decode cX1_init 0 = .ok (.aload_n 0, 1) := by decide +kernel
theorem dX1_init_1 : decode cX1_init 1 = .ok (.invokespecial 3, 3) := by decide +kernel
theorem dX1_init_4 : decode cX1_init 4 = .ok (.aload_n 0, 1) := by decide +kernel
theorem dX1_init_5 : decode cX1_init 5 = .ok (.ldc 9, 2) := by decide +kernel
theorem dX1_init_7 : decode cX1_init 7 = .ok (.putfield 10, 3) := by decide +kernel
theorem dX1_init_10 : decode cX1_init 10 = .ok (.aload_n 0, 1) := by decide +kernel
theorem dX1_init_11 : decode cX1_init 11 = .ok (.bipush 6, 2) := by decide +kernel
theorem dX1_init_13 : decode cX1_init 13 = .ok (.anewarray 16, 3) := by decide +kernel
theorem dX1_init_16 : decode cX1_init 16 = .ok (.putfield 18, 3) := by decide +kernel
theorem dX1_init_19 : decode cX1_init 19 = .ok (.aload_n 0, 1) := by decide +kernel
theorem dX1_init_20 : decode cX1_init 20 = .ok (.bipush 20, 2) := by decide +kernel
theorem dX1_init_22 : decode cX1_init 22 = .ok (.newarray .int, 2) := by decide +kernel
theorem dX1_init_24 : decode cX1_init 24 = .ok (.putfield 22, 3) := by decide +kernel
theorem dX1_init_27 : decode cX1_init 27 = .ok (.aload_n 0, 1) := by decide +kernel
theorem dX1_init_28 : decode cX1_init 28 = .ok (.bipush 20, 2) := by decide +kernel
theorem dX1_init_30 : decode cX1_init 30 = .ok (.newarray .int, 2) := by decide +kernel
theorem dX1_init_32 : decode cX1_init 32 = .ok (.putfield 26, 3) := by decide +kernel
theorem dX1_init_35 : decode cX1_init 35 = .ok (.aload_n 0, 1) := by decide +kernel
theorem dX1_init_36 : decode cX1_init 36 = .ok (.aload_n 1, 1) := by decide +kernel
theorem dX1_init_37 : decode cX1_init 37 = .ok (.putfield 29, 3) := by decide +kernel
theorem dX1_init_40 : decode cX1_init 40 = .ok (.aload_n 0, 1) := by decide +kernel
theorem dX1_init_41 : decode cX1_init 41 = .ok (.aload_n 2, 1) := by decide +kernel
theorem dX1_init_42 : decode cX1_init 42 = .ok (.putfield 33, 3) := by decide +kernel
theorem dX1_init_45 : decode cX1_init 45 = .ok (.aload_n 0, 1) := by decide +kernel
theorem dX1_init_46 : decode cX1_init 46 = .ok (.iload_n 3, 1) := by decide +kernel
theorem dX1_init_47 : decode cX1_init 47 = .ok (.putfield 37, 3) := by decide +kernel
theorem dX1_init_50 : decode cX1_init 50 = .ok (.aload_n 0, 1) := by decide +kernel
theorem dX1_init_51 : decode cX1_init 51 = .ok (.aload 4, 2) := by decide +kernel
theorem dX1_init_53 : decode cX1_init 53 = .ok (.putfield 40, 3) := by decide +kernel
theorem dX1_init_56 : decode cX1_init 56 = .ok (.return_, 1) := by decide +kernel
theorem dX2_init_0 : decode cX2_init 0 = .ok (.aload_n 0, 1) := by decide +kernel
theorem dX2_init_1 : decode cX2_init 1 = .ok (.invokespecial 1, 3) := by decide +kernel
theorem dX2_init_4 : decode cX2_init 4 = .ok (.aload_n 0, 1) := by decide +kernel
theorem dX2_init_5 : decode cX2_init 5 = .ok (.iload_n 1, 1) := by decide +kernel
theorem dX2_init_6 : decode cX2_init 6 = .ok (.putfield 7, 3) := by decide +kernel
theorem dX2_init_9 : decode cX2_init 9 = .ok (.aload_n 0, 1) := by decide +kernel
theorem dX2_init_10 : decode cX2_init 10 = .ok (.iload_n 2, 1) := by decide +kernel
theorem dX2_init_11 : decode cX2_init 11 = .ok (.putfield 13, 3) := by decide +kernel
theorem dX2_init_14 : decode cX2_init 14 = .ok (.aload_n 0, 1) := by decide +kernel
theorem dX2_init_15 : decode cX2_init 15 = .ok (.iload_n 3, 1) := by decide +kernel
theorem dX2_init_16 : decode cX2_init 16 = .ok (.putfield 16, 3) := by decide +kernel
theorem dX2_init_19 : decode cX2_init 19 = .ok (.return_, 1) := by decide +kernel
theorem dX3_init_0 : decode cX3_init 0 = .ok (.aload_n 0, 1) := by decide +kernel
theorem dX3_init_1 : decode cX3_init 1 = .ok (.invokespecial 1, 3) := by decide +kernel
theorem dX3_init_4 : decode cX3_init 4 = .ok (.aload_n 0, 1) := by decide +kernel
theorem dX3_init_5 : decode cX3_init 5 = .ok (.iload_n 1, 1) := by decide +kernel
theorem dX3_init_6 : decode cX3_init 6 = .ok (.putfield 7, 3) := by decide +kernel
theorem dX3_init_9 : decode cX3_init 9 = .ok (.aload_n 0, 1) := by decide +kernel
theorem dX3_init_10 : decode cX3_init 10 = .ok (.iload_n 2, 1) := by decide +kernel
theorem dX3_init_11 : decode cX3_init 11 = .ok (.putfield 13, 3) := by decide +kernel
theorem dX3_init_14 : decode cX3_init 14 = .ok (.aload_n 0, 1) := by decide +kernel
theorem dX3_init_15 : decode cX3_init 15 = .ok (.iload_n 3, 1) := by decide +kernel
theorem dX3_init_16 : decode cX3_init 16 = .ok (.putfield 16, 3) := by decide +kernel
theorem dX3_init_19 : decode cX3_init 19 = .ok (.aload_n 0, 1) := by decide +kernel
theorem dX3_init_20 : decode cX3_init 20 = .ok (.iload 4, 2) := by decide +kernel
theorem dX3_init_22 : decode cX3_init 22 = .ok (.putfield 19, 3) := by decide +kernel
theorem dX3_init_25 : decode cX3_init 25 = .ok (.aload_n 0, 1) := by decide +kernel
theorem dX3_init_26 : decode cX3_init 26 = .ok (.iload 5, 2) := by decide +kernel
theorem dX3_init_28 : decode cX3_init 28 = .ok (.putfield 22, 3) := by decide +kernel
theorem dX3_init_31 : decode cX3_init 31 = .ok (.aload_n 0, 1) := by decide +kernel
theorem dX3_init_32 : decode cX3_init 32 = .ok (.aload 6, 2) := by decide +kernel
theorem dX3_init_34 : decode cX3_init 34 = .ok (.putfield 25, 3) := by decide +kernel
theorem dX3_init_37 : decode cX3_init 37 = .ok (.return_, 1) := by decide +kernel
theorem dX6_init_0 : decode cX6_init 0 = .ok (.aload_n 0, 1) := by decide +kernel
theorem dX6_init_1 : decode cX6_init 1 = .ok (.invokespecial 3, 3) := by decide +kernel
theorem dX6_init_4 : decode cX6_init 4 = .ok (.aload_n 0, 1) := by decide +kernel
theorem dX6_init_5 : decode cX6_init 5 = .ok (.iconst 4, 1) := by decide +kernel
theorem dX6_init_6 : decode cX6_init 6 = .ok (.newarray .int, 2) := by decide +kernel
theorem dX6_init_8 : decode cX6_init 8 = .ok (.putfield 9, 3) := by decide +kernel
theorem dX6_init_11 : decode cX6_init 11 = .ok (.aload_n 0, 1) := by decide +kernel
theorem dX6_init_12 : decode cX6_init 12 = .ok (.iload_n 1, 1) := by decide +kernel
theorem dX6_init_13 : decode cX6_init 13 = .ok (.putfield 15, 3) := by decide +kernel
theorem dX6_init_16 : decode cX6_init 16 = .ok (.aload_n 0, 1) := by decide +kernel
theorem dX6_init_17 : decode cX6_init 17 = .ok (.iload_n 2, 1) := by decide +kernel
theorem dX6_init_18 : decode cX6_init 18 = .ok (.putfield 19, 3) := by decide +kernel
theorem dX6_init_21 : decode cX6_init 21 = .ok (.aload_n 0, 1) := by decide +kernel
theorem dX6_init_22 : decode cX6_init 22 = .ok (.iload_n 3, 1) := by decide +kernel
theorem dX6_init_23 : decode cX6_init 23 = .ok (.putfield 22, 3) := by decide +kernel
theorem dX6_init_26 : decode cX6_init 26 = .ok (.aload_n 0, 1) := by decide +kernel
theorem dX6_init_27 : decode cX6_init 27 = .ok (.iload 4, 2) := by decide +kernel
theorem dX6_init_29 : decode cX6_init 29 = .ok (.putfield 25, 3) := by decide +kernel
theorem dX6_init_32 : decode cX6_init 32 = .ok (.aload_n 0, 1) := by decide +kernel
theorem dX6_init_33 : decode cX6_init 33 = .ok (.iload_n 1, 1) := by decide +kernel
theorem dX6_init_34 : decode cX6_init 34 = .ok (.putfield 28, 3) := by decide +kernel
theorem dX6_init_37 : decode cX6_init 37 = .ok (.return_, 1) := by decide +kernel
theorem dX9_init_0 : decode cX9_init 0 = .ok (.aload_n 0, 1) := by decide +kernel
theorem dX9_init_1 : decode cX9_init 1 = .ok (.invokespecial 3, 3) := by decide +kernel
theorem dX9_init_4 : decode cX9_init 4 = .ok (.aload_n 0, 1) := by decide +kernel
theorem dX9_init_5 : decode cX9_init 5 = .ok (.ldc 9, 2) := by decide +kernel
theorem dX9_init_7 : decode cX9_init 7 = .ok (.putfield 10, 3) := by decide +kernel
theorem dX9_init_10 : decode cX9_init 10 = .ok (.aload_n 0, 1) := by decide +kernel
theorem dX9_init_11 : decode cX9_init 11 = .ok (.ldc 9, 2) := by decide +kernel
theorem dX9_init_13 : decode cX9_init 13 = .ok (.putfield 16, 3) := by decide +kernel
theorem dX9_init_16 : decode cX9_init 16 = .ok (.aload_n 0, 1) := by decide +kernel
theorem dX9_init_17 : decode cX9_init 17 = .ok (.ldc 9, 2) := by decide +kernel
theorem dX9_init_19 : decode cX9_init 19 = .ok (.putfield 19, 3) := by decide +kernel
theorem dX9_init_22 : decode cX9_init 22 = .ok (.aload_n 0, 1) := by decide +kernel
theorem dX9_init_23 : decode cX9_init 23 = .ok (.ldc 9, 2) := by decide +kernel
theorem dX9_init_25 : decode cX9_init 25 = .ok (.putfield 22, 3) := by decide +kernel
theorem dX9_init_28 : decode cX9_init 28 = .ok (.aload_n 0, 1) := by decide +kernel
theorem dX9_init_29 : decode cX9_init 29 = .ok (.iload_n 1, 1) := by decide +kernel
theorem dX9_init_30 : decode cX9_init 30 = .ok (.putfield 25, 3) := by decide +kernel
theorem dX9_init_33 : decode cX9_init 33 = .ok (.aload_n 0, 1) := by decide +kernel
theorem dX9_init_34 : decode cX9_init 34 = .ok (.iload_n 2, 1) := by decide +kernel
theorem dX9_init_35 : decode cX9_init 35 = .ok (.putfield 28, 3) := by decide +kernel
theorem dX9_init_38 : decode cX9_init 38 = .ok (.aload_n 0, 1) := by decide +kernel
theorem dX9_init_39 : decode cX9_init 39 = .ok (.iload_n 3, 1) := by decide +kernel
theorem dX9_init_40 : decode cX9_init 40 = .ok (.putfield 31, 3) := by decide +kernel
theorem dX9_init_43 : decode cX9_init 43 = .ok (.aload_n 0, 1) := by decide +kernel
theorem dX9_init_44 : decode cX9_init 44 = .ok (.iload 4, 2) := by decide +kernel
theorem dX9_init_46 : decode cX9_init 46 = .ok (.putfield 34, 3) := by decide +kernel
theorem dX9_init_49 : decode cX9_init 49 = .ok (.return_, 1) := by decide +kernel
theorem in_wsX2_init_X2 : ∀ w ∈ wsX20, w ∈ wsX2_init := fun w h => List.mem_cons_of_mem _ (List.mem_append_right _ h)
theorem in_wsX3_init_X3 : ∀ w ∈ wsX30, w ∈ wsX3_init := fun w h => List.mem_cons_of_mem _ (List.mem_append_right _ h)
theorem in_wsX6_init_X6 : ∀ w ∈ wsX60, w ∈ wsX6_init := fun w h => List.mem_cons_of_mem _ (List.mem_append_right _ h)
theorem in_wsX9_init_X9 : ∀ w ∈ wsX90, w ∈ wsX9_init := fun w h => List.mem_cons_of_mem _ (List.mem_append_right _ h)
theorem in_wsX1_init_X1 : ∀ w ∈ wsX10, w ∈ wsX1_init := fun w h => List.mem_cons_of_mem _ (List.mem_append_right _ h)
theorem in_obj_wsX2_init : Cond.code objectInit ⟨#[0xb1]⟩ 1 none ∈ wsX2_init := List.mem_of_getElem? (i := 3) rfl
theorem in_obj_wsX3_init : Cond.code objectInit ⟨#[0xb1]⟩ 1 none ∈ wsX3_init := List.mem_of_getElem? (i := 3) rfl
theorem in_obj_wsX6_init : Cond.code objectInit ⟨#[0xb1]⟩ 1 none ∈ wsX6_init := List.mem_of_getElem? (i := 3) rfl
theorem in_obj_wsX9_init : Cond.code objectInit ⟨#[0xb1]⟩ 1 none ∈ wsX9_init := List.mem_of_getElem? (i := 3) rfl
theorem in_obj_wsX1_init : Cond.code objectInit ⟨#[0xb1]⟩ 1 none ∈ wsX1_init := List.mem_of_getElem? (i := 3) rfl

theorem z_fit {x : Int32} (h : 0 ≤ x.toInt ∧ x.toInt ≤ 1) : fits .boolean (.int x) = true := by
  have key : x = 0 ∨ x = 1 := by
    have : x.toInt = 0 ∨ x.toInt = 1 := by omega
    rcases this with g | g
    · exact Or.inl (Int32.toInt_inj.mp (g.trans (by decide)))
    · exact Or.inr (Int32.toInt_inj.mp (g.trans (by decide)))
  rcases key with rfl | rfl <;> rfl