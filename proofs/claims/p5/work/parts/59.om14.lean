abbrev cX1_init : ByteArray := prog_3_method_1_code
def yX1_init : MethodName := ⟨RX1, "<init>", "(LShipOffice$Man;LShipOffice$Voyage;ILShipOffice$Agreement;)V"⟩
abbrev cX2_init : ByteArray := prog_4_method_1_code
def yX2_init : MethodName := ⟨RX2, "<init>", "(IIZ)V"⟩
def tyX3 : Nat → FieldType := fun k => match k with
  | 0 => .int
  | 1 => .int
  | 2 => .int
  | 3 => .int
  | 4 => .int
  | _ => .object "ShipOffice$Happening"
theorem nmX3 : ∀ a, a < 6 → ∀ b, b < 6 → a ≠ b → (TX3 a).2.1 ≠ (TX3 b).2.1 := by decide +kernel
theorem tyX3_ok : ∀ k, k < 6 → parseFieldDescriptor (TX3 k).2.2.1 = some (tyX3 k) := by decide +kernel
abbrev cX3_init : ByteArray := prog_5_method_1_code
def yX3_init : MethodName := ⟨RX3, "<init>", "(IIIIILShipOffice$Happening;)V"⟩
abbrev cX6_init : ByteArray := prog_8_method_1_code
def yX6_init : MethodName := ⟨RX6, "<init>", "(IIII)V"⟩
abbrev cX9_init : ByteArray := prog_11_method_1_code
def yX9_init : MethodName := ⟨RX9, "<init>", "(IIII)V"⟩
def wsX1_init : List Cond := .code yX1_init cX1_init 5 none :: ([.methodLink RX1 3 objectInit, .instanceMethod objectInit, .code objectInit ⟨#[0xb1]⟩ 1 none, .constant RX1 9 (1000000), .fieldLink RX1 10 "ShipOffice$Agreement" "offDay" "I", .classLink RX1 16 RX2, .fieldLink RX1 18 "ShipOffice$Agreement" "fines" "[LShipOffice$Fine;", .arrayClass .int, .fieldLink RX1 22 "ShipOffice$Agreement" "shortTold" "[I", .fieldLink RX1 26 "ShipOffice$Agreement" "shortSum" "[I", .fieldLink RX1 29 "ShipOffice$Agreement" "man" "LShipOffice$Man;", .fieldLink RX1 33 "ShipOffice$Agreement" "voyage" "LShipOffice$Voyage;", .fieldLink RX1 37 "ShipOffice$Agreement" "signedOn" "I", .fieldLink RX1 40 "ShipOffice$Agreement" "paper" "LShipOffice$Agreement;"] ++ wsX10)
theorem il_X1_init_1 : ∀ w ∈ ([.methodLink RX1 3 objectInit, .instanceMethod objectInit, .code objectInit ⟨#[0xb1]⟩ 1 none, .constant RX1 9 (1000000), .fieldLink RX1 10 "ShipOffice$Agreement" "offDay" "I", .classLink RX1 16 RX2, .fieldLink RX1 18 "ShipOffice$Agreement" "fines" "[LShipOffice$Fine;", .arrayClass .int, .fieldLink RX1 22 "ShipOffice$Agreement" "shortTold" "[I", .fieldLink RX1 26 "ShipOffice$Agreement" "shortSum" "[I", .fieldLink RX1 29 "ShipOffice$Agreement" "man" "LShipOffice$Man;", .fieldLink RX1 33 "ShipOffice$Agreement" "voyage" "LShipOffice$Voyage;", .fieldLink RX1 37 "ShipOffice$Agreement" "signedOn" "I", .fieldLink RX1 40 "ShipOffice$Agreement" "paper" "LShipOffice$Agreement;"] : List Cond), w ∈ wsX1_init := fun w h => (List.mem_cons_of_mem _ (List.mem_append_left _ h))
theorem iw_X1_init_1 : Cond.methodLink RX1 3 objectInit ∈ wsX1_init := (mmI il_X1_init_1 0 rfl)
theorem iw_X1_init_2 : Cond.instanceMethod objectInit ∈ wsX1_init := (mmI il_X1_init_1 1 rfl)
theorem iw_X1_init_3 : Cond.fieldLink RX1 10 "ShipOffice$Agreement" "offDay" "I" ∈ wsX1_init := (mmI il_X1_init_1 4 rfl)
theorem iw_X1_init_4 : Cond.classLink RX1 16 RX2 ∈ wsX1_init := (mmI il_X1_init_1 5 rfl)
theorem iw_X1_init_5 : Cond.fieldLink RX1 18 "ShipOffice$Agreement" "fines" "[LShipOffice$Fine;" ∈ wsX1_init := (mmI il_X1_init_1 6 rfl)
theorem iw_X1_init_6 : Cond.arrayClass .int ∈ wsX1_init := (mmI il_X1_init_1 7 rfl)
theorem iw_X1_init_7 : Cond.fieldLink RX1 22 "ShipOffice$Agreement" "shortTold" "[I" ∈ wsX1_init := (mmI il_X1_init_1 8 rfl)
theorem iw_X1_init_8 : Cond.fieldLink RX1 26 "ShipOffice$Agreement" "shortSum" "[I" ∈ wsX1_init := (mmI il_X1_init_1 9 rfl)
theorem iw_X1_init_9 : Cond.fieldLink RX1 29 "ShipOffice$Agreement" "man" "LShipOffice$Man;" ∈ wsX1_init := (mmI il_X1_init_1 10 rfl)
theorem iw_X1_init_10 : Cond.fieldLink RX1 33 "ShipOffice$Agreement" "voyage" "LShipOffice$Voyage;" ∈ wsX1_init := (mmI il_X1_init_1 11 rfl)
theorem iw_X1_init_11 : Cond.fieldLink RX1 37 "ShipOffice$Agreement" "signedOn" "I" ∈ wsX1_init := (mmI il_X1_init_1 12 rfl)
theorem iw_X1_init_12 : Cond.fieldLink RX1 40 "ShipOffice$Agreement" "paper" "LShipOffice$Agreement;" ∈ wsX1_init := (mmI il_X1_init_1 13 rfl)
def wsX2_init : List Cond := .code yX2_init cX2_init 4 none :: ([.methodLink RX2 1 objectInit, .instanceMethod objectInit, .code objectInit ⟨#[0xb1]⟩ 1 none, .fieldLink RX2 7 "ShipOffice$Fine" "day" "I", .fieldLink RX2 13 "ShipOffice$Fine" "sum" "I", .fieldLink RX2 16 "ShipOffice$Fine" "isRead" "Z"] ++ wsX20)
theorem il_X2_init_1 : ∀ w ∈ ([.methodLink RX2 1 objectInit, .instanceMethod objectInit, .code objectInit ⟨#[0xb1]⟩ 1 none, .fieldLink RX2 7 "ShipOffice$Fine" "day" "I", .fieldLink RX2 13 "ShipOffice$Fine" "sum" "I", .fieldLink RX2 16 "ShipOffice$Fine" "isRead" "Z"] : List Cond), w ∈ wsX2_init := fun w h => (List.mem_cons_of_mem _ (List.mem_append_left _ h))
theorem iw_X2_init_1 : Cond.methodLink RX2 1 objectInit ∈ wsX2_init := (mmI il_X2_init_1 0 rfl)
theorem iw_X2_init_2 : Cond.instanceMethod objectInit ∈ wsX2_init := (mmI il_X2_init_1 1 rfl)
theorem iw_X2_init_3 : Cond.fieldLink RX2 7 "ShipOffice$Fine" "day" "I" ∈ wsX2_init := (mmI il_X2_init_1 3 rfl)
theorem iw_X2_init_4 : Cond.fieldLink RX2 13 "ShipOffice$Fine" "sum" "I" ∈ wsX2_init := (mmI il_X2_init_1 4 rfl)
theorem iw_X2_init_5 : Cond.fieldLink RX2 16 "ShipOffice$Fine" "isRead" "Z" ∈ wsX2_init := (mmI il_X2_init_1 5 rfl)
def wsX3_init : List Cond := .code yX3_init cX3_init 7 none :: ([.methodLink RX3 1 objectInit, .instanceMethod objectInit, .code objectInit ⟨#[0xb1]⟩ 1 none, .fieldLink RX3 7 "ShipOffice$Happening" "kind" "I", .fieldLink RX3 13 "ShipOffice$Happening" "day" "I", .fieldLink RX3 16 "ShipOffice$Happening" "told" "I", .fieldLink RX3 19 "ShipOffice$Happening" "way" "I", .fieldLink RX3 22 "ShipOffice$Happening" "port" "I", .fieldLink RX3 25 "ShipOffice$Happening" "before" "LShipOffice$Happening;"] ++ wsX30)
theorem il_X3_init_1 : ∀ w ∈ ([.methodLink RX3 1 objectInit, .instanceMethod objectInit, .code objectInit ⟨#[0xb1]⟩ 1 none, .fieldLink RX3 7 "ShipOffice$Happening" "kind" "I", .fieldLink RX3 13 "ShipOffice$Happening" "day" "I", .fieldLink RX3 16 "ShipOffice$Happening" "told" "I", .fieldLink RX3 19 "ShipOffice$Happening" "way" "I", .fieldLink RX3 22 "ShipOffice$Happening" "port" "I", .fieldLink RX3 25 "ShipOffice$Happening" "before" "LShipOffice$Happening;"] : List Cond), w ∈ wsX3_init := fun w h => (List.mem_cons_of_mem _ (List.mem_append_left _ h))
theorem iw_X3_init_1 : Cond.methodLink RX3 1 objectInit ∈ wsX3_init := (mmI il_X3_init_1 0 rfl)
theorem iw_X3_init_2 : Cond.instanceMethod objectInit ∈ wsX3_init := (mmI il_X3_init_1 1 rfl)
theorem iw_X3_init_3 : Cond.fieldLink RX3 7 "ShipOffice$Happening" "kind" "I" ∈ wsX3_init := (mmI il_X3_init_1 3 rfl)
theorem iw_X3_init_4 : Cond.fieldLink RX3 13 "ShipOffice$Happening" "day" "I" ∈ wsX3_init := (mmI il_X3_init_1 4 rfl)
theorem iw_X3_init_5 : Cond.fieldLink RX3 16 "ShipOffice$Happening" "told" "I" ∈ wsX3_init := (mmI il_X3_init_1 5 rfl)
theorem iw_X3_init_6 : Cond.fieldLink RX3 19 "ShipOffice$Happening" "way" "I" ∈ wsX3_init := (mmI il_X3_init_1 6 rfl)
theorem iw_X3_init_7 : Cond.fieldLink RX3 22 "ShipOffice$Happening" "port" "I" ∈ wsX3_init := (mmI il_X3_init_1 7 rfl)
theorem iw_X3_init_8 : Cond.fieldLink RX3 25 "ShipOffice$Happening" "before" "LShipOffice$Happening;" ∈ wsX3_init := (mmI il_X3_init_1 8 rfl)
def wsX6_init : List Cond := .code yX6_init cX6_init 5 none :: ([.methodLink RX6 3 objectInit, .instanceMethod objectInit, .code objectInit ⟨#[0xb1]⟩ 1 none, .arrayClass .int, .fieldLink RX6 9 "ShipOffice$Man" "wages" "[I", .fieldLink RX6 15 "ShipOffice$Man" "number" "I", .fieldLink RX6 19 "ShipOffice$Man" "name" "I", .fieldLink RX6 22 "ShipOffice$Man" "marks" "I", .fieldLink RX6 25 "ShipOffice$Man" "born" "I", .fieldLink RX6 28 "ShipOffice$Man" "leastAlike" "I"] ++ wsX60)
theorem il_X6_init_1 : ∀ w ∈ ([.methodLink RX6 3 objectInit, .instanceMethod objectInit, .code objectInit ⟨#[0xb1]⟩ 1 none, .arrayClass .int, .fieldLink RX6 9 "ShipOffice$Man" "wages" "[I", .fieldLink RX6 15 "ShipOffice$Man" "number" "I", .fieldLink RX6 19 "ShipOffice$Man" "name" "I", .fieldLink RX6 22 "ShipOffice$Man" "marks" "I", .fieldLink RX6 25 "ShipOffice$Man" "born" "I", .fieldLink RX6 28 "ShipOffice$Man" "leastAlike" "I"] : List Cond), w ∈ wsX6_init := fun w h => (List.mem_cons_of_mem _ (List.mem_append_left _ h))
theorem iw_X6_init_1 : Cond.methodLink RX6 3 objectInit ∈ wsX6_init := (mmI il_X6_init_1 0 rfl)
theorem iw_X6_init_2 : Cond.instanceMethod objectInit ∈ wsX6_init := (mmI il_X6_init_1 1 rfl)
theorem iw_X6_init_3 : Cond.arrayClass .int ∈ wsX6_init := (mmI il_X6_init_1 3 rfl)
theorem iw_X6_init_4 : Cond.fieldLink RX6 9 "ShipOffice$Man" "wages" "[I" ∈ wsX6_init := (mmI il_X6_init_1 4 rfl)
theorem iw_X6_init_5 : Cond.fieldLink RX6 15 "ShipOffice$Man" "number" "I" ∈ wsX6_init := (mmI il_X6_init_1 5 rfl)
theorem iw_X6_init_6 : Cond.fieldLink RX6 19 "ShipOffice$Man" "name" "I" ∈ wsX6_init := (mmI il_X6_init_1 6 rfl)
theorem iw_X6_init_7 : Cond.fieldLink RX6 22 "ShipOffice$Man" "marks" "I" ∈ wsX6_init := (mmI il_X6_init_1 7 rfl)
theorem iw_X6_init_8 : Cond.fieldLink RX6 25 "ShipOffice$Man" "born" "I" ∈ wsX6_init := (mmI il_X6_init_1 8 rfl)
theorem iw_X6_init_9 : Cond.fieldLink RX6 28 "ShipOffice$Man" "leastAlike" "I" ∈ wsX6_init := (mmI il_X6_init_1 9 rfl)
def wsX9_init : List Cond := .code yX9_init cX9_init 5 none :: ([.methodLink RX9 3 objectInit, .instanceMethod objectInit, .code objectInit ⟨#[0xb1]⟩ 1 none, .constant RX9 9 (1000000), .fieldLink RX9 10 "ShipOffice$Voyage" "sailedDay" "I", .fieldLink RX9 16 "ShipOffice$Voyage" "sailedTold" "I", .fieldLink RX9 19 "ShipOffice$Voyage" "lostDay" "I", .fieldLink RX9 22 "ShipOffice$Voyage" "lostTold" "I", .fieldLink RX9 25 "ShipOffice$Voyage" "number" "I", .fieldLink RX9 28 "ShipOffice$Voyage" "ship" "I", .fieldLink RX9 31 "ShipOffice$Voyage" "port" "I", .fieldLink RX9 34 "ShipOffice$Voyage" "openedOn" "I"] ++ wsX90)
theorem il_X9_init_1 : ∀ w ∈ ([.methodLink RX9 3 objectInit, .instanceMethod objectInit, .code objectInit ⟨#[0xb1]⟩ 1 none, .constant RX9 9 (1000000), .fieldLink RX9 10 "ShipOffice$Voyage" "sailedDay" "I", .fieldLink RX9 16 "ShipOffice$Voyage" "sailedTold" "I", .fieldLink RX9 19 "ShipOffice$Voyage" "lostDay" "I", .fieldLink RX9 22 "ShipOffice$Voyage" "lostTold" "I", .fieldLink RX9 25 "ShipOffice$Voyage" "number" "I", .fieldLink RX9 28 "ShipOffice$Voyage" "ship" "I", .fieldLink RX9 31 "ShipOffice$Voyage" "port" "I", .fieldLink RX9 34 "ShipOffice$Voyage" "openedOn" "I"] : List Cond), w ∈ wsX9_init := fun w h => (List.mem_cons_of_mem _ (List.mem_append_left _ h))
theorem iw_X9_init_1 : Cond.methodLink RX9 3 objectInit ∈ wsX9_init := (mmI il_X9_init_1 0 rfl)
theorem iw_X9_init_2 : Cond.instanceMethod objectInit ∈ wsX9_init := (mmI il_X9_init_1 1 rfl)
theorem iw_X9_init_3 : Cond.fieldLink RX9 10 "ShipOffice$Voyage" "sailedDay" "I" ∈ wsX9_init := (mmI il_X9_init_1 4 rfl)
theorem iw_X9_init_4 : Cond.fieldLink RX9 16 "ShipOffice$Voyage" "sailedTold" "I" ∈ wsX9_init := (mmI il_X9_init_1 5 rfl)
theorem iw_X9_init_5 : Cond.fieldLink RX9 19 "ShipOffice$Voyage" "lostDay" "I" ∈ wsX9_init := (mmI il_X9_init_1 6 rfl)
theorem iw_X9_init_6 : Cond.fieldLink RX9 22 "ShipOffice$Voyage" "lostTold" "I" ∈ wsX9_init := (mmI il_X9_init_1 7 rfl)
theorem iw_X9_init_7 : Cond.fieldLink RX9 25 "ShipOffice$Voyage" "number" "I" ∈ wsX9_init := (mmI il_X9_init_1 8 rfl)
theorem iw_X9_init_8 : Cond.fieldLink RX9 28 "ShipOffice$Voyage" "ship" "I" ∈ wsX9_init := (mmI il_X9_init_1 9 rfl)
theorem iw_X9_init_9 : Cond.fieldLink RX9 31 "ShipOffice$Voyage" "port" "I" ∈ wsX9_init := (mmI il_X9_init_1 10 rfl)
theorem iw_X9_init_10 : Cond.fieldLink RX9 34 "ShipOffice$Voyage" "openedOn" "I" ∈ wsX9_init := (mmI il_X9_init_1 11 rfl)
theorem dX1_init_0 : decode cX1_init 0 = .ok (.aload_n 0, 1) := by decide +kernel
theorem dX1_init_1 : decode cX1_init 1 = .ok (.invokespecial 3, 3) := by decide +kernel
theorem dX1_init_4 : decode cX1_init 4 = .ok (.aload_n 0, 1) := by decide +kernel
theorem dX1_init_5 : decode cX1_init 5 = .ok (.ldc 9, 2) := by decide +kernel
theorem dX1_init_7 : decode cX1_init 7 = .ok (.putfield 10, 3) := by decide +kernel
theorem dX1_init_10 : decode cX1_init 10 = .ok (.aload_n 0, 1) := by decide +kernel
theorem dX1_init_11 : decode cX1_init 11 = .ok (.bipush 6, 2) := by decide +kernel
theorem dX1_init_13 : decode cX1_init 13 = .ok (.anewarray 16, 3) := by decide +kernel
theorem dX1_init_16 : decode cX1_init 16 = .ok (.putfield 18, 3) := by decide +kernel
theorem dX1_init_19 : decode cX1_init 19 = .ok (.aload_n 0, 1) := by decide +kernel
theorem dX1_init_20 : decode cX1_init 20 = .ok (.bipush 20, 2) := by decide +kernel
theorem dX1_init_22 : decode cX1_init 22 = .ok (.newarray .int, 2) := by decide +kernel
theorem dX1_init_24 : decode cX1_init 24 = .ok (.putfield 22, 3) := by decide +kernel
theorem dX1_init_27 : decode cX1_init 27 = .ok (.aload_n 0, 1) := by decide +kernel
theorem dX1_init_28 : decode cX1_init 28 = .ok (.bipush 20, 2) := by decide +kernel
theorem dX1_init_30 : decode cX1_init 30 = .ok (.newarray .int, 2) := by decide +kernel
theorem dX1_init_32 : decode cX1_init 32 = .ok (.putfield 26, 3) := by decide +kernel
theorem dX1_init_35 : decode cX1_init 35 = .ok (.aload_n 0, 1) := by decide +kernel
theorem dX1_init_36 : decode cX1_init 36 = .ok (.aload_n 1, 1) := by decide +kernel
theorem dX1_init_37 : decode cX1_init 37 = .ok (.putfield 29, 3) := by decide +kernel
theorem dX1_init_40 : decode cX1_init 40 = .ok (.aload_n 0, 1) := by decide +kernel
theorem dX1_init_41 : decode cX1_init 41 = .ok (.aload_n 2, 1) := by decide +kernel
theorem dX1_init_42 : decode cX1_init 42 = .ok (.putfield 33, 3) := by decide +kernel
theorem dX1_init_45 : decode cX1_init 45 = .ok (.aload_n 0, 1) := by decide +kernel
theorem dX1_init_46 : decode cX1_init 46 = .ok (.iload_n 3, 1) := by decide +kernel
theorem dX1_init_47 : decode cX1_init 47 = .ok (.putfield 37, 3) := by decide +kernel
theorem dX1_init_50 : decode cX1_init 50 = .ok (.aload_n 0, 1) := by decide +kernel
theorem dX1_init_51 : decode cX1_init 51 = .ok (.aload 4, 2) := by decide +kernel
theorem dX1_init_53 : decode cX1_init 53 = .ok (.putfield 40, 3) := by decide +kernel
theorem dX1_init_56 : decode cX1_init 56 = .ok (.return_, 1) := by decide +kernel
theorem dX2_init_0 : decode cX2_init 0 = .ok (.aload_n 0, 1) := by decide +kernel
theorem dX2_init_1 : decode cX2_init 1 = .ok (.invokespecial 1, 3) := by decide +kernel
theorem dX2_init_4 : decode cX2_init 4 = .ok (.aload_n 0, 1) := by decide +kernel
theorem dX2_init_5 : decode cX2_init 5 = .ok (.iload_n 1, 1) := by decide +kernel
theorem dX2_init_6 : decode cX2_init 6 = .ok (.putfield 7, 3) := by decide +kernel
theorem dX2_init_9 : decode cX2_init 9 = .ok (.aload_n 0, 1) := by decide +kernel
theorem dX2_init_10 : decode cX2_init 10 = .ok (.iload_n 2, 1) := by decide +kernel
theorem dX2_init_11 : decode cX2_init 11 = .ok (.putfield 13, 3) := by decide +kernel
theorem dX2_init_14 : decode cX2_init 14 = .ok (.aload_n 0, 1) := by decide +kernel
theorem dX2_init_15 : decode cX2_init 15 = .ok (.iload_n 3, 1) := by decide +kernel
theorem dX2_init_16 : decode cX2_init 16 = .ok (.putfield 16, 3) := by decide +kernel
theorem dX2_init_19 : decode cX2_init 19 = .ok (.return_, 1) := by decide +kernel
theorem dX3_init_0 : decode cX3_init 0 = .ok (.aload_n 0, 1) := by decide +kernel
theorem dX3_init_1 : decode cX3_init 1 = .ok (.invokespecial 1, 3) := by decide +kernel
theorem dX3_init_4 : decode cX3_init 4 = .ok (.aload_n 0, 1) := by decide +kernel
theorem dX3_init_5 : decode cX3_init 5 = .ok (.iload_n 1, 1) := by decide +kernel
theorem dX3_init_6 : decode cX3_init 6 = .ok (.putfield 7, 3) := by decide +kernel
theorem dX3_init_9 : decode cX3_init 9 = .ok (.aload_n 0, 1) := by decide +kernel
theorem dX3_init_10 : decode cX3_init 10 = .ok (.iload_n 2, 1) := by decide +kernel
theorem dX3_init_11 : decode cX3_init 11 = .ok (.putfield 13, 3) := by decide +kernel
theorem dX3_init_14 : decode cX3_init 14 = .ok (.aload_n 0, 1) := by decide +kernel
theorem dX3_init_15 : decode cX3_init 15 = .ok (.iload_n 3, 1) := by decide +kernel
theorem dX3_init_16 : decode cX3_init 16 = .ok (.putfield 16, 3) := by decide +kernel
theorem dX3_init_19 : decode cX3_init 19 = .ok (.aload_n 0, 1) := by decide +kernel
theorem dX3_init_20 : decode cX3_init 20 = .ok (.iload 4, 2) := by decide +kernel
theorem dX3_init_22 : decode cX3_init 22 = .ok (.putfield 19, 3) := by decide +kernel
theorem dX3_init_25 : decode cX3_init 25 = .ok (.aload_n 0, 1) := by decide +kernel
theorem dX3_init_26 : decode cX3_init 26 = .ok (.iload 5, 2) := by decide +kernel
theorem dX3_init_28 : decode cX3_init 28 = .ok (.putfield 22, 3) := by decide +kernel
theorem dX3_init_31 : decode cX3_init 31 = .ok (.aload_n 0, 1) := by decide +kernel
theorem dX3_init_32 : decode cX3_init 32 = .ok (.aload 6, 2) := by decide +kernel
theorem dX3_init_34 : decode cX3_init 34 = .ok (.putfield 25, 3) := by decide +kernel
theorem dX3_init_37 : decode cX3_init 37 = .ok (.return_, 1) := by decide +kernel
theorem dX6_init_0 : decode cX6_init 0 = .ok (.aload_n 0, 1) := by decide +kernel
theorem dX6_init_1 : decode cX6_init 1 = .ok (.invokespecial 3, 3) := by decide +kernel
theorem dX6_init_4 : decode cX6_init 4 = .ok (.aload_n 0, 1) := by decide +kernel
theorem dX6_init_5 : decode cX6_init 5 = .ok (.iconst 4, 1) := by decide +kernel
theorem dX6_init_6 : decode cX6_init 6 = .ok (.newarray .int, 2) := by decide +kernel
theorem dX6_init_8 : decode cX6_init 8 = .ok (.putfield 9, 3) := by decide +kernel
theorem dX6_init_11 : decode cX6_init 11 = .ok (.aload_n 0, 1) := by decide +kernel
theorem dX6_init_12 : decode cX6_init 12 = .ok (.iload_n 1, 1) := by decide +kernel
theorem dX6_init_13 : decode cX6_init 13 = .ok (.putfield 15, 3) := by decide +kernel
theorem dX6_init_16 : decode cX6_init 16 = .ok (.aload_n 0, 1) := by decide +kernel
theorem dX6_init_17 : decode cX6_init 17 = .ok (.iload_n 2, 1) := by decide +kernel
theorem dX6_init_18 : decode cX6_init 18 = .ok (.putfield 19, 3) := by decide +kernel
theorem dX6_init_21 : decode cX6_init 21 = .ok (.aload_n 0, 1) := by decide +kernel
theorem dX6_init_22 : decode cX6_init 22 = .ok (.iload_n 3, 1) := by decide +kernel
theorem dX6_init_23 : decode cX6_init 23 = .ok (.putfield 22, 3) := by decide +kernel
theorem dX6_init_26 : decode cX6_init 26 = .ok (.aload_n 0, 1) := by decide +kernel
theorem dX6_init_27 : decode cX6_init 27 = .ok (.iload 4, 2) := by decide +kernel
theorem dX6_init_29 : decode cX6_init 29 = .ok (.putfield 25, 3) := by decide +kernel
theorem dX6_init_32 : decode cX6_init 32 = .ok (.aload_n 0, 1) := by decide +kernel
theorem dX6_init_33 : decode cX6_init 33 = .ok (.iload_n 1, 1) := by decide +kernel
theorem dX6_init_34 : decode cX6_init 34 = .ok (.putfield 28, 3) := by decide +kernel
theorem dX6_init_37 : decode cX6_init 37 = .ok (.return_, 1) := by decide +kernel
theorem dX9_init_0 : decode cX9_init 0 = .ok (.aload_n 0, 1) := by decide +kernel
theorem dX9_init_1 : decode cX9_init 1 = .ok (.invokespecial 3, 3) := by decide +kernel
theorem dX9_init_4 : decode cX9_init 4 = .ok (.aload_n 0, 1) := by decide +kernel
theorem dX9_init_5 : decode cX9_init 5 = .ok (.ldc 9, 2) := by decide +kernel
theorem dX9_init_7 : decode cX9_init 7 = .ok (.putfield 10, 3) := by decide +kernel
theorem dX9_init_10 : decode cX9_init 10 = .ok (.aload_n 0, 1) := by decide +kernel
theorem dX9_init_11 : decode cX9_init 11 = .ok (.ldc 9, 2) := by decide +kernel
theorem dX9_init_13 : decode cX9_init 13 = .ok (.putfield 16, 3) := by decide +kernel
theorem dX9_init_16 : decode cX9_init 16 = .ok (.aload_n 0, 1) := by decide +kernel
theorem dX9_init_17 : decode cX9_init 17 = .ok (.ldc 9, 2) := by decide +kernel
theorem dX9_init_19 : decode cX9_init 19 = .ok (.putfield 19, 3) := by decide +kernel
theorem dX9_init_22 : decode cX9_init 22 = .ok (.aload_n 0, 1) := by decide +kernel
theorem dX9_init_23 : decode cX9_init 23 = .ok (.ldc 9, 2) := by decide +kernel
theorem dX9_init_25 : decode cX9_init 25 = .ok (.putfield 22, 3) := by decide +kernel
theorem dX9_init_28 : decode cX9_init 28 = .ok (.aload_n 0, 1) := by decide +kernel
theorem dX9_init_29 : decode cX9_init 29 = .ok (.iload_n 1, 1) := by decide +kernel
theorem dX9_init_30 : decode cX9_init 30 = .ok (.putfield 25, 3) := by decide +kernel
theorem dX9_init_33 : decode cX9_init 33 = .ok (.aload_n 0, 1) := by decide +kernel
theorem dX9_init_34 : decode cX9_init 34 = .ok (.iload_n 2, 1) := by decide +kernel
theorem dX9_init_35 : decode cX9_init 35 = .ok (.putfield 28, 3) := by decide +kernel
theorem dX9_init_38 : decode cX9_init 38 = .ok (.aload_n 0, 1) := by decide +kernel
theorem dX9_init_39 : decode cX9_init 39 = .ok (.iload_n 3, 1) := by decide +kernel
theorem dX9_init_40 : decode cX9_init 40 = .ok (.putfield 31, 3) := by decide +kernel
theorem dX9_init_43 : decode cX9_init 43 = .ok (.aload_n 0, 1) := by decide +kernel
theorem dX9_init_44 : decode cX9_init 44 = .ok (.iload 4, 2) := by decide +kernel
theorem dX9_init_46 : decode cX9_init 46 = .ok (.putfield 34, 3) := by decide +kernel
theorem dX9_init_49 : decode cX9_init 49 = .ok (.return_, 1) := by decide +kernel
theorem in_wsX2_init_X2 : ∀ w ∈ wsX20, w ∈ wsX2_init := fun w h => List.mem_cons_of_mem _ (List.mem_append_right _ h)
theorem in_wsX3_init_X3 : ∀ w ∈ wsX30, w ∈ wsX3_init := fun w h => List.mem_cons_of_mem _ (List.mem_append_right _ h)
theorem in_wsX6_init_X6 : ∀ w ∈ wsX60, w ∈ wsX6_init := fun w h => List.mem_cons_of_mem _ (List.mem_append_right _ h)
theorem in_wsX9_init_X9 : ∀ w ∈ wsX90, w ∈ wsX9_init := fun w h => List.mem_cons_of_mem _ (List.mem_append_right _ h)
theorem in_wsX1_init_X1 : ∀ w ∈ wsX10, w ∈ wsX1_init := fun w h => List.mem_cons_of_mem _ (List.mem_append_right _ h)
theorem in_obj_wsX2_init : Cond.code objectInit ⟨#[0xb1]⟩ 1 none ∈ wsX2_init := List.mem_of_getElem? (i := 3) rfl
theorem in_obj_wsX3_init : Cond.code objectInit ⟨#[0xb1]⟩ 1 none ∈ wsX3_init := List.mem_of_getElem? (i := 3) rfl
theorem in_obj_wsX6_init : Cond.code objectInit ⟨#[0xb1]⟩ 1 none ∈ wsX6_init := List.mem_of_getElem? (i := 3) rfl
theorem in_obj_wsX9_init : Cond.code objectInit ⟨#[0xb1]⟩ 1 none ∈ wsX9_init := List.mem_of_getElem? (i := 3) rfl
theorem in_obj_wsX1_init : Cond.code objectInit ⟨#[0xb1]⟩ 1 none ∈ wsX1_init := List.mem_of_getElem? (i := 3) rfl

theorem z_fit {x : Int32} (h : 0 ≤ x.toInt ∧ x.toInt ≤ 1) : fits .boolean (.int x) = true := by
  have key : x = 0 ∨ x = 1 := by
    have : x.toInt = 0 ∨ x.toInt = 1 := by omega
    rcases this with g | g
    · exact Or.inl (Int32.toInt_inj.mp (g.trans (by decide)))
    · exact Or.inr (Int32.toInt_inj.mp (g.trans (by decide)))
  rcases key with rfl | rfl <;> rfl
set_option maxHeartbeats 4000000 in
set_option maxRecDepth 100000 in
theorem c_X2_init (l : Launch) (dC : Nat → ClassId) (dI : Nat → Nat → Nat) (sz : Nat) (cq : Nat → ClassId) (Z : oS) (gI : oInv Z) (o : Nat) (to : oty Z o 32) (x1 : Int32) (x2 : Int32) (x3 : Int32) (hx3 : 0 ≤ x3.toInt ∧ x3.toInt ≤ 1) : Met l yX2_init wsX2_init ({ frames := 1, cells := 0, slots := 0, locals := 14 }) (va_Pc [.ref o, .int x1, .int x2, .int x3] (pcW (dC, dI) (oT cq) (oW cq Z) sz)) (va_Qv (fun (u : oS) => oInv u ∧ oXc ([] : List Nat) o Z u ∧ (oty u o 2)) (fun u t => va_P (dC, dI) vwCl (oW cq u) t.heap ∧ va_K (dC, dI) vwCl (oT cq) t ∧ va_D (va_A (oW cq Z) sz) (oW cq u)) (va_A (oW cq Z) sz)) 0 0 (va_A (oW cq Z) sz) := by
  refine Met.ofW (cc := cX2_init) (maxL := 4) (ret := none) (by decide) rfl ?_
  intro p e s m args below meth c s₁ B hml hv
  obtain ⟨rfl, hsz, hP, hK, hD0⟩ := hv
  have hx := B.exec
  have hb := B.bytes
  have hr := B.returns
  have hts := atoms_spec (ws := wsX2_init) B.pre
  have hown : s.vm.findClass RX2 = some m.cls := findClass_of_methodNamed B.named
  have hlocks := B.notSynchronized
  have hin : meth.name = "<init>" := (name_of_methodNamed B.named B.method).1
  subst hsz
  have hD := hD0.self (sz := s.heap.size)
  generalize hAe : va_A (oW cq Z) s.heap.size = A at hD ⊢
  have hA : ∀ q : Nat, s.heap.size ≤ q → A q := fun q h => by rw [← hAe]; exact Or.inr h
  have hS : va_S A s.heap s.heap [] := va_S.rf
  have hP : va_P (dC, dI) vwCl (oW cq Z) s.heap := hP
  have hl := lv_entry ([.ref o, .int x1, .int x2, .int x3]) (n := 4) (Nat.le_of_ble_eq_true rfl)
  rw [lg_entry_eq]
  generalize (lg_sl ([.ref o, .int x1, .int x2, .int x3]) ++ List.replicate (4 - (lg_sl ([.ref o, .int x1, .int x2, .int x3])).length) Slot.unset).toArray = ls at hl ⊢
  have hl : lv_has ls 4 [(0, .ref o), (1, .int x1), (2, .int x2), (3, .int x3)] := hl
  refine lv_aload_n hx hb dX2_init_0 rfl (lv_at hl 0 rfl) ?_
  refine W.objInit hx hb hown (hts (.methodLink RX2 1 objectInit) iw_X2_init_1) (hts (.instanceMethod objectInit) iw_X2_init_2) (hts (.code objectInit ⟨#[0xb1]⟩ 1 none) (in_obj_wsX2_init)) rfl (by rw [hml]; exact hl.1) rfl dX2_init_1 (Nat.le_of_ble_eq_true rfl) (Nat.le_of_ble_eq_true rfl) ?_
  refine W.eq (g2 := F0 m 4 ls []) rfl ?_
  refine lv_aload_n hx hb dX2_init_4 rfl (lv_at hl 0 rfl) ?_
  refine lv_iload_n hx hb dX2_init_5 rfl (lv_at hl 1 rfl) ?_
  obtain ⟨q_1, hq_1⟩ := og (cq := cq) to.1 (oE_32 to.2)
  refine va_putF (D := (dC, dI)) (ci := 2) (v := .int x1) (ty := .int) (C := RX2) (T := TX2) (N := 3) hx hb hts in_wsX2_init_X2 tyX2 tyX2_ok nmX2 hown hK hP hD hS q_1 hq_1 rfl 0 (by decide) (hts (.fieldLink RX2 7 "ShipOffice$Fine" "day" "I") iw_X2_init_3) (fun _ h9 => h9) rfl hin rfl (by decide +kernel) rfl rfl (Nat.le_of_ble_eq_true rfl) dX2_init_6 (fun H locs hP1 hD1 hS => ?_)
  obtain ⟨S_2, eS_2⟩ : ∃ zq, zq = setI Z o 0 x1 := ⟨_, rfl⟩
  have hP : va_P (dC, dI) vwCl (oW cq S_2) H := by rw [eS_2]; exact cP (oset to.1 hq_1 hD rfl (he_32_0 to.2) neI) hP1
  have hD : va_D A (oW cq S_2) := by rw [eS_2]; exact cD (oset to.1 hq_1 hD rfl (he_32_0 to.2) neI) hD1
  clear hP1 hD1
  have hIS_2 : oInv S_2 := by rw [eS_2]; exact oInv.I0 (k := 32) (lo := -2147483648) (hi := 2147483647) gI to.2 (by decide) rfl rfl rfl (iv_all _)
  have XS_2 : oX [2032] Z S_2 := by rw [eS_2]; exact oX.I (k := 32) (key := 2032) to.2 rfl (List.mem_singleton.mpr rfl)
  have X_3 : oXc ([] : List Nat) o Z S_2 := by rw [eS_2]; exact oXc.I oXc.rf
  refine lv_aload_n hx hb dX2_init_9 rfl (lv_at hl 0 rfl) ?_
  refine lv_iload_n hx hb dX2_init_10 rfl (lv_at hl 2 rfl) ?_
  have t_5 : oty S_2 o 32 := (oX.ty XS_2 to)
  obtain ⟨q_6, hq_6⟩ := og (cq := cq) t_5.1 (oE_32 t_5.2)
  refine va_putF (D := (dC, dI)) (ci := 2) (v := .int x2) (ty := .int) (C := RX2) (T := TX2) (N := 3) hx hb hts in_wsX2_init_X2 tyX2 tyX2_ok nmX2 hown hK hP hD hS q_6 hq_6 rfl 1 (by decide) (hts (.fieldLink RX2 13 "ShipOffice$Fine" "sum" "I") iw_X2_init_4) (fun _ h9 => h9) rfl hin rfl (by decide +kernel) rfl rfl (Nat.le_of_ble_eq_true rfl) dX2_init_11 (fun H locs hP1 hD1 hS => ?_)
  obtain ⟨S_7, eS_7⟩ : ∃ zq, zq = setI S_2 o 1 x2 := ⟨_, rfl⟩
  have hP : va_P (dC, dI) vwCl (oW cq S_7) H := by rw [eS_7]; exact cP (oset t_5.1 hq_6 hD rfl (he_32_1 t_5.2) neI) hP1
  have hD : va_D A (oW cq S_7) := by rw [eS_7]; exact cD (oset t_5.1 hq_6 hD rfl (he_32_1 t_5.2) neI) hD1
  clear hP1 hD1
  have hIS_7 : oInv S_7 := by rw [eS_7]; exact oInv.I0 (k := 32) (lo := -2147483648) (hi := 2147483647) hIS_2 t_5.2 (by decide) rfl rfl rfl (iv_all _)
  have XS_7 : oX [2032] S_2 S_7 := by rw [eS_7]; exact oX.I (k := 32) (key := 2032) t_5.2 rfl (List.mem_singleton.mpr rfl)
  have X_8 : oXc ([] : List Nat) o Z S_7 := by rw [eS_7]; exact oXc.I X_3
  refine lv_aload_n hx hb dX2_init_14 rfl (lv_at hl 0 rfl) ?_
  refine lv_iload_n hx hb dX2_init_15 rfl (lv_at hl 3 rfl) ?_
  have t_10 : oty S_7 o 32 := (oX.ty XS_7 t_5)
  obtain ⟨q_11, hq_11⟩ := og (cq := cq) t_10.1 (oE_32 t_10.2)
  refine va_put (D := (dC, dI)) (ci := 2) (v := .int x3) (ty := .boolean) (C := RX2) (T := TX2) (N := 3) hx hb hts in_wsX2_init_X2 tyX2 tyX2_ok nmX2 hown hK hP hD hS q_11 hq_11 rfl 2 (by decide) (hts (.fieldLink RX2 16 "ShipOffice$Fine" "isRead" "Z") iw_X2_init_5) (fun _ h9 => h9) rfl (by decide +kernel) (z_nar (by omega)) (z_fit (by omega)) (Nat.le_of_ble_eq_true rfl) dX2_init_16 (fun H locs hP1 hD1 hS => ?_)
  obtain ⟨S_12, eS_12⟩ : ∃ zq, zq = setI S_7 o 2 x3 := ⟨_, rfl⟩
  have hP : va_P (dC, dI) vwCl (oW cq S_12) H := by rw [eS_12]; exact cP (oset t_10.1 hq_11 hD rfl (he_32_2 t_10.2) neI) hP1
  have hD : va_D A (oW cq S_12) := by rw [eS_12]; exact cD (oset t_10.1 hq_11 hD rfl (he_32_2 t_10.2) neI) hD1
  clear hP1 hD1
  have hIS_12 : oInv S_12 := by rw [eS_12]; exact oInv.I0 (k := 32) (lo := -2147483648) (hi := 2147483647) hIS_7 t_10.2 (by decide) rfl rfl rfl (iv_all _)
  have XS_12 : oX [2032] S_7 S_12 := by rw [eS_12]; exact oX.I (k := 32) (key := 2032) t_10.2 rfl (List.mem_singleton.mpr rfl)
  have X_13 : oXc ([] : List Nat) o Z S_12 := by rw [eS_12]; exact oXc.I X_8
  have t_16 : oty S_12 o 32 := (oX.ty XS_12 t_10)
  obtain ⟨S_15, eS_15⟩ : ∃ zq, zq = setK S_12 o 2 := ⟨_, rfl⟩
  have hP : va_P (dC, dI) vwCl (oW cq S_15) H := by rw [eS_15]; exact cP (ret_W (c := 2) t_16.2 (by decide)) hP
  have hD : va_D A (oW cq S_15) := by rw [eS_15]; exact cD (ret_W (c := 2) t_16.2 (by decide)) hD
  have hIS_15 : oInv S_15 := by rw [eS_15]; exact oInv.ret (c := 2) hIS_12 t_16 (by decide) (fun i hi => (nn_2 hi).elim) (fun i p hp => (ct_no hp (by decide) (by decide) (by decide)).elim) (fun h => absurd h (by decide)) (fun h => absurd h (by decide)) (fun h => absurd h (by decide))
  have XS_15 : oXc ([] : List Nat) o Z S_15 := by rw [eS_15]; exact oXc.K X_13
  have tS_15 : oty S_15 o 2 := by rw [eS_15]; exact K_ty t_16.1
  exact W.vret hx hb hr (fun t ht hW => ⟨⟨S_15, rfl, ⟨hIS_15, XS_15, tS_15⟩, ⟨by rw [ht]; exact hP, va_K.moved hW.alike hK, hD⟩⟩, hS.F ht⟩) hS.2.2 dX2_init_19
set_option maxHeartbeats 4000000 in
set_option maxRecDepth 100000 in
theorem c_X3_init (l : Launch) (dC : Nat → ClassId) (dI : Nat → Nat → Nat) (sz : Nat) (cq : Nat → ClassId) (Z : oS) (gI : oInv Z) (o : Nat) (to : oty Z o 33) (x1 : Int32) (x2 : Int32) (x3 : Int32) (x4 : Int32) (x5 : Int32) (r6 : Option Nat) (tr6 : ∀ b, r6 = some b → oty Z b 3) (hw : (x4.toInt = -9 ∨ (0 ≤ x5.toInt ∧ x5.toInt ≤ 9))) (hg : ∀ b, r6 = some b → oG Z b < oG Z o) : Met l yX3_init wsX3_init ({ frames := 1, cells := 0, slots := 0, locals := 14 }) (va_Pc [.ref o, .int x1, .int x2, .int x3, .int x4, .int x5, va_rf r6] (pcW (dC, dI) (oT cq) (oW cq Z) sz)) (va_Qv (fun (u : oS) => oInv u ∧ oXc ([] : List Nat) o Z u ∧ (oty u o 3)) (fun u t => va_P (dC, dI) vwCl (oW cq u) t.heap ∧ va_K (dC, dI) vwCl (oT cq) t ∧ va_D (va_A (oW cq Z) sz) (oW cq u)) (va_A (oW cq Z) sz)) 0 0 (va_A (oW cq Z) sz) := by
  rcases r6 with _ | br6
  · refine Met.ofW (cc := cX3_init) (maxL := 7) (ret := none) (by decide) rfl ?_
    intro p e s m args below meth c s₁ B hml hv
    obtain ⟨rfl, hsz, hP, hK, hD0⟩ := hv
    have hx := B.exec
    have hb := B.bytes
    have hr := B.returns
    have hts := atoms_spec (ws := wsX3_init) B.pre
    have hown : s.vm.findClass RX3 = some m.cls := findClass_of_methodNamed B.named
    have hlocks := B.notSynchronized
    have hin : meth.name = "<init>" := (name_of_methodNamed B.named B.method).1
    subst hsz
    have hD := hD0.self (sz := s.heap.size)
    generalize hAe : va_A (oW cq Z) s.heap.size = A at hD ⊢
    have hA : ∀ q : Nat, s.heap.size ≤ q → A q := fun q h => by rw [← hAe]; exact Or.inr h
    have hS : va_S A s.heap s.heap [] := va_S.rf
    have hP : va_P (dC, dI) vwCl (oW cq Z) s.heap := hP
    have hl := lv_entry ([.ref o, .int x1, .int x2, .int x3, .int x4, .int x5, va_rf none]) (n := 7) (Nat.le_of_ble_eq_true rfl)
    rw [lg_entry_eq]
    generalize (lg_sl ([.ref o, .int x1, .int x2, .int x3, .int x4, .int x5, va_rf none]) ++ List.replicate (7 - (lg_sl ([.ref o, .int x1, .int x2, .int x3, .int x4, .int x5, va_rf none])).length) Slot.unset).toArray = ls at hl ⊢
    have hl : lv_has ls 7 [(0, .ref o), (1, .int x1), (2, .int x2), (3, .int x3), (4, .int x4), (5, .int x5), (6, va_rf none)] := hl
    have hl : lv_has ls 7 [(0, .ref o), (1, .int x1), (2, .int x2), (3, .int x3), (4, .int x4), (5, .int x5), (6, .null)] := hl
    refine lv_aload_n hx hb dX3_init_0 rfl (lv_at hl 0 rfl) ?_
    refine W.objInit hx hb hown (hts (.methodLink RX3 1 objectInit) iw_X3_init_1) (hts (.instanceMethod objectInit) iw_X3_init_2) (hts (.code objectInit ⟨#[0xb1]⟩ 1 none) (in_obj_wsX3_init)) rfl (by rw [hml]; exact hl.1) rfl dX3_init_1 (Nat.le_of_ble_eq_true rfl) (Nat.le_of_ble_eq_true rfl) ?_
    refine W.eq (g2 := F0 m 4 ls []) rfl ?_
    refine lv_aload_n hx hb dX3_init_4 rfl (lv_at hl 0 rfl) ?_
    refine lv_iload_n hx hb dX3_init_5 rfl (lv_at hl 1 rfl) ?_
    obtain ⟨q_1, hq_1⟩ := og (cq := cq) to.1 (oE_33 to.2)
    refine va_putF (D := (dC, dI)) (ci := 3) (v := .int x1) (ty := .int) (C := RX3) (T := TX3) (N := 6) hx hb hts in_wsX3_init_X3 tyX3 tyX3_ok nmX3 hown hK hP hD hS q_1 hq_1 rfl 0 (by decide) (hts (.fieldLink RX3 7 "ShipOffice$Happening" "kind" "I") iw_X3_init_3) (fun _ h9 => h9) rfl hin rfl (by decide +kernel) rfl rfl (Nat.le_of_ble_eq_true rfl) dX3_init_6 (fun H locs hP1 hD1 hS => ?_)
    obtain ⟨S_2, eS_2⟩ : ∃ zq, zq = setI Z o 0 x1 := ⟨_, rfl⟩
    have hP : va_P (dC, dI) vwCl (oW cq S_2) H := by rw [eS_2]; exact cP (oset to.1 hq_1 hD rfl (he_33_0 to.2) neI) hP1
    have hD : va_D A (oW cq S_2) := by rw [eS_2]; exact cD (oset to.1 hq_1 hD rfl (he_33_0 to.2) neI) hD1
    clear hP1 hD1
    have hIS_2 : oInv S_2 := by rw [eS_2]; exact oInv.I0 (k := 33) (lo := -2147483648) (hi := 2147483647) gI to.2 (by decide) rfl rfl rfl (iv_all _)
    have XS_2 : oX [2033] Z S_2 := by rw [eS_2]; exact oX.I (k := 33) (key := 2033) to.2 rfl (List.mem_singleton.mpr rfl)
    have X_3 : oXc ([] : List Nat) o Z S_2 := by rw [eS_2]; exact oXc.I oXc.rf
    refine lv_aload_n hx hb dX3_init_9 rfl (lv_at hl 0 rfl) ?_
    refine lv_iload_n hx hb dX3_init_10 rfl (lv_at hl 2 rfl) ?_
    have t_5 : oty S_2 o 33 := (oX.ty XS_2 to)
    obtain ⟨q_6, hq_6⟩ := og (cq := cq) t_5.1 (oE_33 t_5.2)
    refine va_putF (D := (dC, dI)) (ci := 3) (v := .int x2) (ty := .int) (C := RX3) (T := TX3) (N := 6) hx hb hts in_wsX3_init_X3 tyX3 tyX3_ok nmX3 hown hK hP hD hS q_6 hq_6 rfl 1 (by decide) (hts (.fieldLink RX3 13 "ShipOffice$Happening" "day" "I") iw_X3_init_4) (fun _ h9 => h9) rfl hin rfl (by decide +kernel) rfl rfl (Nat.le_of_ble_eq_true rfl) dX3_init_11 (fun H locs hP1 hD1 hS => ?_)
    obtain ⟨S_7, eS_7⟩ : ∃ zq, zq = setI S_2 o 1 x2 := ⟨_, rfl⟩
    have hP : va_P (dC, dI) vwCl (oW cq S_7) H := by rw [eS_7]; exact cP (oset t_5.1 hq_6 hD rfl (he_33_1 t_5.2) neI) hP1
    have hD : va_D A (oW cq S_7) := by rw [eS_7]; exact cD (oset t_5.1 hq_6 hD rfl (he_33_1 t_5.2) neI) hD1
    clear hP1 hD1
    have hIS_7 : oInv S_7 := by rw [eS_7]; exact oInv.I0 (k := 33) (lo := -2147483648) (hi := 2147483647) hIS_2 t_5.2 (by decide) rfl rfl rfl (iv_all _)
    have XS_7 : oX [2033] S_2 S_7 := by rw [eS_7]; exact oX.I (k := 33) (key := 2033) t_5.2 rfl (List.mem_singleton.mpr rfl)
    have X_8 : oXc ([] : List Nat) o Z S_7 := by rw [eS_7]; exact oXc.I X_3
    refine lv_aload_n hx hb dX3_init_14 rfl (lv_at hl 0 rfl) ?_
    refine lv_iload_n hx hb dX3_init_15 rfl (lv_at hl 3 rfl) ?_
    have t_10 : oty S_7 o 33 := (oX.ty XS_7 t_5)
    obtain ⟨q_11, hq_11⟩ := og (cq := cq) t_10.1 (oE_33 t_10.2)
    refine va_putF (D := (dC, dI)) (ci := 3) (v := .int x3) (ty := .int) (C := RX3) (T := TX3) (N := 6) hx hb hts in_wsX3_init_X3 tyX3 tyX3_ok nmX3 hown hK hP hD hS q_11 hq_11 rfl 2 (by decide) (hts (.fieldLink RX3 16 "ShipOffice$Happening" "told" "I") iw_X3_init_5) (fun _ h9 => h9) rfl hin rfl (by decide +kernel) rfl rfl (Nat.le_of_ble_eq_true rfl) dX3_init_16 (fun H locs hP1 hD1 hS => ?_)
    obtain ⟨S_12, eS_12⟩ : ∃ zq, zq = setI S_7 o 2 x3 := ⟨_, rfl⟩
    have hP : va_P (dC, dI) vwCl (oW cq S_12) H := by rw [eS_12]; exact cP (oset t_10.1 hq_11 hD rfl (he_33_2 t_10.2) neI) hP1
    have hD : va_D A (oW cq S_12) := by rw [eS_12]; exact cD (oset t_10.1 hq_11 hD rfl (he_33_2 t_10.2) neI) hD1
    clear hP1 hD1
    have hIS_12 : oInv S_12 := by rw [eS_12]; exact oInv.I0 (k := 33) (lo := -2147483648) (hi := 2147483647) hIS_7 t_10.2 (by decide) rfl rfl rfl (iv_all _)
    have XS_12 : oX [2033] S_7 S_12 := by rw [eS_12]; exact oX.I (k := 33) (key := 2033) t_10.2 rfl (List.mem_singleton.mpr rfl)
    have X_13 : oXc ([] : List Nat) o Z S_12 := by rw [eS_12]; exact oXc.I X_8
    refine lv_aload_n hx hb dX3_init_19 rfl (lv_at hl 0 rfl) ?_
    refine lv_iload hx hb dX3_init_20 (lv_at hl 4 rfl) ?_
    have t_15 : oty S_12 o 33 := (oX.ty XS_12 t_10)
    obtain ⟨q_16, hq_16⟩ := og (cq := cq) t_15.1 (oE_33 t_15.2)
    refine va_putF (D := (dC, dI)) (ci := 3) (v := .int x4) (ty := .int) (C := RX3) (T := TX3) (N := 6) hx hb hts in_wsX3_init_X3 tyX3 tyX3_ok nmX3 hown hK hP hD hS q_16 hq_16 rfl 3 (by decide) (hts (.fieldLink RX3 19 "ShipOffice$Happening" "way" "I") iw_X3_init_6) (fun _ h9 => h9) rfl hin rfl (by decide +kernel) rfl rfl (Nat.le_of_ble_eq_true rfl) dX3_init_22 (fun H locs hP1 hD1 hS => ?_)
    obtain ⟨S_17, eS_17⟩ : ∃ zq, zq = setI S_12 o 3 x4 := ⟨_, rfl⟩
    have hP : va_P (dC, dI) vwCl (oW cq S_17) H := by rw [eS_17]; exact cP (oset t_15.1 hq_16 hD rfl (he_33_3 t_15.2) neI) hP1
    have hD : va_D A (oW cq S_17) := by rw [eS_17]; exact cD (oset t_15.1 hq_16 hD rfl (he_33_3 t_15.2) neI) hD1
    clear hP1 hD1
    have hIS_17 : oInv S_17 := by rw [eS_17]; exact oInv.I0 (k := 33) (lo := -2147483648) (hi := 2147483647) hIS_12 t_15.2 (by decide) rfl rfl rfl (iv_all _)
    have XS_17 : oX [2033] S_12 S_17 := by rw [eS_17]; exact oX.I (k := 33) (key := 2033) t_15.2 rfl (List.mem_singleton.mpr rfl)
    have X_18 : oXc ([] : List Nat) o Z S_17 := by rw [eS_17]; exact oXc.I X_13
    have pk_19 : oI S_17 o 3 = x4 := by rw [eS_17, setI_same]
    refine lv_aload_n hx hb dX3_init_25 rfl (lv_at hl 0 rfl) ?_
    refine lv_iload hx hb dX3_init_26 (lv_at hl 5 rfl) ?_
    have t_20 : oty S_17 o 33 := (oX.ty XS_17 t_15)
    obtain ⟨q_21, hq_21⟩ := og (cq := cq) t_20.1 (oE_33 t_20.2)
    refine va_putF (D := (dC, dI)) (ci := 3) (v := .int x5) (ty := .int) (C := RX3) (T := TX3) (N := 6) hx hb hts in_wsX3_init_X3 tyX3 tyX3_ok nmX3 hown hK hP hD hS q_21 hq_21 rfl 4 (by decide) (hts (.fieldLink RX3 22 "ShipOffice$Happening" "port" "I") iw_X3_init_7) (fun _ h9 => h9) rfl hin rfl (by decide +kernel) rfl rfl (Nat.le_of_ble_eq_true rfl) dX3_init_28 (fun H locs hP1 hD1 hS => ?_)
    obtain ⟨S_22, eS_22⟩ : ∃ zq, zq = setI S_17 o 4 x5 := ⟨_, rfl⟩
    have hP : va_P (dC, dI) vwCl (oW cq S_22) H := by rw [eS_22]; exact cP (oset t_20.1 hq_21 hD rfl (he_33_4 t_20.2) neI) hP1
    have hD : va_D A (oW cq S_22) := by rw [eS_22]; exact cD (oset t_20.1 hq_21 hD rfl (he_33_4 t_20.2) neI) hD1
    clear hP1 hD1
    have hIS_22 : oInv S_22 := by rw [eS_22]; exact oInv.I0 (k := 33) (lo := -2147483648) (hi := 2147483647) hIS_17 t_20.2 (by decide) rfl rfl rfl (iv_all _)
    have XS_22 : oX [2033] S_17 S_22 := by rw [eS_22]; exact oX.I (k := 33) (key := 2033) t_20.2 rfl (List.mem_singleton.mpr rfl)
    have ik_23 : oI S_22 o 3 = x4 := by rw [eS_22, setI_ne (by decide)]; exact pk_19
    have X_24 : oXc ([] : List Nat) o Z S_22 := by rw [eS_22]; exact oXc.I X_18
    have pk_25 : oI S_22 o 4 = x5 := by rw [eS_22, setI_same]
    refine lv_aload_n hx hb dX3_init_31 rfl (lv_at hl 0 rfl) ?_
    refine lv_aloadN hx hb dX3_init_32 (lv_at hl 6 rfl) ?_
    have t_26 : oty S_22 o 33 := (oX.ty XS_22 t_20)
    obtain ⟨q_27, hq_27⟩ := og (cq := cq) t_26.1 (oE_33 t_26.2)
    refine va_putF (D := (dC, dI)) (ci := 3) (v := .null) (ty := .object "ShipOffice$Happening") (C := RX3) (T := TX3) (N := 6) hx hb hts in_wsX3_init_X3 tyX3 tyX3_ok nmX3 hown hK hP hD hS q_27 hq_27 rfl 5 (by decide) (hts (.fieldLink RX3 25 "ShipOffice$Happening" "before" "LShipOffice$Happening;") iw_X3_init_8) (fun _ h9 => h9) rfl hin rfl (by decide +kernel) rfl rfl (Nat.le_of_ble_eq_true rfl) dX3_init_34 (fun H locs hP1 hD1 hS => ?_)
    obtain ⟨S_28, eS_28⟩ : ∃ zq, zq = setP S_22 o 5 none := ⟨_, rfl⟩
    have hP : va_P (dC, dI) vwCl (oW cq S_28) H := by rw [eS_28]; exact cP (oset t_26.1 hq_27 hD rfl (he_33_5 t_26.2) neP) hP1
    have hD : va_D A (oW cq S_28) := by rw [eS_28]; exact cD (oset t_26.1 hq_27 hD rfl (he_33_5 t_26.2) neP) hD1
    clear hP1 hD1
    have hIS_28 : oInv S_28 := by rw [eS_28]; exact oInv.Pn (k := 33) hIS_22 t_26.2 (by decide) rfl (by decide) rfl
    have XS_28 : oX [2033] S_22 S_28 := by rw [eS_28]; exact oX.P (k := 33) (key := 2033) t_26.2 rfl (List.mem_singleton.mpr rfl)
    have ik_29 : oI S_28 o 3 = x4 := by rw [eS_28]; exact ik_23
    have ik_30 : oI S_28 o 4 = x5 := by rw [eS_28]; exact pk_25
    have X_31 : oXc ([] : List Nat) o Z S_28 := by rw [eS_28]; exact oXc.P X_24
    have pk_32 : oP S_28 o 5 = none := by rw [eS_28, setP_same]
    have t_34 : oty S_28 o 33 := (oX.ty XS_28 t_26)
    obtain ⟨S_33, eS_33⟩ : ∃ zq, zq = setK S_28 o 3 := ⟨_, rfl⟩
    have hP : va_P (dC, dI) vwCl (oW cq S_33) H := by rw [eS_33]; exact cP (ret_W (c := 3) t_34.2 (by decide)) hP
    have hD : va_D A (oW cq S_33) := by rw [eS_33]; exact cD (ret_W (c := 3) t_34.2 (by decide)) hD
    have hIS_33 : oInv S_33 := by rw [eS_33]; exact oInv.ret (c := 3) hIS_28 t_34 (by decide) (fun i hi => (nn_3 hi).elim) (fun i p hp => (ct_no hp (by decide) (by decide) (by decide)).elim) (fun h => absurd h (by decide)) (fun _ b hb => by rw [pk_32] at hb; cases hb) (fun _ => by rw [ik_29, ik_30]; exact hw)
    have XS_33 : oXc ([] : List Nat) o Z S_33 := by rw [eS_33]; exact oXc.K X_31
    have tS_33 : oty S_33 o 3 := by rw [eS_33]; exact K_ty t_34.1
    have ik_35 : oI S_33 o 3 = x4 := by rw [eS_33]; exact ik_29
    have ik_36 : oI S_33 o 4 = x5 := by rw [eS_33]; exact ik_30
    exact W.vret hx hb hr (fun t ht hW => ⟨⟨S_33, rfl, ⟨hIS_33, XS_33, tS_33⟩, ⟨by rw [ht]; exact hP, va_K.moved hW.alike hK, hD⟩⟩, hS.F ht⟩) hS.2.2 dX3_init_37
  · refine Met.ofW (cc := cX3_init) (maxL := 7) (ret := none) (by decide) rfl ?_
    intro p e s m args below meth c s₁ B hml hv
    obtain ⟨rfl, hsz, hP, hK, hD0⟩ := hv
    have hx := B.exec
    have hb := B.bytes
    have hr := B.returns
    have hts := atoms_spec (ws := wsX3_init) B.pre
    have hown : s.vm.findClass RX3 = some m.cls := findClass_of_methodNamed B.named
    have hlocks := B.notSynchronized
    have hin : meth.name = "<init>" := (name_of_methodNamed B.named B.method).1
    subst hsz
    have hD := hD0.self (sz := s.heap.size)
    generalize hAe : va_A (oW cq Z) s.heap.size = A at hD ⊢
    have hA : ∀ q : Nat, s.heap.size ≤ q → A q := fun q h => by rw [← hAe]; exact Or.inr h
    have hS : va_S A s.heap s.heap [] := va_S.rf
    have hP : va_P (dC, dI) vwCl (oW cq Z) s.heap := hP
    have hl := lv_entry ([.ref o, .int x1, .int x2, .int x3, .int x4, .int x5, va_rf (some br6)]) (n := 7) (Nat.le_of_ble_eq_true rfl)
    rw [lg_entry_eq]
    generalize (lg_sl ([.ref o, .int x1, .int x2, .int x3, .int x4, .int x5, va_rf (some br6)]) ++ List.replicate (7 - (lg_sl ([.ref o, .int x1, .int x2, .int x3, .int x4, .int x5, va_rf (some br6)])).length) Slot.unset).toArray = ls at hl ⊢
    have hl : lv_has ls 7 [(0, .ref o), (1, .int x1), (2, .int x2), (3, .int x3), (4, .int x4), (5, .int x5), (6, va_rf (some br6))] := hl
    have hl : lv_has ls 7 [(0, .ref o), (1, .int x1), (2, .int x2), (3, .int x3), (4, .int x4), (5, .int x5), (6, .ref br6)] := hl
    have tbbr6 : oty Z br6 3 := tr6 br6 rfl
    refine lv_aload_n hx hb dX3_init_0 rfl (lv_at hl 0 rfl) ?_
    refine W.objInit hx hb hown (hts (.methodLink RX3 1 objectInit) iw_X3_init_1) (hts (.instanceMethod objectInit) iw_X3_init_2) (hts (.code objectInit ⟨#[0xb1]⟩ 1 none) (in_obj_wsX3_init)) rfl (by rw [hml]; exact hl.1) rfl dX3_init_1 (Nat.le_of_ble_eq_true rfl) (Nat.le_of_ble_eq_true rfl) ?_
    refine W.eq (g2 := F0 m 4 ls []) rfl ?_
    refine lv_aload_n hx hb dX3_init_4 rfl (lv_at hl 0 rfl) ?_
    refine lv_iload_n hx hb dX3_init_5 rfl (lv_at hl 1 rfl) ?_
    obtain ⟨q_37, hq_37⟩ := og (cq := cq) to.1 (oE_33 to.2)
    refine va_putF (D := (dC, dI)) (ci := 3) (v := .int x1) (ty := .int) (C := RX3) (T := TX3) (N := 6) hx hb hts in_wsX3_init_X3 tyX3 tyX3_ok nmX3 hown hK hP hD hS q_37 hq_37 rfl 0 (by decide) (hts (.fieldLink RX3 7 "ShipOffice$Happening" "kind" "I") iw_X3_init_3) (fun _ h9 => h9) rfl hin rfl (by decide +kernel) rfl rfl (Nat.le_of_ble_eq_true rfl) dX3_init_6 (fun H locs hP1 hD1 hS => ?_)
    obtain ⟨S_38, eS_38⟩ : ∃ zq, zq = setI Z o 0 x1 := ⟨_, rfl⟩
    have hP : va_P (dC, dI) vwCl (oW cq S_38) H := by rw [eS_38]; exact cP (oset to.1 hq_37 hD rfl (he_33_0 to.2) neI) hP1
    have hD : va_D A (oW cq S_38) := by rw [eS_38]; exact cD (oset to.1 hq_37 hD rfl (he_33_0 to.2) neI) hD1
    clear hP1 hD1
    have hIS_38 : oInv S_38 := by rw [eS_38]; exact oInv.I0 (k := 33) (lo := -2147483648) (hi := 2147483647) gI to.2 (by decide) rfl rfl rfl (iv_all _)
    have XS_38 : oX [2033] Z S_38 := by rw [eS_38]; exact oX.I (k := 33) (key := 2033) to.2 rfl (List.mem_singleton.mpr rfl)
    have gk_39 : oG S_38 br6 < oG S_38 o := by rw [eS_38]; exact (hg br6 rfl)
    have X_40 : oXc ([] : List Nat) o Z S_38 := by rw [eS_38]; exact oXc.I oXc.rf
    refine lv_aload_n hx hb dX3_init_9 rfl (lv_at hl 0 rfl) ?_
    refine lv_iload_n hx hb dX3_init_10 rfl (lv_at hl 2 rfl) ?_
    have t_42 : oty S_38 o 33 := (oX.ty XS_38 to)
    obtain ⟨q_43, hq_43⟩ := og (cq := cq) t_42.1 (oE_33 t_42.2)
    refine va_putF (D := (dC, dI)) (ci := 3) (v := .int x2) (ty := .int) (C := RX3) (T := TX3) (N := 6) hx hb hts in_wsX3_init_X3 tyX3 tyX3_ok nmX3 hown hK hP hD hS q_43 hq_43 rfl 1 (by decide) (hts (.fieldLink RX3 13 "ShipOffice$Happening" "day" "I") iw_X3_init_4) (fun _ h9 => h9) rfl hin rfl (by decide +kernel) rfl rfl (Nat.le_of_ble_eq_true rfl) dX3_init_11 (fun H locs hP1 hD1 hS => ?_)
    obtain ⟨S_44, eS_44⟩ : ∃ zq, zq = setI S_38 o 1 x2 := ⟨_, rfl⟩
    have hP : va_P (dC, dI) vwCl (oW cq S_44) H := by rw [eS_44]; exact cP (oset t_42.1 hq_43 hD rfl (he_33_1 t_42.2) neI) hP1
    have hD : va_D A (oW cq S_44) := by rw [eS_44]; exact cD (oset t_42.1 hq_43 hD rfl (he_33_1 t_42.2) neI) hD1
    clear hP1 hD1
    have hIS_44 : oInv S_44 := by rw [eS_44]; exact oInv.I0 (k := 33) (lo := -2147483648) (hi := 2147483647) hIS_38 t_42.2 (by decide) rfl rfl rfl (iv_all _)
    have XS_44 : oX [2033] S_38 S_44 := by rw [eS_44]; exact oX.I (k := 33) (key := 2033) t_42.2 rfl (List.mem_singleton.mpr rfl)
    have gk_45 : oG S_44 br6 < oG S_44 o := by rw [eS_44]; exact gk_39
    have X_46 : oXc ([] : List Nat) o Z S_44 := by rw [eS_44]; exact oXc.I X_40
    refine lv_aload_n hx hb dX3_init_14 rfl (lv_at hl 0 rfl) ?_
    refine lv_iload_n hx hb dX3_init_15 rfl (lv_at hl 3 rfl) ?_
    have t_48 : oty S_44 o 33 := (oX.ty XS_44 t_42)
    obtain ⟨q_49, hq_49⟩ := og (cq := cq) t_48.1 (oE_33 t_48.2)
    refine va_putF (D := (dC, dI)) (ci := 3) (v := .int x3) (ty := .int) (C := RX3) (T := TX3) (N := 6) hx hb hts in_wsX3_init_X3 tyX3 tyX3_ok nmX3 hown hK hP hD hS q_49 hq_49 rfl 2 (by decide) (hts (.fieldLink RX3 16 "ShipOffice$Happening" "told" "I") iw_X3_init_5) (fun _ h9 => h9) rfl hin rfl (by decide +kernel) rfl rfl (Nat.le_of_ble_eq_true rfl) dX3_init_16 (fun H locs hP1 hD1 hS => ?_)
    obtain ⟨S_50, eS_50⟩ : ∃ zq, zq = setI S_44 o 2 x3 := ⟨_, rfl⟩
    have hP : va_P (dC, dI) vwCl (oW cq S_50) H := by rw [eS_50]; exact cP (oset t_48.1 hq_49 hD rfl (he_33_2 t_48.2) neI) hP1
    have hD : va_D A (oW cq S_50) := by rw [eS_50]; exact cD (oset t_48.1 hq_49 hD rfl (he_33_2 t_48.2) neI) hD1
    clear hP1 hD1
    have hIS_50 : oInv S_50 := by rw [eS_50]; exact oInv.I0 (k := 33) (lo := -2147483648) (hi := 2147483647) hIS_44 t_48.2 (by decide) rfl rfl rfl (iv_all _)
    have XS_50 : oX [2033] S_44 S_50 := by rw [eS_50]; exact oX.I (k := 33) (key := 2033) t_48.2 rfl (List.mem_singleton.mpr rfl)
    have gk_51 : oG S_50 br6 < oG S_50 o := by rw [eS_50]; exact gk_45
    have X_52 : oXc ([] : List Nat) o Z S_50 := by rw [eS_50]; exact oXc.I X_46
    refine lv_aload_n hx hb dX3_init_19 rfl (lv_at hl 0 rfl) ?_
    refine lv_iload hx hb dX3_init_20 (lv_at hl 4 rfl) ?_
    have t_54 : oty S_50 o 33 := (oX.ty XS_50 t_48)
    obtain ⟨q_55, hq_55⟩ := og (cq := cq) t_54.1 (oE_33 t_54.2)
    refine va_putF (D := (dC, dI)) (ci := 3) (v := .int x4) (ty := .int) (C := RX3) (T := TX3) (N := 6) hx hb hts in_wsX3_init_X3 tyX3 tyX3_ok nmX3 hown hK hP hD hS q_55 hq_55 rfl 3 (by decide) (hts (.fieldLink RX3 19 "ShipOffice$Happening" "way" "I") iw_X3_init_6) (fun _ h9 => h9) rfl hin rfl (by decide +kernel) rfl rfl (Nat.le_of_ble_eq_true rfl) dX3_init_22 (fun H locs hP1 hD1 hS => ?_)
    obtain ⟨S_56, eS_56⟩ : ∃ zq, zq = setI S_50 o 3 x4 := ⟨_, rfl⟩
    have hP : va_P (dC, dI) vwCl (oW cq S_56) H := by rw [eS_56]; exact cP (oset t_54.1 hq_55 hD rfl (he_33_3 t_54.2) neI) hP1
    have hD : va_D A (oW cq S_56) := by rw [eS_56]; exact cD (oset t_54.1 hq_55 hD rfl (he_33_3 t_54.2) neI) hD1
    clear hP1 hD1
    have hIS_56 : oInv S_56 := by rw [eS_56]; exact oInv.I0 (k := 33) (lo := -2147483648) (hi := 2147483647) hIS_50 t_54.2 (by decide) rfl rfl rfl (iv_all _)
    have XS_56 : oX [2033] S_50 S_56 := by rw [eS_56]; exact oX.I (k := 33) (key := 2033) t_54.2 rfl (List.mem_singleton.mpr rfl)
    have gk_57 : oG S_56 br6 < oG S_56 o := by rw [eS_56]; exact gk_51
    have X_58 : oXc ([] : List Nat) o Z S_56 := by rw [eS_56]; exact oXc.I X_52
    have pk_59 : oI S_56 o 3 = x4 := by rw [eS_56, setI_same]
    refine lv_aload_n hx hb dX3_init_25 rfl (lv_at hl 0 rfl) ?_
    refine lv_iload hx hb dX3_init_26 (lv_at hl 5 rfl) ?_
    have t_60 : oty S_56 o 33 := (oX.ty XS_56 t_54)
    obtain ⟨q_61, hq_61⟩ := og (cq := cq) t_60.1 (oE_33 t_60.2)
    refine va_putF (D := (dC, dI)) (ci := 3) (v := .int x5) (ty := .int) (C := RX3) (T := TX3) (N := 6) hx hb hts in_wsX3_init_X3 tyX3 tyX3_ok nmX3 hown hK hP hD hS q_61 hq_61 rfl 4 (by decide) (hts (.fieldLink RX3 22 "ShipOffice$Happening" "port" "I") iw_X3_init_7) (fun _ h9 => h9) rfl hin rfl (by decide +kernel) rfl rfl (Nat.le_of_ble_eq_true rfl) dX3_init_28 (fun H locs hP1 hD1 hS => ?_)
    obtain ⟨S_62, eS_62⟩ : ∃ zq, zq = setI S_56 o 4 x5 := ⟨_, rfl⟩
    have hP : va_P (dC, dI) vwCl (oW cq S_62) H := by rw [eS_62]; exact cP (oset t_60.1 hq_61 hD rfl (he_33_4 t_60.2) neI) hP1
    have hD : va_D A (oW cq S_62) := by rw [eS_62]; exact cD (oset t_60.1 hq_61 hD rfl (he_33_4 t_60.2) neI) hD1
    clear hP1 hD1
    have hIS_62 : oInv S_62 := by rw [eS_62]; exact oInv.I0 (k := 33) (lo := -2147483648) (hi := 2147483647) hIS_56 t_60.2 (by decide) rfl rfl rfl (iv_all _)
    have XS_62 : oX [2033] S_56 S_62 := by rw [eS_62]; exact oX.I (k := 33) (key := 2033) t_60.2 rfl (List.mem_singleton.mpr rfl)
    have ik_63 : oI S_62 o 3 = x4 := by rw [eS_62, setI_ne (by decide)]; exact pk_59
    have gk_64 : oG S_62 br6 < oG S_62 o := by rw [eS_62]; exact gk_57
    have X_65 : oXc ([] : List Nat) o Z S_62 := by rw [eS_62]; exact oXc.I X_58
    have pk_66 : oI S_62 o 4 = x5 := by rw [eS_62, setI_same]
    refine lv_aload_n hx hb dX3_init_31 rfl (lv_at hl 0 rfl) ?_
    refine lv_aload hx hb dX3_init_32 (lv_at hl 6 rfl) ?_
    have t_67 : oty S_62 o 33 := (oX.ty XS_62 t_60)
    obtain ⟨q_68, hq_68⟩ := og (cq := cq) t_67.1 (oE_33 t_67.2)
    have t_69 : oty S_62 br6 3 := (oX.ty XS_62 (oX.ty XS_56 (oX.ty XS_50 (oX.ty XS_44 (oX.ty XS_38 tbbr6)))))
    refine va_putF (D := (dC, dI)) (ci := 3) (v := .ref br6) (ty := .object "ShipOffice$Happening") (C := RX3) (T := TX3) (N := 6) hx hb hts in_wsX3_init_X3 tyX3 tyX3_ok nmX3 hown hK hP hD hS q_68 hq_68 rfl 5 (by decide) (hts (.fieldLink RX3 25 "ShipOffice$Happening" "before" "LShipOffice$Happening;") iw_X3_init_8) (fun _ h9 => h9) rfl hin rfl (by decide +kernel) rfl rfl (Nat.le_of_ble_eq_true rfl) dX3_init_34 (fun H locs hP1 hD1 hS => ?_)
    obtain ⟨S_70, eS_70⟩ : ∃ zq, zq = setP S_62 o 5 (some br6) := ⟨_, rfl⟩
    have hP : va_P (dC, dI) vwCl (oW cq S_70) H := by rw [eS_70]; exact cP (oset t_67.1 hq_68 hD rfl (he_33_5 t_67.2) neP) hP1
    have hD : va_D A (oW cq S_70) := by rw [eS_70]; exact cD (oset t_67.1 hq_68 hD rfl (he_33_5 t_67.2) neP) hD1
    clear hP1 hD1
    have hIS_70 : oInv S_70 := by rw [eS_70]; exact oInv.P (k := 33) hIS_62 t_67.2 (by decide) rfl (by decide) t_69 (by decide)
    have XS_70 : oX [2033] S_62 S_70 := by rw [eS_70]; exact oX.P (k := 33) (key := 2033) t_67.2 rfl (List.mem_singleton.mpr rfl)
    have ik_71 : oI S_70 o 3 = x4 := by rw [eS_70]; exact ik_63
    have ik_72 : oI S_70 o 4 = x5 := by rw [eS_70]; exact pk_66
    have gk_73 : oG S_70 br6 < oG S_70 o := by rw [eS_70]; exact gk_64
    have X_74 : oXc ([] : List Nat) o Z S_70 := by rw [eS_70]; exact oXc.P X_65
    have pk_75 : oP S_70 o 5 = some br6 := by rw [eS_70, setP_same]
    have t_77 : oty S_70 o 33 := (oX.ty XS_70 t_67)
    obtain ⟨S_76, eS_76⟩ : ∃ zq, zq = setK S_70 o 3 := ⟨_, rfl⟩
    have hP : va_P (dC, dI) vwCl (oW cq S_76) H := by rw [eS_76]; exact cP (ret_W (c := 3) t_77.2 (by decide)) hP
    have hD : va_D A (oW cq S_76) := by rw [eS_76]; exact cD (ret_W (c := 3) t_77.2 (by decide)) hD
    have hIS_76 : oInv S_76 := by rw [eS_76]; exact oInv.ret (c := 3) hIS_70 t_77 (by decide) (fun i hi => (nn_3 hi).elim) (fun i p hp => (ct_no hp (by decide) (by decide) (by decide)).elim) (fun h => absurd h (by decide)) (fun _ b hb => by rw [pk_75] at hb; cases hb; exact gk_73) (fun _ => by rw [ik_71, ik_72]; exact hw)
    have XS_76 : oXc ([] : List Nat) o Z S_76 := by rw [eS_76]; exact oXc.K X_74
    have tS_76 : oty S_76 o 3 := by rw [eS_76]; exact K_ty t_77.1
    have pk_78 : oP S_76 o 5 = some br6 := by rw [eS_76]; exact pk_75
    have ik_79 : oI S_76 o 3 = x4 := by rw [eS_76]; exact ik_71
    have ik_80 : oI S_76 o 4 = x5 := by rw [eS_76]; exact ik_72
    exact W.vret hx hb hr (fun t ht hW => ⟨⟨S_76, rfl, ⟨hIS_76, XS_76, tS_76⟩, ⟨by rw [ht]; exact hP, va_K.moved hW.alike hK, hD⟩⟩, hS.F ht⟩) hS.2.2 dX3_init_37
set_option maxHeartbeats 4000000 in
set_option maxRecDepth 100000 in
theorem c_X6_init (l : Launch) (dC : Nat → ClassId) (dI : Nat → Nat → Nat) (sz : Nat) (cq : Nat → ClassId) (Z : oS) (gI : oInv Z) (o : Nat) (to : oty Z o 36) (x1 : Int32) (x2 : Int32) (x3 : Int32) (x4 : Int32) : Met l yX6_init wsX6_init ({ frames := 1, cells := 1, slots := 4, locals := 14 }) (va_Pc [.ref o, .int x1, .int x2, .int x3, .int x4] (pcW (dC, dI) (oT cq) (oW cq Z) sz)) (va_Qv (fun (u : oS) => oInv u ∧ oXc ([] : List Nat) o Z u ∧ (oty u o 6 ∧ ∃ w, oP u o 4 = some w ∧ w ∉ oL Z ∧ oI u w = fun _ => 0)) (fun u t => va_P (dC, dI) vwCl (oW cq u) t.heap ∧ va_K (dC, dI) vwCl (oT cq) t ∧ va_D (va_A (oW cq Z) sz) (oW cq u)) (va_A (oW cq Z) sz)) 1 4 (va_A (oW cq Z) sz) := by
  refine Met.ofW (cc := cX6_init) (maxL := 5) (ret := none) (by decide) rfl ?_
  intro p e s m args below meth c s₁ B hml hv
  obtain ⟨rfl, hsz, hP, hK, hD0⟩ := hv
  have hx := B.exec
  have hb := B.bytes
  have hr := B.returns
  have hts := atoms_spec (ws := wsX6_init) B.pre
  have hown : s.vm.findClass RX6 = some m.cls := findClass_of_methodNamed B.named
  have hlocks := B.notSynchronized
  have hin : meth.name = "<init>" := (name_of_methodNamed B.named B.method).1
  subst hsz
  have hD := hD0.self (sz := s.heap.size)
  generalize hAe : va_A (oW cq Z) s.heap.size = A at hD ⊢
  have hA : ∀ q : Nat, s.heap.size ≤ q → A q := fun q h => by rw [← hAe]; exact Or.inr h
  have hS : va_S A s.heap s.heap [] := va_S.rf
  have hP : va_P (dC, dI) vwCl (oW cq Z) s.heap := hP
  have hl := lv_entry ([.ref o, .int x1, .int x2, .int x3, .int x4]) (n := 5) (Nat.le_of_ble_eq_true rfl)
  rw [lg_entry_eq]
  generalize (lg_sl ([.ref o, .int x1, .int x2, .int x3, .int x4]) ++ List.replicate (5 - (lg_sl ([.ref o, .int x1, .int x2, .int x3, .int x4])).length) Slot.unset).toArray = ls at hl ⊢
  have hl : lv_has ls 5 [(0, .ref o), (1, .int x1), (2, .int x2), (3, .int x3), (4, .int x4)] := hl
  refine lv_aload_n hx hb dX6_init_0 rfl (lv_at hl 0 rfl) ?_
  refine W.objInit hx hb hown (hts (.methodLink RX6 3 objectInit) iw_X6_init_1) (hts (.instanceMethod objectInit) iw_X6_init_2) (hts (.code objectInit ⟨#[0xb1]⟩ 1 none) (in_obj_wsX6_init)) rfl (by rw [hml]; exact hl.1) rfl dX6_init_1 (Nat.le_of_ble_eq_true rfl) (Nat.le_of_ble_eq_true rfl) ?_
  refine W.eq (g2 := F0 m 4 ls []) rfl ?_
  refine lv_aload_n hx hb dX6_init_4 rfl (lv_at hl 0 rfl) ?_
  refine lv_iconst (v := 4) hx hb dX6_init_5 (by decide) ?_
  refine va_newa (atype := .int) (ty := .int) (a0 := (4, .inl (fun _ => 0))) hx hb (hts (.arrayClass .int) iw_X6_init_3) rfl hK hP hD hS hA (fun _ => rfl) (by decide) (by decide) (by decide) (Nat.le_of_ble_eq_true rfl) (Nat.le_of_ble_eq_true rfl) dX6_init_6 (fun q_1 k_2 H hK1 hP1 hD1 hS => ?_)
  obtain ⟨rfl, -⟩ := lv_ad (k := 0) hK1 rfl
  clear hK1
  have hnq_1 := add_q hD1
  obtain ⟨S_3, eS_3⟩ : ∃ zq, zq = addO Z q_1 104 := ⟨_, rfl⟩
  have hP : va_P (dC, dI) vwCl (oW cq S_3) H := by rw [eS_3]; exact cP (onew hD1 (by rw [oE_a1 (n := 4) add_K (by decide), add_I])) hP1
  have hD : va_D A (oW cq S_3) := by rw [eS_3]; exact cD (onew hD1 (by rw [oE_a1 (n := 4) add_K (by decide), add_I])) hD1
  clear hP1 hD1
  have hIS_3 : oInv S_3 := by rw [eS_3]; exact oInv.add gI hnq_1 (by decide)
  have XS_3 : oX [] Z S_3 := by rw [eS_3]; exact oX.add hnq_1
  have nzq_1 : q_1 ∉ oL Z := hnq_1
  have X_4 : oXc ([] : List Nat) o Z S_3 := oXc.st oXc.rf XS_3 (by decide)
  have tq_1 : oty S_3 q_1 104 := by rw [eS_3]; exact add_ty
  have zf_5 : oI S_3 q_1 = fun _ => 0 := by rw [eS_3]; exact add_I
  refine W.widen (k := 1) (n := 4) (Nat.le_of_ble_eq_true rfl) (Nat.le_of_ble_eq_true rfl) ?_
  have t_6 : oty S_3 o 36 := (oX.ty XS_3 to)
  obtain ⟨q_7, hq_7⟩ := og (cq := cq) t_6.1 (oE_36 t_6.2)
  refine va_putF (D := (dC, dI)) (ci := 6) (v := .ref q_1) (ty := .array .int) (C := RX6) (T := TX6) (N := 6) hx hb hts in_wsX6_init_X6 tyX6 tyX6_ok nmX6 hown hK hP hD hS q_7 hq_7 rfl 4 (by decide) (hts (.fieldLink RX6 9 "ShipOffice$Man" "wages" "[I") iw_X6_init_4) (fun _ h9 => h9) rfl hin rfl (by decide +kernel) rfl rfl (Nat.le_of_ble_eq_true rfl) dX6_init_8 (fun H locs hP1 hD1 hS => ?_)
  obtain ⟨S_8, eS_8⟩ : ∃ zq, zq = setP S_3 o 4 (some q_1) := ⟨_, rfl⟩
  have hP : va_P (dC, dI) vwCl (oW cq S_8) H := by rw [eS_8]; exact cP (oset t_6.1 hq_7 hD rfl (he_36_4 t_6.2) neP) hP1
  have hD : va_D A (oW cq S_8) := by rw [eS_8]; exact cD (oset t_6.1 hq_7 hD rfl (he_36_4 t_6.2) neP) hD1
  clear hP1 hD1
  have hIS_8 : oInv S_8 := by rw [eS_8]; exact oInv.P (k := 36) hIS_3 t_6.2 (by decide) rfl (by decide) tq_1 (by decide)
  have XS_8 : oX [2036] S_3 S_8 := by rw [eS_8]; exact oX.P (k := 36) (key := 2036) t_6.2 rfl (List.mem_singleton.mpr rfl)
  have zf_9 : oI S_8 q_1 = fun _ => 0 := by rw [eS_8]; exact zf_5
  have X_10 : oXc ([] : List Nat) o Z S_8 := by rw [eS_8]; exact oXc.P X_4
  have pk_11 : oP S_8 o 4 = some q_1 := by rw [eS_8, setP_same]
  refine lv_aload_n hx hb dX6_init_11 rfl (lv_at hl 0 rfl) ?_
  refine lv_iload_n hx hb dX6_init_12 rfl (lv_at hl 1 rfl) ?_
  have t_12 : oty S_8 o 36 := (oX.ty XS_8 t_6)
  obtain ⟨q_13, hq_13⟩ := og (cq := cq) t_12.1 (oE_36 t_12.2)
  refine va_putF (D := (dC, dI)) (ci := 6) (v := .int x1) (ty := .int) (C := RX6) (T := TX6) (N := 6) hx hb hts in_wsX6_init_X6 tyX6 tyX6_ok nmX6 hown hK hP hD hS q_13 hq_13 rfl 0 (by decide) (hts (.fieldLink RX6 15 "ShipOffice$Man" "number" "I") iw_X6_init_5) (fun _ h9 => h9) rfl hin rfl (by decide +kernel) rfl rfl (Nat.le_of_ble_eq_true rfl) dX6_init_13 (fun H locs hP1 hD1 hS => ?_)
  obtain ⟨S_14, eS_14⟩ : ∃ zq, zq = setI S_8 o 0 x1 := ⟨_, rfl⟩
  have hP : va_P (dC, dI) vwCl (oW cq S_14) H := by rw [eS_14]; exact cP (oset t_12.1 hq_13 hD rfl (he_36_0 t_12.2) neI) hP1
  have hD : va_D A (oW cq S_14) := by rw [eS_14]; exact cD (oset t_12.1 hq_13 hD rfl (he_36_0 t_12.2) neI) hD1
  clear hP1 hD1
  have hIS_14 : oInv S_14 := by rw [eS_14]; exact oInv.I0 (k := 36) (lo := -2147483648) (hi := 2147483647) hIS_8 t_12.2 (by decide) rfl rfl rfl (iv_all _)
  have XS_14 : oX [2036] S_8 S_14 := by rw [eS_14]; exact oX.I (k := 36) (key := 2036) t_12.2 rfl (List.mem_singleton.mpr rfl)
  have pk_15 : oP S_14 o 4 = some q_1 := by rw [eS_14]; exact pk_11
  have zf_16 : oI S_14 q_1 = fun _ => 0 := by rw [eS_14, setI_oth (ty_ne (oX.ty XS_8 tq_1) t_12 (by decide))]; exact zf_9
  have X_17 : oXc ([] : List Nat) o Z S_14 := by rw [eS_14]; exact oXc.I X_10
  refine lv_aload_n hx hb dX6_init_16 rfl (lv_at hl 0 rfl) ?_
  refine lv_iload_n hx hb dX6_init_17 rfl (lv_at hl 2 rfl) ?_
  have t_19 : oty S_14 o 36 := (oX.ty XS_14 t_12)
  obtain ⟨q_20, hq_20⟩ := og (cq := cq) t_19.1 (oE_36 t_19.2)
  refine va_putF (D := (dC, dI)) (ci := 6) (v := .int x2) (ty := .int) (C := RX6) (T := TX6) (N := 6) hx hb hts in_wsX6_init_X6 tyX6 tyX6_ok nmX6 hown hK hP hD hS q_20 hq_20 rfl 1 (by decide) (hts (.fieldLink RX6 19 "ShipOffice$Man" "name" "I") iw_X6_init_6) (fun _ h9 => h9) rfl hin rfl (by decide +kernel) rfl rfl (Nat.le_of_ble_eq_true rfl) dX6_init_18 (fun H locs hP1 hD1 hS => ?_)
  obtain ⟨S_21, eS_21⟩ : ∃ zq, zq = setI S_14 o 1 x2 := ⟨_, rfl⟩
  have hP : va_P (dC, dI) vwCl (oW cq S_21) H := by rw [eS_21]; exact cP (oset t_19.1 hq_20 hD rfl (he_36_1 t_19.2) neI) hP1
  have hD : va_D A (oW cq S_21) := by rw [eS_21]; exact cD (oset t_19.1 hq_20 hD rfl (he_36_1 t_19.2) neI) hD1
  clear hP1 hD1
  have hIS_21 : oInv S_21 := by rw [eS_21]; exact oInv.I0 (k := 36) (lo := -2147483648) (hi := 2147483647) hIS_14 t_19.2 (by decide) rfl rfl rfl (iv_all _)
  have XS_21 : oX [2036] S_14 S_21 := by rw [eS_21]; exact oX.I (k := 36) (key := 2036) t_19.2 rfl (List.mem_singleton.mpr rfl)
  have pk_22 : oP S_21 o 4 = some q_1 := by rw [eS_21]; exact pk_15
  have zf_23 : oI S_21 q_1 = fun _ => 0 := by rw [eS_21, setI_oth (ty_ne (oX.ty XS_14 (oX.ty XS_8 tq_1)) t_19 (by decide))]; exact zf_16
  have X_24 : oXc ([] : List Nat) o Z S_21 := by rw [eS_21]; exact oXc.I X_17
  refine lv_aload_n hx hb dX6_init_21 rfl (lv_at hl 0 rfl) ?_
  refine lv_iload_n hx hb dX6_init_22 rfl (lv_at hl 3 rfl) ?_
  have t_26 : oty S_21 o 36 := (oX.ty XS_21 t_19)
  obtain ⟨q_27, hq_27⟩ := og (cq := cq) t_26.1 (oE_36 t_26.2)
  refine va_putF (D := (dC, dI)) (ci := 6) (v := .int x3) (ty := .int) (C := RX6) (T := TX6) (N := 6) hx hb hts in_wsX6_init_X6 tyX6 tyX6_ok nmX6 hown hK hP hD hS q_27 hq_27 rfl 2 (by decide) (hts (.fieldLink RX6 22 "ShipOffice$Man" "marks" "I") iw_X6_init_7) (fun _ h9 => h9) rfl hin rfl (by decide +kernel) rfl rfl (Nat.le_of_ble_eq_true rfl) dX6_init_23 (fun H locs hP1 hD1 hS => ?_)
  obtain ⟨S_28, eS_28⟩ : ∃ zq, zq = setI S_21 o 2 x3 := ⟨_, rfl⟩
  have hP : va_P (dC, dI) vwCl (oW cq S_28) H := by rw [eS_28]; exact cP (oset t_26.1 hq_27 hD rfl (he_36_2 t_26.2) neI) hP1
  have hD : va_D A (oW cq S_28) := by rw [eS_28]; exact cD (oset t_26.1 hq_27 hD rfl (he_36_2 t_26.2) neI) hD1
  clear hP1 hD1
  have hIS_28 : oInv S_28 := by rw [eS_28]; exact oInv.I0 (k := 36) (lo := -2147483648) (hi := 2147483647) hIS_21 t_26.2 (by decide) rfl rfl rfl (iv_all _)
  have XS_28 : oX [2036] S_21 S_28 := by rw [eS_28]; exact oX.I (k := 36) (key := 2036) t_26.2 rfl (List.mem_singleton.mpr rfl)
  have pk_29 : oP S_28 o 4 = some q_1 := by rw [eS_28]; exact pk_22
  have zf_30 : oI S_28 q_1 = fun _ => 0 := by rw [eS_28, setI_oth (ty_ne (oX.ty XS_21 (oX.ty XS_14 (oX.ty XS_8 tq_1))) t_26 (by decide))]; exact zf_23
  have X_31 : oXc ([] : List Nat) o Z S_28 := by rw [eS_28]; exact oXc.I X_24
  refine lv_aload_n hx hb dX6_init_26 rfl (lv_at hl 0 rfl) ?_
  refine lv_iload hx hb dX6_init_27 (lv_at hl 4 rfl) ?_
  have t_33 : oty S_28 o 36 := (oX.ty XS_28 t_26)
  obtain ⟨q_34, hq_34⟩ := og (cq := cq) t_33.1 (oE_36 t_33.2)
  refine va_putF (D := (dC, dI)) (ci := 6) (v := .int x4) (ty := .int) (C := RX6) (T := TX6) (N := 6) hx hb hts in_wsX6_init_X6 tyX6 tyX6_ok nmX6 hown hK hP hD hS q_34 hq_34 rfl 3 (by decide) (hts (.fieldLink RX6 25 "ShipOffice$Man" "born" "I") iw_X6_init_8) (fun _ h9 => h9) rfl hin rfl (by decide +kernel) rfl rfl (Nat.le_of_ble_eq_true rfl) dX6_init_29 (fun H locs hP1 hD1 hS => ?_)
  obtain ⟨S_35, eS_35⟩ : ∃ zq, zq = setI S_28 o 3 x4 := ⟨_, rfl⟩
  have hP : va_P (dC, dI) vwCl (oW cq S_35) H := by rw [eS_35]; exact cP (oset t_33.1 hq_34 hD rfl (he_36_3 t_33.2) neI) hP1
  have hD : va_D A (oW cq S_35) := by rw [eS_35]; exact cD (oset t_33.1 hq_34 hD rfl (he_36_3 t_33.2) neI) hD1
  clear hP1 hD1
  have hIS_35 : oInv S_35 := by rw [eS_35]; exact oInv.I0 (k := 36) (lo := -2147483648) (hi := 2147483647) hIS_28 t_33.2 (by decide) rfl rfl rfl (iv_all _)
  have XS_35 : oX [2036] S_28 S_35 := by rw [eS_35]; exact oX.I (k := 36) (key := 2036) t_33.2 rfl (List.mem_singleton.mpr rfl)
  have pk_36 : oP S_35 o 4 = some q_1 := by rw [eS_35]; exact pk_29
  have zf_37 : oI S_35 q_1 = fun _ => 0 := by rw [eS_35, setI_oth (ty_ne (oX.ty XS_28 (oX.ty XS_21 (oX.ty XS_14 (oX.ty XS_8 tq_1)))) t_33 (by decide))]; exact zf_30
  have X_38 : oXc ([] : List Nat) o Z S_35 := by rw [eS_35]; exact oXc.I X_31
  refine lv_aload_n hx hb dX6_init_32 rfl (lv_at hl 0 rfl) ?_
  refine lv_iload_n hx hb dX6_init_33 rfl (lv_at hl 1 rfl) ?_
  have t_40 : oty S_35 o 36 := (oX.ty XS_35 t_33)
  obtain ⟨q_41, hq_41⟩ := og (cq := cq) t_40.1 (oE_36 t_40.2)
  refine va_put (D := (dC, dI)) (ci := 6) (v := .int x1) (ty := .int) (C := RX6) (T := TX6) (N := 6) hx hb hts in_wsX6_init_X6 tyX6 tyX6_ok nmX6 hown hK hP hD hS q_41 hq_41 rfl 5 (by decide) (hts (.fieldLink RX6 28 "ShipOffice$Man" "leastAlike" "I") iw_X6_init_9) (fun _ h9 => h9) rfl (by decide +kernel) rfl rfl (Nat.le_of_ble_eq_true rfl) dX6_init_34 (fun H locs hP1 hD1 hS => ?_)
  obtain ⟨S_42, eS_42⟩ : ∃ zq, zq = setI S_35 o 5 x1 := ⟨_, rfl⟩
  have hP : va_P (dC, dI) vwCl (oW cq S_42) H := by rw [eS_42]; exact cP (oset t_40.1 hq_41 hD rfl (he_36_5 t_40.2) neI) hP1
  have hD : va_D A (oW cq S_42) := by rw [eS_42]; exact cD (oset t_40.1 hq_41 hD rfl (he_36_5 t_40.2) neI) hD1
  clear hP1 hD1
  have hIS_42 : oInv S_42 := by rw [eS_42]; exact oInv.I0 (k := 36) (lo := -2147483648) (hi := 2147483647) hIS_35 t_40.2 (by decide) rfl rfl rfl (iv_all _)
  have XS_42 : oX [2036] S_35 S_42 := by rw [eS_42]; exact oX.I (k := 36) (key := 2036) t_40.2 rfl (List.mem_singleton.mpr rfl)
  have pk_43 : oP S_42 o 4 = some q_1 := by rw [eS_42]; exact pk_36
  have zf_44 : oI S_42 q_1 = fun _ => 0 := by rw [eS_42, setI_oth (ty_ne (oX.ty XS_35 (oX.ty XS_28 (oX.ty XS_21 (oX.ty XS_14 (oX.ty XS_8 tq_1))))) t_40 (by decide))]; exact zf_37
  have X_45 : oXc ([] : List Nat) o Z S_42 := by rw [eS_42]; exact oXc.I X_38
  have t_48 : oty S_42 o 36 := (oX.ty XS_42 t_40)
  obtain ⟨S_47, eS_47⟩ : ∃ zq, zq = setK S_42 o 6 := ⟨_, rfl⟩
  have hP : va_P (dC, dI) vwCl (oW cq S_47) H := by rw [eS_47]; exact cP (ret_W (c := 6) t_48.2 (by decide)) hP
  have hD : va_D A (oW cq S_47) := by rw [eS_47]; exact cD (ret_W (c := 6) t_48.2 (by decide)) hD
  have hIS_47 : oInv S_47 := by rw [eS_47]; exact oInv.ret (c := 6) hIS_42 t_48 (by decide) (fun i hi => by rcases nn_6 hi with rfl <;> first | exact ⟨_, pk_43⟩) (fun i p hp => (ct_no hp (by decide) (by decide) (by decide)).elim) (fun h => absurd h (by decide)) (fun h => absurd h (by decide)) (fun h => absurd h (by decide))
  have XS_47 : oXc ([] : List Nat) o Z S_47 := by rw [eS_47]; exact oXc.K X_45
  have tS_47 : oty S_47 o 6 := by rw [eS_47]; exact K_ty t_48.1
  have pk_49 : oP S_47 o 4 = some q_1 := by rw [eS_47]; exact pk_43
  have zf_50 : oI S_47 q_1 = fun _ => 0 := by rw [eS_47]; exact zf_44
  exact W.vret hx hb hr (fun t ht hW => ⟨⟨S_47, rfl, ⟨hIS_47, XS_47, ⟨tS_47, ⟨q_1, pk_49, nzq_1, zf_50⟩⟩⟩, ⟨by rw [ht]; exact hP, va_K.moved hW.alike hK, hD⟩⟩, hS.F ht⟩) hS.2.2 dX6_init_37
set_option maxHeartbeats 4000000 in
set_option maxRecDepth 100000 in
theorem c_X9_init (l : Launch) (dC : Nat → ClassId) (dI : Nat → Nat → Nat) (sz : Nat) (cq : Nat → ClassId) (Z : oS) (gI : oInv Z) (o : Nat) (to : oty Z o 39) (x1 : Int32) (x2 : Int32) (x3 : Int32) (hx3 : 0 ≤ x3.toInt ∧ x3.toInt ≤ 9) (x4 : Int32) (hx4 : 0 ≤ x4.toInt ∧ x4.toInt ≤ 3000) : Met l yX9_init wsX9_init ({ frames := 1, cells := 0, slots := 0, locals := 14 }) (va_Pc [.ref o, .int x1, .int x2, .int x3, .int x4] (pcW (dC, dI) (oT cq) (oW cq Z) sz)) (va_Qv (fun (u : oS) => oInv u ∧ oXc ([] : List Nat) o Z u ∧ (oty u o 9)) (fun u t => va_P (dC, dI) vwCl (oW cq u) t.heap ∧ va_K (dC, dI) vwCl (oT cq) t ∧ va_D (va_A (oW cq Z) sz) (oW cq u)) (va_A (oW cq Z) sz)) 0 0 (va_A (oW cq Z) sz) := by
  refine Met.ofW (cc := cX9_init) (maxL := 5) (ret := none) (by decide) rfl ?_
  intro p e s m args below meth c s₁ B hml hv
  obtain ⟨rfl, hsz, hP, hK, hD0⟩ := hv
  have hx := B.exec
  have hb := B.bytes
  have hr := B.returns
  have hts := atoms_spec (ws := wsX9_init) B.pre
  have hown : s.vm.findClass RX9 = some m.cls := findClass_of_methodNamed B.named
  have hlocks := B.notSynchronized
  have hin : meth.name = "<init>" := (name_of_methodNamed B.named B.method).1
  subst hsz
  have hD := hD0.self (sz := s.heap.size)
  generalize hAe : va_A (oW cq Z) s.heap.size = A at hD ⊢
  have hA : ∀ q : Nat, s.heap.size ≤ q → A q := fun q h => by rw [← hAe]; exact Or.inr h
  have hS : va_S A s.heap s.heap [] := va_S.rf
  have hP : va_P (dC, dI) vwCl (oW cq Z) s.heap := hP
  have hl := lv_entry ([.ref o, .int x1, .int x2, .int x3, .int x4]) (n := 5) (Nat.le_of_ble_eq_true rfl)
  rw [lg_entry_eq]
  generalize (lg_sl ([.ref o, .int x1, .int x2, .int x3, .int x4]) ++ List.replicate (5 - (lg_sl ([.ref o, .int x1, .int x2, .int x3, .int x4])).length) Slot.unset).toArray = ls at hl ⊢
  have hl : lv_has ls 5 [(0, .ref o), (1, .int x1), (2, .int x2), (3, .int x3), (4, .int x4)] := hl
  refine lv_aload_n hx hb dX9_init_0 rfl (lv_at hl 0 rfl) ?_
  refine W.objInit hx hb hown (hts (.methodLink RX9 3 objectInit) iw_X9_init_1) (hts (.instanceMethod objectInit) iw_X9_init_2) (hts (.code objectInit ⟨#[0xb1]⟩ 1 none) (in_obj_wsX9_init)) rfl (by rw [hml]; exact hl.1) rfl dX9_init_1 (Nat.le_of_ble_eq_true rfl) (Nat.le_of_ble_eq_true rfl) ?_
  refine W.eq (g2 := F0 m 4 ls []) rfl ?_
  refine lv_aload_n hx hb dX9_init_4 rfl (lv_at hl 0 rfl) ?_
  refine lv_ldc (v := 1000000) hx hb hown (hts (.constant RX9 9 (1000000)) (by decide +kernel)) dX9_init_5 ?_
  obtain ⟨q_1, hq_1⟩ := og (cq := cq) to.1 (oE_39 to.2)
  refine va_put (D := (dC, dI)) (ci := 9) (v := .int 1000000) (ty := .int) (C := RX9) (T := TX9) (N := 10) hx hb hts in_wsX9_init_X9 tyX9 tyX9_ok nmX9 hown hK hP hD hS q_1 hq_1 rfl 5 (by decide) (hts (.fieldLink RX9 10 "ShipOffice$Voyage" "sailedDay" "I") iw_X9_init_3) (fun _ h9 => h9) rfl (by decide +kernel) rfl rfl (Nat.le_of_ble_eq_true rfl) dX9_init_7 (fun H locs hP1 hD1 hS => ?_)
  obtain ⟨S_2, eS_2⟩ : ∃ zq, zq = setI Z o 5 1000000 := ⟨_, rfl⟩
  have hP : va_P (dC, dI) vwCl (oW cq S_2) H := by rw [eS_2]; exact cP (oset to.1 hq_1 hD rfl (he_39_5 to.2) neI) hP1
  have hD : va_D A (oW cq S_2) := by rw [eS_2]; exact cD (oset to.1 hq_1 hD rfl (he_39_5 to.2) neI) hD1
  clear hP1 hD1
  have hIS_2 : oInv S_2 := by rw [eS_2]; exact oInv.I0 (k := 39) (lo := 0) (hi := 1000000) gI to.2 (by decide) rfl rfl rfl (by decide)
  have XS_2 : oX [2039] Z S_2 := by rw [eS_2]; exact oX.I (k := 39) (key := 2039) to.2 rfl (List.mem_singleton.mpr rfl)
  have X_3 : oXc ([] : List Nat) o Z S_2 := by rw [eS_2]; exact oXc.I oXc.rf
  refine lv_aload_n hx hb dX9_init_10 rfl (lv_at hl 0 rfl) ?_
  refine lv_ldc (v := 1000000) hx hb hown (hts (.constant RX9 9 (1000000)) (by decide +kernel)) dX9_init_11 ?_
  have t_5 : oty S_2 o 39 := (oX.ty XS_2 to)
  obtain ⟨q_6, hq_6⟩ := og (cq := cq) t_5.1 (oE_39 t_5.2)
  refine va_put (D := (dC, dI)) (ci := 9) (v := .int 1000000) (ty := .int) (C := RX9) (T := TX9) (N := 10) hx hb hts in_wsX9_init_X9 tyX9 tyX9_ok nmX9 hown hK hP hD hS q_6 hq_6 rfl 6 (by decide) (hts (.fieldLink RX9 16 "ShipOffice$Voyage" "sailedTold" "I") iw_X9_init_4) (fun _ h9 => h9) rfl (by decide +kernel) rfl rfl (Nat.le_of_ble_eq_true rfl) dX9_init_13 (fun H locs hP1 hD1 hS => ?_)
  obtain ⟨S_7, eS_7⟩ : ∃ zq, zq = setI S_2 o 6 1000000 := ⟨_, rfl⟩
  have hP : va_P (dC, dI) vwCl (oW cq S_7) H := by rw [eS_7]; exact cP (oset t_5.1 hq_6 hD rfl (he_39_6 t_5.2) neI) hP1
  have hD : va_D A (oW cq S_7) := by rw [eS_7]; exact cD (oset t_5.1 hq_6 hD rfl (he_39_6 t_5.2) neI) hD1
  clear hP1 hD1
  have hIS_7 : oInv S_7 := by rw [eS_7]; exact oInv.I0 (k := 39) (lo := -2147483648) (hi := 2147483647) hIS_2 t_5.2 (by decide) rfl rfl rfl (iv_all _)
  have XS_7 : oX [2039] S_2 S_7 := by rw [eS_7]; exact oX.I (k := 39) (key := 2039) t_5.2 rfl (List.mem_singleton.mpr rfl)
  have X_8 : oXc ([] : List Nat) o Z S_7 := by rw [eS_7]; exact oXc.I X_3
  refine lv_aload_n hx hb dX9_init_16 rfl (lv_at hl 0 rfl) ?_
  refine lv_ldc (v := 1000000) hx hb hown (hts (.constant RX9 9 (1000000)) (by decide +kernel)) dX9_init_17 ?_
  have t_10 : oty S_7 o 39 := (oX.ty XS_7 t_5)
  obtain ⟨q_11, hq_11⟩ := og (cq := cq) t_10.1 (oE_39 t_10.2)
  refine va_put (D := (dC, dI)) (ci := 9) (v := .int 1000000) (ty := .int) (C := RX9) (T := TX9) (N := 10) hx hb hts in_wsX9_init_X9 tyX9 tyX9_ok nmX9 hown hK hP hD hS q_11 hq_11 rfl 7 (by decide) (hts (.fieldLink RX9 19 "ShipOffice$Voyage" "lostDay" "I") iw_X9_init_5) (fun _ h9 => h9) rfl (by decide +kernel) rfl rfl (Nat.le_of_ble_eq_true rfl) dX9_init_19 (fun H locs hP1 hD1 hS => ?_)
  obtain ⟨S_12, eS_12⟩ : ∃ zq, zq = setI S_7 o 7 1000000 := ⟨_, rfl⟩
  have hP : va_P (dC, dI) vwCl (oW cq S_12) H := by rw [eS_12]; exact cP (oset t_10.1 hq_11 hD rfl (he_39_7 t_10.2) neI) hP1
  have hD : va_D A (oW cq S_12) := by rw [eS_12]; exact cD (oset t_10.1 hq_11 hD rfl (he_39_7 t_10.2) neI) hD1
  clear hP1 hD1
  have hIS_12 : oInv S_12 := by rw [eS_12]; exact oInv.I0 (k := 39) (lo := -2147483648) (hi := 2147483647) hIS_7 t_10.2 (by decide) rfl rfl rfl (iv_all _)
  have XS_12 : oX [2039] S_7 S_12 := by rw [eS_12]; exact oX.I (k := 39) (key := 2039) t_10.2 rfl (List.mem_singleton.mpr rfl)
  have X_13 : oXc ([] : List Nat) o Z S_12 := by rw [eS_12]; exact oXc.I X_8
  refine lv_aload_n hx hb dX9_init_22 rfl (lv_at hl 0 rfl) ?_
  refine lv_ldc (v := 1000000) hx hb hown (hts (.constant RX9 9 (1000000)) (by decide +kernel)) dX9_init_23 ?_
  have t_15 : oty S_12 o 39 := (oX.ty XS_12 t_10)
  obtain ⟨q_16, hq_16⟩ := og (cq := cq) t_15.1 (oE_39 t_15.2)
  refine va_put (D := (dC, dI)) (ci := 9) (v := .int 1000000) (ty := .int) (C := RX9) (T := TX9) (N := 10) hx hb hts in_wsX9_init_X9 tyX9 tyX9_ok nmX9 hown hK hP hD hS q_16 hq_16 rfl 8 (by decide) (hts (.fieldLink RX9 22 "ShipOffice$Voyage" "lostTold" "I") iw_X9_init_6) (fun _ h9 => h9) rfl (by decide +kernel) rfl rfl (Nat.le_of_ble_eq_true rfl) dX9_init_25 (fun H locs hP1 hD1 hS => ?_)
  obtain ⟨S_17, eS_17⟩ : ∃ zq, zq = setI S_12 o 8 1000000 := ⟨_, rfl⟩
  have hP : va_P (dC, dI) vwCl (oW cq S_17) H := by rw [eS_17]; exact cP (oset t_15.1 hq_16 hD rfl (he_39_8 t_15.2) neI) hP1
  have hD : va_D A (oW cq S_17) := by rw [eS_17]; exact cD (oset t_15.1 hq_16 hD rfl (he_39_8 t_15.2) neI) hD1
  clear hP1 hD1
  have hIS_17 : oInv S_17 := by rw [eS_17]; exact oInv.I0 (k := 39) (lo := -2147483648) (hi := 2147483647) hIS_12 t_15.2 (by decide) rfl rfl rfl (iv_all _)
  have XS_17 : oX [2039] S_12 S_17 := by rw [eS_17]; exact oX.I (k := 39) (key := 2039) t_15.2 rfl (List.mem_singleton.mpr rfl)
  have X_18 : oXc ([] : List Nat) o Z S_17 := by rw [eS_17]; exact oXc.I X_13
  refine lv_aload_n hx hb dX9_init_28 rfl (lv_at hl 0 rfl) ?_
  refine lv_iload_n hx hb dX9_init_29 rfl (lv_at hl 1 rfl) ?_
  have t_20 : oty S_17 o 39 := (oX.ty XS_17 t_15)
  obtain ⟨q_21, hq_21⟩ := og (cq := cq) t_20.1 (oE_39 t_20.2)
  refine va_putF (D := (dC, dI)) (ci := 9) (v := .int x1) (ty := .int) (C := RX9) (T := TX9) (N := 10) hx hb hts in_wsX9_init_X9 tyX9 tyX9_ok nmX9 hown hK hP hD hS q_21 hq_21 rfl 0 (by decide) (hts (.fieldLink RX9 25 "ShipOffice$Voyage" "number" "I") iw_X9_init_7) (fun _ h9 => h9) rfl hin rfl (by decide +kernel) rfl rfl (Nat.le_of_ble_eq_true rfl) dX9_init_30 (fun H locs hP1 hD1 hS => ?_)
  obtain ⟨S_22, eS_22⟩ : ∃ zq, zq = setI S_17 o 0 x1 := ⟨_, rfl⟩
  have hP : va_P (dC, dI) vwCl (oW cq S_22) H := by rw [eS_22]; exact cP (oset t_20.1 hq_21 hD rfl (he_39_0 t_20.2) neI) hP1
  have hD : va_D A (oW cq S_22) := by rw [eS_22]; exact cD (oset t_20.1 hq_21 hD rfl (he_39_0 t_20.2) neI) hD1
  clear hP1 hD1
  have hIS_22 : oInv S_22 := by rw [eS_22]; exact oInv.I0 (k := 39) (lo := -2147483648) (hi := 2147483647) hIS_17 t_20.2 (by decide) rfl rfl rfl (iv_all _)
  have XS_22 : oX [2039] S_17 S_22 := by rw [eS_22]; exact oX.I (k := 39) (key := 2039) t_20.2 rfl (List.mem_singleton.mpr rfl)
  have X_23 : oXc ([] : List Nat) o Z S_22 := by rw [eS_22]; exact oXc.I X_18
  refine lv_aload_n hx hb dX9_init_33 rfl (lv_at hl 0 rfl) ?_
  refine lv_iload_n hx hb dX9_init_34 rfl (lv_at hl 2 rfl) ?_
  have t_25 : oty S_22 o 39 := (oX.ty XS_22 t_20)
  obtain ⟨q_26, hq_26⟩ := og (cq := cq) t_25.1 (oE_39 t_25.2)
  refine va_putF (D := (dC, dI)) (ci := 9) (v := .int x2) (ty := .int) (C := RX9) (T := TX9) (N := 10) hx hb hts in_wsX9_init_X9 tyX9 tyX9_ok nmX9 hown hK hP hD hS q_26 hq_26 rfl 1 (by decide) (hts (.fieldLink RX9 28 "ShipOffice$Voyage" "ship" "I") iw_X9_init_8) (fun _ h9 => h9) rfl hin rfl (by decide +kernel) rfl rfl (Nat.le_of_ble_eq_true rfl) dX9_init_35 (fun H locs hP1 hD1 hS => ?_)
  obtain ⟨S_27, eS_27⟩ : ∃ zq, zq = setI S_22 o 1 x2 := ⟨_, rfl⟩
  have hP : va_P (dC, dI) vwCl (oW cq S_27) H := by rw [eS_27]; exact cP (oset t_25.1 hq_26 hD rfl (he_39_1 t_25.2) neI) hP1
  have hD : va_D A (oW cq S_27) := by rw [eS_27]; exact cD (oset t_25.1 hq_26 hD rfl (he_39_1 t_25.2) neI) hD1
  clear hP1 hD1
  have hIS_27 : oInv S_27 := by rw [eS_27]; exact oInv.I0 (k := 39) (lo := -2147483648) (hi := 2147483647) hIS_22 t_25.2 (by decide) rfl rfl rfl (iv_all _)
  have XS_27 : oX [2039] S_22 S_27 := by rw [eS_27]; exact oX.I (k := 39) (key := 2039) t_25.2 rfl (List.mem_singleton.mpr rfl)
  have X_28 : oXc ([] : List Nat) o Z S_27 := by rw [eS_27]; exact oXc.I X_23
  refine lv_aload_n hx hb dX9_init_38 rfl (lv_at hl 0 rfl) ?_
  refine lv_iload_n hx hb dX9_init_39 rfl (lv_at hl 3 rfl) ?_
  have t_30 : oty S_27 o 39 := (oX.ty XS_27 t_25)
  obtain ⟨q_31, hq_31⟩ := og (cq := cq) t_30.1 (oE_39 t_30.2)
  refine va_putF (D := (dC, dI)) (ci := 9) (v := .int x3) (ty := .int) (C := RX9) (T := TX9) (N := 10) hx hb hts in_wsX9_init_X9 tyX9 tyX9_ok nmX9 hown hK hP hD hS q_31 hq_31 rfl 2 (by decide) (hts (.fieldLink RX9 31 "ShipOffice$Voyage" "port" "I") iw_X9_init_9) (fun _ h9 => h9) rfl hin rfl (by decide +kernel) rfl rfl (Nat.le_of_ble_eq_true rfl) dX9_init_40 (fun H locs hP1 hD1 hS => ?_)
  obtain ⟨S_32, eS_32⟩ : ∃ zq, zq = setI S_27 o 2 x3 := ⟨_, rfl⟩
  have hP : va_P (dC, dI) vwCl (oW cq S_32) H := by rw [eS_32]; exact cP (oset t_30.1 hq_31 hD rfl (he_39_2 t_30.2) neI) hP1
  have hD : va_D A (oW cq S_32) := by rw [eS_32]; exact cD (oset t_30.1 hq_31 hD rfl (he_39_2 t_30.2) neI) hD1
  clear hP1 hD1
  have hIS_32 : oInv S_32 := by rw [eS_32]; exact oInv.I0 (k := 39) (lo := 0) (hi := 9) hIS_27 t_30.2 (by decide) rfl rfl rfl (by omega)
  have XS_32 : oX [2039] S_27 S_32 := by rw [eS_32]; exact oX.I (k := 39) (key := 2039) t_30.2 rfl (List.mem_singleton.mpr rfl)
  have X_33 : oXc ([] : List Nat) o Z S_32 := by rw [eS_32]; exact oXc.I X_28
  refine lv_aload_n hx hb dX9_init_43 rfl (lv_at hl 0 rfl) ?_
  refine lv_iload hx hb dX9_init_44 (lv_at hl 4 rfl) ?_
  have t_35 : oty S_32 o 39 := (oX.ty XS_32 t_30)
  obtain ⟨q_36, hq_36⟩ := og (cq := cq) t_35.1 (oE_39 t_35.2)
  refine va_putF (D := (dC, dI)) (ci := 9) (v := .int x4) (ty := .int) (C := RX9) (T := TX9) (N := 10) hx hb hts in_wsX9_init_X9 tyX9 tyX9_ok nmX9 hown hK hP hD hS q_36 hq_36 rfl 3 (by decide) (hts (.fieldLink RX9 34 "ShipOffice$Voyage" "openedOn" "I") iw_X9_init_10) (fun _ h9 => h9) rfl hin rfl (by decide +kernel) rfl rfl (Nat.le_of_ble_eq_true rfl) dX9_init_46 (fun H locs hP1 hD1 hS => ?_)
  obtain ⟨S_37, eS_37⟩ : ∃ zq, zq = setI S_32 o 3 x4 := ⟨_, rfl⟩
  have hP : va_P (dC, dI) vwCl (oW cq S_37) H := by rw [eS_37]; exact cP (oset t_35.1 hq_36 hD rfl (he_39_3 t_35.2) neI) hP1
  have hD : va_D A (oW cq S_37) := by rw [eS_37]; exact cD (oset t_35.1 hq_36 hD rfl (he_39_3 t_35.2) neI) hD1
  clear hP1 hD1
  have hIS_37 : oInv S_37 := by rw [eS_37]; exact oInv.I0 (k := 39) (lo := 0) (hi := 3000) hIS_32 t_35.2 (by decide) rfl rfl rfl (by omega)
  have XS_37 : oX [2039] S_32 S_37 := by rw [eS_37]; exact oX.I (k := 39) (key := 2039) t_35.2 rfl (List.mem_singleton.mpr rfl)
  have X_38 : oXc ([] : List Nat) o Z S_37 := by rw [eS_37]; exact oXc.I X_33
  have t_41 : oty S_37 o 39 := (oX.ty XS_37 t_35)
  obtain ⟨S_40, eS_40⟩ : ∃ zq, zq = setK S_37 o 9 := ⟨_, rfl⟩
  have hP : va_P (dC, dI) vwCl (oW cq S_40) H := by rw [eS_40]; exact cP (ret_W (c := 9) t_41.2 (by decide)) hP
  have hD : va_D A (oW cq S_40) := by rw [eS_40]; exact cD (ret_W (c := 9) t_41.2 (by decide)) hD
  have hIS_40 : oInv S_40 := by rw [eS_40]; exact oInv.ret (c := 9) hIS_37 t_41 (by decide) (fun i hi => (nn_9 hi).elim) (fun i p hp => (ct_no hp (by decide) (by decide) (by decide)).elim) (fun h => absurd h (by decide)) (fun h => absurd h (by decide)) (fun h => absurd h (by decide))
  have XS_40 : oXc ([] : List Nat) o Z S_40 := by rw [eS_40]; exact oXc.K X_38
  have tS_40 : oty S_40 o 9 := by rw [eS_40]; exact K_ty t_41.1
  exact W.vret hx hb hr (fun t ht hW => ⟨⟨S_40, rfl, ⟨hIS_40, XS_40, tS_40⟩, ⟨by rw [ht]; exact hP, va_K.moved hW.alike hK, hD⟩⟩, hS.F ht⟩) hS.2.2 dX9_init_49
set_option maxHeartbeats 4000000 in
set_option maxRecDepth 100000 in
theorem c_X1_init (l : Launch) (dC : Nat → ClassId) (dI : Nat → Nat → Nat) (sz : Nat) (tL tS tG : Nat) (cq : Nat → ClassId) (Z : oS) (gI : oInv Z) (o : Nat) (to : oty Z o 31) (a1 : Nat) (ta1 : oty Z a1 6) (a2 : Nat) (ta2 : oty Z a2 9) (x3 : Int32) (r4 : Option Nat) (tr4 : ∀ b, r4 = some b → oty Z b 1) (hz : ∀ j, oI Z o j = 0) : Met l yX1_init wsX1_init ({ frames := 1, cells := 3, slots := 46, locals := 14 }) (va_Pc [.ref o, .ref a1, .ref a2, .int x3, va_rf r4] (pcO (dC, dI) (oT cq) (oW cq Z) sz tL tS tG (oW cq Z))) (va_Qv (fun (u : oS) => oInv u ∧ oXc ([] : List Nat) o Z u ∧ (oty u o 1)) (fun u t => va_P (dC, dI) vwCl (oW cq u) t.heap ∧ va_K (dC, dI) vwCl (oT cq) t ∧ va_D (va_A (oW cq Z) sz) (oW cq u)) (va_A (oW cq Z) sz)) 3 46 (va_A (oW cq Z) sz) := by
  rcases r4 with _ | br4
  · refine Met.ofW (cc := cX1_init) (maxL := 5) (ret := none) (by decide) rfl ?_
    intro p e s m args below meth c s₁ B hml hv
    obtain ⟨rfl, ⟨hsz, hP, hK, hD0⟩, hZ⟩ := hv
    have hx := B.exec
    have hb := B.bytes
    have hr := B.returns
    have hts := atoms_spec (ws := wsX1_init) B.pre
    have hown : s.vm.findClass RX1 = some m.cls := findClass_of_methodNamed B.named
    have hlocks := B.notSynchronized
    have hin : meth.name = "<init>" := (name_of_methodNamed B.named B.method).1
    subst hsz
    have hD := hD0.self (sz := s.heap.size)
    generalize hAe : va_A (oW cq Z) s.heap.size = A at hD hZ ⊢
    have hA : ∀ q : Nat, s.heap.size ≤ q → A q := fun q h => by rw [← hAe]; exact Or.inr h
    have hS : va_S A s.heap s.heap [] := va_S.rf
    have hP : va_P (dC, dI) vwCl (oW cq Z) s.heap := hP
    have hl := lv_entry ([.ref o, .ref a1, .ref a2, .int x3, va_rf none]) (n := 5) (Nat.le_of_ble_eq_true rfl)
    rw [lg_entry_eq]
    generalize (lg_sl ([.ref o, .ref a1, .ref a2, .int x3, va_rf none]) ++ List.replicate (5 - (lg_sl ([.ref o, .ref a1, .ref a2, .int x3, va_rf none])).length) Slot.unset).toArray = ls at hl ⊢
    have hl : lv_has ls 5 [(0, .ref o), (1, .ref a1), (2, .ref a2), (3, .int x3), (4, va_rf none)] := hl
    have hl : lv_has ls 5 [(0, .ref o), (1, .ref a1), (2, .ref a2), (3, .int x3), (4, .null)] := hl
    refine lv_aload_n hx hb dX1_init_0 rfl (lv_at hl 0 rfl) ?_
    refine W.objInit hx hb hown (hts (.methodLink RX1 3 objectInit) iw_X1_init_1) (hts (.instanceMethod objectInit) iw_X1_init_2) (hts (.code objectInit ⟨#[0xb1]⟩ 1 none) (in_obj_wsX1_init)) rfl (by rw [hml]; exact hl.1) rfl dX1_init_1 (Nat.le_of_ble_eq_true rfl) (Nat.le_of_ble_eq_true rfl) ?_
    refine W.eq (g2 := F0 m 4 ls []) rfl ?_
    refine lv_aload_n hx hb dX1_init_4 rfl (lv_at hl 0 rfl) ?_
    refine lv_ldc (v := 1000000) hx hb hown (hts (.constant RX1 9 (1000000)) (by decide +kernel)) dX1_init_5 ?_
    obtain ⟨q_1, hq_1⟩ := og (cq := cq) to.1 (oE_31 to.2)
    refine va_put (D := (dC, dI)) (ci := 1) (v := .int 1000000) (ty := .int) (C := RX1) (T := TX1) (N := 18) hx hb hts in_wsX1_init_X1 tyX1 tyX1_ok nmX1 hown hK hP hD hS q_1 hq_1 rfl 6 (by decide) (hts (.fieldLink RX1 10 "ShipOffice$Agreement" "offDay" "I") iw_X1_init_3) (fun _ h9 => h9) rfl (by decide +kernel) rfl rfl (Nat.le_of_ble_eq_true rfl) dX1_init_7 (fun H locs hP1 hD1 hS => ?_)
    obtain ⟨S_2, eS_2⟩ : ∃ zq, zq = setI Z o 6 1000000 := ⟨_, rfl⟩
    have hP : va_P (dC, dI) vwCl (oW cq S_2) H := by rw [eS_2]; exact cP (oset to.1 hq_1 hD rfl (he_31_6 to.2) neI) hP1
    have hD : va_D A (oW cq S_2) := by rw [eS_2]; exact cD (oset to.1 hq_1 hD rfl (he_31_6 to.2) neI) hD1
    clear hP1 hD1
    have hIS_2 : oInv S_2 := by rw [eS_2]; exact oInv.I0 (k := 31) (lo := -2147483648) (hi := 2147483647) gI to.2 (by decide) rfl rfl rfl (iv_all _)
    have XS_2 : oX [2031] Z S_2 := by rw [eS_2]; exact oX.I (k := 31) (key := 2031) to.2 rfl (List.mem_singleton.mpr rfl)
    have ik_3 : oI S_2 o 13 = 0 := by rw [eS_2, setI_ne (by decide)]; exact (hz 13)
    have X_4 : oXc ([] : List Nat) o Z S_2 := by rw [eS_2]; exact oXc.I oXc.rf
    refine lv_aload_n hx hb dX1_init_10 rfl (lv_at hl 0 rfl) ?_
    refine lv_bipush (v := 6) hx hb dX1_init_11 (by decide) ?_
    refine va_newq (N' := 6) hx hb hown (hts (.classLink RX1 16 RX2) iw_X1_init_4) hZ.2.2.2.1 hK hP hD hS hA (by decide) (by decide) (by decide) (Nat.le_of_ble_eq_true rfl) (Nat.le_of_ble_eq_true rfl) dX1_init_13 (fun q_6 k_7 H hK1 hP1 hD1 hS => ?_)
    obtain ⟨rfl, -⟩ := lv_ad (k := 6) hK1 rfl
    clear hK1
    have hnq_6 := add_q hD1
    obtain ⟨S_8, eS_8⟩ : ∃ zq, zq = addO S_2 q_6 17 := ⟨_, rfl⟩
    have hP : va_P (dC, dI) vwCl (oW cq S_8) H := by rw [eS_8]; exact cP (onew hD1 (by rw [oE_17 add_K, add_P])) hP1
    have hD : va_D A (oW cq S_8) := by rw [eS_8]; exact cD (onew hD1 (by rw [oE_17 add_K, add_P])) hD1
    clear hP1 hD1
    have hIS_8 : oInv S_8 := by rw [eS_8]; exact oInv.add hIS_2 hnq_6 (by decide)
    have XS_8 : oX [] S_2 S_8 := by rw [eS_8]; exact oX.add hnq_6
    have nzq_6 : q_6 ∉ oL Z := oXc.nin X_4 hnq_6
    have ik_9 : oI S_8 o 13 = 0 := by rw [eS_8, add_In hnq_6 (oX.ty XS_2 to).1]; exact ik_3
    have X_10 : oXc ([] : List Nat) o Z S_8 := oXc.st X_4 XS_8 (by decide)
    have tq_6 : oty S_8 q_6 17 := by rw [eS_8]; exact add_ty
    refine W.widen (k := 1) (n := 6) (Nat.le_of_ble_eq_true rfl) (Nat.le_of_ble_eq_true rfl) ?_
    have t_11 : oty S_8 o 31 := (oX.ty XS_8 (oX.ty XS_2 to))
    obtain ⟨q_12, hq_12⟩ := og (cq := cq) t_11.1 (oE_31 t_11.2)
    refine va_putF (D := (dC, dI)) (ci := 1) (v := .ref q_6) (ty := .array (.object "ShipOffice$Fine")) (C := RX1) (T := TX1) (N := 18) hx hb hts in_wsX1_init_X1 tyX1 tyX1_ok nmX1 hown hK hP hD hS q_12 hq_12 rfl 12 (by decide) (hts (.fieldLink RX1 18 "ShipOffice$Agreement" "fines" "[LShipOffice$Fine;") iw_X1_init_5) (fun _ h9 => h9) rfl hin rfl (by decide +kernel) rfl rfl (Nat.le_of_ble_eq_true rfl) dX1_init_16 (fun H locs hP1 hD1 hS => ?_)
    obtain ⟨S_13, eS_13⟩ : ∃ zq, zq = setP S_8 o 12 (some q_6) := ⟨_, rfl⟩
    have hP : va_P (dC, dI) vwCl (oW cq S_13) H := by rw [eS_13]; exact cP (oset t_11.1 hq_12 hD rfl (he_31_12 t_11.2) neP) hP1
    have hD : va_D A (oW cq S_13) := by rw [eS_13]; exact cD (oset t_11.1 hq_12 hD rfl (he_31_12 t_11.2) neP) hD1
    clear hP1 hD1
    have hIS_13 : oInv S_13 := by rw [eS_13]; exact oInv.P (k := 31) hIS_8 t_11.2 (by decide) rfl (by decide) tq_6 (by decide)
    have XS_13 : oX [2031] S_8 S_13 := by rw [eS_13]; exact oX.P (k := 31) (key := 2031) t_11.2 rfl (List.mem_singleton.mpr rfl)
    have ik_14 : oI S_13 o 13 = 0 := by rw [eS_13]; exact ik_9
    have X_15 : oXc ([] : List Nat) o Z S_13 := by rw [eS_13]; exact oXc.P X_10
    have pk_16 : oP S_13 o 12 = some q_6 := by rw [eS_13, setP_same]
    refine lv_aload_n hx hb dX1_init_19 rfl (lv_at hl 0 rfl) ?_
    refine lv_bipush (v := 20) hx hb dX1_init_20 (by decide) ?_
    refine va_newa (atype := .int) (ty := .int) (a0 := (20, .inl (fun _ => 0))) hx hb (hts (.arrayClass .int) iw_X1_init_6) rfl hK hP hD hS hA (fun _ => rfl) (by decide) (by decide) (by decide) (Nat.le_of_ble_eq_true rfl) (Nat.le_of_ble_eq_true rfl) dX1_init_22 (fun q_17 k_18 H hK1 hP1 hD1 hS => ?_)
    obtain ⟨rfl, -⟩ := lv_ad (k := 0) hK1 rfl
    clear hK1
    have hnq_17 := add_q hD1
    obtain ⟨S_19, eS_19⟩ : ∃ zq, zq = addO S_13 q_17 120 := ⟨_, rfl⟩
    have hP : va_P (dC, dI) vwCl (oW cq S_19) H := by rw [eS_19]; exact cP (onew hD1 (by rw [oE_a1 (n := 20) add_K (by decide), add_I])) hP1
    have hD : va_D A (oW cq S_19) := by rw [eS_19]; exact cD (onew hD1 (by rw [oE_a1 (n := 20) add_K (by decide), add_I])) hD1
    clear hP1 hD1
    have hIS_19 : oInv S_19 := by rw [eS_19]; exact oInv.add hIS_13 hnq_17 (by decide)
    have XS_19 : oX [] S_13 S_19 := by rw [eS_19]; exact oX.add hnq_17
    have nzq_17 : q_17 ∉ oL Z := oXc.nin X_15 hnq_17
    have pk_20 : oP S_19 o 12 = some q_6 := by rw [eS_19, add_Pn hnq_17 (oX.ty XS_13 t_11).1]; exact pk_16
    have ik_21 : oI S_19 o 13 = 0 := by rw [eS_19, add_In hnq_17 (oX.ty XS_13 t_11).1]; exact ik_14
    have X_22 : oXc ([] : List Nat) o Z S_19 := oXc.st X_15 XS_19 (by decide)
    have tq_17 : oty S_19 q_17 120 := by rw [eS_19]; exact add_ty
    refine W.widen (k := 2) (n := 26) (Nat.le_of_ble_eq_true rfl) (Nat.le_of_ble_eq_true rfl) ?_
    have t_23 : oty S_19 o 31 := (oX.ty XS_19 (oX.ty XS_13 t_11))
    obtain ⟨q_24, hq_24⟩ := og (cq := cq) t_23.1 (oE_31 t_23.2)
    refine va_putF (D := (dC, dI)) (ci := 1) (v := .ref q_17) (ty := .array .int) (C := RX1) (T := TX1) (N := 18) hx hb hts in_wsX1_init_X1 tyX1 tyX1_ok nmX1 hown hK hP hD hS q_24 hq_24 rfl 14 (by decide) (hts (.fieldLink RX1 22 "ShipOffice$Agreement" "shortTold" "[I") iw_X1_init_7) (fun _ h9 => h9) rfl hin rfl (by decide +kernel) rfl rfl (Nat.le_of_ble_eq_true rfl) dX1_init_24 (fun H locs hP1 hD1 hS => ?_)
    obtain ⟨S_25, eS_25⟩ : ∃ zq, zq = setP S_19 o 14 (some q_17) := ⟨_, rfl⟩
    have hP : va_P (dC, dI) vwCl (oW cq S_25) H := by rw [eS_25]; exact cP (oset t_23.1 hq_24 hD rfl (he_31_14 t_23.2) neP) hP1
    have hD : va_D A (oW cq S_25) := by rw [eS_25]; exact cD (oset t_23.1 hq_24 hD rfl (he_31_14 t_23.2) neP) hD1
    clear hP1 hD1
    have hIS_25 : oInv S_25 := by rw [eS_25]; exact oInv.P (k := 31) hIS_19 t_23.2 (by decide) rfl (by decide) tq_17 (by decide)
    have XS_25 : oX [2031] S_19 S_25 := by rw [eS_25]; exact oX.P (k := 31) (key := 2031) t_23.2 rfl (List.mem_singleton.mpr rfl)
    have pk_26 : oP S_25 o 12 = some q_6 := by rw [eS_25, setP_ne (by decide)]; exact pk_20
    have ik_27 : oI S_25 o 13 = 0 := by rw [eS_25]; exact ik_21
    have X_28 : oXc ([] : List Nat) o Z S_25 := by rw [eS_25]; exact oXc.P X_22
    have pk_29 : oP S_25 o 14 = some q_17 := by rw [eS_25, setP_same]
    refine lv_aload_n hx hb dX1_init_27 rfl (lv_at hl 0 rfl) ?_
    refine lv_bipush (v := 20) hx hb dX1_init_28 (by decide) ?_
    refine va_newa (atype := .int) (ty := .int) (a0 := (20, .inl (fun _ => 0))) hx hb (hts (.arrayClass .int) iw_X1_init_6) rfl hK hP hD hS hA (fun _ => rfl) (by decide) (by decide) (by decide) (Nat.le_of_ble_eq_true rfl) (Nat.le_of_ble_eq_true rfl) dX1_init_30 (fun q_30 k_31 H hK1 hP1 hD1 hS => ?_)
    obtain ⟨rfl, -⟩ := lv_ad (k := 0) hK1 rfl
    clear hK1
    have hnq_30 := add_q hD1
    obtain ⟨S_32, eS_32⟩ : ∃ zq, zq = addO S_25 q_30 64 := ⟨_, rfl⟩
    have hP : va_P (dC, dI) vwCl (oW cq S_32) H := by rw [eS_32]; exact cP (onew hD1 (by rw [oE_64 add_K, add_I])) hP1
    have hD : va_D A (oW cq S_32) := by rw [eS_32]; exact cD (onew hD1 (by rw [oE_64 add_K, add_I])) hD1
    clear hP1 hD1
    have hIS_32 : oInv S_32 := by rw [eS_32]; exact oInv.add hIS_25 hnq_30 (by decide)
    have XS_32 : oX [] S_25 S_32 := by rw [eS_32]; exact oX.add hnq_30
    have nzq_30 : q_30 ∉ oL Z := oXc.nin X_28 hnq_30
    have pk_33 : oP S_32 o 12 = some q_6 := by rw [eS_32, add_Pn hnq_30 (oX.ty XS_25 t_23).1]; exact pk_26
    have pk_34 : oP S_32 o 14 = some q_17 := by rw [eS_32, add_Pn hnq_30 (oX.ty XS_25 t_23).1]; exact pk_29
    have ik_35 : oI S_32 o 13 = 0 := by rw [eS_32, add_In hnq_30 (oX.ty XS_25 t_23).1]; exact ik_27
    have X_36 : oXc ([] : List Nat) o Z S_32 := oXc.st X_28 XS_32 (by decide)
    have tq_30 : oty S_32 q_30 64 := by rw [eS_32]; exact add_ty
    refine W.widen (k := 3) (n := 46) (Nat.le_of_ble_eq_true rfl) (Nat.le_of_ble_eq_true rfl) ?_
    have t_37 : oty S_32 o 31 := (oX.ty XS_32 (oX.ty XS_25 t_23))
    obtain ⟨q_38, hq_38⟩ := og (cq := cq) t_37.1 (oE_31 t_37.2)
    refine va_putF (D := (dC, dI)) (ci := 1) (v := .ref q_30) (ty := .array .int) (C := RX1) (T := TX1) (N := 18) hx hb hts in_wsX1_init_X1 tyX1 tyX1_ok nmX1 hown hK hP hD hS q_38 hq_38 rfl 15 (by decide) (hts (.fieldLink RX1 26 "ShipOffice$Agreement" "shortSum" "[I") iw_X1_init_8) (fun _ h9 => h9) rfl hin rfl (by decide +kernel) rfl rfl (Nat.le_of_ble_eq_true rfl) dX1_init_32 (fun H locs hP1 hD1 hS => ?_)
    obtain ⟨S_39, eS_39⟩ : ∃ zq, zq = setP S_32 o 15 (some q_30) := ⟨_, rfl⟩
    have hP : va_P (dC, dI) vwCl (oW cq S_39) H := by rw [eS_39]; exact cP (oset t_37.1 hq_38 hD rfl (he_31_15 t_37.2) neP) hP1
    have hD : va_D A (oW cq S_39) := by rw [eS_39]; exact cD (oset t_37.1 hq_38 hD rfl (he_31_15 t_37.2) neP) hD1
    clear hP1 hD1
    have hIS_39 : oInv S_39 := by rw [eS_39]; exact oInv.P (k := 31) hIS_32 t_37.2 (by decide) rfl (by decide) tq_30 (by decide)
    have XS_39 : oX [2031] S_32 S_39 := by rw [eS_39]; exact oX.P (k := 31) (key := 2031) t_37.2 rfl (List.mem_singleton.mpr rfl)
    have pk_40 : oP S_39 o 12 = some q_6 := by rw [eS_39, setP_ne (by decide)]; exact pk_33
    have pk_41 : oP S_39 o 14 = some q_17 := by rw [eS_39, setP_ne (by decide)]; exact pk_34
    have ik_42 : oI S_39 o 13 = 0 := by rw [eS_39]; exact ik_35
    have X_43 : oXc ([] : List Nat) o Z S_39 := by rw [eS_39]; exact oXc.P X_36
    have pk_44 : oP S_39 o 15 = some q_30 := by rw [eS_39, setP_same]
    refine lv_aload_n hx hb dX1_init_35 rfl (lv_at hl 0 rfl) ?_
    refine lv_aload_n hx hb dX1_init_36 rfl (lv_at hl 1 rfl) ?_
    have t_45 : oty S_39 o 31 := (oX.ty XS_39 t_37)
    obtain ⟨q_46, hq_46⟩ := og (cq := cq) t_45.1 (oE_31 t_45.2)
    have t_47 : oty S_39 a1 6 := (oX.ty XS_39 (oX.ty XS_32 (oX.ty XS_25 (oX.ty XS_19 (oX.ty XS_13 (oX.ty XS_8 (oX.ty XS_2 ta1)))))))
    refine va_putF (D := (dC, dI)) (ci := 1) (v := .ref a1) (ty := .object "ShipOffice$Man") (C := RX1) (T := TX1) (N := 18) hx hb hts in_wsX1_init_X1 tyX1 tyX1_ok nmX1 hown hK hP hD hS q_46 hq_46 rfl 0 (by decide) (hts (.fieldLink RX1 29 "ShipOffice$Agreement" "man" "LShipOffice$Man;") iw_X1_init_9) (fun _ h9 => h9) rfl hin rfl (by decide +kernel) rfl rfl (Nat.le_of_ble_eq_true rfl) dX1_init_37 (fun H locs hP1 hD1 hS => ?_)
    obtain ⟨S_48, eS_48⟩ : ∃ zq, zq = setP S_39 o 0 (some a1) := ⟨_, rfl⟩
    have hP : va_P (dC, dI) vwCl (oW cq S_48) H := by rw [eS_48]; exact cP (oset t_45.1 hq_46 hD rfl (he_31_0 t_45.2) neP) hP1
    have hD : va_D A (oW cq S_48) := by rw [eS_48]; exact cD (oset t_45.1 hq_46 hD rfl (he_31_0 t_45.2) neP) hD1
    clear hP1 hD1
    have hIS_48 : oInv S_48 := by rw [eS_48]; exact oInv.P (k := 31) hIS_39 t_45.2 (by decide) rfl (by decide) t_47 (by decide)
    have XS_48 : oX [2031] S_39 S_48 := by rw [eS_48]; exact oX.P (k := 31) (key := 2031) t_45.2 rfl (List.mem_singleton.mpr rfl)
    have pk_49 : oP S_48 o 12 = some q_6 := by rw [eS_48, setP_ne (by decide)]; exact pk_40
    have pk_50 : oP S_48 o 14 = some q_17 := by rw [eS_48, setP_ne (by decide)]; exact pk_41
    have pk_51 : oP S_48 o 15 = some q_30 := by rw [eS_48, setP_ne (by decide)]; exact pk_44
    have ik_52 : oI S_48 o 13 = 0 := by rw [eS_48]; exact ik_42
    have X_53 : oXc ([] : List Nat) o Z S_48 := by rw [eS_48]; exact oXc.P X_43
    have pk_54 : oP S_48 o 0 = some a1 := by rw [eS_48, setP_same]
    refine lv_aload_n hx hb dX1_init_40 rfl (lv_at hl 0 rfl) ?_
    refine lv_aload_n hx hb dX1_init_41 rfl (lv_at hl 2 rfl) ?_
    have t_55 : oty S_48 o 31 := (oX.ty XS_48 t_45)
    obtain ⟨q_56, hq_56⟩ := og (cq := cq) t_55.1 (oE_31 t_55.2)
    have t_57 : oty S_48 a2 9 := (oX.ty XS_48 (oX.ty XS_39 (oX.ty XS_32 (oX.ty XS_25 (oX.ty XS_19 (oX.ty XS_13 (oX.ty XS_8 (oX.ty XS_2 ta2))))))))
    refine va_putF (D := (dC, dI)) (ci := 1) (v := .ref a2) (ty := .object "ShipOffice$Voyage") (C := RX1) (T := TX1) (N := 18) hx hb hts in_wsX1_init_X1 tyX1 tyX1_ok nmX1 hown hK hP hD hS q_56 hq_56 rfl 1 (by decide) (hts (.fieldLink RX1 33 "ShipOffice$Agreement" "voyage" "LShipOffice$Voyage;") iw_X1_init_10) (fun _ h9 => h9) rfl hin rfl (by decide +kernel) rfl rfl (Nat.le_of_ble_eq_true rfl) dX1_init_42 (fun H locs hP1 hD1 hS => ?_)
    obtain ⟨S_58, eS_58⟩ : ∃ zq, zq = setP S_48 o 1 (some a2) := ⟨_, rfl⟩
    have hP : va_P (dC, dI) vwCl (oW cq S_58) H := by rw [eS_58]; exact cP (oset t_55.1 hq_56 hD rfl (he_31_1 t_55.2) neP) hP1
    have hD : va_D A (oW cq S_58) := by rw [eS_58]; exact cD (oset t_55.1 hq_56 hD rfl (he_31_1 t_55.2) neP) hD1
    clear hP1 hD1
    have hIS_58 : oInv S_58 := by rw [eS_58]; exact oInv.P (k := 31) hIS_48 t_55.2 (by decide) rfl (by decide) t_57 (by decide)
    have XS_58 : oX [2031] S_48 S_58 := by rw [eS_58]; exact oX.P (k := 31) (key := 2031) t_55.2 rfl (List.mem_singleton.mpr rfl)
    have pk_59 : oP S_58 o 12 = some q_6 := by rw [eS_58, setP_ne (by decide)]; exact pk_49
    have pk_60 : oP S_58 o 14 = some q_17 := by rw [eS_58, setP_ne (by decide)]; exact pk_50
    have pk_61 : oP S_58 o 15 = some q_30 := by rw [eS_58, setP_ne (by decide)]; exact pk_51
    have pk_62 : oP S_58 o 0 = some a1 := by rw [eS_58, setP_ne (by decide)]; exact pk_54
    have ik_63 : oI S_58 o 13 = 0 := by rw [eS_58]; exact ik_52
    have X_64 : oXc ([] : List Nat) o Z S_58 := by rw [eS_58]; exact oXc.P X_53
    have pk_65 : oP S_58 o 1 = some a2 := by rw [eS_58, setP_same]
    refine lv_aload_n hx hb dX1_init_45 rfl (lv_at hl 0 rfl) ?_
    refine lv_iload_n hx hb dX1_init_46 rfl (lv_at hl 3 rfl) ?_
    have t_66 : oty S_58 o 31 := (oX.ty XS_58 t_55)
    obtain ⟨q_67, hq_67⟩ := og (cq := cq) t_66.1 (oE_31 t_66.2)
    refine va_putF (D := (dC, dI)) (ci := 1) (v := .int x3) (ty := .int) (C := RX1) (T := TX1) (N := 18) hx hb hts in_wsX1_init_X1 tyX1 tyX1_ok nmX1 hown hK hP hD hS q_67 hq_67 rfl 2 (by decide) (hts (.fieldLink RX1 37 "ShipOffice$Agreement" "signedOn" "I") iw_X1_init_11) (fun _ h9 => h9) rfl hin rfl (by decide +kernel) rfl rfl (Nat.le_of_ble_eq_true rfl) dX1_init_47 (fun H locs hP1 hD1 hS => ?_)
    obtain ⟨S_68, eS_68⟩ : ∃ zq, zq = setI S_58 o 2 x3 := ⟨_, rfl⟩
    have hP : va_P (dC, dI) vwCl (oW cq S_68) H := by rw [eS_68]; exact cP (oset t_66.1 hq_67 hD rfl (he_31_2 t_66.2) neI) hP1
    have hD : va_D A (oW cq S_68) := by rw [eS_68]; exact cD (oset t_66.1 hq_67 hD rfl (he_31_2 t_66.2) neI) hD1
    clear hP1 hD1
    have hIS_68 : oInv S_68 := by rw [eS_68]; exact oInv.I0 (k := 31) (lo := -2147483648) (hi := 2147483647) hIS_58 t_66.2 (by decide) rfl rfl rfl (iv_all _)
    have XS_68 : oX [2031] S_58 S_68 := by rw [eS_68]; exact oX.I (k := 31) (key := 2031) t_66.2 rfl (List.mem_singleton.mpr rfl)
    have pk_69 : oP S_68 o 12 = some q_6 := by rw [eS_68]; exact pk_59
    have pk_70 : oP S_68 o 14 = some q_17 := by rw [eS_68]; exact pk_60
    have pk_71 : oP S_68 o 15 = some q_30 := by rw [eS_68]; exact pk_61
    have pk_72 : oP S_68 o 0 = some a1 := by rw [eS_68]; exact pk_62
    have pk_73 : oP S_68 o 1 = some a2 := by rw [eS_68]; exact pk_65
    have ik_74 : oI S_68 o 13 = 0 := by rw [eS_68, setI_ne (by decide)]; exact ik_63
    have X_75 : oXc ([] : List Nat) o Z S_68 := by rw [eS_68]; exact oXc.I X_64
    refine lv_aload_n hx hb dX1_init_50 rfl (lv_at hl 0 rfl) ?_
    refine lv_aloadN hx hb dX1_init_51 (lv_at hl 4 rfl) ?_
    have t_77 : oty S_68 o 31 := (oX.ty XS_68 t_66)
    obtain ⟨q_78, hq_78⟩ := og (cq := cq) t_77.1 (oE_31 t_77.2)
    refine va_putF (D := (dC, dI)) (ci := 1) (v := .null) (ty := .object "ShipOffice$Agreement") (C := RX1) (T := TX1) (N := 18) hx hb hts in_wsX1_init_X1 tyX1 tyX1_ok nmX1 hown hK hP hD hS q_78 hq_78 rfl 3 (by decide) (hts (.fieldLink RX1 40 "ShipOffice$Agreement" "paper" "LShipOffice$Agreement;") iw_X1_init_12) (fun _ h9 => h9) rfl hin rfl (by decide +kernel) rfl rfl (Nat.le_of_ble_eq_true rfl) dX1_init_53 (fun H locs hP1 hD1 hS => ?_)
    obtain ⟨S_79, eS_79⟩ : ∃ zq, zq = setP S_68 o 3 none := ⟨_, rfl⟩
    have hP : va_P (dC, dI) vwCl (oW cq S_79) H := by rw [eS_79]; exact cP (oset t_77.1 hq_78 hD rfl (he_31_3 t_77.2) neP) hP1
    have hD : va_D A (oW cq S_79) := by rw [eS_79]; exact cD (oset t_77.1 hq_78 hD rfl (he_31_3 t_77.2) neP) hD1
    clear hP1 hD1
    have hIS_79 : oInv S_79 := by rw [eS_79]; exact oInv.Pn (k := 31) hIS_68 t_77.2 (by decide) rfl (by decide) rfl
    have XS_79 : oX [2031] S_68 S_79 := by rw [eS_79]; exact oX.P (k := 31) (key := 2031) t_77.2 rfl (List.mem_singleton.mpr rfl)
    have pk_80 : oP S_79 o 12 = some q_6 := by rw [eS_79, setP_ne (by decide)]; exact pk_69
    have pk_81 : oP S_79 o 14 = some q_17 := by rw [eS_79, setP_ne (by decide)]; exact pk_70
    have pk_82 : oP S_79 o 15 = some q_30 := by rw [eS_79, setP_ne (by decide)]; exact pk_71
    have pk_83 : oP S_79 o 0 = some a1 := by rw [eS_79, setP_ne (by decide)]; exact pk_72
    have pk_84 : oP S_79 o 1 = some a2 := by rw [eS_79, setP_ne (by decide)]; exact pk_73
    have ik_85 : oI S_79 o 13 = 0 := by rw [eS_79]; exact ik_74
    have X_86 : oXc ([] : List Nat) o Z S_79 := by rw [eS_79]; exact oXc.P X_75
    have t_89 : oty S_79 o 31 := (oX.ty XS_79 t_77)
    obtain ⟨S_88, eS_88⟩ : ∃ zq, zq = setK S_79 o 1 := ⟨_, rfl⟩
    have hP : va_P (dC, dI) vwCl (oW cq S_88) H := by rw [eS_88]; exact cP (ret_W (c := 1) t_89.2 (by decide)) hP
    have hD : va_D A (oW cq S_88) := by rw [eS_88]; exact cD (ret_W (c := 1) t_89.2 (by decide)) hD
    have hIS_88 : oInv S_88 := by rw [eS_88]; exact oInv.ret (c := 1) hIS_79 t_89 (by decide) (fun i hi => by rcases nn_1 hi with rfl | rfl | rfl | rfl | rfl <;> first | exact ⟨_, pk_83⟩ | exact ⟨_, pk_84⟩ | exact ⟨_, pk_80⟩ | exact ⟨_, pk_81⟩ | exact ⟨_, pk_82⟩) (fun i p hp => by rcases ct_1 hp with rfl <;> first | (rw [ik_85]; decide)) (fun h => absurd h (by decide)) (fun h => absurd h (by decide)) (fun h => absurd h (by decide))
    have XS_88 : oXc ([] : List Nat) o Z S_88 := by rw [eS_88]; exact oXc.K X_86
    have tS_88 : oty S_88 o 1 := by rw [eS_88]; exact K_ty t_89.1
    have pk_90 : oP S_88 o 12 = some q_6 := by rw [eS_88]; exact pk_80
    have pk_91 : oP S_88 o 14 = some q_17 := by rw [eS_88]; exact pk_81
    have pk_92 : oP S_88 o 15 = some q_30 := by rw [eS_88]; exact pk_82
    have pk_93 : oP S_88 o 0 = some a1 := by rw [eS_88]; exact pk_83
    have pk_94 : oP S_88 o 1 = some a2 := by rw [eS_88]; exact pk_84
    have ik_95 : oI S_88 o 13 = 0 := by rw [eS_88]; exact ik_85
    exact W.vret hx hb hr (fun t ht hW => ⟨⟨S_88, rfl, ⟨hIS_88, XS_88, tS_88⟩, ⟨by rw [ht]; exact hP, va_K.moved hW.alike hK, hD⟩⟩, hS.F ht⟩) hS.2.2 dX1_init_56
  · refine Met.ofW (cc := cX1_init) (maxL := 5) (ret := none) (by decide) rfl ?_
    intro p e s m args below meth c s₁ B hml hv
    obtain ⟨rfl, ⟨hsz, hP, hK, hD0⟩, hZ⟩ := hv
    have hx := B.exec
    have hb := B.bytes
    have hr := B.returns
    have hts := atoms_spec (ws := wsX1_init) B.pre
    have hown : s.vm.findClass RX1 = some m.cls := findClass_of_methodNamed B.named
    have hlocks := B.notSynchronized
    have hin : meth.name = "<init>" := (name_of_methodNamed B.named B.method).1
    subst hsz
    have hD := hD0.self (sz := s.heap.size)
    generalize hAe : va_A (oW cq Z) s.heap.size = A at hD hZ ⊢
    have hA : ∀ q : Nat, s.heap.size ≤ q → A q := fun q h => by rw [← hAe]; exact Or.inr h
    have hS : va_S A s.heap s.heap [] := va_S.rf
    have hP : va_P (dC, dI) vwCl (oW cq Z) s.heap := hP
    have hl := lv_entry ([.ref o, .ref a1, .ref a2, .int x3, va_rf (some br4)]) (n := 5) (Nat.le_of_ble_eq_true rfl)
    rw [lg_entry_eq]
    generalize (lg_sl ([.ref o, .ref a1, .ref a2, .int x3, va_rf (some br4)]) ++ List.replicate (5 - (lg_sl ([.ref o, .ref a1, .ref a2, .int x3, va_rf (some br4)])).length) Slot.unset).toArray = ls at hl ⊢
    have hl : lv_has ls 5 [(0, .ref o), (1, .ref a1), (2, .ref a2), (3, .int x3), (4, va_rf (some br4))] := hl
    have hl : lv_has ls 5 [(0, .ref o), (1, .ref a1), (2, .ref a2), (3, .int x3), (4, .ref br4)] := hl
    have tbbr4 : oty Z br4 1 := tr4 br4 rfl
    refine lv_aload_n hx hb dX1_init_0 rfl (lv_at hl 0 rfl) ?_
    refine W.objInit hx hb hown (hts (.methodLink RX1 3 objectInit) iw_X1_init_1) (hts (.instanceMethod objectInit) iw_X1_init_2) (hts (.code objectInit ⟨#[0xb1]⟩ 1 none) (in_obj_wsX1_init)) rfl (by rw [hml]; exact hl.1) rfl dX1_init_1 (Nat.le_of_ble_eq_true rfl) (Nat.le_of_ble_eq_true rfl) ?_
    refine W.eq (g2 := F0 m 4 ls []) rfl ?_
    refine lv_aload_n hx hb dX1_init_4 rfl (lv_at hl 0 rfl) ?_
    refine lv_ldc (v := 1000000) hx hb hown (hts (.constant RX1 9 (1000000)) (by decide +kernel)) dX1_init_5 ?_
    obtain ⟨q_96, hq_96⟩ := og (cq := cq) to.1 (oE_31 to.2)
    refine va_put (D := (dC, dI)) (ci := 1) (v := .int 1000000) (ty := .int) (C := RX1) (T := TX1) (N := 18) hx hb hts in_wsX1_init_X1 tyX1 tyX1_ok nmX1 hown hK hP hD hS q_96 hq_96 rfl 6 (by decide) (hts (.fieldLink RX1 10 "ShipOffice$Agreement" "offDay" "I") iw_X1_init_3) (fun _ h9 => h9) rfl (by decide +kernel) rfl rfl (Nat.le_of_ble_eq_true rfl) dX1_init_7 (fun H locs hP1 hD1 hS => ?_)
    obtain ⟨S_97, eS_97⟩ : ∃ zq, zq = setI Z o 6 1000000 := ⟨_, rfl⟩
    have hP : va_P (dC, dI) vwCl (oW cq S_97) H := by rw [eS_97]; exact cP (oset to.1 hq_96 hD rfl (he_31_6 to.2) neI) hP1
    have hD : va_D A (oW cq S_97) := by rw [eS_97]; exact cD (oset to.1 hq_96 hD rfl (he_31_6 to.2) neI) hD1
    clear hP1 hD1
    have hIS_97 : oInv S_97 := by rw [eS_97]; exact oInv.I0 (k := 31) (lo := -2147483648) (hi := 2147483647) gI to.2 (by decide) rfl rfl rfl (iv_all _)
    have XS_97 : oX [2031] Z S_97 := by rw [eS_97]; exact oX.I (k := 31) (key := 2031) to.2 rfl (List.mem_singleton.mpr rfl)
    have ik_98 : oI S_97 o 13 = 0 := by rw [eS_97, setI_ne (by decide)]; exact (hz 13)
    have X_99 : oXc ([] : List Nat) o Z S_97 := by rw [eS_97]; exact oXc.I oXc.rf
    refine lv_aload_n hx hb dX1_init_10 rfl (lv_at hl 0 rfl) ?_
    refine lv_bipush (v := 6) hx hb dX1_init_11 (by decide) ?_
    refine va_newq (N' := 6) hx hb hown (hts (.classLink RX1 16 RX2) iw_X1_init_4) hZ.2.2.2.1 hK hP hD hS hA (by decide) (by decide) (by decide) (Nat.le_of_ble_eq_true rfl) (Nat.le_of_ble_eq_true rfl) dX1_init_13 (fun q_101 k_102 H hK1 hP1 hD1 hS => ?_)
    obtain ⟨rfl, -⟩ := lv_ad (k := 6) hK1 rfl
    clear hK1
    have hnq_101 := add_q hD1
    obtain ⟨S_103, eS_103⟩ : ∃ zq, zq = addO S_97 q_101 17 := ⟨_, rfl⟩
    have hP : va_P (dC, dI) vwCl (oW cq S_103) H := by rw [eS_103]; exact cP (onew hD1 (by rw [oE_17 add_K, add_P])) hP1
    have hD : va_D A (oW cq S_103) := by rw [eS_103]; exact cD (onew hD1 (by rw [oE_17 add_K, add_P])) hD1
    clear hP1 hD1
    have hIS_103 : oInv S_103 := by rw [eS_103]; exact oInv.add hIS_97 hnq_101 (by decide)
    have XS_103 : oX [] S_97 S_103 := by rw [eS_103]; exact oX.add hnq_101
    have nzq_101 : q_101 ∉ oL Z := oXc.nin X_99 hnq_101
    have ik_104 : oI S_103 o 13 = 0 := by rw [eS_103, add_In hnq_101 (oX.ty XS_97 to).1]; exact ik_98
    have X_105 : oXc ([] : List Nat) o Z S_103 := oXc.st X_99 XS_103 (by decide)
    have tq_101 : oty S_103 q_101 17 := by rw [eS_103]; exact add_ty
    refine W.widen (k := 1) (n := 6) (Nat.le_of_ble_eq_true rfl) (Nat.le_of_ble_eq_true rfl) ?_
    have t_106 : oty S_103 o 31 := (oX.ty XS_103 (oX.ty XS_97 to))
    obtain ⟨q_107, hq_107⟩ := og (cq := cq) t_106.1 (oE_31 t_106.2)
    refine va_putF (D := (dC, dI)) (ci := 1) (v := .ref q_101) (ty := .array (.object "ShipOffice$Fine")) (C := RX1) (T := TX1) (N := 18) hx hb hts in_wsX1_init_X1 tyX1 tyX1_ok nmX1 hown hK hP hD hS q_107 hq_107 rfl 12 (by decide) (hts (.fieldLink RX1 18 "ShipOffice$Agreement" "fines" "[LShipOffice$Fine;") iw_X1_init_5) (fun _ h9 => h9) rfl hin rfl (by decide +kernel) rfl rfl (Nat.le_of_ble_eq_true rfl) dX1_init_16 (fun H locs hP1 hD1 hS => ?_)
    obtain ⟨S_108, eS_108⟩ : ∃ zq, zq = setP S_103 o 12 (some q_101) := ⟨_, rfl⟩
    have hP : va_P (dC, dI) vwCl (oW cq S_108) H := by rw [eS_108]; exact cP (oset t_106.1 hq_107 hD rfl (he_31_12 t_106.2) neP) hP1
    have hD : va_D A (oW cq S_108) := by rw [eS_108]; exact cD (oset t_106.1 hq_107 hD rfl (he_31_12 t_106.2) neP) hD1
    clear hP1 hD1
    have hIS_108 : oInv S_108 := by rw [eS_108]; exact oInv.P (k := 31) hIS_103 t_106.2 (by decide) rfl (by decide) tq_101 (by decide)
    have XS_108 : oX [2031] S_103 S_108 := by rw [eS_108]; exact oX.P (k := 31) (key := 2031) t_106.2 rfl (List.mem_singleton.mpr rfl)
    have ik_109 : oI S_108 o 13 = 0 := by rw [eS_108]; exact ik_104
    have X_110 : oXc ([] : List Nat) o Z S_108 := by rw [eS_108]; exact oXc.P X_105
    have pk_111 : oP S_108 o 12 = some q_101 := by rw [eS_108, setP_same]
    refine lv_aload_n hx hb dX1_init_19 rfl (lv_at hl 0 rfl) ?_
    refine lv_bipush (v := 20) hx hb dX1_init_20 (by decide) ?_
    refine va_newa (atype := .int) (ty := .int) (a0 := (20, .inl (fun _ => 0))) hx hb (hts (.arrayClass .int) iw_X1_init_6) rfl hK hP hD hS hA (fun _ => rfl) (by decide) (by decide) (by decide) (Nat.le_of_ble_eq_true rfl) (Nat.le_of_ble_eq_true rfl) dX1_init_22 (fun q_112 k_113 H hK1 hP1 hD1 hS => ?_)
    obtain ⟨rfl, -⟩ := lv_ad (k := 0) hK1 rfl
    clear hK1
    have hnq_112 := add_q hD1
    obtain ⟨S_114, eS_114⟩ : ∃ zq, zq = addO S_108 q_112 120 := ⟨_, rfl⟩
    have hP : va_P (dC, dI) vwCl (oW cq S_114) H := by rw [eS_114]; exact cP (onew hD1 (by rw [oE_a1 (n := 20) add_K (by decide), add_I])) hP1
    have hD : va_D A (oW cq S_114) := by rw [eS_114]; exact cD (onew hD1 (by rw [oE_a1 (n := 20) add_K (by decide), add_I])) hD1
    clear hP1 hD1
    have hIS_114 : oInv S_114 := by rw [eS_114]; exact oInv.add hIS_108 hnq_112 (by decide)
    have XS_114 : oX [] S_108 S_114 := by rw [eS_114]; exact oX.add hnq_112
    have nzq_112 : q_112 ∉ oL Z := oXc.nin X_110 hnq_112
    have pk_115 : oP S_114 o 12 = some q_101 := by rw [eS_114, add_Pn hnq_112 (oX.ty XS_108 t_106).1]; exact pk_111
    have ik_116 : oI S_114 o 13 = 0 := by rw [eS_114, add_In hnq_112 (oX.ty XS_108 t_106).1]; exact ik_109
    have X_117 : oXc ([] : List Nat) o Z S_114 := oXc.st X_110 XS_114 (by decide)
    have tq_112 : oty S_114 q_112 120 := by rw [eS_114]; exact add_ty
    refine W.widen (k := 2) (n := 26) (Nat.le_of_ble_eq_true rfl) (Nat.le_of_ble_eq_true rfl) ?_
    have t_118 : oty S_114 o 31 := (oX.ty XS_114 (oX.ty XS_108 t_106))
    obtain ⟨q_119, hq_119⟩ := og (cq := cq) t_118.1 (oE_31 t_118.2)
    refine va_putF (D := (dC, dI)) (ci := 1) (v := .ref q_112) (ty := .array .int) (C := RX1) (T := TX1) (N := 18) hx hb hts in_wsX1_init_X1 tyX1 tyX1_ok nmX1 hown hK hP hD hS q_119 hq_119 rfl 14 (by decide) (hts (.fieldLink RX1 22 "ShipOffice$Agreement" "shortTold" "[I") iw_X1_init_7) (fun _ h9 => h9) rfl hin rfl (by decide +kernel) rfl rfl (Nat.le_of_ble_eq_true rfl) dX1_init_24 (fun H locs hP1 hD1 hS => ?_)
    obtain ⟨S_120, eS_120⟩ : ∃ zq, zq = setP S_114 o 14 (some q_112) := ⟨_, rfl⟩
    have hP : va_P (dC, dI) vwCl (oW cq S_120) H := by rw [eS_120]; exact cP (oset t_118.1 hq_119 hD rfl (he_31_14 t_118.2) neP) hP1
    have hD : va_D A (oW cq S_120) := by rw [eS_120]; exact cD (oset t_118.1 hq_119 hD rfl (he_31_14 t_118.2) neP) hD1
    clear hP1 hD1
    have hIS_120 : oInv S_120 := by rw [eS_120]; exact oInv.P (k := 31) hIS_114 t_118.2 (by decide) rfl (by decide) tq_112 (by decide)
    have XS_120 : oX [2031] S_114 S_120 := by rw [eS_120]; exact oX.P (k := 31) (key := 2031) t_118.2 rfl (List.mem_singleton.mpr rfl)
    have pk_121 : oP S_120 o 12 = some q_101 := by rw [eS_120, setP_ne (by decide)]; exact pk_115
    have ik_122 : oI S_120 o 13 = 0 := by rw [eS_120]; exact ik_116
    have X_123 : oXc ([] : List Nat) o Z S_120 := by rw [eS_120]; exact oXc.P X_117
    have pk_124 : oP S_120 o 14 = some q_112 := by rw [eS_120, setP_same]
    refine lv_aload_n hx hb dX1_init_27 rfl (lv_at hl 0 rfl) ?_
    refine lv_bipush (v := 20) hx hb dX1_init_28 (by decide) ?_
    refine va_newa (atype := .int) (ty := .int) (a0 := (20, .inl (fun _ => 0))) hx hb (hts (.arrayClass .int) iw_X1_init_6) rfl hK hP hD hS hA (fun _ => rfl) (by decide) (by decide) (by decide) (Nat.le_of_ble_eq_true rfl) (Nat.le_of_ble_eq_true rfl) dX1_init_30 (fun q_125 k_126 H hK1 hP1 hD1 hS => ?_)
    obtain ⟨rfl, -⟩ := lv_ad (k := 0) hK1 rfl
    clear hK1
    have hnq_125 := add_q hD1
    obtain ⟨S_127, eS_127⟩ : ∃ zq, zq = addO S_120 q_125 64 := ⟨_, rfl⟩
    have hP : va_P (dC, dI) vwCl (oW cq S_127) H := by rw [eS_127]; exact cP (onew hD1 (by rw [oE_64 add_K, add_I])) hP1
    have hD : va_D A (oW cq S_127) := by rw [eS_127]; exact cD (onew hD1 (by rw [oE_64 add_K, add_I])) hD1
    clear hP1 hD1
    have hIS_127 : oInv S_127 := by rw [eS_127]; exact oInv.add hIS_120 hnq_125 (by decide)
    have XS_127 : oX [] S_120 S_127 := by rw [eS_127]; exact oX.add hnq_125
    have nzq_125 : q_125 ∉ oL Z := oXc.nin X_123 hnq_125
    have pk_128 : oP S_127 o 12 = some q_101 := by rw [eS_127, add_Pn hnq_125 (oX.ty XS_120 t_118).1]; exact pk_121
    have pk_129 : oP S_127 o 14 = some q_112 := by rw [eS_127, add_Pn hnq_125 (oX.ty XS_120 t_118).1]; exact pk_124
    have ik_130 : oI S_127 o 13 = 0 := by rw [eS_127, add_In hnq_125 (oX.ty XS_120 t_118).1]; exact ik_122
    have X_131 : oXc ([] : List Nat) o Z S_127 := oXc.st X_123 XS_127 (by decide)
    have tq_125 : oty S_127 q_125 64 := by rw [eS_127]; exact add_ty
    refine W.widen (k := 3) (n := 46) (Nat.le_of_ble_eq_true rfl) (Nat.le_of_ble_eq_true rfl) ?_
    have t_132 : oty S_127 o 31 := (oX.ty XS_127 (oX.ty XS_120 t_118))
    obtain ⟨q_133, hq_133⟩ := og (cq := cq) t_132.1 (oE_31 t_132.2)
    refine va_putF (D := (dC, dI)) (ci := 1) (v := .ref q_125) (ty := .array .int) (C := RX1) (T := TX1) (N := 18) hx hb hts in_wsX1_init_X1 tyX1 tyX1_ok nmX1 hown hK hP hD hS q_133 hq_133 rfl 15 (by decide) (hts (.fieldLink RX1 26 "ShipOffice$Agreement" "shortSum" "[I") iw_X1_init_8) (fun _ h9 => h9) rfl hin rfl (by decide +kernel) rfl rfl (Nat.le_of_ble_eq_true rfl) dX1_init_32 (fun H locs hP1 hD1 hS => ?_)
    obtain ⟨S_134, eS_134⟩ : ∃ zq, zq = setP S_127 o 15 (some q_125) := ⟨_, rfl⟩
    have hP : va_P (dC, dI) vwCl (oW cq S_134) H := by rw [eS_134]; exact cP (oset t_132.1 hq_133 hD rfl (he_31_15 t_132.2) neP) hP1
    have hD : va_D A (oW cq S_134) := by rw [eS_134]; exact cD (oset t_132.1 hq_133 hD rfl (he_31_15 t_132.2) neP) hD1
    clear hP1 hD1
    have hIS_134 : oInv S_134 := by rw [eS_134]; exact oInv.P (k := 31) hIS_127 t_132.2 (by decide) rfl (by decide) tq_125 (by decide)
    have XS_134 : oX [2031] S_127 S_134 := by rw [eS_134]; exact oX.P (k := 31) (key := 2031) t_132.2 rfl (List.mem_singleton.mpr rfl)
    have pk_135 : oP S_134 o 12 = some q_101 := by rw [eS_134, setP_ne (by decide)]; exact pk_128
    have pk_136 : oP S_134 o 14 = some q_112 := by rw [eS_134, setP_ne (by decide)]; exact pk_129
    have ik_137 : oI S_134 o 13 = 0 := by rw [eS_134]; exact ik_130
    have X_138 : oXc ([] : List Nat) o Z S_134 := by rw [eS_134]; exact oXc.P X_131
    have pk_139 : oP S_134 o 15 = some q_125 := by rw [eS_134, setP_same]
    refine lv_aload_n hx hb dX1_init_35 rfl (lv_at hl 0 rfl) ?_
    refine lv_aload_n hx hb dX1_init_36 rfl (lv_at hl 1 rfl) ?_
    have t_140 : oty S_134 o 31 := (oX.ty XS_134 t_132)
    obtain ⟨q_141, hq_141⟩ := og (cq := cq) t_140.1 (oE_31 t_140.2)
    have t_142 : oty S_134 a1 6 := (oX.ty XS_134 (oX.ty XS_127 (oX.ty XS_120 (oX.ty XS_114 (oX.ty XS_108 (oX.ty XS_103 (oX.ty XS_97 ta1)))))))
    refine va_putF (D := (dC, dI)) (ci := 1) (v := .ref a1) (ty := .object "ShipOffice$Man") (C := RX1) (T := TX1) (N := 18) hx hb hts in_wsX1_init_X1 tyX1 tyX1_ok nmX1 hown hK hP hD hS q_141 hq_141 rfl 0 (by decide) (hts (.fieldLink RX1 29 "ShipOffice$Agreement" "man" "LShipOffice$Man;") iw_X1_init_9) (fun _ h9 => h9) rfl hin rfl (by decide +kernel) rfl rfl (Nat.le_of_ble_eq_true rfl) dX1_init_37 (fun H locs hP1 hD1 hS => ?_)
    obtain ⟨S_143, eS_143⟩ : ∃ zq, zq = setP S_134 o 0 (some a1) := ⟨_, rfl⟩
    have hP : va_P (dC, dI) vwCl (oW cq S_143) H := by rw [eS_143]; exact cP (oset t_140.1 hq_141 hD rfl (he_31_0 t_140.2) neP) hP1
    have hD : va_D A (oW cq S_143) := by rw [eS_143]; exact cD (oset t_140.1 hq_141 hD rfl (he_31_0 t_140.2) neP) hD1
    clear hP1 hD1
    have hIS_143 : oInv S_143 := by rw [eS_143]; exact oInv.P (k := 31) hIS_134 t_140.2 (by decide) rfl (by decide) t_142 (by decide)
    have XS_143 : oX [2031] S_134 S_143 := by rw [eS_143]; exact oX.P (k := 31) (key := 2031) t_140.2 rfl (List.mem_singleton.mpr rfl)
    have pk_144 : oP S_143 o 12 = some q_101 := by rw [eS_143, setP_ne (by decide)]; exact pk_135
    have pk_145 : oP S_143 o 14 = some q_112 := by rw [eS_143, setP_ne (by decide)]; exact pk_136
    have pk_146 : oP S_143 o 15 = some q_125 := by rw [eS_143, setP_ne (by decide)]; exact pk_139
    have ik_147 : oI S_143 o 13 = 0 := by rw [eS_143]; exact ik_137
    have X_148 : oXc ([] : List Nat) o Z S_143 := by rw [eS_143]; exact oXc.P X_138
    have pk_149 : oP S_143 o 0 = some a1 := by rw [eS_143, setP_same]
    refine lv_aload_n hx hb dX1_init_40 rfl (lv_at hl 0 rfl) ?_
    refine lv_aload_n hx hb dX1_init_41 rfl (lv_at hl 2 rfl) ?_
    have t_150 : oty S_143 o 31 := (oX.ty XS_143 t_140)
    obtain ⟨q_151, hq_151⟩ := og (cq := cq) t_150.1 (oE_31 t_150.2)
    have t_152 : oty S_143 a2 9 := (oX.ty XS_143 (oX.ty XS_134 (oX.ty XS_127 (oX.ty XS_120 (oX.ty XS_114 (oX.ty XS_108 (oX.ty XS_103 (oX.ty XS_97 ta2))))))))
    refine va_putF (D := (dC, dI)) (ci := 1) (v := .ref a2) (ty := .object "ShipOffice$Voyage") (C := RX1) (T := TX1) (N := 18) hx hb hts in_wsX1_init_X1 tyX1 tyX1_ok nmX1 hown hK hP hD hS q_151 hq_151 rfl 1 (by decide) (hts (.fieldLink RX1 33 "ShipOffice$Agreement" "voyage" "LShipOffice$Voyage;") iw_X1_init_10) (fun _ h9 => h9) rfl hin rfl (by decide +kernel) rfl rfl (Nat.le_of_ble_eq_true rfl) dX1_init_42 (fun H locs hP1 hD1 hS => ?_)
    obtain ⟨S_153, eS_153⟩ : ∃ zq, zq = setP S_143 o 1 (some a2) := ⟨_, rfl⟩
    have hP : va_P (dC, dI) vwCl (oW cq S_153) H := by rw [eS_153]; exact cP (oset t_150.1 hq_151 hD rfl (he_31_1 t_150.2) neP) hP1
    have hD : va_D A (oW cq S_153) := by rw [eS_153]; exact cD (oset t_150.1 hq_151 hD rfl (he_31_1 t_150.2) neP) hD1
    clear hP1 hD1
    have hIS_153 : oInv S_153 := by rw [eS_153]; exact oInv.P (k := 31) hIS_143 t_150.2 (by decide) rfl (by decide) t_152 (by decide)
    have XS_153 : oX [2031] S_143 S_153 := by rw [eS_153]; exact oX.P (k := 31) (key := 2031) t_150.2 rfl (List.mem_singleton.mpr rfl)
    have pk_154 : oP S_153 o 12 = some q_101 := by rw [eS_153, setP_ne (by decide)]; exact pk_144
    have pk_155 : oP S_153 o 14 = some q_112 := by rw [eS_153, setP_ne (by decide)]; exact pk_145
    have pk_156 : oP S_153 o 15 = some q_125 := by rw [eS_153, setP_ne (by decide)]; exact pk_146
    have pk_157 : oP S_153 o 0 = some a1 := by rw [eS_153, setP_ne (by decide)]; exact pk_149
    have ik_158 : oI S_153 o 13 = 0 := by rw [eS_153]; exact ik_147
    have X_159 : oXc ([] : List Nat) o Z S_153 := by rw [eS_153]; exact oXc.P X_148
    have pk_160 : oP S_153 o 1 = some a2 := by rw [eS_153, setP_same]
    refine lv_aload_n hx hb dX1_init_45 rfl (lv_at hl 0 rfl) ?_
    refine lv_iload_n hx hb dX1_init_46 rfl (lv_at hl 3 rfl) ?_
    have t_161 : oty S_153 o 31 := (oX.ty XS_153 t_150)
    obtain ⟨q_162, hq_162⟩ := og (cq := cq) t_161.1 (oE_31 t_161.2)
    refine va_putF (D := (dC, dI)) (ci := 1) (v := .int x3) (ty := .int) (C := RX1) (T := TX1) (N := 18) hx hb hts in_wsX1_init_X1 tyX1 tyX1_ok nmX1 hown hK hP hD hS q_162 hq_162 rfl 2 (by decide) (hts (.fieldLink RX1 37 "ShipOffice$Agreement" "signedOn" "I") iw_X1_init_11) (fun _ h9 => h9) rfl hin rfl (by decide +kernel) rfl rfl (Nat.le_of_ble_eq_true rfl) dX1_init_47 (fun H locs hP1 hD1 hS => ?_)
    obtain ⟨S_163, eS_163⟩ : ∃ zq, zq = setI S_153 o 2 x3 := ⟨_, rfl⟩
    have hP : va_P (dC, dI) vwCl (oW cq S_163) H := by rw [eS_163]; exact cP (oset t_161.1 hq_162 hD rfl (he_31_2 t_161.2) neI) hP1
    have hD : va_D A (oW cq S_163) := by rw [eS_163]; exact cD (oset t_161.1 hq_162 hD rfl (he_31_2 t_161.2) neI) hD1
    clear hP1 hD1
    have hIS_163 : oInv S_163 := by rw [eS_163]; exact oInv.I0 (k := 31) (lo := -2147483648) (hi := 2147483647) hIS_153 t_161.2 (by decide) rfl rfl rfl (iv_all _)
    have XS_163 : oX [2031] S_153 S_163 := by rw [eS_163]; exact oX.I (k := 31) (key := 2031) t_161.2 rfl (List.mem_singleton.mpr rfl)
    have pk_164 : oP S_163 o 12 = some q_101 := by rw [eS_163]; exact pk_154
    have pk_165 : oP S_163 o 14 = some q_112 := by rw [eS_163]; exact pk_155
    have pk_166 : oP S_163 o 15 = some q_125 := by rw [eS_163]; exact pk_156
    have pk_167 : oP S_163 o 0 = some a1 := by rw [eS_163]; exact pk_157
    have pk_168 : oP S_163 o 1 = some a2 := by rw [eS_163]; exact pk_160
    have ik_169 : oI S_163 o 13 = 0 := by rw [eS_163, setI_ne (by decide)]; exact ik_158
    have X_170 : oXc ([] : List Nat) o Z S_163 := by rw [eS_163]; exact oXc.I X_159
    refine lv_aload_n hx hb dX1_init_50 rfl (lv_at hl 0 rfl) ?_
    refine lv_aload hx hb dX1_init_51 (lv_at hl 4 rfl) ?_
    have t_172 : oty S_163 o 31 := (oX.ty XS_163 t_161)
    obtain ⟨q_173, hq_173⟩ := og (cq := cq) t_172.1 (oE_31 t_172.2)
    have t_174 : oty S_163 br4 1 := (oX.ty XS_163 (oX.ty XS_153 (oX.ty XS_143 (oX.ty XS_134 (oX.ty XS_127 (oX.ty XS_120 (oX.ty XS_114 (oX.ty XS_108 (oX.ty XS_103 (oX.ty XS_97 tbbr4))))))))))
    refine va_putF (D := (dC, dI)) (ci := 1) (v := .ref br4) (ty := .object "ShipOffice$Agreement") (C := RX1) (T := TX1) (N := 18) hx hb hts in_wsX1_init_X1 tyX1 tyX1_ok nmX1 hown hK hP hD hS q_173 hq_173 rfl 3 (by decide) (hts (.fieldLink RX1 40 "ShipOffice$Agreement" "paper" "LShipOffice$Agreement;") iw_X1_init_12) (fun _ h9 => h9) rfl hin rfl (by decide +kernel) rfl rfl (Nat.le_of_ble_eq_true rfl) dX1_init_53 (fun H locs hP1 hD1 hS => ?_)
    obtain ⟨S_175, eS_175⟩ : ∃ zq, zq = setP S_163 o 3 (some br4) := ⟨_, rfl⟩
    have hP : va_P (dC, dI) vwCl (oW cq S_175) H := by rw [eS_175]; exact cP (oset t_172.1 hq_173 hD rfl (he_31_3 t_172.2) neP) hP1
    have hD : va_D A (oW cq S_175) := by rw [eS_175]; exact cD (oset t_172.1 hq_173 hD rfl (he_31_3 t_172.2) neP) hD1
    clear hP1 hD1
    have hIS_175 : oInv S_175 := by rw [eS_175]; exact oInv.P (k := 31) hIS_163 t_172.2 (by decide) rfl (by decide) t_174 (by decide)
    have XS_175 : oX [2031] S_163 S_175 := by rw [eS_175]; exact oX.P (k := 31) (key := 2031) t_172.2 rfl (List.mem_singleton.mpr rfl)
    have pk_176 : oP S_175 o 12 = some q_101 := by rw [eS_175, setP_ne (by decide)]; exact pk_164
    have pk_177 : oP S_175 o 14 = some q_112 := by rw [eS_175, setP_ne (by decide)]; exact pk_165
    have pk_178 : oP S_175 o 15 = some q_125 := by rw [eS_175, setP_ne (by decide)]; exact pk_166
    have pk_179 : oP S_175 o 0 = some a1 := by rw [eS_175, setP_ne (by decide)]; exact pk_167
    have pk_180 : oP S_175 o 1 = some a2 := by rw [eS_175, setP_ne (by decide)]; exact pk_168
    have ik_181 : oI S_175 o 13 = 0 := by rw [eS_175]; exact ik_169
    have X_182 : oXc ([] : List Nat) o Z S_175 := by rw [eS_175]; exact oXc.P X_170
    have pk_183 : oP S_175 o 3 = some br4 := by rw [eS_175, setP_same]
    have t_185 : oty S_175 o 31 := (oX.ty XS_175 t_172)
    obtain ⟨S_184, eS_184⟩ : ∃ zq, zq = setK S_175 o 1 := ⟨_, rfl⟩
    have hP : va_P (dC, dI) vwCl (oW cq S_184) H := by rw [eS_184]; exact cP (ret_W (c := 1) t_185.2 (by decide)) hP
    have hD : va_D A (oW cq S_184) := by rw [eS_184]; exact cD (ret_W (c := 1) t_185.2 (by decide)) hD
    have hIS_184 : oInv S_184 := by rw [eS_184]; exact oInv.ret (c := 1) hIS_175 t_185 (by decide) (fun i hi => by rcases nn_1 hi with rfl | rfl | rfl | rfl | rfl <;> first | exact ⟨_, pk_179⟩ | exact ⟨_, pk_180⟩ | exact ⟨_, pk_183⟩ | exact ⟨_, pk_176⟩ | exact ⟨_, pk_177⟩ | exact ⟨_, pk_178⟩) (fun i p hp => by rcases ct_1 hp with rfl <;> first | (rw [ik_181]; decide)) (fun h => absurd h (by decide)) (fun h => absurd h (by decide)) (fun h => absurd h (by decide))
    have XS_184 : oXc ([] : List Nat) o Z S_184 := by rw [eS_184]; exact oXc.K X_182
    have tS_184 : oty S_184 o 1 := by rw [eS_184]; exact K_ty t_185.1
    have pk_186 : oP S_184 o 12 = some q_101 := by rw [eS_184]; exact pk_176
    have pk_187 : oP S_184 o 14 = some q_112 := by rw [eS_184]; exact pk_177
    have pk_188 : oP S_184 o 15 = some q_125 := by rw [eS_184]; exact pk_178
    have pk_189 : oP S_184 o 0 = some a1 := by rw [eS_184]; exact pk_179
    have pk_190 : oP S_184 o 1 = some a2 := by rw [eS_184]; exact pk_180
    have pk_191 : oP S_184 o 3 = some br4 := by rw [eS_184]; exact pk_183
    have ik_192 : oI S_184 o 13 = 0 := by rw [eS_184]; exact ik_181
    exact W.vret hx hb hr (fun t ht hW => ⟨⟨S_184, rfl, ⟨hIS_184, XS_184, tS_184⟩, ⟨by rw [ht]; exact hP, va_K.moved hW.alike hK, hD⟩⟩, hS.F ht⟩) hS.2.2 dX1_init_56
