abbrev cX1_init : ByteArray := prog_3_method_1_code
def yX1_init : MethodName := ⟨RX1, "<init>", "(LShipOffice$Man;LShipOffice$Voyage;ILShipOffice$Agreement;)V"⟩
abbrev cX2_init : ByteArray := prog_4_method_1_code
def yX2_init : MethodName := ⟨RX2, "<init>", "(IIZ)V"⟩
def tyX3 : Nat → FieldType := fun k => match k with
  | 0 => .int
  | 1 => .int
  | 2 => .int
  | 3 => .int
  | 4 => .int
  | _ => .object "ShipOffice$Happening"
theorem nmX3 : ∀ a, a < 6 → ∀ b, b < 6 → a ≠ b → (TX3 a).2.1 ≠ (TX3 b).2.1 := by decide +kernel
theorem tyX3_ok : ∀ k, k < 6 → parseFieldDescriptor (TX3 k).2.2.1 = some (tyX3 k) := by decide +kernel
abbrev cX3_init : ByteArray := prog_5_method_1_code
def yX3_init : MethodName := ⟨RX3, "<init>", "(IIIIILShipOffice$Happening;)V"⟩
abbrev cX6_init : ByteArray := prog_8_method_1_code
def yX6_init : MethodName := ⟨RX6, "<init>", "(IIII)V"⟩
abbrev cX9_init : ByteArray := prog_11_method_1_code
def yX9_init : MethodName := ⟨RX9, "<init>", "(IIII)V"⟩
def wsX1_init : List Cond := .code yX1_init cX1_init 5 none :: ([.methodLink RX1 3 objectInit, .instanceMethod objectInit, .code objectInit ⟨#[0xb1]⟩ 1 none, .constant RX1 9 (1000000), .fieldLink RX1 10 "ShipOffice$Agreement" "offDay" "I", .classLink RX1 16 RX2, .fieldLink RX1 18 "ShipOffice$Agreement" "fines" "[LShipOffice$Fine;", .arrayClass .int, .fieldLink RX1 22 "ShipOffice$Agreement" "shortTold" "[I", .fieldLink RX1 26 "ShipOffice$Agreement" "shortSum" "[I", .fieldLink RX1 29 "ShipOffice$Agreement" "man" "LShipOffice$Man;", .fieldLink RX1 33 "ShipOffice$Agreement" "voyage" "LShipOffice$Voyage;", .fieldLink RX1 37 "ShipOffice$Agreement" "signedOn" "I", .fieldLink RX1 40 "ShipOffice$Agreement" "paper" "LShipOffice$Agreement;"] ++ wsX10)
theorem il_X1_init_1 : ∀ w ∈ ([.methodLink RX1 3 objectInit, .instanceMethod objectInit, .code objectInit ⟨#[0xb1]⟩ 1 none, .constant RX1 9 (1000000), .fieldLink RX1 10 "ShipOffice$Agreement" "offDay" "I", .classLink RX1 16 RX2, .fieldLink RX1 18 "ShipOffice$Agreement" "fines" "[LShipOffice$Fine;", .arrayClass .int, .fieldLink RX1 22 "ShipOffice$Agreement" "shortTold" "[I", .fieldLink RX1 26 "ShipOffice$Agreement" "shortSum" "[I", .fieldLink RX1 29 "ShipOffice$Agreement" "man" "LShipOffice$Man;", .fieldLink RX1 33 "ShipOffice$Agreement" "voyage" "LShipOffice$Voyage;", .fieldLink RX1 37 "ShipOffice$Agreement" "signedOn" "I", .fieldLink RX1 40 "ShipOffice$Agreement" "paper" "LShipOffice$Agreement;"] : List Cond), w ∈ wsX1_init := fun w h => (List.mem_cons_of_mem _ (List.mem_append_left _ h))
theorem iw_X1_init_1 : Cond.methodLink RX1 3 objectInit ∈ wsX1_init := (mmI il_X1_init_1 0 rfl)
theorem iw_X1_init_2 : Cond.instanceMethod objectInit ∈ wsX1_init := (mmI il_X1_init_1 1 rfl)
theorem iw_X1_init_3 : Cond.fieldLink RX1 10 "ShipOffice$Agreement" "offDay" "I" ∈ wsX1_init := (mmI il_X1_init_1 4 rfl)
theorem iw_X1_init_4 : Cond.classLink RX1 16 RX2 ∈ wsX1_init := (mmI il_X1_init_1 5 rfl)
theorem iw_X1_init_5 : Cond.fieldLink RX1 18 "ShipOffice$Agreement" "fines" "[LShipOffice$Fine;" ∈ wsX1_init := (mmI il_X1_init_1 6 rfl)
theorem iw_X1_init_6 : Cond.arrayClass .int ∈ wsX1_init := (mmI il_X1_init_1 7 rfl)
theorem iw_X1_init_7 : Cond.fieldLink RX1 22 "ShipOffice$Agreement" "shortTold" "[I" ∈ wsX1_init := (mmI il_X1_init_1 8 rfl)
theorem iw_X1_init_8 : Cond.fieldLink RX1 26 "ShipOffice$Agreement" "shortSum" "[I" ∈ wsX1_init := (mmI il_X1_init_1 9 rfl)
theorem iw_X1_init_9 : Cond.fieldLink RX1 29 "ShipOffice$Agreement" "man" "LShipOffice$Man;" ∈ wsX1_init := (mmI il_X1_init_1 10 rfl)
theorem iw_X1_init_10 : Cond.fieldLink RX1 33 "ShipOffice$Agreement" "voyage" "LShipOffice$Voyage;" ∈ wsX1_init := (mmI il_X1_init_1 11 rfl)
theorem iw_X1_init_11 : Cond.fieldLink RX1 37 "ShipOffice$Agreement" "signedOn" "I" ∈ wsX1_init := (mmI il_X1_init_1 12 rfl)
theorem iw_X1_init_12 : Cond.fieldLink RX1 40 "ShipOffice$Agreement" "paper" "LShipOffice$Agreement;" ∈ wsX1_init := (mmI il_X1_init_1 13 rfl)
def wsX2_init : List Cond := .code yX2_init cX2_init 4 none :: ([.methodLink RX2 1 objectInit, .instanceMethod objectInit, .code objectInit ⟨#[0xb1]⟩ 1 none, .fieldLink RX2 7 "ShipOffice$Fine" "day" "I", .fieldLink RX2 13 "ShipOffice$Fine" "sum" "I", .fieldLink RX2 16 "ShipOffice$Fine" "isRead" "Z"] ++ wsX20)
theorem il_X2_init_1 : ∀ w ∈ ([.methodLink RX2 1 objectInit, .instanceMethod objectInit, .code objectInit ⟨#[0xb1]⟩ 1 none, .fieldLink RX2 7 "ShipOffice$Fine" "day" "I", .fieldLink RX2 13 "ShipOffice$Fine" "sum" "I", .fieldLink RX2 16 "ShipOffice$Fine" "isRead" "Z"] : List Cond), w ∈ wsX2_init := fun w h => (List.mem_cons_of_mem _ (List.mem_append_left _ h))
theorem iw_X2_init_1 : Cond.methodLink RX2 1 objectInit ∈ wsX2_init := (mmI il_X2_init_1 0 rfl)
theorem iw_X2_init_2 : Cond.instanceMethod objectInit ∈ wsX2_init := (mmI il_X2_init_1 1 rfl)
theorem iw_X2_init_3 : Cond.fieldLink RX2 7 "ShipOffice$Fine" "day" "I" ∈ wsX2_init := (mmI il_X2_init_1 3 rfl)
theorem iw_X2_init_4 : Cond.fieldLink RX2 13 "ShipOffice$Fine" "sum" "I" ∈ wsX2_init := (mmI il_X2_init_1 4 rfl)
theorem iw_X2_init_5 : Cond.fieldLink RX2 16 "ShipOffice$Fine" "isRead" "Z" ∈ wsX2_init := (mmI il_X2_init_1 5 rfl)
def wsX3_init : List Cond := .code yX3_init cX3_init 7 none :: ([.methodLink RX3 1 objectInit, .instanceMethod objectInit, .code objectInit ⟨#[0xb1]⟩ 1 none, .fieldLink RX3 7 "ShipOffice$Happening" "kind" "I", .fieldLink RX3 13 "ShipOffice$Happening" "day" "I", .fieldLink RX3 16 "ShipOffice$Happening" "told" "I", .fieldLink RX3 19 "ShipOffice$Happening" "way" "I", .fieldLink RX3 22 "ShipOffice$Happening" "port" "I", .fieldLink RX3 25 "ShipOffice$Happening" "before" "LShipOffice$Happening;"] ++ wsX30)
theorem il_X3_init_1 : ∀ w ∈ ([.methodLink RX3 1 objectInit, .instanceMethod objectInit, .code objectInit ⟨#[0xb1]⟩ 1 none, .fieldLink RX3 7 "ShipOffice$Happening" "kind" "I", .fieldLink RX3 13 "ShipOffice$Happening" "day" "I", .fieldLink RX3 16 "ShipOffice$Happening" "told" "I", .fieldLink RX3 19 "ShipOffice$Happening" "way" "I", .fieldLink RX3 22 "ShipOffice$Happening" "port" "I", .fieldLink RX3 25 "ShipOffice$Happening" "before" "LShipOffice$Happening;"] : List Cond), w ∈ wsX3_init := fun w h => (List.mem_cons_of_mem _ (List.mem_append_left _ h))
theorem iw_X3_init_1 : Cond.methodLink RX3 1 objectInit ∈ wsX3_init := (mmI il_X3_init_1 0 rfl)
theorem iw_X3_init_2 : Cond.instanceMethod objectInit ∈ wsX3_init := (mmI il_X3_init_1 1 rfl)
theorem iw_X3_init_3 : Cond.fieldLink RX3 7 "ShipOffice$Happening" "kind" "I" ∈ wsX3_init := (mmI il_X3_init_1 3 rfl)
theorem iw_X3_init_4 : Cond.fieldLink RX3 13 "ShipOffice$Happening" "day" "I" ∈ wsX3_init := (mmI il_X3_init_1 4 rfl)
theorem iw_X3_init_5 : Cond.fieldLink RX3 16 "ShipOffice$Happening" "told" "I" ∈ wsX3_init := (mmI il_X3_init_1 5 rfl)
theorem iw_X3_init_6 : Cond.fieldLink RX3 19 "ShipOffice$Happening" "way" "I" ∈ wsX3_init := (mmI il_X3_init_1 6 rfl)
theorem iw_X3_init_7 : Cond.fieldLink RX3 22 "ShipOffice$Happening" "port" "I" ∈ wsX3_init := (mmI il_X3_init_1 7 rfl)
theorem iw_X3_init_8 : Cond.fieldLink RX3 25 "ShipOffice$Happening" "before" "LShipOffice$Happening;" ∈ wsX3_init := (mmI il_X3_init_1 8 rfl)
def wsX6_init : List Cond := .code yX6_init cX6_init 5 none :: ([.methodLink RX6 3 objectInit, .instanceMethod objectInit, .code objectInit ⟨#[0xb1]⟩ 1 none, .arrayClass .int, .fieldLink RX6 9 "ShipOffice$Man" "wages" "[I", .fieldLink RX6 15 "ShipOffice$Man" "number" "I", .fieldLink RX6 19 "ShipOffice$Man" "name" "I", .fieldLink RX6 22 "ShipOffice$Man" "marks" "I", .fieldLink RX6 25 "ShipOffice$Man" "born" "I", .fieldLink RX6 28 "ShipOffice$Man" "leastAlike" "I"] ++ wsX60)
theorem il_X6_init_1 : ∀ w ∈ ([.methodLink RX6 3 objectInit, .instanceMethod objectInit, .code objectInit ⟨#[0xb1]⟩ 1 none, .arrayClass .int, .fieldLink RX6 9 "ShipOffice$Man" "wages" "[I", .fieldLink RX6 15 "ShipOffice$Man" "number" "I", .fieldLink RX6 19 "ShipOffice$Man" "name" "I", .fieldLink RX6 22 "ShipOffice$Man" "marks" "I", .fieldLink RX6 25 "ShipOffice$Man" "born" "I", .fieldLink RX6 28 "ShipOffice$Man" "leastAlike" "I"] : List Cond), w ∈ wsX6_init := fun w h => (List.mem_cons_of_mem _ (List.mem_append_left _ h))
theorem iw_X6_init_1 : Cond.methodLink RX6 3 objectInit ∈ wsX6_init := (mmI il_X6_init_1 0 rfl)
theorem iw_X6_init_2 : Cond.instanceMethod objectInit ∈ wsX6_init := (mmI il_X6_init_1 1 rfl)
theorem iw_X6_init_3 : Cond.arrayClass .int ∈ wsX6_init := (mmI il_X6_init_1 3 rfl)
theorem iw_X6_init_4 : Cond.fieldLink RX6 9 "ShipOffice$Man" "wages" "[I" ∈ wsX6_init := (mmI il_X6_init_1 4 rfl)
theorem iw_X6_init_5 : Cond.fieldLink RX6 15 "ShipOffice$Man" "number" "I" ∈ wsX6_init := (mmI il_X6_init_1 5 rfl)
theorem iw_X6_init_6 : Cond.fieldLink RX6 19 "ShipOffice$Man" "name" "I" ∈ wsX6_init := (mmI il_X6_init_1 6 rfl)
theorem iw_X6_init_7 : Cond.fieldLink RX6 22 "ShipOffice$Man" "marks" "I" ∈ wsX6_init := (mmI il_X6_init_1 7 rfl)
theorem iw_X6_init_8 : Cond.fieldLink RX6 25 "ShipOffice$Man" "born" "I" ∈ wsX6_init := (mmI il_X6_init_1 8 rfl)
theorem iw_X6_init_9 : Cond.fieldLink RX6 28 "ShipOffice$Man" "leastAlike" "I" ∈ wsX6_init := (mmI il_X6_init_1 9 rfl)
def wsX9_init : List Cond := .code yX9_init cX9_init 5 none :: ([.methodLink RX9 3 objectInit, .instanceMethod objectInit, .code objectInit ⟨#[0xb1]⟩ 1 none, .constant RX9 9 (1000000), .fieldLink RX9 10 "ShipOffice$Voyage" "sailedDay" "I", .fieldLink RX9 16 "ShipOffice$Voyage" "sailedTold" "I", .fieldLink RX9 19 "ShipOffice$Voyage" "lostDay" "I", .fieldLink RX9 22 "ShipOffice$Voyage" "lostTold" "I", .fieldLink RX9 25 "ShipOffice$Voyage" "number" "I", .fieldLink RX9 28 "ShipOffice$Voyage" "ship" "I", .fieldLink RX9 31 "ShipOffice$Voyage" "port" "I", .fieldLink RX9 34 "ShipOffice$Voyage" "openedOn" "I"] ++ wsX90)
theorem il_X9_init_1 : ∀ w ∈ ([.methodLink RX9 3 objectInit, .instanceMethod objectInit, .code objectInit ⟨#[0xb1]⟩ 1 none, .constant RX9 9 (1000000), .fieldLink RX9 10 "ShipOffice$Voyage" "sailedDay" "I", .fieldLink RX9 16 "ShipOffice$Voyage" "sailedTold" "I", .fieldLink RX9 19 "ShipOffice$Voyage" "lostDay" "I", .fieldLink RX9 22 "ShipOffice$Voyage" "lostTold" "I", .fieldLink RX9 25 "ShipOffice$Voyage" "number" "I", .fieldLink RX9 28 "ShipOffice$Voyage" "ship" "I", .fieldLink RX9 31 "ShipOffice$Voyage" "port" "I", .fieldLink RX9 34 "ShipOffice$Voyage" "openedOn" "I"] : List Cond), w ∈ wsX9_init := fun w h => (List.mem_cons_of_mem _ (List.mem_append_left _ h))
theorem iw_X9_init_1 : Cond.methodLink RX9 3 objectInit ∈ wsX9_init := (mmI il_X9_init_1 0 rfl)
theorem iw_X9_init_2 : Cond.instanceMethod objectInit ∈ wsX9_init := (mmI il_X9_init_1 1 rfl)
theorem iw_X9_init_3 : Cond.fieldLink RX9 10 "ShipOffice$Voyage" "sailedDay" "I" ∈ wsX9_init := (mmI il_X9_init_1 4 rfl)
theorem iw_X9_init_4 : Cond.fieldLink RX9 16 "ShipOffice$Voyage" "sailedTold" "I" ∈ wsX9_init := (mmI il_X9_init_1 5 rfl)
theorem iw_X9_init_5 : Cond.fieldLink RX9 19 "ShipOffice$Voyage" "lostDay" "I" ∈ wsX9_init := (mmI il_X9_init_1 6 rfl)
theorem iw_X9_init_6 : Cond.fieldLink RX9 22 "ShipOffice$Voyage" "lostTold" "I" ∈ wsX9_init := (mmI il_X9_init_1 7 rfl)
theorem iw_X9_init_7 : Cond.fieldLink RX9 25 "ShipOffice$Voyage" "number" "I" ∈ wsX9_init := (mmI il_X9_init_1 8 rfl)
theorem iw_X9_init_8 : Cond.fieldLink RX9 28 "ShipOffice$Voyage" "ship" "I" ∈ wsX9_init := (mmI il_X9_init_1 9 rfl)
theorem iw_X9_init_9 : Cond.fieldLink RX9 31 "ShipOffice$Voyage" "port" "I" ∈ wsX9_init := (mmI il_X9_init_1 10 rfl)
theorem iw_X9_init_10 : Cond.fieldLink RX9 34 "ShipOffice$Voyage" "openedOn" "I" ∈ wsX9_init := (mmI il_X9_init_1 11 rfl)
theorem dX1_init_0 : decode cX1_init 0 = .ok (.aload_n 0, 1) := by decide +kernel
theorem dX1_init_1 : decode cX1_init 1 = .ok (.invokespecial 3, 3) := by decide +kernel
theorem dX1_init_4 : decode cX1_init 4 = .ok (.aload_n 0, 1) := by decide +kernel
theorem dX1_init_5 : decode cX1_init 5 = .ok (.ldc 9, 2) := by decide +kernel
theorem dX1_init_7 : decode cX1_init 7 = .ok (.putfield 10, 3) := by decide +kernel
theorem dX1_init_10 : decode cX1_init 10 = .ok (.aload_n 0, 1) := by decide +kernel
theorem dX1_init_11 : decode cX1_init 11 = .ok (.bipush 6, 2) := by decide +kernel
theorem dX1_init_13 : decode cX1_init 13 = .ok (.anewarray 16, 3) := by decide +kernel
theorem dX1_init_16 : decode cX1_init 16 = .ok (.putfield 18, 3) := by decide +kernel
theorem dX1_init_19 : decode cX1_init 19 = .ok (.aload_n 0, 1) := by decide +kernel
theorem dX1_init_20 : decode cX1_init 20 = .ok (.bipush 20, 2) := by decide +kernel
theorem dX1_init_22 : decode cX1_init 22 = .ok (.newarray .int, 2) := by decide +kernel
theorem dX1_init_24 : decode cX1_init 24 = .ok (.putfield 22, 3) := by decide +kernel
theorem dX1_init_27 : decode cX1_init 27 = .ok (.aload_n 0, 1) := by decide +kernel
theorem dX1_init_28 : decode cX1_init 28 = .ok (.bipush 20, 2) := by decide +kernel
theorem dX1_init_30 : decode cX1_init 30 = .ok (.newarray .int, 2) := by decide +kernel
theorem dX1_init_32 : decode cX1_init 32 = .ok (.putfield 26, 3) := by decide +kernel
theorem dX1_init_35 : decode cX1_init 35 = .ok (.aload_n 0, 1) := by decide +kernel
theorem dX1_init_36 : decode cX1_init 36 = .ok (.aload_n 1, 1) := by decide +kernel
theorem dX1_init_37 : decode cX1_init 37 = .ok (.putfield 29, 3) := by decide +kernel
theorem dX1_init_40 : decode cX1_init 40 = .ok (.aload_n 0, 1) := by decide +kernel
theorem dX1_init_41 : decode cX1_init 41 = .ok (.aload_n 2, 1) := by decide +kernel
theorem dX1_init_42 : decode cX1_init 42 = .ok (.putfield 33, 3) := by decide +kernel
theorem dX1_init_45 : decode cX1_init 45 = .ok (.aload_n 0, 1) := by decide +kernel
theorem dX1_init_46 : decode cX1_init 46 = .ok (.iload_n 3, 1) := by decide +kernel
theorem dX1_init_47 : decode cX1_init 47 = .ok (.putfield 37, 3) := by decide +kernel
theorem dX1_init_50 : decode cX1_init 50 = .ok (.aload_n 0, 1) := by decide +kernel
theorem dX1_init_51 : decode cX1_init 51 = .ok (.aload 4, 2) := by decide +kernel
theorem dX1_init_53 : decode cX1_init 53 = .ok (.putfield 40, 3) := by decide +kernel
theorem dX1_init_56 : decode cX1_init 56 = .ok (.return_, 1) := by decide +kernel
theorem dX2_init_0 : decode cX2_init 0 = .ok (.aload_n 0, 1) := by decide +kernel
theorem dX2_init_1 : decode cX2_init 1 = .ok (.invokespecial 1, 3) := by decide +kernel
theorem dX2_init_4 : decode cX2_init 4 = .ok (.aload_n 0, 1) := by decide +kernel
theorem dX2_init_5 : decode cX2_init 5 = .ok (.iload_n 1, 1) := by decide +kernel
theorem dX2_init_6 : decode cX2_init 6 = .ok (.putfield 7, 3) := by decide +kernel
theorem dX2_init_9 : decode cX2_init 9 = .ok (.aload_n 0, 1) := by decide +kernel
theorem dX2_init_10 : decode cX2_init 10 = .ok (.iload_n 2, 1) := by decide +kernel
theorem dX2_init_11 : decode cX2_init 11 = .ok (.putfield 13, 3) := by decide +kernel
theorem dX2_init_14 : decode cX2_init 14 = .ok (.aload_n 0, 1) := by decide +kernel
theorem dX2_init_15 : decode cX2_init 15 = .ok (.iload_n 3, 1) := by decide +kernel
theorem dX2_init_16 : decode cX2_init 16 = .ok (.putfield 16, 3) := by decide +kernel
theorem dX2_init_19 : decode cX2_init 19 = .ok (.return_, 1) := by decide +kernel
theorem dX3_init_0 : decode cX3_init 0 = .ok (.aload_n 0, 1) := by decide +kernel
theorem dX3_init_1 : decode cX3_init 1 = .ok (.invokespecial 1, 3) := by decide +kernel
theorem dX3_init_4 : decode cX3_init 4 = .ok (.aload_n 0, 1) := by decide +kernel
theorem dX3_init_5 : decode cX3_init 5 = .ok (.iload_n 1, 1) := by decide +kernel
theorem dX3_init_6 : decode cX3_init 6 = .ok (.putfield 7, 3) := by decide +kernel
theorem dX3_init_9 : decode cX3_init 9 = .ok (.aload_n 0, 1) := by decide +kernel
theorem dX3_init_10 : decode cX3_init 10 = .ok (.iload_n 2, 1) := by decide +kernel
theorem dX3_init_11 : decode cX3_init 11 = .ok (.putfield 13, 3) := by decide +kernel
theorem dX3_init_14 : decode cX3_init 14 = .ok (.aload_n 0, 1) := by decide +kernel
theorem dX3_init_15 : decode cX3_init 15 = .ok (.iload_n 3, 1) := by decide +kernel
theorem dX3_init_16 : decode cX3_init 16 = .ok (.putfield 16, 3) := by decide +kernel
theorem dX3_init_19 : decode cX3_init 19 = .ok (.aload_n 0, 1) := by decide +kernel
theorem dX3_init_20 : decode cX3_init 20 = .ok (.iload 4, 2) := by decide +kernel
theorem dX3_init_22 : decode cX3_init 22 = .ok (.putfield 19, 3) := by decide +kernel
theorem dX3_init_25 : decode cX3_init 25 = .ok (.aload_n 0, 1) := by decide +kernel
theorem dX3_init_26 : decode cX3_init 26 = .ok (.iload 5, 2) := by decide +kernel
theorem dX3_init_28 : decode cX3_init 28 = .ok (.putfield 22, 3) := by decide +kernel
theorem dX3_init_31 : decode cX3_init 31 = .ok (.aload_n 0, 1) := by decide +kernel
theorem dX3_init_32 : decode cX3_init 32 = .ok (.aload 6, 2) := by decide +kernel
theorem dX3_init_34 : decode cX3_init 34 = .ok (.putfield 25, 3) := by decide +kernel
theorem dX3_init_37 : decode cX3_init 37 = .ok (.return_, 1) := by decide +kernel
theorem dX6_init_0 : decode cX6_init 0 = .ok (.aload_n 0, 1) := by decide +kernel
theorem dX6_init_1 : decode cX6_init 1 = .ok (.invokespecial 3, 3) := by decide +kernel
theorem dX6_init_4 : decode cX6_init 4 = .ok (.aload_n 0, 1) := by decide +kernel
theorem dX6_init_5 : decode cX6_init 5 = .ok (.iconst 4, 1) := by decide +kernel
theorem dX6_init_6 : decode cX6_init 6 = .ok (.newarray .int, 2) := by decide +kernel
theorem dX6_init_8 : decode cX6_init 8 = .ok (.putfield 9, 3) := by decide +kernel
theorem dX6_init_11 : decode cX6_init 11 = .ok (.aload_n 0, 1) := by decide +kernel
theorem dX6_init_12 : decode cX6_init 12 = .ok (.iload_n 1, 1) := by decide +kernel
theorem dX6_init_13 : decode cX6_init 13 = .ok (.putfield 15, 3) := by decide +kernel
theorem dX6_init_16 : decode cX6_init 16 = .ok (.aload_n 0, 1) := by decide +kernel
theorem dX6_init_17 : decode cX6_init 17 = .ok (.iload_n 2, 1) := by decide +kernel
theorem dX6_init_18 : decode cX6_init 18 = .ok (.putfield 19, 3) := by decide +kernel
theorem dX6_init_21 : decode cX6_init 21 = .ok (.aload_n 0, 1) := by decide +kernel
theorem dX6_init_22 : decode cX6_init 22 = .ok (.iload_n 3, 1) := by decide +kernel
theorem dX6_init_23 : decode cX6_init 23 = .ok (.putfield 22, 3) := by decide +kernel
theorem dX6_init_26 : decode cX6_init 26 = .ok (.aload_n 0, 1) := by decide +kernel
theorem dX6_init_27 : decode cX6_init 27 = .ok (.iload 4, 2) := by decide +kernel
theorem dX6_init_29 : decode cX6_init 29 = .ok (.putfield 25, 3) := by decide +kernel
theorem dX6_init_32 : decode cX6_init 32 = .ok (.aload_n 0, 1) := by decide +kernel
theorem dX6_init_33 : decode cX6_init 33 = .ok (.iload_n 1, 1) := by decide +kernel
theorem dX6_init_34 : decode cX6_init 34 = .ok (.putfield 28, 3) := by decide +kernel
theorem dX6_init_37 : decode cX6_init 37 = .ok (.return_, 1) := by decide +kernel
theorem dX9_init_0 : decode cX9_init 0 = .ok (.aload_n 0, 1) := by decide +kernel
theorem dX9_init_1 : decode cX9_init 1 = .ok (.invokespecial 3, 3) := by decide +kernel
theorem dX9_init_4 : decode cX9_init 4 = .ok (.aload_n 0, 1) := by decide +kernel
theorem dX9_init_5 : decode cX9_init 5 = .ok (.ldc 9, 2) := by decide +kernel
theorem dX9_init_7 : decode cX9_init 7 = .ok (.putfield 10, 3) := by decide +kernel
theorem dX9_init_10 : decode cX9_init 10 = .ok (.aload_n 0, 1) := by decide +kernel
theorem dX9_init_11 : decode cX9_init 11 = .ok (.ldc 9, 2) := by decide +kernel
theorem dX9_init_13 : decode cX9_init 13 = .ok (.putfield 16, 3) := by decide +kernel
theorem dX9_init_16 : decode cX9_init 16 = .ok (.aload_n 0, 1) := by decide +kernel
theorem dX9_init_17 : decode cX9_init 17 = .ok (.ldc 9, 2) := by decide +kernel
theorem dX9_init_19 : decode cX9_init 19 = .ok (.putfield 19, 3) := by decide +kernel
theorem dX9_init_22 : decode cX9_init 22 = .ok (.aload_n 0, 1) := by decide +kernel
theorem dX9_init_23 : decode cX9_init 23 = .ok (.ldc 9, 2) := by decide +kernel
theorem dX9_init_25 : decode cX9_init 25 = .ok (.putfield 22, 3) := by decide +kernel
theorem dX9_init_28 : decode cX9_init 28 = .ok (.aload_n 0, 1) := by decide +kernel
theorem dX9_init_29 : decode cX9_init 29 = .ok (.iload_n 1, 1) := by decide +kernel
theorem dX9_init_30 : decode cX9_init 30 = .ok (.putfield 25, 3) := by decide +kernel
theorem dX9_init_33 : decode cX9_init 33 = .ok (.aload_n 0, 1) := by decide +kernel
theorem dX9_init_34 : decode cX9_init 34 = .ok (.iload_n 2, 1) := by decide +kernel
theorem dX9_init_35 : decode cX9_init 35 = .ok (.putfield 28, 3) := by decide +kernel
theorem dX9_init_38 : decode cX9_init 38 = .ok (.aload_n 0, 1) := by decide +kernel
theorem dX9_init_39 : decode cX9_init 39 = .ok (.iload_n 3, 1) := by decide +kernel
theorem dX9_init_40 : decode cX9_init 40 = .ok (.putfield 31, 3) := by decide +kernel
theorem dX9_init_43 : decode cX9_init 43 = .ok (.aload_n 0, 1) := by decide +kernel
theorem dX9_init_44 : decode cX9_init 44 = .ok (.iload 4, 2) := by decide +kernel
theorem dX9_init_46 : decode cX9_init 46 = .ok (.putfield 34, 3) := by decide +kernel
theorem dX9_init_49 : decode cX9_init 49 = .ok (.return_, 1) := by decide +kernel
theorem in_wsX2_init_X2 : ∀ w ∈ wsX20, w ∈ wsX2_init := fun w h => List.mem_cons_of_mem _ (List.mem_append_right _ h)
theorem in_wsX3_init_X3 : ∀ w ∈ wsX30, w ∈ wsX3_init := fun w h => List.mem_cons_of_mem _ (List.mem_append_right _ h)
theorem in_wsX6_init_X6 : ∀ w ∈ wsX60, w ∈ wsX6_init := fun w h => List.mem_cons_of_mem _ (List.mem_append_right _ h)
theorem in_wsX9_init_X9 : ∀ w ∈ wsX90, w ∈ wsX9_init := fun w h => List.mem_cons_of_mem _ (List.mem_append_right _ h)
theorem in_wsX1_init_X1 : ∀ w ∈ wsX10, w ∈ wsX1_init := fun w h => List.mem_cons_of_mem _ (List.mem_append_right _ h)
theorem in_obj_wsX2_init : Cond.code objectInit ⟨#[0xb1]⟩ 1 none ∈ wsX2_init := List.mem_of_getElem? (i := 3) rfl
theorem in_obj_wsX3_init : Cond.code objectInit ⟨#[0xb1]⟩ 1 none ∈ wsX3_init := List.mem_of_getElem? (i := 3) rfl
theorem in_obj_wsX6_init : Cond.code objectInit ⟨#[0xb1]⟩ 1 none ∈ wsX6_init := List.mem_of_getElem? (i := 3) rfl
theorem in_obj_wsX9_init : Cond.code objectInit ⟨#[0xb1]⟩ 1 none ∈ wsX9_init := List.mem_of_getElem? (i := 3) rfl
theorem in_obj_wsX1_init : Cond.code objectInit ⟨#[0xb1]⟩ 1 none ∈ wsX1_init := List.mem_of_getElem? (i := 3) rfl

theorem z_fit {x : Int32} (h : 0 ≤ x.toInt ∧ x.toInt ≤ 1) : fits .boolean (.int x) = true := by
  have key : x = 0 ∨ x = 1 := by
    have : x.toInt = 0 ∨ x.toInt = 1 := by omega
    rcases this with g | g
    · exact Or.inl (Int32.toInt_inj.mp (g.trans (by decide +kernel)))
    · exact Or.inr (Int32.toInt_inj.mp (g.trans (by decide +kernel)))
  rcases key with rfl | rfl <;> rfl
set_option maxHeartbeats 4000000 in
set_option maxRecDepth 100000 in
theorem c_X2_init (l : Launch) (dC : Nat → ClassId) (dI : Nat → Nat → Nat) (sz : Nat) (cq : Nat → ClassId) (Z : oS) (gI : oInv Z) (o : Nat) (to : oty Z o 32) (x1 : Int32) (x2 : Int32) (x3 : Int32) (hx3 : 0 ≤ x3.toInt ∧ x3.toInt ≤ 1) : Met l yX2_init wsX2_init ({ frames := 1, cells := 0, slots := 0, locals := 14 }) (va_Pc [.ref o, .int x1, .int x2, .int x3] (pcW (dC, dI) (oT cq) (oW cq Z) sz)) (va_Qv (fun (u : oS) => oInv u ∧ oXc ([] : List Nat) o Z u ∧ (oty u o 2)) (fun u t => va_P (dC, dI) vwCl (oW cq u) t.heap ∧ va_K (dC, dI) vwCl (oT cq) t ∧ va_D (va_A (oW cq Z) sz) (oW cq u)) (va_A (oW cq Z) sz)) 0 0 (va_A (oW cq Z) sz) := by
  refine Met.ofW (cc := cX2_init) (maxL := 4) (ret := none) (by decide +kernel) rfl ?_
  intro p e s m args below meth c s₁ B hml hv
  obtain ⟨rfl, hsz, hP, hK, hD0⟩ := hv
  have hx := B.exec
  have hb := B.bytes
  have hr := B.returns
  have hts := atoms_spec (ws := wsX2_init) B.pre
  have hown : s.vm.findClass RX2 = some m.cls := findClass_of_methodNamed B.named
  have hlocks := B.notSynchronized
  have hin : meth.name = "<init>" := (name_of_methodNamed B.named B.method).1
  subst hsz
  have hD := hD0.self (sz := s.heap.size)
  generalize hAe : va_A (oW cq Z) s.heap.size = A at hD ⊢
  have hA : ∀ q : Nat, s.heap.size ≤ q → A q := fun q h => by rw [← hAe]; exact Or.inr h
  have hS : va_S A s.heap s.heap [] := va_S.rf
  have hP : va_P (dC, dI) vwCl (oW cq Z) s.heap := hP
  have hl := lv_entry ([.ref o, .int x1, .int x2, .int x3]) (n := 4) (Nat.le_of_ble_eq_true rfl)
  rw [lg_entry_eq]
  generalize (lg_sl ([.ref o, .int x1, .int x2, .int x3]) ++ List.replicate (4 - (lg_sl ([.ref o, .int x1, .int x2, .int x3])).length) Slot.unset).toArray = ls at hl ⊢
  have hl : lv_has ls 4 [(0, .ref o), (1, .int x1), (2, .int x2), (3, .int x3)] := hl
  refine lv_aload_n hx hb dX2_init_0 rfl (lv_at hl 0 rfl) ?_
  refine W.objInit hx hb hown (hts (.methodLink RX2 1 objectInit) iw_X2_init_1) (hts (.instanceMethod objectInit) iw_X2_init_2) (hts (.code objectInit ⟨#[0xb1]⟩ 1 none) (in_obj_wsX2_init)) rfl (by rw [hml]; exact hl.1) rfl dX2_init_1 (Nat.le_of_ble_eq_true rfl) (Nat.le_of_ble_eq_true rfl) ?_
  refine W.eq (g2 := F0 m 4 ls []) rfl ?_
  refine lv_aload_n hx hb dX2_init_4 rfl (lv_at hl 0 rfl) ?_
  refine lv_iload_n hx hb dX2_init_5 rfl (lv_at hl 1 rfl) ?_
  obtain ⟨q_1, hq_1⟩ := og (cq := cq) to.1 (oE_32 to.2)
  refine va_putF (D := (dC, dI)) (ci := 2) (v := .int x1) (ty := .int) (C := RX2) (T := TX2) (N := 3) hx hb hts in_wsX2_init_X2 tyX2 tyX2_ok nmX2 hown hK hP hD hS q_1 hq_1 rfl 0 (by decide +kernel) (hts (.fieldLink RX2 7 "ShipOffice$Fine" "day" "I") iw_X2_init_3) (fun _ h9 => h9) rfl hin rfl (by decide +kernel) rfl rfl (Nat.le_of_ble_eq_true rfl) dX2_init_6 (fun H locs hP1 hD1 hS => ?_)
  obtain ⟨S_2, eS_2⟩ : ∃ zq, zq = setI Z o 0 x1 := ⟨_, rfl⟩
  have hP : va_P (dC, dI) vwCl (oW cq S_2) H := by rw [eS_2]; exact cP (oset to.1 hq_1 hD rfl (he_32_0 to.2) neI) hP1
  have hD : va_D A (oW cq S_2) := by rw [eS_2]; exact cD (oset to.1 hq_1 hD rfl (he_32_0 to.2) neI) hD1
  clear hP1 hD1
  have hIS_2 : oInv S_2 := by rw [eS_2]; exact oInv.I0 (k := 32) (lo := -2147483648) (hi := 2147483647) gI to.2 (by decide +kernel) rfl rfl rfl (iv_all _)
  have XS_2 : oX [2032] Z S_2 := by rw [eS_2]; exact oX.I (k := 32) (key := 2032) to.2 rfl (List.mem_singleton.mpr rfl)
  have X_3 : oXc ([] : List Nat) o Z S_2 := by rw [eS_2]; exact oXc.I oXc.rf
  refine lv_aload_n hx hb dX2_init_9 rfl (lv_at hl 0 rfl) ?_
  refine lv_iload_n hx hb dX2_init_10 rfl (lv_at hl 2 rfl) ?_
  have t_5 : oty S_2 o 32 := (oX.ty XS_2 to)
  obtain ⟨q_6, hq_6⟩ := og (cq := cq) t_5.1 (oE_32 t_5.2)
  refine va_putF (D := (dC, dI)) (ci := 2) (v := .int x2) (ty := .int) (C := RX2) (T := TX2) (N := 3) hx hb hts in_wsX2_init_X2 tyX2 tyX2_ok nmX2 hown hK hP hD hS q_6 hq_6 rfl 1 (by decide +kernel) (hts (.fieldLink RX2 13 "ShipOffice$Fine" "sum" "I") iw_X2_init_4) (fun _ h9 => h9) rfl hin rfl (by decide +kernel) rfl rfl (Nat.le_of_ble_eq_true rfl) dX2_init_11 (fun H locs hP1 hD1 hS => ?_)
  obtain ⟨S_7, eS_7⟩ : ∃ zq, zq = setI S_2 o 1 x2 := ⟨_, rfl⟩
  have hP : va_P (dC, dI) vwCl (oW cq S_7) H := by rw [eS_7]; exact cP (oset t_5.1 hq_6 hD rfl (he_32_1 t_5.2) neI) hP1
  have hD : va_D A (oW cq S_7) := by rw [eS_7]; exact cD (oset t_5.1 hq_6 hD rfl (he_32_1 t_5.2) neI) hD1
  clear hP1 hD1
  have hIS_7 : oInv S_7 := by rw [eS_7]; exact oInv.I0 (k := 32) (lo := -2147483648) (hi := 2147483647) hIS_2 t_5.2 (by decide +kernel) rfl rfl rfl (iv_all _)
  have XS_7 : oX [2032] S_2 S_7 := by rw [eS_7]; exact oX.I (k := 32) (key := 2032) t_5.2 rfl (List.mem_singleton.mpr rfl)
  have X_8 : oXc ([] : List Nat) o Z S_7 := by rw [eS_7]; exact oXc.I X_3
  refine lv_aload_n hx hb dX2_init_14 rfl (lv_at hl 0 rfl) ?_
  refine lv_iload_n hx hb dX2_init_15 rfl (lv_at hl 3 rfl) ?_
  have t_10 : oty S_7 o 32 := (oX.ty XS_7 t_5)
  obtain ⟨q_11, hq_11⟩ := og (cq := cq) t_10.1 (oE_32 t_10.2)
  refine va_put (D := (dC, dI)) (ci := 2) (v := .int x3) (ty := .boolean) (C := RX2) (T := TX2) (N := 3) hx hb hts in_wsX2_init_X2 tyX2 tyX2_ok nmX2 hown hK hP hD hS q_11 hq_11 rfl 2 (by decide +kernel) (hts (.fieldLink RX2 16 "ShipOffice$Fine" "isRead" "Z") iw_X2_init_5) (fun _ h9 => h9) rfl (by decide +kernel) (z_nar (by omega)) (z_fit (by omega)) (Nat.le_of_ble_eq_true rfl) dX2_init_16 (fun H locs hP1 hD1 hS => ?_)
  obtain ⟨S_12, eS_12⟩ : ∃ zq, zq = setI S_7 o 2 x3 := ⟨_, rfl⟩
  have hP : va_P (dC, dI) vwCl (oW cq S_12) H := by rw [eS_12]; exact cP (oset t_10.1 hq_11 hD rfl (he_32_2 t_10.2) neI) hP1
  have hD : va_D A (oW cq S_12) := by rw [eS_12]; exact cD (oset t_10.1 hq_11 hD rfl (he_32_2 t_10.2) neI) hD1
  clear hP1 hD1
  have hIS_12 : oInv S_12 := by rw [eS_12]; exact oInv.I0 (k := 32) (lo := -2147483648) (hi := 2147483647) hIS_7 t_10.2 (by decide +kernel) rfl rfl rfl (iv_all _)
  have XS_12 : oX [2032] S_7 S_12 := by rw [eS_12]; exact oX.I (k := 32) (key := 2032) t_10.2 rfl (List.mem_singleton.mpr rfl)
  have X_13 : oXc ([] : List Nat) o Z S_12 := by rw [eS_12]; exact oXc.I X_8
  have t_16 : oty S_12 o 32 := (oX.ty XS_12 t_10)
  obtain ⟨S_15, eS_15⟩ : ∃ zq, zq = setK S_12 o 2 := ⟨_, rfl⟩
  have hP : va_P (dC, dI) vwCl (oW cq S_15) H := by rw [eS_15]; exact cP (ret_W (c := 2) t_16.2 (by decide +kernel)) hP
  have hD : va_D A (oW cq S_15) := by rw [eS_15]; exact cD (ret_W (c := 2) t_16.2 (by decide +kernel)) hD
  have hIS_15 : oInv S_15 := by rw [eS_15]; exact oInv.ret (c := 2) hIS_12 t_16 (by decide +kernel) (fun i hi => (nn_2 hi).elim) (fun i p hp => (ct_no hp (by decide +kernel) (by decide +kernel) (by decide +kernel)).elim) (fun h => absurd h (by decide +kernel)) (fun h => absurd h (by decide +kernel)) (fun h => absurd h (by decide +kernel))
  have XS_15 : oXc ([] : List Nat) o Z S_15 := by rw [eS_15]; exact oXc.K X_13
  have tS_15 : oty S_15 o 2 := by rw [eS_15]; exact K_ty t_16.1
  exact W.vret hx hb hr (fun t ht hW => ⟨⟨S_15, rfl, ⟨hIS_15, XS_15, tS_15⟩, ⟨by rw [ht]; exact hP, va_K.moved hW.alike hK, hD⟩⟩, hS.F ht⟩) hS.2.2 dX2_init_19