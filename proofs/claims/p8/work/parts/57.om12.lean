def tyX1 : Nat → FieldType := fun k => match k with
  | 0 => .object "ShipOffice$Man"
  | 1 => .object "ShipOffice$Voyage"
  | 2 => .int
  | 3 => .object "ShipOffice$Agreement"
  | 4 => .int
  | 5 => .int
  | 6 => .int
  | 7 => .boolean
  | 8 => .object "ShipOffice$Happening"
  | 9 => .int
  | 10 => .int
  | 11 => .int
  | 12 => .array (.object "ShipOffice$Fine")
  | 13 => .int
  | 14 => .array .int
  | 15 => .array .int
  | 16 => .int
  | _ => .int
theorem nmX1 : ∀ a, a < 18 → ∀ b, b < 18 → a ≠ b → (TX1 a).2.1 ≠ (TX1 b).2.1 := by decide +kernel
theorem tyX1_ok : ∀ k, k < 18 → parseFieldDescriptor (TX1 k).2.2.1 = some (tyX1 k) := by decide +kernel
abbrev cX1_addShort : ByteArray := prog_3_method_13_code
def yX1_addShort : MethodName := ⟨RX1, "addShort", "(III)V"⟩
abbrev wsX20 : List Cond := u_ws RX2 TX2 3
def tyX5 : Nat → FieldType := fun k => match k with
  | 0 => .array (.object "ShipOffice$Act")
  | 1 => .array (.object "ShipOffice$Act")
  | _ => .int
theorem nmX5 : ∀ a, a < 3 → ∀ b, b < 3 → a ≠ b → (TX5 a).2.1 ≠ (TX5 b).2.1 := by decide +kernel
theorem tyX5_ok : ∀ k, k < 3 → parseFieldDescriptor (TX5 k).2.2.1 = some (tyX5 k) := by decide +kernel
abbrev cX5_add : ByteArray := prog_7_method_2_code
def yX5_add : MethodName := ⟨RX5, "add", "(LShipOffice$Act;)V"⟩
def tyX6 : Nat → FieldType := fun k => match k with
  | 0 => .int
  | 1 => .int
  | 2 => .int
  | 3 => .int
  | 4 => .array .int
  | _ => .int
theorem nmX6 : ∀ a, a < 6 → ∀ b, b < 6 → a ≠ b → (TX6 a).2.1 ≠ (TX6 b).2.1 := by decide +kernel
theorem tyX6_ok : ∀ k, k < 6 → parseFieldDescriptor (TX6 k).2.2.1 = some (tyX6 k) := by decide +kernel
abbrev cX10_joinGroups : ByteArray := prog_1_method_47_code
def yX10_joinGroups : MethodName := ⟨RX10, "joinGroups", "(LShipOffice$Man;)V"⟩
abbrev cX10_mergeGroups : ByteArray := prog_1_method_48_code
def yX10_mergeGroups : MethodName := ⟨RX10, "mergeGroups", "(II)V"⟩
abbrev cX10_menWhoAsk : ByteArray := prog_1_method_53_code
def yX10_menWhoAsk : MethodName := ⟨RX10, "menWhoAsk", "()I"⟩
abbrev cX10_menAboard : ByteArray := prog_1_method_54_code
def yX10_menAboard : MethodName := ⟨RX10, "menAboard", "(LShipOffice$Voyage;II)I"⟩
abbrev cX10_isShownTwice : ByteArray := prog_1_method_55_code
def yX10_isShownTwice : MethodName := ⟨RX10, "isShownTwice", "(LShipOffice$Agreement;)Z"⟩
abbrev cX10_signWorth : ByteArray := prog_1_method_57_code
def yX10_signWorth : MethodName := ⟨RX10, "signWorth", "(LShipOffice$Man;II)I"⟩
abbrev cX10_worthFor : ByteArray := prog_1_method_58_code
def yX10_worthFor : MethodName := ⟨RX10, "worthFor", "(ILShipOffice$Agreement;IIII)I"⟩
abbrev cX10_standing : ByteArray := prog_1_method_59_code
def yX10_standing : MethodName := ⟨RX10, "standing", "(LShipOffice$Agreement;LShipOffice$Fine;I)I"⟩
abbrev cX10_owedOn : ByteArray := prog_1_method_60_code
def yX10_owedOn : MethodName := ⟨RX10, "owedOn", "(LShipOffice$Agreement;II)I"⟩
theorem gw_X0_worth : wsX0_worth.all goodWord = true := by decide +kernel
theorem gw_X0_uses : wsX0_uses.all goodWord = true := by decide +kernel
theorem gw_X1_leavingOn : wsX1_leavingOn.all goodWord = true := by decide +kernel
theorem gw_X1_earningDays : wsX1_earningDays.all goodWord = true := by decide +kernel
theorem gw_X1_notePaid : wsX1_notePaid.all goodWord = true := by decide +kernel
theorem gw_X1_allotmentsPaid : wsX1_allotmentsPaid.all goodWord = true := by decide +kernel
def wsX1_addShort : List Cond := .code yX1_addShort cX1_addShort 4 none :: ([.fieldLink RX1 136 "ShipOffice$Agreement" "shortCount" "I", .fieldLink RX1 22 "ShipOffice$Agreement" "shortTold" "[I", .fieldLink RX1 26 "ShipOffice$Agreement" "shortSum" "[I", .fieldLink RX1 139 "ShipOffice$Agreement" "shortDays" "I"] ++ wsX10)
theorem il_X1_addShort_1 : ∀ w ∈ ([.fieldLink RX1 136 "ShipOffice$Agreement" "shortCount" "I", .fieldLink RX1 22 "ShipOffice$Agreement" "shortTold" "[I", .fieldLink RX1 26 "ShipOffice$Agreement" "shortSum" "[I", .fieldLink RX1 139 "ShipOffice$Agreement" "shortDays" "I"] : List Cond), w ∈ wsX1_addShort := fun w h => (List.mem_cons_of_mem _ (List.mem_append_left _ h))
theorem iw_X1_addShort_1 : Cond.fieldLink RX1 136 "ShipOffice$Agreement" "shortCount" "I" ∈ wsX1_addShort := (mmI il_X1_addShort_1 0 rfl)
theorem iw_X1_addShort_2 : Cond.fieldLink RX1 22 "ShipOffice$Agreement" "shortTold" "[I" ∈ wsX1_addShort := (mmI il_X1_addShort_1 1 rfl)
theorem iw_X1_addShort_3 : Cond.fieldLink RX1 26 "ShipOffice$Agreement" "shortSum" "[I" ∈ wsX1_addShort := (mmI il_X1_addShort_1 2 rfl)
theorem iw_X1_addShort_4 : Cond.fieldLink RX1 139 "ShipOffice$Agreement" "shortDays" "I" ∈ wsX1_addShort := (mmI il_X1_addShort_1 3 rfl)
theorem gw_X1_shortPence : wsX1_shortPence.all goodWord = true := by decide +kernel
def wsX5_add : List Cond := .code yX5_add cX5_add 2 none :: ([.fieldLink RX5 23 "ShipOffice$Law" "actCount" "I", .fieldLink RX5 11 "ShipOffice$Law" "acts" "[LShipOffice$Act;"] ++ wsX50)
theorem il_X5_add_1 : ∀ w ∈ ([.fieldLink RX5 23 "ShipOffice$Law" "actCount" "I", .fieldLink RX5 11 "ShipOffice$Law" "acts" "[LShipOffice$Act;"] : List Cond), w ∈ wsX5_add := fun w h => (List.mem_cons_of_mem _ (List.mem_append_left _ h))
theorem iw_X5_add_1 : Cond.fieldLink RX5 23 "ShipOffice$Law" "actCount" "I" ∈ wsX5_add := (mmI il_X5_add_1 0 rfl)
theorem iw_X5_add_2 : Cond.fieldLink RX5 11 "ShipOffice$Law" "acts" "[LShipOffice$Act;" ∈ wsX5_add := (mmI il_X5_add_1 1 rfl)
theorem gw_X6_yearsOn : wsX6_yearsOn.all goodWord = true := by decide +kernel
theorem gw_X6_asks : wsX6_asks.all goodWord = true := by decide +kernel
theorem gw_X6_isAlike : wsX6_isAlike.all goodWord = true := by decide +kernel
theorem gw_X9_daysUnheard : wsX9_daysUnheard.all goodWord = true := by decide +kernel
def wsX10_mergeGroups : List Cond := .code yX10_mergeGroups cX10_mergeGroups 6 none :: ([.methodLink RX10 378 Lib.Math.min.name, .static Lib.Math.min.name, .initialized "java/lang/Math", .code Lib.Math.min.name Lib.Math.min.code 2 (some .int), .methodLink RX10 383 Lib.Math.max.name, .static Lib.Math.max.name, .code Lib.Math.max.name Lib.Math.max.code 2 (some .int), .fieldLink RX10 86 "ShipOffice" "manCount" "I", .fieldLink RX10 11 "ShipOffice" "men" "[LShipOffice$Man;", .fieldLink RX10 311 "ShipOffice$Man" "leastAlike" "I"] ++ wsX100 ++ wsX60)
theorem gw_X10_mergeGroups : wsX10_mergeGroups.all goodWord = true := by decide +kernel
theorem il_X10_mergeGroups_1 : ∀ w ∈ ([.methodLink RX10 378 Lib.Math.min.name, .static Lib.Math.min.name, .initialized "java/lang/Math", .code Lib.Math.min.name Lib.Math.min.code 2 (some .int), .methodLink RX10 383 Lib.Math.max.name, .static Lib.Math.max.name, .code Lib.Math.max.name Lib.Math.max.code 2 (some .int), .fieldLink RX10 86 "ShipOffice" "manCount" "I", .fieldLink RX10 11 "ShipOffice" "men" "[LShipOffice$Man;", .fieldLink RX10 311 "ShipOffice$Man" "leastAlike" "I"] : List Cond), w ∈ wsX10_mergeGroups := fun w h => (List.mem_cons_of_mem _ (List.mem_append_left _ (List.mem_append_left _ h)))
theorem iw_X10_mergeGroups_1 : Cond.methodLink RX10 378 Lib.Math.min.name ∈ wsX10_mergeGroups := (mmI il_X10_mergeGroups_1 0 rfl)
theorem iw_X10_mergeGroups_2 : Cond.static Lib.Math.min.name ∈ wsX10_mergeGroups := (mmI il_X10_mergeGroups_1 1 rfl)
theorem iw_X10_mergeGroups_3 : Cond.initialized "java/lang/Math" ∈ wsX10_mergeGroups := (mmI il_X10_mergeGroups_1 2 rfl)
theorem iw_X10_mergeGroups_4 : Cond.methodLink RX10 383 Lib.Math.max.name ∈ wsX10_mergeGroups := (mmI il_X10_mergeGroups_1 4 rfl)
theorem iw_X10_mergeGroups_5 : Cond.static Lib.Math.max.name ∈ wsX10_mergeGroups := (mmI il_X10_mergeGroups_1 5 rfl)
theorem iw_X10_mergeGroups_6 : Cond.fieldLink RX10 86 "ShipOffice" "manCount" "I" ∈ wsX10_mergeGroups := (mmI il_X10_mergeGroups_1 7 rfl)
theorem iw_X10_mergeGroups_7 : Cond.fieldLink RX10 11 "ShipOffice" "men" "[LShipOffice$Man;" ∈ wsX10_mergeGroups := (mmI il_X10_mergeGroups_1 8 rfl)
theorem iw_X10_mergeGroups_8 : Cond.fieldLink RX10 311 "ShipOffice$Man" "leastAlike" "I" ∈ wsX10_mergeGroups := (mmI il_X10_mergeGroups_1 9 rfl)
def wsX10_joinGroups_r1 : List Cond := [Cond.fieldLink RX10 86 "ShipOffice" "manCount" "I", Cond.fieldLink RX10 11 "ShipOffice" "men" "[LShipOffice$Man;", Cond.fieldLink RX10 311 "ShipOffice$Man" "leastAlike" "I", Cond.methodLink RX10 371 yX6_isAlike, Cond.instanceMethod yX6_isAlike, Cond.selects RX6 yX6_isAlike yX6_isAlike, Cond.initialized RX6, Cond.code yX6_isAlike cX6_isAlike 2 (some .boolean), Cond.fieldLink RX6 22 "ShipOffice$Man" "marks" "I", Cond.fieldLink RX6 19 "ShipOffice$Man" "name" "I", Cond.methodLink RX6 31 yX6_digitsApart, Cond.static yX6_digitsApart, Cond.code yX6_digitsApart cX6_digitsApart 6 (some .int), Cond.methodLink RX10 374 yX10_mergeGroups, Cond.instanceMethod yX10_mergeGroups, Cond.selects RX10 yX10_mergeGroups yX10_mergeGroups, Cond.initialized RX10, Cond.code yX10_mergeGroups cX10_mergeGroups 6 none, Cond.methodLink RX10 378 Lib.Math.min.name, Cond.static Lib.Math.min.name, Cond.initialized "java/lang/Math", Cond.code Lib.Math.min.name Lib.Math.min.code 2 (some .int), Cond.methodLink RX10 383 Lib.Math.max.name, Cond.static Lib.Math.max.name]
def wsX10_joinGroups_r2 : List Cond := [Cond.code Lib.Math.max.name Lib.Math.max.code 2 (some .int)]
def wsX10_joinGroups : List Cond := .code yX10_joinGroups cX10_joinGroups 3 none :: ((wsX10_joinGroups_r1 ++ wsX10_joinGroups_r2) ++ wsX100 ++ wsX60)
theorem il_X10_joinGroups_1 : ∀ w ∈ wsX10_joinGroups_r1, w ∈ wsX10_joinGroups := fun w h => (List.mem_cons_of_mem _ (List.mem_append_left _ (List.mem_append_left _ (List.mem_append_left _ h))))
theorem il_X10_joinGroups_2 : ∀ w ∈ wsX10_joinGroups_r2, w ∈ wsX10_joinGroups := fun w h => (List.mem_cons_of_mem _ (List.mem_append_left _ (List.mem_append_left _ (List.mem_append_right _ h))))
theorem il_X10_joinGroups_3 : ∀ w ∈ wsX100, w ∈ wsX10_joinGroups := fun w h => (List.mem_cons_of_mem _ (List.mem_append_left _ (List.mem_append_right _ h)))
theorem il_X10_joinGroups_4 : ∀ w ∈ wsX60, w ∈ wsX10_joinGroups := fun w h => (List.mem_cons_of_mem _ (List.mem_append_right _ h))
theorem iw_X10_joinGroups_1 : Cond.fieldLink RX10 86 "ShipOffice" "manCount" "I" ∈ wsX10_joinGroups := (mmI il_X10_joinGroups_1 0 rfl)
theorem iw_X10_joinGroups_2 : Cond.fieldLink RX10 11 "ShipOffice" "men" "[LShipOffice$Man;" ∈ wsX10_joinGroups := (mmI il_X10_joinGroups_1 1 rfl)
theorem iw_X10_joinGroups_3 : Cond.fieldLink RX10 311 "ShipOffice$Man" "leastAlike" "I" ∈ wsX10_joinGroups := (mmI il_X10_joinGroups_1 2 rfl)
def wsX10_signWorth_r1 : List Cond := [Cond.fieldLink RX10 59 "ShipOffice" "letters" "[I", Cond.fieldLink RX10 73 "ShipOffice" "now" "I", Cond.fieldLink RX10 30 "ShipOffice" "law" "LShipOffice$Law;", Cond.methodLink RX10 393 yJ7_fill_53178, Cond.static yJ7_fill_53178, Cond.initialized RJ7, Cond.code yJ7_fill_53178 cJ7_fill_53178 4 none, Cond.methodLink RX10 397 yX6_yearsOn, Cond.instanceMethod yX6_yearsOn, Cond.selects RX6 yX6_yearsOn yX6_yearsOn, Cond.initialized RX6, Cond.code yX6_yearsOn cX6_yearsOn 2 (some .int), Cond.fieldLink RX6 25 "ShipOffice$Man" "born" "I", Cond.methodLink RX10 400 yX5_inForce, Cond.instanceMethod yX5_inForce, Cond.selects RX5 yX5_inForce yX5_inForce, Cond.initialized RX5, Cond.code yX5_inForce cX5_inForce 6 (some (.object "ShipOffice$Act")), Cond.fieldLink RX5 17 "ShipOffice$Law" "customs" "[LShipOffice$Act;", Cond.fieldLink RX5 23 "ShipOffice$Law" "actCount" "I", Cond.fieldLink RX5 11 "ShipOffice$Law" "acts" "[LShipOffice$Act;", Cond.fieldLink RX5 27 "ShipOffice$Act" "purpose" "I", Cond.fieldLink RX5 30 "ShipOffice$Act" "day" "I", Cond.methodLink RX10 404 yX0_worth]
def wsX10_signWorth_r2 : List Cond := [Cond.instanceMethod yX0_worth, Cond.selects RX0 yX0_worth yX0_worth, Cond.initialized RX0, Cond.code yX0_worth cX0_worth 8 (some .int), Cond.fieldLink RX0 16 "ShipOffice$Act" "code" "[I", Cond.fieldLink RX0 20 "ShipOffice$Act" "stack" "[I", Cond.methodLink RX0 36 yX0_joined, Cond.static yX0_joined, Cond.code yX0_joined cX0_joined 5 (some .int), Cond.methodLink RX0 40 yX0_held, Cond.static yX0_held, Cond.code yX0_held cX0_held 2 (some .int), Cond.constantLong RX0 44 (1000000000), Cond.constant RX0 46 (1000000000), Cond.constantLong RX0 47 (-1000000000), Cond.constant RX0 49 (-1000000000)]
def wsX10_signWorth : List Cond := .code yX10_signWorth cX10_signWorth 4 (some .int) :: ((wsX10_signWorth_r1 ++ wsX10_signWorth_r2) ++ wsX100 ++ wsX60 ++ wsX50 ++ wsX00)
theorem il_X10_signWorth_1 : ∀ w ∈ wsX10_signWorth_r1, w ∈ wsX10_signWorth := fun w h => (List.mem_cons_of_mem _ (List.mem_append_left _ (List.mem_append_left _ (List.mem_append_left _ (List.mem_append_left _ (List.mem_append_left _ h))))))
theorem il_X10_signWorth_2 : ∀ w ∈ wsX10_signWorth_r2, w ∈ wsX10_signWorth := fun w h => (List.mem_cons_of_mem _ (List.mem_append_left _ (List.mem_append_left _ (List.mem_append_left _ (List.mem_append_left _ (List.mem_append_right _ h))))))
theorem il_X10_signWorth_4 : ∀ w ∈ wsX60, w ∈ wsX10_signWorth := fun w h => (List.mem_cons_of_mem _ (List.mem_append_left _ (List.mem_append_left _ (List.mem_append_right _ h))))
theorem il_X10_signWorth_5 : ∀ w ∈ wsX50, w ∈ wsX10_signWorth := fun w h => (List.mem_cons_of_mem _ (List.mem_append_left _ (List.mem_append_right _ h)))
theorem il_X10_signWorth_6 : ∀ w ∈ wsX00, w ∈ wsX10_signWorth := fun w h => (List.mem_cons_of_mem _ (List.mem_append_right _ h))
theorem iw_X10_signWorth_1 : Cond.fieldLink RX10 59 "ShipOffice" "letters" "[I" ∈ wsX10_signWorth := (mmI il_X10_signWorth_1 0 rfl)
theorem iw_X10_signWorth_2 : Cond.fieldLink RX10 73 "ShipOffice" "now" "I" ∈ wsX10_signWorth := (mmI il_X10_signWorth_1 1 rfl)
theorem iw_X10_signWorth_3 : Cond.fieldLink RX10 30 "ShipOffice" "law" "LShipOffice$Law;" ∈ wsX10_signWorth := (mmI il_X10_signWorth_1 2 rfl)
def wsX10_menAboard_r1 : List Cond := [Cond.fieldLink RX10 115 "ShipOffice" "agreementCount" "I", Cond.fieldLink RX10 23 "ShipOffice" "agreements" "[LShipOffice$Agreement;", Cond.fieldLink RX10 118 "ShipOffice$Agreement" "voyage" "LShipOffice$Voyage;", Cond.fieldLink RX10 30 "ShipOffice" "law" "LShipOffice$Law;", Cond.methodLink RX10 233 yX1_stateOn, Cond.instanceMethod yX1_stateOn, Cond.selects RX1 yX1_stateOn yX1_stateOn, Cond.initialized RX1, Cond.code yX1_stateOn cX1_stateOn 5 (some .int), Cond.fieldLink RX1 37 "ShipOffice$Agreement" "signedOn" "I", Cond.fieldLink RX1 33 "ShipOffice$Agreement" "voyage" "LShipOffice$Voyage;", Cond.fieldLink RX1 44 "ShipOffice$Agreement" "isDead" "Z", Cond.fieldLink RX1 10 "ShipOffice$Agreement" "offDay" "I", Cond.fieldLink RX1 64 "ShipOffice$Happening" "kind" "I", Cond.fieldLink RX1 82 "ShipOffice$Act" "plainWorth" "I", Cond.methodLink RX1 53 yX9_lostBy, Cond.instanceMethod yX9_lostBy, Cond.selects RX9 yX9_lostBy yX9_lostBy, Cond.initialized RX9, Cond.code yX9_lostBy cX9_lostBy 3 (some .boolean), Cond.fieldLink RX9 22 "ShipOffice$Voyage" "lostTold" "I", Cond.fieldLink RX9 19 "ShipOffice$Voyage" "lostDay" "I", Cond.methodLink RX1 57 yX1_diedBy, Cond.instanceMethod yX1_diedBy]
def wsX10_menAboard_r2 : List Cond := [Cond.selects RX1 yX1_diedBy yX1_diedBy, Cond.code yX1_diedBy cX1_diedBy 4 (some .boolean), Cond.fieldLink RX1 87 "ShipOffice$Agreement" "tidings" "LShipOffice$Happening;", Cond.fieldLink RX1 91 "ShipOffice$Happening" "told" "I", Cond.fieldLink RX1 94 "ShipOffice$Happening" "day" "I", Cond.fieldLink RX1 97 "ShipOffice$Happening" "before" "LShipOffice$Happening;", Cond.methodLink RX1 60 yX1_lastMove, Cond.instanceMethod yX1_lastMove, Cond.selects RX1 yX1_lastMove yX1_lastMove, Cond.code yX1_lastMove cX1_lastMove 6 (some (.object "ShipOffice$Happening")), Cond.methodLink RX1 69 yX9_sailedBy, Cond.instanceMethod yX9_sailedBy, Cond.selects RX9 yX9_sailedBy yX9_sailedBy, Cond.code yX9_sailedBy cX9_sailedBy 3 (some .boolean), Cond.fieldLink RX9 16 "ShipOffice$Voyage" "sailedTold" "I", Cond.fieldLink RX9 10 "ShipOffice$Voyage" "sailedDay" "I", Cond.methodLink RX1 72 yX9_lastHeard, Cond.instanceMethod yX9_lastHeard, Cond.selects RX9 yX9_lastHeard yX9_lastHeard, Cond.code yX9_lastHeard cX9_lastHeard 5 (some .int), Cond.fieldLink RX9 41 "ShipOffice$Voyage" "heardOf" "LShipOffice$Happening;", Cond.fieldLink RX9 45 "ShipOffice$Happening" "told" "I", Cond.fieldLink RX9 50 "ShipOffice$Happening" "day" "I", Cond.fieldLink RX9 53 "ShipOffice$Happening" "before" "LShipOffice$Happening;"]
def wsX10_menAboard_r3 : List Cond := [Cond.methodLink RX1 76 yX5_inForce, Cond.instanceMethod yX5_inForce, Cond.selects RX5 yX5_inForce yX5_inForce, Cond.initialized RX5, Cond.code yX5_inForce cX5_inForce 6 (some (.object "ShipOffice$Act")), Cond.fieldLink RX5 17 "ShipOffice$Law" "customs" "[LShipOffice$Act;", Cond.fieldLink RX5 23 "ShipOffice$Law" "actCount" "I", Cond.fieldLink RX5 11 "ShipOffice$Law" "acts" "[LShipOffice$Act;", Cond.fieldLink RX5 27 "ShipOffice$Act" "purpose" "I", Cond.fieldLink RX5 30 "ShipOffice$Act" "day" "I"]
def wsX10_menAboard : List Cond := .code yX10_menAboard cX10_menAboard 6 (some .int) :: ((wsX10_menAboard_r1 ++ (wsX10_menAboard_r2 ++ wsX10_menAboard_r3)) ++ wsX100 ++ wsX10 ++ wsX30 ++ wsX00 ++ wsX90 ++ wsX50)
theorem gw_X10_menAboard : wsX10_menAboard.all goodWord = true := by decide +kernel
theorem il_X10_menAboard_1 : ∀ w ∈ wsX10_menAboard_r1, w ∈ wsX10_menAboard := fun w h => (List.mem_cons_of_mem _ (List.mem_append_left _ (List.mem_append_left _ (List.mem_append_left _ (List.mem_append_left _ (List.mem_append_left _ (List.mem_append_left _ (List.mem_append_left _ h))))))))
theorem il_X10_menAboard_2 : ∀ w ∈ wsX10_menAboard_r2, w ∈ wsX10_menAboard := fun w h => (List.mem_cons_of_mem _ (List.mem_append_left _ (List.mem_append_left _ (List.mem_append_left _ (List.mem_append_left _ (List.mem_append_left _ (List.mem_append_left _ (List.mem_append_right _ (List.mem_append_left _ h)))))))))
theorem il_X10_menAboard_3 : ∀ w ∈ wsX10_menAboard_r3, w ∈ wsX10_menAboard := fun w h => (List.mem_cons_of_mem _ (List.mem_append_left _ (List.mem_append_left _ (List.mem_append_left _ (List.mem_append_left _ (List.mem_append_left _ (List.mem_append_left _ (List.mem_append_right _ (List.mem_append_right _ h)))))))))
theorem il_X10_menAboard_5 : ∀ w ∈ wsX10, w ∈ wsX10_menAboard := fun w h => (List.mem_cons_of_mem _ (List.mem_append_left _ (List.mem_append_left _ (List.mem_append_left _ (List.mem_append_left _ (List.mem_append_right _ h))))))
theorem il_X10_menAboard_6 : ∀ w ∈ wsX30, w ∈ wsX10_menAboard := fun w h => (List.mem_cons_of_mem _ (List.mem_append_left _ (List.mem_append_left _ (List.mem_append_left _ (List.mem_append_right _ h)))))
theorem il_X10_menAboard_7 : ∀ w ∈ wsX00, w ∈ wsX10_menAboard := fun w h => (List.mem_cons_of_mem _ (List.mem_append_left _ (List.mem_append_left _ (List.mem_append_right _ h))))
theorem il_X10_menAboard_8 : ∀ w ∈ wsX90, w ∈ wsX10_menAboard := fun w h => (List.mem_cons_of_mem _ (List.mem_append_left _ (List.mem_append_right _ h)))
theorem il_X10_menAboard_9 : ∀ w ∈ wsX50, w ∈ wsX10_menAboard := fun w h => (List.mem_cons_of_mem _ (List.mem_append_right _ h))
theorem iw_X10_menAboard_1 : Cond.fieldLink RX10 115 "ShipOffice" "agreementCount" "I" ∈ wsX10_menAboard := (mmI il_X10_menAboard_1 0 rfl)
theorem iw_X10_menAboard_2 : Cond.fieldLink RX10 23 "ShipOffice" "agreements" "[LShipOffice$Agreement;" ∈ wsX10_menAboard := (mmI il_X10_menAboard_1 1 rfl)
theorem iw_X10_menAboard_3 : Cond.fieldLink RX10 118 "ShipOffice$Agreement" "voyage" "LShipOffice$Voyage;" ∈ wsX10_menAboard := (mmI il_X10_menAboard_1 2 rfl)
theorem iw_X10_menAboard_4 : Cond.fieldLink RX10 30 "ShipOffice" "law" "LShipOffice$Law;" ∈ wsX10_menAboard := (mmI il_X10_menAboard_1 3 rfl)
def wsX10_worthFor_r1 : List Cond := [Cond.fieldLink RX10 30 "ShipOffice" "law" "LShipOffice$Law;", Cond.fieldLink RX10 59 "ShipOffice" "letters" "[I", Cond.fieldLink RX10 223 "ShipOffice$Agreement" "wage" "I", Cond.fieldLink RX10 226 "ShipOffice$Agreement" "rank" "I", Cond.fieldLink RX10 299 "ShipOffice$Agreement" "man" "LShipOffice$Man;", Cond.fieldLink RX10 118 "ShipOffice$Agreement" "voyage" "LShipOffice$Voyage;", Cond.methodLink RX10 400 yX5_inForce, Cond.instanceMethod yX5_inForce, Cond.selects RX5 yX5_inForce yX5_inForce, Cond.initialized RX5, Cond.code yX5_inForce cX5_inForce 6 (some (.object "ShipOffice$Act")), Cond.fieldLink RX5 17 "ShipOffice$Law" "customs" "[LShipOffice$Act;", Cond.fieldLink RX5 23 "ShipOffice$Law" "actCount" "I", Cond.fieldLink RX5 11 "ShipOffice$Law" "acts" "[LShipOffice$Act;", Cond.fieldLink RX5 27 "ShipOffice$Act" "purpose" "I", Cond.fieldLink RX5 30 "ShipOffice$Act" "day" "I", Cond.methodLink RX10 397 yX6_yearsOn, Cond.instanceMethod yX6_yearsOn, Cond.selects RX6 yX6_yearsOn yX6_yearsOn, Cond.initialized RX6, Cond.code yX6_yearsOn cX6_yearsOn 2 (some .int), Cond.fieldLink RX6 25 "ShipOffice$Man" "born" "I", Cond.methodLink RX10 408 yX0_uses, Cond.instanceMethod yX0_uses]
def wsX10_worthFor_r2 : List Cond := [Cond.selects RX0 yX0_uses yX0_uses, Cond.initialized RX0, Cond.code yX0_uses cX0_uses 6 (some .boolean), Cond.fieldLink RX0 16 "ShipOffice$Act" "code" "[I", Cond.methodLink RX10 411 yX1_daysIn, Cond.instanceMethod yX1_daysIn, Cond.selects RX1 yX1_daysIn yX1_daysIn, Cond.initialized RX1, Cond.code yX1_daysIn cX1_daysIn 10 (some .int), Cond.fieldLink RX1 37 "ShipOffice$Agreement" "signedOn" "I", Cond.methodLink RX1 111 Lib.Math.min.name, Cond.static Lib.Math.min.name, Cond.initialized "java/lang/Math", Cond.code Lib.Math.min.name Lib.Math.min.code 2 (some .int), Cond.methodLink RX1 100 yX1_stateOn, Cond.instanceMethod yX1_stateOn, Cond.selects RX1 yX1_stateOn yX1_stateOn, Cond.code yX1_stateOn cX1_stateOn 5 (some .int), Cond.fieldLink RX1 33 "ShipOffice$Agreement" "voyage" "LShipOffice$Voyage;", Cond.fieldLink RX1 44 "ShipOffice$Agreement" "isDead" "Z", Cond.fieldLink RX1 10 "ShipOffice$Agreement" "offDay" "I", Cond.fieldLink RX1 64 "ShipOffice$Happening" "kind" "I", Cond.fieldLink RX1 82 "ShipOffice$Act" "plainWorth" "I", Cond.methodLink RX1 53 yX9_lostBy]
def wsX10_worthFor_r3 : List Cond := [Cond.instanceMethod yX9_lostBy, Cond.selects RX9 yX9_lostBy yX9_lostBy, Cond.initialized RX9, Cond.code yX9_lostBy cX9_lostBy 3 (some .boolean), Cond.fieldLink RX9 22 "ShipOffice$Voyage" "lostTold" "I", Cond.fieldLink RX9 19 "ShipOffice$Voyage" "lostDay" "I", Cond.methodLink RX1 57 yX1_diedBy, Cond.instanceMethod yX1_diedBy, Cond.selects RX1 yX1_diedBy yX1_diedBy, Cond.code yX1_diedBy cX1_diedBy 4 (some .boolean), Cond.fieldLink RX1 87 "ShipOffice$Agreement" "tidings" "LShipOffice$Happening;", Cond.fieldLink RX1 91 "ShipOffice$Happening" "told" "I", Cond.fieldLink RX1 94 "ShipOffice$Happening" "day" "I", Cond.fieldLink RX1 97 "ShipOffice$Happening" "before" "LShipOffice$Happening;", Cond.methodLink RX1 60 yX1_lastMove, Cond.instanceMethod yX1_lastMove, Cond.selects RX1 yX1_lastMove yX1_lastMove, Cond.code yX1_lastMove cX1_lastMove 6 (some (.object "ShipOffice$Happening")), Cond.methodLink RX1 69 yX9_sailedBy, Cond.instanceMethod yX9_sailedBy, Cond.selects RX9 yX9_sailedBy yX9_sailedBy, Cond.code yX9_sailedBy cX9_sailedBy 3 (some .boolean), Cond.fieldLink RX9 16 "ShipOffice$Voyage" "sailedTold" "I", Cond.fieldLink RX9 10 "ShipOffice$Voyage" "sailedDay" "I"]
def wsX10_worthFor_r4 : List Cond := [Cond.methodLink RX1 72 yX9_lastHeard, Cond.instanceMethod yX9_lastHeard, Cond.selects RX9 yX9_lastHeard yX9_lastHeard, Cond.code yX9_lastHeard cX9_lastHeard 5 (some .int), Cond.fieldLink RX9 41 "ShipOffice$Voyage" "heardOf" "LShipOffice$Happening;", Cond.fieldLink RX9 45 "ShipOffice$Happening" "told" "I", Cond.fieldLink RX9 50 "ShipOffice$Happening" "day" "I", Cond.fieldLink RX9 53 "ShipOffice$Happening" "before" "LShipOffice$Happening;", Cond.methodLink RX1 76 yX5_inForce, Cond.methodLink RX1 108 yX1_nextChange, Cond.instanceMethod yX1_nextChange, Cond.selects RX1 yX1_nextChange yX1_nextChange, Cond.code yX1_nextChange cX1_nextChange 6 (some .int), Cond.constant RX1 9 (1000000), Cond.methodLink RX1 116 yX1_nearer, Cond.static yX1_nearer, Cond.code yX1_nearer cX1_nearer 3 (some .int), Cond.methodLink RX1 120 yX9_nextTold, Cond.instanceMethod yX9_nextTold, Cond.selects RX9 yX9_nextTold yX9_nextTold, Cond.code yX9_nextTold cX9_nextTold 5 (some .int), Cond.constant RX9 9 (1000000), Cond.methodLink RX1 123 yX5_nextPresume, Cond.instanceMethod yX5_nextPresume]
def wsX10_worthFor_r5 : List Cond := [Cond.selects RX5 yX5_nextPresume yX5_nextPresume, Cond.code yX5_nextPresume cX5_nextPresume 4 (some .int), Cond.constant RX5 33 (1000000), Cond.methodLink RX10 307 yX10_menAboard, Cond.instanceMethod yX10_menAboard, Cond.selects RX10 yX10_menAboard yX10_menAboard, Cond.initialized RX10, Cond.code yX10_menAboard cX10_menAboard 6 (some .int), Cond.fieldLink RX10 115 "ShipOffice" "agreementCount" "I", Cond.fieldLink RX10 23 "ShipOffice" "agreements" "[LShipOffice$Agreement;", Cond.methodLink RX10 233 yX1_stateOn, Cond.methodLink RX10 415 yX9_daysUnheard, Cond.instanceMethod yX9_daysUnheard, Cond.selects RX9 yX9_daysUnheard yX9_daysUnheard, Cond.code yX9_daysUnheard cX9_daysUnheard 4 (some .int), Cond.methodLink RX9 56 yX9_lastHeard, Cond.methodLink RX10 404 yX0_worth, Cond.instanceMethod yX0_worth, Cond.selects RX0 yX0_worth yX0_worth, Cond.code yX0_worth cX0_worth 8 (some .int), Cond.fieldLink RX0 20 "ShipOffice$Act" "stack" "[I", Cond.methodLink RX0 36 yX0_joined, Cond.static yX0_joined, Cond.code yX0_joined cX0_joined 5 (some .int)]
def wsX10_worthFor_r6 : List Cond := [Cond.methodLink RX0 40 yX0_held, Cond.static yX0_held, Cond.code yX0_held cX0_held 2 (some .int), Cond.constantLong RX0 44 (1000000000), Cond.constant RX0 46 (1000000000), Cond.constantLong RX0 47 (-1000000000), Cond.constant RX0 49 (-1000000000)]
def wsX10_worthFor : List Cond := .code yX10_worthFor cX10_worthFor 8 (some .int) :: ((wsX10_worthFor_r1 ++ (wsX10_worthFor_r2 ++ (wsX10_worthFor_r3 ++ (wsX10_worthFor_r4 ++ (wsX10_worthFor_r5 ++ wsX10_worthFor_r6))))) ++ wsX100 ++ wsX10 ++ wsX50 ++ wsX00 ++ wsX60 ++ wsX30 ++ wsX90)
theorem gw_X10_worthFor : wsX10_worthFor.all goodWord = true := by decide +kernel
theorem il_X10_worthFor_1 : ∀ w ∈ wsX10_worthFor_r1, w ∈ wsX10_worthFor := fun w h => (List.mem_cons_of_mem _ (List.mem_append_left _ (List.mem_append_left _ (List.mem_append_left _ (List.mem_append_left _ (List.mem_append_left _ (List.mem_append_left _ (List.mem_append_left _ (List.mem_append_left _ h)))))))))
theorem il_X10_worthFor_2 : ∀ w ∈ wsX10_worthFor_r2, w ∈ wsX10_worthFor := fun w h => (List.mem_cons_of_mem _ (List.mem_append_left _ (List.mem_append_left _ (List.mem_append_left _ (List.mem_append_left _ (List.mem_append_left _ (List.mem_append_left _ (List.mem_append_left _ (List.mem_append_right _ (List.mem_append_left _ h))))))))))
theorem il_X10_worthFor_3 : ∀ w ∈ wsX10_worthFor_r3, w ∈ wsX10_worthFor := fun w h => (List.mem_cons_of_mem _ (List.mem_append_left _ (List.mem_append_left _ (List.mem_append_left _ (List.mem_append_left _ (List.mem_append_left _ (List.mem_append_left _ (List.mem_append_left _ (List.mem_append_right _ (List.mem_append_right _ (List.mem_append_left _ h)))))))))))
theorem il_X10_worthFor_4 : ∀ w ∈ wsX10_worthFor_r4, w ∈ wsX10_worthFor := fun w h => (List.mem_cons_of_mem _ (List.mem_append_left _ (List.mem_append_left _ (List.mem_append_left _ (List.mem_append_left _ (List.mem_append_left _ (List.mem_append_left _ (List.mem_append_left _ (List.mem_append_right _ (List.mem_append_right _ (List.mem_append_right _ (List.mem_append_left _ h))))))))))))
theorem il_X10_worthFor_5 : ∀ w ∈ wsX10_worthFor_r5, w ∈ wsX10_worthFor := fun w h => (List.mem_cons_of_mem _ (List.mem_append_left _ (List.mem_append_left _ (List.mem_append_left _ (List.mem_append_left _ (List.mem_append_left _ (List.mem_append_left _ (List.mem_append_left _ (List.mem_append_right _ (List.mem_append_right _ (List.mem_append_right _ (List.mem_append_right _ (List.mem_append_left _ h)))))))))))))
theorem il_X10_worthFor_6 : ∀ w ∈ wsX10_worthFor_r6, w ∈ wsX10_worthFor := fun w h => (List.mem_cons_of_mem _ (List.mem_append_left _ (List.mem_append_left _ (List.mem_append_left _ (List.mem_append_left _ (List.mem_append_left _ (List.mem_append_left _ (List.mem_append_left _ (List.mem_append_right _ (List.mem_append_right _ (List.mem_append_right _ (List.mem_append_right _ (List.mem_append_right _ h)))))))))))))
theorem il_X10_worthFor_7 : ∀ w ∈ wsX100, w ∈ wsX10_worthFor := fun w h => (List.mem_cons_of_mem _ (List.mem_append_left _ (List.mem_append_left _ (List.mem_append_left _ (List.mem_append_left _ (List.mem_append_left _ (List.mem_append_left _ (List.mem_append_right _ h))))))))
theorem il_X10_worthFor_8 : ∀ w ∈ wsX10, w ∈ wsX10_worthFor := fun w h => (List.mem_cons_of_mem _ (List.mem_append_left _ (List.mem_append_left _ (List.mem_append_left _ (List.mem_append_left _ (List.mem_append_left _ (List.mem_append_right _ h)))))))
theorem il_X10_worthFor_9 : ∀ w ∈ wsX50, w ∈ wsX10_worthFor := fun w h => (List.mem_cons_of_mem _ (List.mem_append_left _ (List.mem_append_left _ (List.mem_append_left _ (List.mem_append_left _ (List.mem_append_right _ h))))))
theorem il_X10_worthFor_10 : ∀ w ∈ wsX00, w ∈ wsX10_worthFor := fun w h => (List.mem_cons_of_mem _ (List.mem_append_left _ (List.mem_append_left _ (List.mem_append_left _ (List.mem_append_right _ h)))))
theorem il_X10_worthFor_11 : ∀ w ∈ wsX60, w ∈ wsX10_worthFor := fun w h => (List.mem_cons_of_mem _ (List.mem_append_left _ (List.mem_append_left _ (List.mem_append_right _ h))))
theorem il_X10_worthFor_12 : ∀ w ∈ wsX30, w ∈ wsX10_worthFor := fun w h => (List.mem_cons_of_mem _ (List.mem_append_left _ (List.mem_append_right _ h)))
theorem il_X10_worthFor_13 : ∀ w ∈ wsX90, w ∈ wsX10_worthFor := fun w h => (List.mem_cons_of_mem _ (List.mem_append_right _ h))
theorem iw_X10_worthFor_1 : Cond.fieldLink RX10 30 "ShipOffice" "law" "LShipOffice$Law;" ∈ wsX10_worthFor := (mmI il_X10_worthFor_1 0 rfl)
theorem iw_X10_worthFor_2 : Cond.fieldLink RX10 59 "ShipOffice" "letters" "[I" ∈ wsX10_worthFor := (mmI il_X10_worthFor_1 1 rfl)
theorem iw_X10_worthFor_3 : Cond.fieldLink RX10 223 "ShipOffice$Agreement" "wage" "I" ∈ wsX10_worthFor := (mmI il_X10_worthFor_1 2 rfl)
theorem iw_X10_worthFor_4 : Cond.fieldLink RX10 226 "ShipOffice$Agreement" "rank" "I" ∈ wsX10_worthFor := (mmI il_X10_worthFor_1 3 rfl)
theorem iw_X10_worthFor_5 : Cond.fieldLink RX10 299 "ShipOffice$Agreement" "man" "LShipOffice$Man;" ∈ wsX10_worthFor := (mmI il_X10_worthFor_1 4 rfl)
theorem iw_X10_worthFor_6 : Cond.fieldLink RX10 118 "ShipOffice$Agreement" "voyage" "LShipOffice$Voyage;" ∈ wsX10_worthFor := (mmI il_X10_worthFor_1 5 rfl)
def wsX10_standing_r1 : List Cond := [Cond.fieldLink RX10 277 "ShipOffice$Fine" "day" "I", Cond.fieldLink RX10 418 "ShipOffice$Fine" "sum" "I", Cond.fieldLink RX10 274 "ShipOffice$Fine" "isRead" "Z", Cond.methodLink RX10 378 Lib.Math.min.name, Cond.static Lib.Math.min.name, Cond.initialized "java/lang/Math", Cond.code Lib.Math.min.name Lib.Math.min.code 2 (some .int), Cond.methodLink RX10 383 Lib.Math.max.name, Cond.static Lib.Math.max.name, Cond.code Lib.Math.max.name Lib.Math.max.code 2 (some .int), Cond.methodLink RX10 249 yX10_worthFor, Cond.instanceMethod yX10_worthFor, Cond.selects RX10 yX10_worthFor yX10_worthFor, Cond.initialized RX10, Cond.code yX10_worthFor cX10_worthFor 8 (some .int), Cond.fieldLink RX10 30 "ShipOffice" "law" "LShipOffice$Law;", Cond.fieldLink RX10 59 "ShipOffice" "letters" "[I", Cond.fieldLink RX10 223 "ShipOffice$Agreement" "wage" "I", Cond.fieldLink RX10 226 "ShipOffice$Agreement" "rank" "I", Cond.fieldLink RX10 299 "ShipOffice$Agreement" "man" "LShipOffice$Man;", Cond.fieldLink RX10 118 "ShipOffice$Agreement" "voyage" "LShipOffice$Voyage;", Cond.methodLink RX10 400 yX5_inForce, Cond.instanceMethod yX5_inForce, Cond.selects RX5 yX5_inForce yX5_inForce]
def wsX10_standing_r2 : List Cond := [Cond.initialized RX5, Cond.code yX5_inForce cX5_inForce 6 (some (.object "ShipOffice$Act")), Cond.fieldLink RX5 17 "ShipOffice$Law" "customs" "[LShipOffice$Act;", Cond.fieldLink RX5 23 "ShipOffice$Law" "actCount" "I", Cond.fieldLink RX5 11 "ShipOffice$Law" "acts" "[LShipOffice$Act;", Cond.fieldLink RX5 27 "ShipOffice$Act" "purpose" "I", Cond.fieldLink RX5 30 "ShipOffice$Act" "day" "I", Cond.methodLink RX10 397 yX6_yearsOn, Cond.instanceMethod yX6_yearsOn, Cond.selects RX6 yX6_yearsOn yX6_yearsOn, Cond.initialized RX6, Cond.code yX6_yearsOn cX6_yearsOn 2 (some .int), Cond.fieldLink RX6 25 "ShipOffice$Man" "born" "I", Cond.methodLink RX10 408 yX0_uses, Cond.instanceMethod yX0_uses, Cond.selects RX0 yX0_uses yX0_uses, Cond.initialized RX0, Cond.code yX0_uses cX0_uses 6 (some .boolean), Cond.fieldLink RX0 16 "ShipOffice$Act" "code" "[I", Cond.methodLink RX10 411 yX1_daysIn, Cond.instanceMethod yX1_daysIn, Cond.selects RX1 yX1_daysIn yX1_daysIn, Cond.initialized RX1, Cond.code yX1_daysIn cX1_daysIn 10 (some .int)]
def wsX10_standing_r3 : List Cond := [Cond.fieldLink RX1 37 "ShipOffice$Agreement" "signedOn" "I", Cond.methodLink RX1 111 Lib.Math.min.name, Cond.methodLink RX1 100 yX1_stateOn, Cond.instanceMethod yX1_stateOn, Cond.selects RX1 yX1_stateOn yX1_stateOn, Cond.code yX1_stateOn cX1_stateOn 5 (some .int), Cond.fieldLink RX1 33 "ShipOffice$Agreement" "voyage" "LShipOffice$Voyage;", Cond.fieldLink RX1 44 "ShipOffice$Agreement" "isDead" "Z", Cond.fieldLink RX1 10 "ShipOffice$Agreement" "offDay" "I", Cond.fieldLink RX1 64 "ShipOffice$Happening" "kind" "I", Cond.fieldLink RX1 82 "ShipOffice$Act" "plainWorth" "I", Cond.methodLink RX1 53 yX9_lostBy, Cond.instanceMethod yX9_lostBy, Cond.selects RX9 yX9_lostBy yX9_lostBy, Cond.initialized RX9, Cond.code yX9_lostBy cX9_lostBy 3 (some .boolean), Cond.fieldLink RX9 22 "ShipOffice$Voyage" "lostTold" "I", Cond.fieldLink RX9 19 "ShipOffice$Voyage" "lostDay" "I", Cond.methodLink RX1 57 yX1_diedBy, Cond.instanceMethod yX1_diedBy, Cond.selects RX1 yX1_diedBy yX1_diedBy, Cond.code yX1_diedBy cX1_diedBy 4 (some .boolean), Cond.fieldLink RX1 87 "ShipOffice$Agreement" "tidings" "LShipOffice$Happening;", Cond.fieldLink RX1 91 "ShipOffice$Happening" "told" "I"]
def wsX10_standing_r4 : List Cond := [Cond.fieldLink RX1 94 "ShipOffice$Happening" "day" "I", Cond.fieldLink RX1 97 "ShipOffice$Happening" "before" "LShipOffice$Happening;", Cond.methodLink RX1 60 yX1_lastMove, Cond.instanceMethod yX1_lastMove, Cond.selects RX1 yX1_lastMove yX1_lastMove, Cond.code yX1_lastMove cX1_lastMove 6 (some (.object "ShipOffice$Happening")), Cond.methodLink RX1 69 yX9_sailedBy, Cond.instanceMethod yX9_sailedBy, Cond.selects RX9 yX9_sailedBy yX9_sailedBy, Cond.code yX9_sailedBy cX9_sailedBy 3 (some .boolean), Cond.fieldLink RX9 16 "ShipOffice$Voyage" "sailedTold" "I", Cond.fieldLink RX9 10 "ShipOffice$Voyage" "sailedDay" "I", Cond.methodLink RX1 72 yX9_lastHeard, Cond.instanceMethod yX9_lastHeard, Cond.selects RX9 yX9_lastHeard yX9_lastHeard, Cond.code yX9_lastHeard cX9_lastHeard 5 (some .int), Cond.fieldLink RX9 41 "ShipOffice$Voyage" "heardOf" "LShipOffice$Happening;", Cond.fieldLink RX9 45 "ShipOffice$Happening" "told" "I", Cond.fieldLink RX9 50 "ShipOffice$Happening" "day" "I", Cond.fieldLink RX9 53 "ShipOffice$Happening" "before" "LShipOffice$Happening;", Cond.methodLink RX1 76 yX5_inForce, Cond.methodLink RX1 108 yX1_nextChange, Cond.instanceMethod yX1_nextChange, Cond.selects RX1 yX1_nextChange yX1_nextChange]
def wsX10_standing_r5 : List Cond := [Cond.code yX1_nextChange cX1_nextChange 6 (some .int), Cond.constant RX1 9 (1000000), Cond.methodLink RX1 116 yX1_nearer, Cond.static yX1_nearer, Cond.code yX1_nearer cX1_nearer 3 (some .int), Cond.methodLink RX1 120 yX9_nextTold, Cond.instanceMethod yX9_nextTold, Cond.selects RX9 yX9_nextTold yX9_nextTold, Cond.code yX9_nextTold cX9_nextTold 5 (some .int), Cond.constant RX9 9 (1000000), Cond.methodLink RX1 123 yX5_nextPresume, Cond.instanceMethod yX5_nextPresume, Cond.selects RX5 yX5_nextPresume yX5_nextPresume, Cond.code yX5_nextPresume cX5_nextPresume 4 (some .int), Cond.constant RX5 33 (1000000), Cond.methodLink RX10 307 yX10_menAboard, Cond.instanceMethod yX10_menAboard, Cond.selects RX10 yX10_menAboard yX10_menAboard, Cond.code yX10_menAboard cX10_menAboard 6 (some .int), Cond.fieldLink RX10 115 "ShipOffice" "agreementCount" "I", Cond.fieldLink RX10 23 "ShipOffice" "agreements" "[LShipOffice$Agreement;", Cond.methodLink RX10 233 yX1_stateOn, Cond.methodLink RX10 415 yX9_daysUnheard, Cond.instanceMethod yX9_daysUnheard]
def wsX10_standing_r6 : List Cond := [Cond.selects RX9 yX9_daysUnheard yX9_daysUnheard, Cond.code yX9_daysUnheard cX9_daysUnheard 4 (some .int), Cond.methodLink RX9 56 yX9_lastHeard, Cond.methodLink RX10 404 yX0_worth, Cond.instanceMethod yX0_worth, Cond.selects RX0 yX0_worth yX0_worth, Cond.code yX0_worth cX0_worth 8 (some .int), Cond.fieldLink RX0 20 "ShipOffice$Act" "stack" "[I", Cond.methodLink RX0 36 yX0_joined, Cond.static yX0_joined, Cond.code yX0_joined cX0_joined 5 (some .int), Cond.methodLink RX0 40 yX0_held, Cond.static yX0_held, Cond.code yX0_held cX0_held 2 (some .int), Cond.constantLong RX0 44 (1000000000), Cond.constant RX0 46 (1000000000), Cond.constantLong RX0 47 (-1000000000), Cond.constant RX0 49 (-1000000000)]
def wsX10_standing : List Cond := .code yX10_standing cX10_standing 5 (some .int) :: ((wsX10_standing_r1 ++ (wsX10_standing_r2 ++ (wsX10_standing_r3 ++ (wsX10_standing_r4 ++ (wsX10_standing_r5 ++ wsX10_standing_r6))))) ++ wsX20 ++ wsX100 ++ wsX10 ++ wsX50 ++ wsX00 ++ wsX60 ++ wsX30 ++ wsX90)
theorem gw_X10_standing : wsX10_standing.all goodWord = true := by decide +kernel
theorem il_X10_standing_1 : ∀ w ∈ wsX10_standing_r1, w ∈ wsX10_standing := fun w h => (List.mem_cons_of_mem _ (List.mem_append_left _ (List.mem_append_left _ (List.mem_append_left _ (List.mem_append_left _ (List.mem_append_left _ (List.mem_append_left _ (List.mem_append_left _ (List.mem_append_left _ (List.mem_append_left _ h))))))))))
theorem il_X10_standing_2 : ∀ w ∈ wsX10_standing_r2, w ∈ wsX10_standing := fun w h => (List.mem_cons_of_mem _ (List.mem_append_left _ (List.mem_append_left _ (List.mem_append_left _ (List.mem_append_left _ (List.mem_append_left _ (List.mem_append_left _ (List.mem_append_left _ (List.mem_append_left _ (List.mem_append_right _ (List.mem_append_left _ h)))))))))))
theorem il_X10_standing_3 : ∀ w ∈ wsX10_standing_r3, w ∈ wsX10_standing := fun w h => (List.mem_cons_of_mem _ (List.mem_append_left _ (List.mem_append_left _ (List.mem_append_left _ (List.mem_append_left _ (List.mem_append_left _ (List.mem_append_left _ (List.mem_append_left _ (List.mem_append_left _ (List.mem_append_right _ (List.mem_append_right _ (List.mem_append_left _ h))))))))))))
theorem il_X10_standing_4 : ∀ w ∈ wsX10_standing_r4, w ∈ wsX10_standing := fun w h => (List.mem_cons_of_mem _ (List.mem_append_left _ (List.mem_append_left _ (List.mem_append_left _ (List.mem_append_left _ (List.mem_append_left _ (List.mem_append_left _ (List.mem_append_left _ (List.mem_append_left _ (List.mem_append_right _ (List.mem_append_right _ (List.mem_append_right _ (List.mem_append_left _ h)))))))))))))
theorem il_X10_standing_5 : ∀ w ∈ wsX10_standing_r5, w ∈ wsX10_standing := fun w h => (List.mem_cons_of_mem _ (List.mem_append_left _ (List.mem_append_left _ (List.mem_append_left _ (List.mem_append_left _ (List.mem_append_left _ (List.mem_append_left _ (List.mem_append_left _ (List.mem_append_left _ (List.mem_append_right _ (List.mem_append_right _ (List.mem_append_right _ (List.mem_append_right _ (List.mem_append_left _ h))))))))))))))
theorem il_X10_standing_6 : ∀ w ∈ wsX10_standing_r6, w ∈ wsX10_standing := fun w h => (List.mem_cons_of_mem _ (List.mem_append_left _ (List.mem_append_left _ (List.mem_append_left _ (List.mem_append_left _ (List.mem_append_left _ (List.mem_append_left _ (List.mem_append_left _ (List.mem_append_left _ (List.mem_append_right _ (List.mem_append_right _ (List.mem_append_right _ (List.mem_append_right _ (List.mem_append_right _ h))))))))))))))
theorem il_X10_standing_8 : ∀ w ∈ wsX100, w ∈ wsX10_standing := fun w h => (List.mem_cons_of_mem _ (List.mem_append_left _ (List.mem_append_left _ (List.mem_append_left _ (List.mem_append_left _ (List.mem_append_left _ (List.mem_append_left _ (List.mem_append_right _ h))))))))
theorem il_X10_standing_9 : ∀ w ∈ wsX10, w ∈ wsX10_standing := fun w h => (List.mem_cons_of_mem _ (List.mem_append_left _ (List.mem_append_left _ (List.mem_append_left _ (List.mem_append_left _ (List.mem_append_left _ (List.mem_append_right _ h)))))))
theorem il_X10_standing_10 : ∀ w ∈ wsX50, w ∈ wsX10_standing := fun w h => (List.mem_cons_of_mem _ (List.mem_append_left _ (List.mem_append_left _ (List.mem_append_left _ (List.mem_append_left _ (List.mem_append_right _ h))))))
theorem il_X10_standing_11 : ∀ w ∈ wsX00, w ∈ wsX10_standing := fun w h => (List.mem_cons_of_mem _ (List.mem_append_left _ (List.mem_append_left _ (List.mem_append_left _ (List.mem_append_right _ h)))))
theorem il_X10_standing_12 : ∀ w ∈ wsX60, w ∈ wsX10_standing := fun w h => (List.mem_cons_of_mem _ (List.mem_append_left _ (List.mem_append_left _ (List.mem_append_right _ h))))
theorem il_X10_standing_13 : ∀ w ∈ wsX30, w ∈ wsX10_standing := fun w h => (List.mem_cons_of_mem _ (List.mem_append_left _ (List.mem_append_right _ h)))
theorem il_X10_standing_14 : ∀ w ∈ wsX90, w ∈ wsX10_standing := fun w h => (List.mem_cons_of_mem _ (List.mem_append_right _ h))
theorem iw_X10_standing_1 : Cond.fieldLink RX10 277 "ShipOffice$Fine" "day" "I" ∈ wsX10_standing := (mmI il_X10_standing_1 0 rfl)
theorem iw_X10_standing_2 : Cond.fieldLink RX10 418 "ShipOffice$Fine" "sum" "I" ∈ wsX10_standing := (mmI il_X10_standing_1 1 rfl)
theorem iw_X10_standing_3 : Cond.fieldLink RX10 274 "ShipOffice$Fine" "isRead" "Z" ∈ wsX10_standing := (mmI il_X10_standing_1 2 rfl)
theorem iw_X10_standing_4 : Cond.methodLink RX10 378 Lib.Math.min.name ∈ wsX10_standing := (mmI il_X10_standing_1 3 rfl)
theorem iw_X10_standing_5 : Cond.static Lib.Math.min.name ∈ wsX10_standing := (mmI il_X10_standing_1 4 rfl)
theorem iw_X10_standing_6 : Cond.initialized "java/lang/Math" ∈ wsX10_standing := (mmI il_X10_standing_1 5 rfl)
theorem iw_X10_standing_7 : Cond.methodLink RX10 383 Lib.Math.max.name ∈ wsX10_standing := (mmI il_X10_standing_1 7 rfl)
theorem iw_X10_standing_8 : Cond.static Lib.Math.max.name ∈ wsX10_standing := (mmI il_X10_standing_1 8 rfl)
def wsX10_owedOn_r1 : List Cond := [Cond.fieldLink RX10 255 "ShipOffice$Agreement" "signedOn" "I", Cond.fieldLink RX10 223 "ShipOffice$Agreement" "wage" "I", Cond.fieldLink RX10 30 "ShipOffice" "law" "LShipOffice$Law;", Cond.fieldLink RX10 258 "ShipOffice$Agreement" "fineCount" "I", Cond.fieldLink RX10 261 "ShipOffice$Agreement" "fines" "[LShipOffice$Fine;", Cond.fieldLink RX10 277 "ShipOffice$Fine" "day" "I", Cond.fieldLink RX10 326 "ShipOffice$Happening" "way" "I", Cond.methodLink RX10 378 Lib.Math.min.name, Cond.static Lib.Math.min.name, Cond.initialized "java/lang/Math", Cond.code Lib.Math.min.name Lib.Math.min.code 2 (some .int), Cond.methodLink RX10 383 Lib.Math.max.name, Cond.static Lib.Math.max.name, Cond.code Lib.Math.max.name Lib.Math.max.code 2 (some .int), Cond.constantLong RX10 253 (100), Cond.methodLink RX10 237 yX1_earningDays, Cond.instanceMethod yX1_earningDays, Cond.selects RX1 yX1_earningDays yX1_earningDays, Cond.initialized RX1, Cond.code yX1_earningDays cX1_earningDays 5 (some .int), Cond.fieldLink RX1 33 "ShipOffice$Agreement" "voyage" "LShipOffice$Voyage;", Cond.methodLink RX1 100 yX1_stateOn, Cond.instanceMethod yX1_stateOn, Cond.selects RX1 yX1_stateOn yX1_stateOn]
def wsX10_owedOn_r2 : List Cond := [Cond.code yX1_stateOn cX1_stateOn 5 (some .int), Cond.fieldLink RX1 37 "ShipOffice$Agreement" "signedOn" "I", Cond.fieldLink RX1 44 "ShipOffice$Agreement" "isDead" "Z", Cond.fieldLink RX1 10 "ShipOffice$Agreement" "offDay" "I", Cond.fieldLink RX1 64 "ShipOffice$Happening" "kind" "I", Cond.fieldLink RX1 82 "ShipOffice$Act" "plainWorth" "I", Cond.methodLink RX1 53 yX9_lostBy, Cond.instanceMethod yX9_lostBy, Cond.selects RX9 yX9_lostBy yX9_lostBy, Cond.initialized RX9, Cond.code yX9_lostBy cX9_lostBy 3 (some .boolean), Cond.fieldLink RX9 22 "ShipOffice$Voyage" "lostTold" "I", Cond.fieldLink RX9 19 "ShipOffice$Voyage" "lostDay" "I", Cond.methodLink RX1 57 yX1_diedBy, Cond.instanceMethod yX1_diedBy, Cond.selects RX1 yX1_diedBy yX1_diedBy, Cond.code yX1_diedBy cX1_diedBy 4 (some .boolean), Cond.fieldLink RX1 87 "ShipOffice$Agreement" "tidings" "LShipOffice$Happening;", Cond.fieldLink RX1 91 "ShipOffice$Happening" "told" "I", Cond.fieldLink RX1 94 "ShipOffice$Happening" "day" "I", Cond.fieldLink RX1 97 "ShipOffice$Happening" "before" "LShipOffice$Happening;", Cond.methodLink RX1 60 yX1_lastMove, Cond.instanceMethod yX1_lastMove, Cond.selects RX1 yX1_lastMove yX1_lastMove]
def wsX10_owedOn_r3 : List Cond := [Cond.code yX1_lastMove cX1_lastMove 6 (some (.object "ShipOffice$Happening")), Cond.methodLink RX1 69 yX9_sailedBy, Cond.instanceMethod yX9_sailedBy, Cond.selects RX9 yX9_sailedBy yX9_sailedBy, Cond.code yX9_sailedBy cX9_sailedBy 3 (some .boolean), Cond.fieldLink RX9 16 "ShipOffice$Voyage" "sailedTold" "I", Cond.fieldLink RX9 10 "ShipOffice$Voyage" "sailedDay" "I", Cond.methodLink RX1 72 yX9_lastHeard, Cond.instanceMethod yX9_lastHeard, Cond.selects RX9 yX9_lastHeard yX9_lastHeard, Cond.code yX9_lastHeard cX9_lastHeard 5 (some .int), Cond.fieldLink RX9 41 "ShipOffice$Voyage" "heardOf" "LShipOffice$Happening;", Cond.fieldLink RX9 45 "ShipOffice$Happening" "told" "I", Cond.fieldLink RX9 50 "ShipOffice$Happening" "day" "I", Cond.fieldLink RX9 53 "ShipOffice$Happening" "before" "LShipOffice$Happening;", Cond.methodLink RX1 76 yX5_inForce, Cond.instanceMethod yX5_inForce, Cond.selects RX5 yX5_inForce yX5_inForce, Cond.initialized RX5, Cond.code yX5_inForce cX5_inForce 6 (some (.object "ShipOffice$Act")), Cond.fieldLink RX5 17 "ShipOffice$Law" "customs" "[LShipOffice$Act;", Cond.fieldLink RX5 23 "ShipOffice$Law" "actCount" "I", Cond.fieldLink RX5 11 "ShipOffice$Law" "acts" "[LShipOffice$Act;", Cond.fieldLink RX5 27 "ShipOffice$Act" "purpose" "I"]
def wsX10_owedOn_r4 : List Cond := [Cond.fieldLink RX5 30 "ShipOffice$Act" "day" "I", Cond.methodLink RX1 104 yX1_daysIn, Cond.instanceMethod yX1_daysIn, Cond.selects RX1 yX1_daysIn yX1_daysIn, Cond.code yX1_daysIn cX1_daysIn 10 (some .int), Cond.methodLink RX1 111 Lib.Math.min.name, Cond.methodLink RX1 108 yX1_nextChange, Cond.instanceMethod yX1_nextChange, Cond.selects RX1 yX1_nextChange yX1_nextChange, Cond.code yX1_nextChange cX1_nextChange 6 (some .int), Cond.constant RX1 9 (1000000), Cond.methodLink RX1 116 yX1_nearer, Cond.static yX1_nearer, Cond.code yX1_nearer cX1_nearer 3 (some .int), Cond.methodLink RX1 120 yX9_nextTold, Cond.instanceMethod yX9_nextTold, Cond.selects RX9 yX9_nextTold yX9_nextTold, Cond.code yX9_nextTold cX9_nextTold 5 (some .int), Cond.constant RX9 9 (1000000), Cond.methodLink RX1 123 yX5_nextPresume, Cond.instanceMethod yX5_nextPresume, Cond.selects RX5 yX5_nextPresume yX5_nextPresume, Cond.code yX5_nextPresume cX5_nextPresume 4 (some .int), Cond.constant RX5 33 (1000000)]
def wsX10_owedOn_r5 : List Cond := [Cond.methodLink RX10 421 yX1_notePaid, Cond.instanceMethod yX1_notePaid, Cond.selects RX1 yX1_notePaid yX1_notePaid, Cond.code yX1_notePaid cX1_notePaid 4 (some .int), Cond.fieldLink RX1 127 "ShipOffice$Agreement" "note" "I", Cond.fieldLink RX1 130 "ShipOffice$Voyage" "sailedDay" "I", Cond.methodLink RX10 424 yX1_allotmentsPaid, Cond.instanceMethod yX1_allotmentsPaid, Cond.selects RX1 yX1_allotmentsPaid yX1_allotmentsPaid, Cond.code yX1_allotmentsPaid cX1_allotmentsPaid 6 (some .int), Cond.fieldLink RX1 133 "ShipOffice$Agreement" "allotment" "I", Cond.methodLink RX10 280 yX10_standing, Cond.instanceMethod yX10_standing, Cond.selects RX10 yX10_standing yX10_standing, Cond.initialized RX10, Cond.code yX10_standing cX10_standing 5 (some .int), Cond.fieldLink RX10 418 "ShipOffice$Fine" "sum" "I", Cond.fieldLink RX10 274 "ShipOffice$Fine" "isRead" "Z", Cond.methodLink RX10 249 yX10_worthFor, Cond.instanceMethod yX10_worthFor, Cond.selects RX10 yX10_worthFor yX10_worthFor, Cond.code yX10_worthFor cX10_worthFor 8 (some .int), Cond.fieldLink RX10 59 "ShipOffice" "letters" "[I", Cond.fieldLink RX10 226 "ShipOffice$Agreement" "rank" "I"]
def wsX10_owedOn_r6 : List Cond := [Cond.fieldLink RX10 299 "ShipOffice$Agreement" "man" "LShipOffice$Man;", Cond.fieldLink RX10 118 "ShipOffice$Agreement" "voyage" "LShipOffice$Voyage;", Cond.methodLink RX10 400 yX5_inForce, Cond.methodLink RX10 397 yX6_yearsOn, Cond.instanceMethod yX6_yearsOn, Cond.selects RX6 yX6_yearsOn yX6_yearsOn, Cond.initialized RX6, Cond.code yX6_yearsOn cX6_yearsOn 2 (some .int), Cond.fieldLink RX6 25 "ShipOffice$Man" "born" "I", Cond.methodLink RX10 408 yX0_uses, Cond.instanceMethod yX0_uses, Cond.selects RX0 yX0_uses yX0_uses, Cond.initialized RX0, Cond.code yX0_uses cX0_uses 6 (some .boolean), Cond.fieldLink RX0 16 "ShipOffice$Act" "code" "[I", Cond.methodLink RX10 411 yX1_daysIn, Cond.methodLink RX10 307 yX10_menAboard, Cond.instanceMethod yX10_menAboard, Cond.selects RX10 yX10_menAboard yX10_menAboard, Cond.code yX10_menAboard cX10_menAboard 6 (some .int), Cond.fieldLink RX10 115 "ShipOffice" "agreementCount" "I", Cond.fieldLink RX10 23 "ShipOffice" "agreements" "[LShipOffice$Agreement;", Cond.methodLink RX10 233 yX1_stateOn, Cond.methodLink RX10 415 yX9_daysUnheard]
def wsX10_owedOn_r7 : List Cond := [Cond.instanceMethod yX9_daysUnheard, Cond.selects RX9 yX9_daysUnheard yX9_daysUnheard, Cond.code yX9_daysUnheard cX9_daysUnheard 4 (some .int), Cond.methodLink RX9 56 yX9_lastHeard, Cond.methodLink RX10 404 yX0_worth, Cond.instanceMethod yX0_worth, Cond.selects RX0 yX0_worth yX0_worth, Cond.code yX0_worth cX0_worth 8 (some .int), Cond.fieldLink RX0 20 "ShipOffice$Act" "stack" "[I", Cond.methodLink RX0 36 yX0_joined, Cond.static yX0_joined, Cond.code yX0_joined cX0_joined 5 (some .int), Cond.methodLink RX0 40 yX0_held, Cond.static yX0_held, Cond.code yX0_held cX0_held 2 (some .int), Cond.constantLong RX0 44 (1000000000), Cond.constant RX0 46 (1000000000), Cond.constantLong RX0 47 (-1000000000), Cond.constant RX0 49 (-1000000000), Cond.methodLink RX10 427 yX1_shortPence, Cond.instanceMethod yX1_shortPence, Cond.selects RX1 yX1_shortPence yX1_shortPence, Cond.code yX1_shortPence cX1_shortPence 4 (some .int), Cond.fieldLink RX1 136 "ShipOffice$Agreement" "shortCount" "I"]
def wsX10_owedOn_r8 : List Cond := [Cond.fieldLink RX1 22 "ShipOffice$Agreement" "shortTold" "[I", Cond.fieldLink RX1 26 "ShipOffice$Agreement" "shortSum" "[I", Cond.methodLink RX10 322 yX1_leavingOn, Cond.instanceMethod yX1_leavingOn, Cond.selects RX1 yX1_leavingOn yX1_leavingOn, Cond.code yX1_leavingOn cX1_leavingOn 4 (some (.object "ShipOffice$Happening"))]
def wsX10_owedOn : List Cond := .code yX10_owedOn cX10_owedOn 9 (some .int) :: ((wsX10_owedOn_r1 ++ (wsX10_owedOn_r2 ++ (wsX10_owedOn_r3 ++ (wsX10_owedOn_r4 ++ (wsX10_owedOn_r5 ++ (wsX10_owedOn_r6 ++ (wsX10_owedOn_r7 ++ wsX10_owedOn_r8))))))) ++ wsX10 ++ wsX100 ++ wsX20 ++ wsX30 ++ wsX00 ++ wsX90 ++ wsX50 ++ wsX60)
theorem il_X10_owedOn_1 : ∀ w ∈ wsX10_owedOn_r1, w ∈ wsX10_owedOn := fun w h => (List.mem_cons_of_mem _ (List.mem_append_left _ (List.mem_append_left _ (List.mem_append_left _ (List.mem_append_left _ (List.mem_append_left _ (List.mem_append_left _ (List.mem_append_left _ (List.mem_append_left _ (List.mem_append_left _ h))))))))))
theorem il_X10_owedOn_2 : ∀ w ∈ wsX10_owedOn_r2, w ∈ wsX10_owedOn := fun w h => (List.mem_cons_of_mem _ (List.mem_append_left _ (List.mem_append_left _ (List.mem_append_left _ (List.mem_append_left _ (List.mem_append_left _ (List.mem_append_left _ (List.mem_append_left _ (List.mem_append_left _ (List.mem_append_right _ (List.mem_append_left _ h)))))))))))
theorem il_X10_owedOn_3 : ∀ w ∈ wsX10_owedOn_r3, w ∈ wsX10_owedOn := fun w h => (List.mem_cons_of_mem _ (List.mem_append_left _ (List.mem_append_left _ (List.mem_append_left _ (List.mem_append_left _ (List.mem_append_left _ (List.mem_append_left _ (List.mem_append_left _ (List.mem_append_left _ (List.mem_append_right _ (List.mem_append_right _ (List.mem_append_left _ h))))))))))))
theorem il_X10_owedOn_4 : ∀ w ∈ wsX10_owedOn_r4, w ∈ wsX10_owedOn := fun w h => (List.mem_cons_of_mem _ (List.mem_append_left _ (List.mem_append_left _ (List.mem_append_left _ (List.mem_append_left _ (List.mem_append_left _ (List.mem_append_left _ (List.mem_append_left _ (List.mem_append_left _ (List.mem_append_right _ (List.mem_append_right _ (List.mem_append_right _ (List.mem_append_left _ h)))))))))))))
theorem il_X10_owedOn_5 : ∀ w ∈ wsX10_owedOn_r5, w ∈ wsX10_owedOn := fun w h => (List.mem_cons_of_mem _ (List.mem_append_left _ (List.mem_append_left _ (List.mem_append_left _ (List.mem_append_left _ (List.mem_append_left _ (List.mem_append_left _ (List.mem_append_left _ (List.mem_append_left _ (List.mem_append_right _ (List.mem_append_right _ (List.mem_append_right _ (List.mem_append_right _ (List.mem_append_left _ h))))))))))))))
theorem il_X10_owedOn_6 : ∀ w ∈ wsX10_owedOn_r6, w ∈ wsX10_owedOn := fun w h => (List.mem_cons_of_mem _ (List.mem_append_left _ (List.mem_append_left _ (List.mem_append_left _ (List.mem_append_left _ (List.mem_append_left _ (List.mem_append_left _ (List.mem_append_left _ (List.mem_append_left _ (List.mem_append_right _ (List.mem_append_right _ (List.mem_append_right _ (List.mem_append_right _ (List.mem_append_right _ (List.mem_append_left _ h)))))))))))))))
theorem il_X10_owedOn_7 : ∀ w ∈ wsX10_owedOn_r7, w ∈ wsX10_owedOn := fun w h => (List.mem_cons_of_mem _ (List.mem_append_left _ (List.mem_append_left _ (List.mem_append_left _ (List.mem_append_left _ (List.mem_append_left _ (List.mem_append_left _ (List.mem_append_left _ (List.mem_append_left _ (List.mem_append_right _ (List.mem_append_right _ (List.mem_append_right _ (List.mem_append_right _ (List.mem_append_right _ (List.mem_append_right _ (List.mem_append_left _ h))))))))))))))))
theorem il_X10_owedOn_8 : ∀ w ∈ wsX10_owedOn_r8, w ∈ wsX10_owedOn := fun w h => (List.mem_cons_of_mem _ (List.mem_append_left _ (List.mem_append_left _ (List.mem_append_left _ (List.mem_append_left _ (List.mem_append_left _ (List.mem_append_left _ (List.mem_append_left _ (List.mem_append_left _ (List.mem_append_right _ (List.mem_append_right _ (List.mem_append_right _ (List.mem_append_right _ (List.mem_append_right _ (List.mem_append_right _ (List.mem_append_right _ h))))))))))))))))
theorem il_X10_owedOn_9 : ∀ w ∈ wsX10, w ∈ wsX10_owedOn := fun w h => (List.mem_cons_of_mem _ (List.mem_append_left _ (List.mem_append_left _ (List.mem_append_left _ (List.mem_append_left _ (List.mem_append_left _ (List.mem_append_left _ (List.mem_append_left _ (List.mem_append_right _ h)))))))))
theorem il_X10_owedOn_10 : ∀ w ∈ wsX100, w ∈ wsX10_owedOn := fun w h => (List.mem_cons_of_mem _ (List.mem_append_left _ (List.mem_append_left _ (List.mem_append_left _ (List.mem_append_left _ (List.mem_append_left _ (List.mem_append_left _ (List.mem_append_right _ h))))))))
theorem il_X10_owedOn_11 : ∀ w ∈ wsX20, w ∈ wsX10_owedOn := fun w h => (List.mem_cons_of_mem _ (List.mem_append_left _ (List.mem_append_left _ (List.mem_append_left _ (List.mem_append_left _ (List.mem_append_left _ (List.mem_append_right _ h)))))))
theorem il_X10_owedOn_12 : ∀ w ∈ wsX30, w ∈ wsX10_owedOn := fun w h => (List.mem_cons_of_mem _ (List.mem_append_left _ (List.mem_append_left _ (List.mem_append_left _ (List.mem_append_left _ (List.mem_append_right _ h))))))
theorem il_X10_owedOn_13 : ∀ w ∈ wsX00, w ∈ wsX10_owedOn := fun w h => (List.mem_cons_of_mem _ (List.mem_append_left _ (List.mem_append_left _ (List.mem_append_left _ (List.mem_append_right _ h)))))
theorem il_X10_owedOn_14 : ∀ w ∈ wsX90, w ∈ wsX10_owedOn := fun w h => (List.mem_cons_of_mem _ (List.mem_append_left _ (List.mem_append_left _ (List.mem_append_right _ h))))
theorem il_X10_owedOn_15 : ∀ w ∈ wsX50, w ∈ wsX10_owedOn := fun w h => (List.mem_cons_of_mem _ (List.mem_append_left _ (List.mem_append_right _ h)))
theorem il_X10_owedOn_16 : ∀ w ∈ wsX60, w ∈ wsX10_owedOn := fun w h => (List.mem_cons_of_mem _ (List.mem_append_right _ h))
theorem iw_X10_owedOn_1 : Cond.fieldLink RX10 255 "ShipOffice$Agreement" "signedOn" "I" ∈ wsX10_owedOn := (mmI il_X10_owedOn_1 0 rfl)
theorem iw_X10_owedOn_2 : Cond.fieldLink RX10 223 "ShipOffice$Agreement" "wage" "I" ∈ wsX10_owedOn := (mmI il_X10_owedOn_1 1 rfl)
theorem iw_X10_owedOn_3 : Cond.fieldLink RX10 30 "ShipOffice" "law" "LShipOffice$Law;" ∈ wsX10_owedOn := (mmI il_X10_owedOn_1 2 rfl)
theorem iw_X10_owedOn_4 : Cond.fieldLink RX10 258 "ShipOffice$Agreement" "fineCount" "I" ∈ wsX10_owedOn := (mmI il_X10_owedOn_1 3 rfl)
theorem iw_X10_owedOn_5 : Cond.fieldLink RX10 326 "ShipOffice$Happening" "way" "I" ∈ wsX10_owedOn := (mmI il_X10_owedOn_1 6 rfl)
theorem iw_X10_owedOn_6 : Cond.methodLink RX10 378 Lib.Math.min.name ∈ wsX10_owedOn := (mmI il_X10_owedOn_1 7 rfl)
theorem iw_X10_owedOn_7 : Cond.static Lib.Math.min.name ∈ wsX10_owedOn := (mmI il_X10_owedOn_1 8 rfl)
theorem iw_X10_owedOn_8 : Cond.initialized "java/lang/Math" ∈ wsX10_owedOn := (mmI il_X10_owedOn_1 9 rfl)
theorem iw_X10_owedOn_9 : Cond.methodLink RX10 383 Lib.Math.max.name ∈ wsX10_owedOn := (mmI il_X10_owedOn_1 11 rfl)
theorem iw_X10_owedOn_10 : Cond.static Lib.Math.max.name ∈ wsX10_owedOn := (mmI il_X10_owedOn_1 12 rfl)
theorem iw_X10_owedOn_11 : Cond.fieldLink RX10 261 "ShipOffice$Agreement" "fines" "[LShipOffice$Fine;" ∈ wsX10_owedOn := (mmI il_X10_owedOn_1 4 rfl)
theorem iw_X10_owedOn_12 : Cond.fieldLink RX10 277 "ShipOffice$Fine" "day" "I" ∈ wsX10_owedOn := (mmI il_X10_owedOn_1 5 rfl)
theorem gw_X10_lastDay : wsX10_lastDay.all goodWord = true := by decide +kernel
def wsX10_isShownTwice : List Cond := .code yX10_isShownTwice cX10_isShownTwice 4 (some .boolean) :: ([.fieldLink RX10 115 "ShipOffice" "agreementCount" "I", .fieldLink RX10 23 "ShipOffice" "agreements" "[LShipOffice$Agreement;", .fieldLink RX10 314 "ShipOffice$Agreement" "paper" "LShipOffice$Agreement;", .fieldLink RX10 255 "ShipOffice$Agreement" "signedOn" "I", .methodLink RX10 389 yX10_lastDay, .instanceMethod yX10_lastDay, .selects RX10 yX10_lastDay yX10_lastDay, .initialized RX10, .code yX10_lastDay cX10_lastDay 2 (some .int), .fieldLink RX10 126 "ShipOffice$Agreement" "offDay" "I", .constant RX10 114 (1000000), .fieldLink RX10 73 "ShipOffice" "now" "I"] ++ wsX100 ++ wsX10)
theorem il_X10_isShownTwice_1 : ∀ w ∈ ([.fieldLink RX10 115 "ShipOffice" "agreementCount" "I", .fieldLink RX10 23 "ShipOffice" "agreements" "[LShipOffice$Agreement;", .fieldLink RX10 314 "ShipOffice$Agreement" "paper" "LShipOffice$Agreement;", .fieldLink RX10 255 "ShipOffice$Agreement" "signedOn" "I", .methodLink RX10 389 yX10_lastDay, .instanceMethod yX10_lastDay, .selects RX10 yX10_lastDay yX10_lastDay, .initialized RX10, .code yX10_lastDay cX10_lastDay 2 (some .int), .fieldLink RX10 126 "ShipOffice$Agreement" "offDay" "I", .constant RX10 114 (1000000), .fieldLink RX10 73 "ShipOffice" "now" "I"] : List Cond), w ∈ wsX10_isShownTwice := fun w h => (List.mem_cons_of_mem _ (List.mem_append_left _ (List.mem_append_left _ h)))
theorem il_X10_isShownTwice_2 : ∀ w ∈ wsX100, w ∈ wsX10_isShownTwice := fun w h => (List.mem_cons_of_mem _ (List.mem_append_left _ (List.mem_append_right _ h)))
theorem il_X10_isShownTwice_3 : ∀ w ∈ wsX10, w ∈ wsX10_isShownTwice := fun w h => (List.mem_cons_of_mem _ (List.mem_append_right _ h))
theorem iw_X10_isShownTwice_1 : Cond.fieldLink RX10 115 "ShipOffice" "agreementCount" "I" ∈ wsX10_isShownTwice := (mmI il_X10_isShownTwice_1 0 rfl)
theorem iw_X10_isShownTwice_2 : Cond.fieldLink RX10 23 "ShipOffice" "agreements" "[LShipOffice$Agreement;" ∈ wsX10_isShownTwice := (mmI il_X10_isShownTwice_1 1 rfl)
theorem iw_X10_isShownTwice_3 : Cond.fieldLink RX10 314 "ShipOffice$Agreement" "paper" "LShipOffice$Agreement;" ∈ wsX10_isShownTwice := (mmI il_X10_isShownTwice_1 2 rfl)
theorem iw_X10_isShownTwice_4 : Cond.fieldLink RX10 255 "ShipOffice$Agreement" "signedOn" "I" ∈ wsX10_isShownTwice := (mmI il_X10_isShownTwice_1 3 rfl)
def wsX10_menWhoAsk : List Cond := .code yX10_menWhoAsk cX10_menWhoAsk 3 (some .int) :: ([.fieldLink RX10 86 "ShipOffice" "manCount" "I", .fieldLink RX10 11 "ShipOffice" "men" "[LShipOffice$Man;", .methodLink RX10 341 yX6_asks, .instanceMethod yX6_asks, .selects RX6 yX6_asks yX6_asks, .initialized RX6, .code yX6_asks cX6_asks 5 (some .boolean), .fieldLink RX6 9 "ShipOffice$Man" "wages" "[I"] ++ wsX100 ++ wsX60)
theorem il_X10_menWhoAsk_1 : ∀ w ∈ ([.fieldLink RX10 86 "ShipOffice" "manCount" "I", .fieldLink RX10 11 "ShipOffice" "men" "[LShipOffice$Man;", .methodLink RX10 341 yX6_asks, .instanceMethod yX6_asks, .selects RX6 yX6_asks yX6_asks, .initialized RX6, .code yX6_asks cX6_asks 5 (some .boolean), .fieldLink RX6 9 "ShipOffice$Man" "wages" "[I"] : List Cond), w ∈ wsX10_menWhoAsk := fun w h => (List.mem_cons_of_mem _ (List.mem_append_left _ (List.mem_append_left _ h)))
theorem il_X10_menWhoAsk_3 : ∀ w ∈ wsX60, w ∈ wsX10_menWhoAsk := fun w h => (List.mem_cons_of_mem _ (List.mem_append_right _ h))
theorem iw_X10_menWhoAsk_1 : Cond.fieldLink RX10 86 "ShipOffice" "manCount" "I" ∈ wsX10_menWhoAsk := (mmI il_X10_menWhoAsk_1 0 rfl)
theorem iw_X10_menWhoAsk_2 : Cond.fieldLink RX10 11 "ShipOffice" "men" "[LShipOffice$Man;" ∈ wsX10_menWhoAsk := (mmI il_X10_menWhoAsk_1 1 rfl)
theorem dX1_addShort_0 : decode cX1_addShort 0 = .ok (.aload_n 0, 1) := by decide +kernel
theorem dX1_addShort_1 : decode cX1_addShort 1 = .ok (.getfield 136, 3) := by decide +kernel
theorem dX1_addShort_4 : decode cX1_addShort 4 = .ok (.bipush 20, 2) := by decide +kernel
theorem dX1_addShort_6 : decode cX1_addShort 6 = .ok (.if_icmp .ge 45, 3) := by decide +kernel
theorem dX1_addShort_9 : decode cX1_addShort 9 = .ok (.aload_n 0, 1) := by decide +kernel
theorem dX1_addShort_10 : decode cX1_addShort 10 = .ok (.getfield 22, 3) := by decide +kernel
theorem dX1_addShort_13 : decode cX1_addShort 13 = .ok (.aload_n 0, 1) := by decide +kernel
theorem dX1_addShort_14 : decode cX1_addShort 14 = .ok (.getfield 136, 3) := by decide +kernel
theorem dX1_addShort_17 : decode cX1_addShort 17 = .ok (.iload_n 3, 1) := by decide +kernel
theorem dX1_addShort_18 : decode cX1_addShort 18 = .ok (.iastore, 1) := by decide +kernel
theorem dX1_addShort_19 : decode cX1_addShort 19 = .ok (.aload_n 0, 1) := by decide +kernel
theorem dX1_addShort_20 : decode cX1_addShort 20 = .ok (.getfield 26, 3) := by decide +kernel
theorem dX1_addShort_23 : decode cX1_addShort 23 = .ok (.aload_n 0, 1) := by decide +kernel
theorem dX1_addShort_24 : decode cX1_addShort 24 = .ok (.getfield 136, 3) := by decide +kernel
theorem dX1_addShort_27 : decode cX1_addShort 27 = .ok (.iload_n 1, 1) := by decide +kernel
theorem dX1_addShort_28 : decode cX1_addShort 28 = .ok (.iload_n 2, 1) := by decide +kernel
theorem dX1_addShort_29 : decode cX1_addShort 29 = .ok (.imul, 1) := by decide +kernel
theorem dX1_addShort_30 : decode cX1_addShort 30 = .ok (.iastore, 1) := by decide +kernel
theorem dX1_addShort_31 : decode cX1_addShort 31 = .ok (.aload_n 0, 1) := by decide +kernel
theorem dX1_addShort_32 : decode cX1_addShort 32 = .ok (.dup, 1) := by decide +kernel
theorem dX1_addShort_33 : decode cX1_addShort 33 = .ok (.getfield 136, 3) := by decide +kernel
theorem dX1_addShort_36 : decode cX1_addShort 36 = .ok (.iconst 1, 1) := by decide +kernel
theorem dX1_addShort_37 : decode cX1_addShort 37 = .ok (.iadd, 1) := by decide +kernel
theorem dX1_addShort_38 : decode cX1_addShort 38 = .ok (.putfield 136, 3) := by decide +kernel
theorem dX1_addShort_41 : decode cX1_addShort 41 = .ok (.aload_n 0, 1) := by decide +kernel
theorem dX1_addShort_42 : decode cX1_addShort 42 = .ok (.dup, 1) := by decide +kernel
theorem dX1_addShort_43 : decode cX1_addShort 43 = .ok (.getfield 139, 3) := by decide +kernel
theorem dX1_addShort_46 : decode cX1_addShort 46 = .ok (.iload_n 1, 1) := by decide +kernel
theorem dX1_addShort_47 : decode cX1_addShort 47 = .ok (.iadd, 1) := by decide +kernel
theorem dX1_addShort_48 : decode cX1_addShort 48 = .ok (.putfield 139, 3) := by decide +kernel
theorem dX1_addShort_51 : decode cX1_addShort 51 = .ok (.return_, 1) := by decide +kernel
theorem dX5_add_0 : decode cX5_add 0 = .ok (.aload_n 0, 1) := by decide +kernel
theorem dX5_add_1 : decode cX5_add 1 = .ok (.getfield 23, 3) := by decide +kernel
theorem dX5_add_4 : decode cX5_add 4 = .ok (.bipush 30, 2) := by decide +kernel
theorem dX5_add_6 : decode cX5_add 6 = .ok (.if_icmp .ge 23, 3) := by decide +kernel
theorem dX5_add_9 : decode cX5_add 9 = .ok (.aload_n 0, 1) := by decide +kernel
theorem dX5_add_10 : decode cX5_add 10 = .ok (.getfield 11, 3) := by decide +kernel
theorem dX5_add_13 : decode cX5_add 13 = .ok (.aload_n 0, 1) := by decide +kernel
theorem dX5_add_14 : decode cX5_add 14 = .ok (.getfield 23, 3) := by decide +kernel
theorem dX5_add_17 : decode cX5_add 17 = .ok (.aload_n 1, 1) := by decide +kernel
theorem dX5_add_18 : decode cX5_add 18 = .ok (.aastore, 1) := by decide +kernel
theorem dX5_add_19 : decode cX5_add 19 = .ok (.aload_n 0, 1) := by decide +kernel
theorem dX5_add_20 : decode cX5_add 20 = .ok (.dup, 1) := by decide +kernel
theorem dX5_add_21 : decode cX5_add 21 = .ok (.getfield 23, 3) := by decide +kernel
theorem dX5_add_24 : decode cX5_add 24 = .ok (.iconst 1, 1) := by decide +kernel
theorem dX5_add_25 : decode cX5_add 25 = .ok (.iadd, 1) := by decide +kernel
theorem dX5_add_26 : decode cX5_add 26 = .ok (.putfield 23, 3) := by decide +kernel
theorem dX5_add_29 : decode cX5_add 29 = .ok (.return_, 1) := by decide +kernel
set_option maxRecDepth 100000 in
theorem ggX10_joinGroups_X6_isAlike : GoodIn wsX10_joinGroups wsX6_isAlike := goodIn_sub (mmC (mmI il_X10_joinGroups_1 7 rfl) (mmA (mmC (mmI il_X10_joinGroups_1 8 rfl) (mmC (mmI il_X10_joinGroups_1 9 rfl) (mmC (mmI il_X10_joinGroups_1 10 rfl) (mmC (mmI il_X10_joinGroups_1 11 rfl) (mmC (mmI il_X10_joinGroups_1 6 rfl) (mmC (mmI il_X10_joinGroups_1 12 rfl) mmN)))))) il_X10_joinGroups_4)) gw_X6_isAlike
theorem gX10_joinGroups_X6_isAlike : GoodIn wsX10_joinGroups (wsV RX10 371 RX6 yX6_isAlike wsX6_isAlike) := goodIn_app (goodIn_sub (mmC (mmI il_X10_joinGroups_1 3 rfl) (mmC (mmI il_X10_joinGroups_1 4 rfl) (mmC (mmI il_X10_joinGroups_1 5 rfl) (mmC (mmI il_X10_joinGroups_1 6 rfl) mmN)))) (by decide +kernel)) ggX10_joinGroups_X6_isAlike
set_option maxRecDepth 100000 in
theorem ggX10_joinGroups_X10_mergeGroups : GoodIn wsX10_joinGroups wsX10_mergeGroups := goodIn_sub (mmC (mmI il_X10_joinGroups_1 17 rfl) (mmA (mmA (mmC (mmI il_X10_joinGroups_1 18 rfl) (mmC (mmI il_X10_joinGroups_1 19 rfl) (mmC (mmI il_X10_joinGroups_1 20 rfl) (mmC (mmI il_X10_joinGroups_1 21 rfl) (mmC (mmI il_X10_joinGroups_1 22 rfl) (mmC (mmI il_X10_joinGroups_1 23 rfl) (mmC (mmI il_X10_joinGroups_2 0 rfl) (mmC (mmI il_X10_joinGroups_1 0 rfl) (mmC (mmI il_X10_joinGroups_1 1 rfl) (mmC (mmI il_X10_joinGroups_1 2 rfl) mmN)))))))))) il_X10_joinGroups_3) il_X10_joinGroups_4)) gw_X10_mergeGroups
theorem gX10_joinGroups_X10_mergeGroups : GoodIn wsX10_joinGroups (wsV RX10 374 RX10 yX10_mergeGroups wsX10_mergeGroups) := goodIn_app (goodIn_sub (mmC (mmI il_X10_joinGroups_1 13 rfl) (mmC (mmI il_X10_joinGroups_1 14 rfl) (mmC (mmI il_X10_joinGroups_1 15 rfl) (mmC (mmI il_X10_joinGroups_1 16 rfl) mmN)))) (by decide +kernel)) ggX10_joinGroups_X10_mergeGroups
theorem dX10_joinGroups_0 : decode cX10_joinGroups 0 = .ok (.iconst 0, 1) := by decide +kernel
theorem dX10_joinGroups_1 : decode cX10_joinGroups 1 = .ok (.istore_n 2, 1) := by decide +kernel
theorem dX10_joinGroups_2 : decode cX10_joinGroups 2 = .ok (.iload_n 2, 1) := by decide +kernel
theorem dX10_joinGroups_3 : decode cX10_joinGroups 3 = .ok (.aload_n 0, 1) := by decide +kernel
theorem dX10_joinGroups_4 : decode cX10_joinGroups 4 = .ok (.getfield 86, 3) := by decide +kernel
theorem dX10_joinGroups_7 : decode cX10_joinGroups 7 = .ok (.if_icmp .ge 39, 3) := by decide +kernel
theorem dX10_joinGroups_10 : decode cX10_joinGroups 10 = .ok (.aload_n 1, 1) := by decide +kernel
theorem dX10_joinGroups_11 : decode cX10_joinGroups 11 = .ok (.aload_n 0, 1) := by decide +kernel
theorem dX10_joinGroups_12 : decode cX10_joinGroups 12 = .ok (.getfield 11, 3) := by decide +kernel
theorem dX10_joinGroups_15 : decode cX10_joinGroups 15 = .ok (.iload_n 2, 1) := by decide +kernel
theorem dX10_joinGroups_16 : decode cX10_joinGroups 16 = .ok (.aaload, 1) := by decide +kernel
theorem dX10_joinGroups_17 : decode cX10_joinGroups 17 = .ok (.invokevirtual 371, 3) := by decide +kernel
theorem dX10_joinGroups_20 : decode cX10_joinGroups 20 = .ok (.ifCond .eq 20, 3) := by decide +kernel
theorem dX10_joinGroups_23 : decode cX10_joinGroups 23 = .ok (.aload_n 0, 1) := by decide +kernel
theorem dX10_joinGroups_24 : decode cX10_joinGroups 24 = .ok (.aload_n 1, 1) := by decide +kernel
theorem dX10_joinGroups_25 : decode cX10_joinGroups 25 = .ok (.getfield 311, 3) := by decide +kernel
theorem dX10_joinGroups_28 : decode cX10_joinGroups 28 = .ok (.aload_n 0, 1) := by decide +kernel
theorem dX10_joinGroups_29 : decode cX10_joinGroups 29 = .ok (.getfield 11, 3) := by decide +kernel
theorem dX10_joinGroups_32 : decode cX10_joinGroups 32 = .ok (.iload_n 2, 1) := by decide +kernel
theorem dX10_joinGroups_33 : decode cX10_joinGroups 33 = .ok (.aaload, 1) := by decide +kernel
theorem dX10_joinGroups_34 : decode cX10_joinGroups 34 = .ok (.getfield 311, 3) := by decide +kernel
theorem dX10_joinGroups_37 : decode cX10_joinGroups 37 = .ok (.invokevirtual 374, 3) := by decide +kernel
theorem dX10_joinGroups_40 : decode cX10_joinGroups 40 = .ok (.iinc 2 1, 3) := by decide +kernel
theorem dX10_joinGroups_43 : decode cX10_joinGroups 43 = .ok (.goto (-41), 3) := by decide +kernel
theorem dX10_joinGroups_46 : decode cX10_joinGroups 46 = .ok (.return_, 1) := by decide +kernel
theorem dX10_mergeGroups_0 : decode cX10_mergeGroups 0 = .ok (.iload_n 1, 1) := by decide +kernel
theorem dX10_mergeGroups_1 : decode cX10_mergeGroups 1 = .ok (.iload_n 2, 1) := by decide +kernel
theorem dX10_mergeGroups_2 : decode cX10_mergeGroups 2 = .ok (.invokestatic 378, 3) := by decide +kernel
theorem dX10_mergeGroups_5 : decode cX10_mergeGroups 5 = .ok (.istore_n 3, 1) := by decide +kernel
theorem dX10_mergeGroups_6 : decode cX10_mergeGroups 6 = .ok (.iload_n 1, 1) := by decide +kernel
theorem dX10_mergeGroups_7 : decode cX10_mergeGroups 7 = .ok (.iload_n 2, 1) := by decide +kernel
theorem dX10_mergeGroups_8 : decode cX10_mergeGroups 8 = .ok (.invokestatic 383, 3) := by decide +kernel
theorem dX10_mergeGroups_11 : decode cX10_mergeGroups 11 = .ok (.istore 4, 2) := by decide +kernel
theorem dX10_mergeGroups_13 : decode cX10_mergeGroups 13 = .ok (.iconst 0, 1) := by decide +kernel
theorem dX10_mergeGroups_14 : decode cX10_mergeGroups 14 = .ok (.istore 5, 2) := by decide +kernel
theorem dX10_mergeGroups_16 : decode cX10_mergeGroups 16 = .ok (.iload 5, 2) := by decide +kernel
theorem dX10_mergeGroups_18 : decode cX10_mergeGroups 18 = .ok (.aload_n 0, 1) := by decide +kernel
theorem dX10_mergeGroups_19 : decode cX10_mergeGroups 19 = .ok (.getfield 86, 3) := by decide +kernel
theorem dX10_mergeGroups_22 : decode cX10_mergeGroups 22 = .ok (.if_icmp .ge 35, 3) := by decide +kernel
theorem dX10_mergeGroups_25 : decode cX10_mergeGroups 25 = .ok (.aload_n 0, 1) := by decide +kernel
theorem dX10_mergeGroups_26 : decode cX10_mergeGroups 26 = .ok (.getfield 11, 3) := by decide +kernel
theorem dX10_mergeGroups_29 : decode cX10_mergeGroups 29 = .ok (.iload 5, 2) := by decide +kernel
theorem dX10_mergeGroups_31 : decode cX10_mergeGroups 31 = .ok (.aaload, 1) := by decide +kernel
theorem dX10_mergeGroups_32 : decode cX10_mergeGroups 32 = .ok (.getfield 311, 3) := by decide +kernel
theorem dX10_mergeGroups_35 : decode cX10_mergeGroups 35 = .ok (.iload 4, 2) := by decide +kernel
theorem dX10_mergeGroups_37 : decode cX10_mergeGroups 37 = .ok (.if_icmp .ne 14, 3) := by decide +kernel
theorem dX10_mergeGroups_40 : decode cX10_mergeGroups 40 = .ok (.aload_n 0, 1) := by decide +kernel
theorem dX10_mergeGroups_41 : decode cX10_mergeGroups 41 = .ok (.getfield 11, 3) := by decide +kernel
theorem dX10_mergeGroups_44 : decode cX10_mergeGroups 44 = .ok (.iload 5, 2) := by decide +kernel
theorem dX10_mergeGroups_46 : decode cX10_mergeGroups 46 = .ok (.aaload, 1) := by decide +kernel
theorem dX10_mergeGroups_47 : decode cX10_mergeGroups 47 = .ok (.iload_n 3, 1) := by decide +kernel
theorem dX10_mergeGroups_48 : decode cX10_mergeGroups 48 = .ok (.putfield 311, 3) := by decide +kernel
theorem dX10_mergeGroups_51 : decode cX10_mergeGroups 51 = .ok (.iinc 5 1, 3) := by decide +kernel
theorem dX10_mergeGroups_54 : decode cX10_mergeGroups 54 = .ok (.goto (-38), 3) := by decide +kernel
theorem dX10_mergeGroups_57 : decode cX10_mergeGroups 57 = .ok (.return_, 1) := by decide +kernel
set_option maxRecDepth 100000 in
theorem ggX10_menWhoAsk_X6_asks : GoodIn wsX10_menWhoAsk wsX6_asks := goodIn_sub (mmC (mmI il_X10_menWhoAsk_1 6 rfl) (mmA (mmC (mmI il_X10_menWhoAsk_1 7 rfl) mmN) il_X10_menWhoAsk_3)) gw_X6_asks
theorem gX10_menWhoAsk_X6_asks : GoodIn wsX10_menWhoAsk (wsV RX10 341 RX6 yX6_asks wsX6_asks) := goodIn_app (goodIn_sub (mmC (mmI il_X10_menWhoAsk_1 2 rfl) (mmC (mmI il_X10_menWhoAsk_1 3 rfl) (mmC (mmI il_X10_menWhoAsk_1 4 rfl) (mmC (mmI il_X10_menWhoAsk_1 5 rfl) mmN)))) (by decide +kernel)) ggX10_menWhoAsk_X6_asks
theorem dX10_menWhoAsk_0 : decode cX10_menWhoAsk 0 = .ok (.iconst 0, 1) := by decide +kernel
theorem dX10_menWhoAsk_1 : decode cX10_menWhoAsk 1 = .ok (.istore_n 1, 1) := by decide +kernel
theorem dX10_menWhoAsk_2 : decode cX10_menWhoAsk 2 = .ok (.iconst 0, 1) := by decide +kernel
theorem dX10_menWhoAsk_3 : decode cX10_menWhoAsk 3 = .ok (.istore_n 2, 1) := by decide +kernel
theorem dX10_menWhoAsk_4 : decode cX10_menWhoAsk 4 = .ok (.iload_n 2, 1) := by decide +kernel
theorem dX10_menWhoAsk_5 : decode cX10_menWhoAsk 5 = .ok (.aload_n 0, 1) := by decide +kernel
theorem dX10_menWhoAsk_6 : decode cX10_menWhoAsk 6 = .ok (.getfield 86, 3) := by decide +kernel
theorem dX10_menWhoAsk_9 : decode cX10_menWhoAsk 9 = .ok (.if_icmp .ge 24, 3) := by decide +kernel
theorem dX10_menWhoAsk_12 : decode cX10_menWhoAsk 12 = .ok (.aload_n 0, 1) := by decide +kernel
theorem dX10_menWhoAsk_13 : decode cX10_menWhoAsk 13 = .ok (.getfield 11, 3) := by decide +kernel
theorem dX10_menWhoAsk_16 : decode cX10_menWhoAsk 16 = .ok (.iload_n 2, 1) := by decide +kernel
theorem dX10_menWhoAsk_17 : decode cX10_menWhoAsk 17 = .ok (.aaload, 1) := by decide +kernel
theorem dX10_menWhoAsk_18 : decode cX10_menWhoAsk 18 = .ok (.invokevirtual 341, 3) := by decide +kernel
theorem dX10_menWhoAsk_21 : decode cX10_menWhoAsk 21 = .ok (.ifCond .eq 6, 3) := by decide +kernel
theorem dX10_menWhoAsk_24 : decode cX10_menWhoAsk 24 = .ok (.iinc 1 1, 3) := by decide +kernel
theorem dX10_menWhoAsk_27 : decode cX10_menWhoAsk 27 = .ok (.iinc 2 1, 3) := by decide +kernel
theorem dX10_menWhoAsk_30 : decode cX10_menWhoAsk 30 = .ok (.goto (-26), 3) := by decide +kernel
theorem dX10_menWhoAsk_33 : decode cX10_menWhoAsk 33 = .ok (.iload_n 1, 1) := by decide +kernel
theorem dX10_menWhoAsk_34 : decode cX10_menWhoAsk 34 = .ok (.ireturn, 1) := by decide +kernel
set_option maxRecDepth 100000 in
theorem ggX10_menAboard_X1_stateOn : GoodIn wsX10_menAboard wsX1_stateOn := goodIn_sub (mmC (mmI il_X10_menAboard_1 8 rfl) (mmA (mmA (mmA (mmA (mmA (mmA (mmC (mmI il_X10_menAboard_1 9 rfl) (mmC (mmI il_X10_menAboard_1 10 rfl) (mmC (mmI il_X10_menAboard_1 11 rfl) (mmC (mmI il_X10_menAboard_1 12 rfl) (mmC (mmI il_X10_menAboard_1 13 rfl) (mmC (mmI il_X10_menAboard_1 14 rfl) (mmC (mmI il_X10_menAboard_1 15 rfl) (mmC (mmI il_X10_menAboard_1 16 rfl) (mmC (mmI il_X10_menAboard_1 17 rfl) (mmC (mmI il_X10_menAboard_1 18 rfl) (mmC (mmI il_X10_menAboard_1 19 rfl) (mmC (mmI il_X10_menAboard_1 20 rfl) (mmC (mmI il_X10_menAboard_1 21 rfl) (mmC (mmI il_X10_menAboard_1 22 rfl) (mmC (mmI il_X10_menAboard_1 23 rfl) (mmC (mmI il_X10_menAboard_2 0 rfl) (mmC (mmI il_X10_menAboard_1 7 rfl) (mmC (mmI il_X10_menAboard_2 1 rfl) (mmC (mmI il_X10_menAboard_2 2 rfl) (mmC (mmI il_X10_menAboard_2 3 rfl) (mmC (mmI il_X10_menAboard_2 4 rfl) (mmC (mmI il_X10_menAboard_2 5 rfl) (mmC (mmI il_X10_menAboard_2 6 rfl) (mmC (mmI il_X10_menAboard_2 7 rfl) mmN)))))))))))))))))))))))) (mmA (mmC (mmI il_X10_menAboard_2 8 rfl) (mmC (mmI il_X10_menAboard_2 9 rfl) (mmC (mmI il_X10_menAboard_2 10 rfl) (mmC (mmI il_X10_menAboard_2 11 rfl) (mmC (mmI il_X10_menAboard_2 12 rfl) (mmC (mmI il_X10_menAboard_2 13 rfl) (mmC (mmI il_X10_menAboard_2 14 rfl) (mmC (mmI il_X10_menAboard_2 15 rfl) (mmC (mmI il_X10_menAboard_2 16 rfl) (mmC (mmI il_X10_menAboard_2 17 rfl) (mmC (mmI il_X10_menAboard_2 18 rfl) (mmC (mmI il_X10_menAboard_2 19 rfl) (mmC (mmI il_X10_menAboard_2 20 rfl) (mmC (mmI il_X10_menAboard_2 21 rfl) (mmC (mmI il_X10_menAboard_2 22 rfl) (mmC (mmI il_X10_menAboard_2 23 rfl) (mmC (mmI il_X10_menAboard_3 0 rfl) (mmC (mmI il_X10_menAboard_3 1 rfl) (mmC (mmI il_X10_menAboard_3 2 rfl) (mmC (mmI il_X10_menAboard_3 3 rfl) (mmC (mmI il_X10_menAboard_3 4 rfl) (mmC (mmI il_X10_menAboard_3 5 rfl) (mmC (mmI il_X10_menAboard_3 6 rfl) (mmC (mmI il_X10_menAboard_3 7 rfl) mmN)))))))))))))))))))))))) (mmC (mmI il_X10_menAboard_3 8 rfl) (mmC (mmI il_X10_menAboard_3 9 rfl) mmN)))) il_X10_menAboard_5) il_X10_menAboard_6) il_X10_menAboard_7) il_X10_menAboard_8) il_X10_menAboard_9)) gw_X1_stateOn
theorem gX10_menAboard_X1_stateOn : GoodIn wsX10_menAboard (wsV RX10 233 RX1 yX1_stateOn wsX1_stateOn) := goodIn_app (goodIn_sub (mmC (mmI il_X10_menAboard_1 4 rfl) (mmC (mmI il_X10_menAboard_1 5 rfl) (mmC (mmI il_X10_menAboard_1 6 rfl) (mmC (mmI il_X10_menAboard_1 7 rfl) mmN)))) (by decide +kernel)) ggX10_menAboard_X1_stateOn
theorem dX10_menAboard_0 : decode cX10_menAboard 0 = .ok (.iconst 0, 1) := by decide +kernel
theorem dX10_menAboard_1 : decode cX10_menAboard 1 = .ok (.istore 4, 2) := by decide +kernel
theorem dX10_menAboard_3 : decode cX10_menAboard 3 = .ok (.iconst 0, 1) := by decide +kernel
theorem dX10_menAboard_4 : decode cX10_menAboard 4 = .ok (.istore 5, 2) := by decide +kernel
theorem dX10_menAboard_6 : decode cX10_menAboard 6 = .ok (.iload 5, 2) := by decide +kernel
theorem dX10_menAboard_8 : decode cX10_menAboard 8 = .ok (.aload_n 0, 1) := by decide +kernel
theorem dX10_menAboard_9 : decode cX10_menAboard 9 = .ok (.getfield 115, 3) := by decide +kernel
theorem dX10_menAboard_12 : decode cX10_menAboard 12 = .ok (.if_icmp .ge 46, 3) := by decide +kernel
theorem dX10_menAboard_15 : decode cX10_menAboard 15 = .ok (.aload_n 0, 1) := by decide +kernel
theorem dX10_menAboard_16 : decode cX10_menAboard 16 = .ok (.getfield 23, 3) := by decide +kernel
theorem dX10_menAboard_19 : decode cX10_menAboard 19 = .ok (.iload 5, 2) := by decide +kernel
theorem dX10_menAboard_21 : decode cX10_menAboard 21 = .ok (.aaload, 1) := by decide +kernel
theorem dX10_menAboard_22 : decode cX10_menAboard 22 = .ok (.getfield 118, 3) := by decide +kernel
theorem dX10_menAboard_25 : decode cX10_menAboard 25 = .ok (.aload_n 1, 1) := by decide +kernel
theorem dX10_menAboard_26 : decode cX10_menAboard 26 = .ok (.if_acmp .ne 26, 3) := by decide +kernel
theorem dX10_menAboard_29 : decode cX10_menAboard 29 = .ok (.aload_n 0, 1) := by decide +kernel
theorem dX10_menAboard_30 : decode cX10_menAboard 30 = .ok (.getfield 23, 3) := by decide +kernel
theorem dX10_menAboard_33 : decode cX10_menAboard 33 = .ok (.iload 5, 2) := by decide +kernel
theorem dX10_menAboard_35 : decode cX10_menAboard 35 = .ok (.aaload, 1) := by decide +kernel
theorem dX10_menAboard_36 : decode cX10_menAboard 36 = .ok (.iload_n 2, 1) := by decide +kernel
theorem dX10_menAboard_37 : decode cX10_menAboard 37 = .ok (.iload_n 3, 1) := by decide +kernel
theorem dX10_menAboard_38 : decode cX10_menAboard 38 = .ok (.aload_n 0, 1) := by decide +kernel
theorem dX10_menAboard_39 : decode cX10_menAboard 39 = .ok (.getfield 30, 3) := by decide +kernel
theorem dX10_menAboard_42 : decode cX10_menAboard 42 = .ok (.invokevirtual 233, 3) := by decide +kernel
theorem dX10_menAboard_45 : decode cX10_menAboard 45 = .ok (.iconst 1, 1) := by decide +kernel
theorem dX10_menAboard_46 : decode cX10_menAboard 46 = .ok (.if_icmp .ne 6, 3) := by decide +kernel
theorem dX10_menAboard_49 : decode cX10_menAboard 49 = .ok (.iinc 4 1, 3) := by decide +kernel
theorem dX10_menAboard_52 : decode cX10_menAboard 52 = .ok (.iinc 5 1, 3) := by decide +kernel
theorem dX10_menAboard_55 : decode cX10_menAboard 55 = .ok (.goto (-49), 3) := by decide +kernel
theorem dX10_menAboard_58 : decode cX10_menAboard 58 = .ok (.iload 4, 2) := by decide +kernel
theorem dX10_menAboard_60 : decode cX10_menAboard 60 = .ok (.ireturn, 1) := by decide +kernel
set_option maxRecDepth 100000 in
theorem ggX10_isShownTwice_X10_lastDay : GoodIn wsX10_isShownTwice wsX10_lastDay := goodIn_sub (mmC (mmI il_X10_isShownTwice_1 8 rfl) (mmA (mmA (mmC (mmI il_X10_isShownTwice_1 9 rfl) (mmC (mmI il_X10_isShownTwice_1 10 rfl) (mmC (mmI il_X10_isShownTwice_1 11 rfl) mmN))) il_X10_isShownTwice_3) il_X10_isShownTwice_2)) gw_X10_lastDay
theorem gX10_isShownTwice_X10_lastDay : GoodIn wsX10_isShownTwice (wsV RX10 389 RX10 yX10_lastDay wsX10_lastDay) := goodIn_app (goodIn_sub (mmC (mmI il_X10_isShownTwice_1 4 rfl) (mmC (mmI il_X10_isShownTwice_1 5 rfl) (mmC (mmI il_X10_isShownTwice_1 6 rfl) (mmC (mmI il_X10_isShownTwice_1 7 rfl) mmN)))) (by decide +kernel)) ggX10_isShownTwice_X10_lastDay
theorem dX10_isShownTwice_0 : decode cX10_isShownTwice 0 = .ok (.iconst 0, 1) := by decide +kernel
theorem dX10_isShownTwice_1 : decode cX10_isShownTwice 1 = .ok (.istore_n 2, 1) := by decide +kernel
theorem dX10_isShownTwice_2 : decode cX10_isShownTwice 2 = .ok (.iload_n 2, 1) := by decide +kernel
theorem dX10_isShownTwice_3 : decode cX10_isShownTwice 3 = .ok (.aload_n 0, 1) := by decide +kernel
theorem dX10_isShownTwice_4 : decode cX10_isShownTwice 4 = .ok (.getfield 115, 3) := by decide +kernel
theorem dX10_isShownTwice_7 : decode cX10_isShownTwice 7 = .ok (.if_icmp .ge 58, 3) := by decide +kernel
theorem dX10_isShownTwice_10 : decode cX10_isShownTwice 10 = .ok (.aload_n 0, 1) := by decide +kernel
theorem dX10_isShownTwice_11 : decode cX10_isShownTwice 11 = .ok (.getfield 23, 3) := by decide +kernel
theorem dX10_isShownTwice_14 : decode cX10_isShownTwice 14 = .ok (.iload_n 2, 1) := by decide +kernel
theorem dX10_isShownTwice_15 : decode cX10_isShownTwice 15 = .ok (.aaload, 1) := by decide +kernel
theorem dX10_isShownTwice_16 : decode cX10_isShownTwice 16 = .ok (.astore_n 3, 1) := by decide +kernel
theorem dX10_isShownTwice_17 : decode cX10_isShownTwice 17 = .ok (.aload_n 3, 1) := by decide +kernel
theorem dX10_isShownTwice_18 : decode cX10_isShownTwice 18 = .ok (.aload_n 1, 1) := by decide +kernel
theorem dX10_isShownTwice_19 : decode cX10_isShownTwice 19 = .ok (.if_acmp .eq 40, 3) := by decide +kernel
theorem dX10_isShownTwice_22 : decode cX10_isShownTwice 22 = .ok (.aload_n 3, 1) := by decide +kernel
theorem dX10_isShownTwice_23 : decode cX10_isShownTwice 23 = .ok (.getfield 314, 3) := by decide +kernel
theorem dX10_isShownTwice_26 : decode cX10_isShownTwice 26 = .ok (.aload_n 1, 1) := by decide +kernel
theorem dX10_isShownTwice_27 : decode cX10_isShownTwice 27 = .ok (.getfield 314, 3) := by decide +kernel
theorem dX10_isShownTwice_30 : decode cX10_isShownTwice 30 = .ok (.if_acmp .ne 29, 3) := by decide +kernel
theorem dX10_isShownTwice_33 : decode cX10_isShownTwice 33 = .ok (.aload_n 3, 1) := by decide +kernel
theorem dX10_isShownTwice_34 : decode cX10_isShownTwice 34 = .ok (.getfield 255, 3) := by decide +kernel
theorem dX10_isShownTwice_37 : decode cX10_isShownTwice 37 = .ok (.aload_n 0, 1) := by decide +kernel
theorem dX10_isShownTwice_38 : decode cX10_isShownTwice 38 = .ok (.aload_n 1, 1) := by decide +kernel
theorem dX10_isShownTwice_39 : decode cX10_isShownTwice 39 = .ok (.invokevirtual 389, 3) := by decide +kernel
theorem dX10_isShownTwice_42 : decode cX10_isShownTwice 42 = .ok (.if_icmp .gt 17, 3) := by decide +kernel
theorem dX10_isShownTwice_45 : decode cX10_isShownTwice 45 = .ok (.aload_n 1, 1) := by decide +kernel
theorem dX10_isShownTwice_46 : decode cX10_isShownTwice 46 = .ok (.getfield 255, 3) := by decide +kernel
theorem dX10_isShownTwice_49 : decode cX10_isShownTwice 49 = .ok (.aload_n 0, 1) := by decide +kernel
theorem dX10_isShownTwice_50 : decode cX10_isShownTwice 50 = .ok (.aload_n 3, 1) := by decide +kernel
theorem dX10_isShownTwice_51 : decode cX10_isShownTwice 51 = .ok (.invokevirtual 389, 3) := by decide +kernel
theorem dX10_isShownTwice_54 : decode cX10_isShownTwice 54 = .ok (.if_icmp .gt 5, 3) := by decide +kernel
theorem dX10_isShownTwice_57 : decode cX10_isShownTwice 57 = .ok (.iconst 1, 1) := by decide +kernel
theorem dX10_isShownTwice_58 : decode cX10_isShownTwice 58 = .ok (.ireturn, 1) := by decide +kernel
theorem dX10_isShownTwice_59 : decode cX10_isShownTwice 59 = .ok (.iinc 2 1, 3) := by decide +kernel
theorem dX10_isShownTwice_62 : decode cX10_isShownTwice 62 = .ok (.goto (-60), 3) := by decide +kernel
theorem dX10_isShownTwice_65 : decode cX10_isShownTwice 65 = .ok (.iconst 0, 1) := by decide +kernel
theorem dX10_isShownTwice_66 : decode cX10_isShownTwice 66 = .ok (.ireturn, 1) := by decide +kernel
set_option maxRecDepth 100000 in
theorem ggX10_signWorth_J7_fill_53178 : GoodIn wsX10_signWorth wsJ7_fill_53178 := goodIn_sub (mmC (mmI il_X10_signWorth_1 6 rfl) mmN) gw_J7_fill_53178
set_option maxRecDepth 20000 in
theorem gX10_signWorth_J7_fill_53178 : GoodIn wsX10_signWorth (va_wsS RX10 393 yJ7_fill_53178 wsJ7_fill_53178) := goodIn_app (goodIn_of _ (by decide +kernel)) ggX10_signWorth_J7_fill_53178
set_option maxRecDepth 100000 in
theorem ggX10_signWorth_X6_yearsOn : GoodIn wsX10_signWorth wsX6_yearsOn := goodIn_sub (mmC (mmI il_X10_signWorth_1 11 rfl) (mmA (mmC (mmI il_X10_signWorth_1 12 rfl) mmN) il_X10_signWorth_4)) gw_X6_yearsOn
theorem gX10_signWorth_X6_yearsOn : GoodIn wsX10_signWorth (wsV RX10 397 RX6 yX6_yearsOn wsX6_yearsOn) := goodIn_app (goodIn_sub (mmC (mmI il_X10_signWorth_1 7 rfl) (mmC (mmI il_X10_signWorth_1 8 rfl) (mmC (mmI il_X10_signWorth_1 9 rfl) (mmC (mmI il_X10_signWorth_1 10 rfl) mmN)))) (by decide +kernel)) ggX10_signWorth_X6_yearsOn
set_option maxRecDepth 100000 in
theorem ggX10_signWorth_X5_inForce : GoodIn wsX10_signWorth wsX5_inForce := goodIn_sub (mmC (mmI il_X10_signWorth_1 17 rfl) (mmA (mmA (mmC (mmI il_X10_signWorth_1 18 rfl) (mmC (mmI il_X10_signWorth_1 19 rfl) (mmC (mmI il_X10_signWorth_1 20 rfl) (mmC (mmI il_X10_signWorth_1 21 rfl) (mmC (mmI il_X10_signWorth_1 22 rfl) mmN))))) il_X10_signWorth_5) il_X10_signWorth_6)) gw_X5_inForce
theorem gX10_signWorth_X5_inForce : GoodIn wsX10_signWorth (wsV RX10 400 RX5 yX5_inForce wsX5_inForce) := goodIn_app (goodIn_sub (mmC (mmI il_X10_signWorth_1 13 rfl) (mmC (mmI il_X10_signWorth_1 14 rfl) (mmC (mmI il_X10_signWorth_1 15 rfl) (mmC (mmI il_X10_signWorth_1 16 rfl) mmN)))) (by decide +kernel)) ggX10_signWorth_X5_inForce
set_option maxRecDepth 100000 in
theorem ggX10_signWorth_X0_worth : GoodIn wsX10_signWorth wsX0_worth := goodIn_sub (mmC (mmI il_X10_signWorth_2 3 rfl) (mmA (mmC (mmI il_X10_signWorth_2 4 rfl) (mmC (mmI il_X10_signWorth_2 5 rfl) (mmC (mmI il_X10_signWorth_2 6 rfl) (mmC (mmI il_X10_signWorth_2 7 rfl) (mmC (mmI il_X10_signWorth_2 2 rfl) (mmC (mmI il_X10_signWorth_2 8 rfl) (mmC (mmI il_X10_signWorth_2 9 rfl) (mmC (mmI il_X10_signWorth_2 10 rfl) (mmC (mmI il_X10_signWorth_2 11 rfl) (mmC (mmI il_X10_signWorth_2 12 rfl) (mmC (mmI il_X10_signWorth_2 13 rfl) (mmC (mmI il_X10_signWorth_2 14 rfl) (mmC (mmI il_X10_signWorth_2 15 rfl) mmN))))))))))))) il_X10_signWorth_6)) gw_X0_worth
theorem gX10_signWorth_X0_worth : GoodIn wsX10_signWorth (wsV RX10 404 RX0 yX0_worth wsX0_worth) := goodIn_app (goodIn_sub (mmC (mmI il_X10_signWorth_1 23 rfl) (mmC (mmI il_X10_signWorth_2 0 rfl) (mmC (mmI il_X10_signWorth_2 1 rfl) (mmC (mmI il_X10_signWorth_2 2 rfl) mmN)))) (by decide +kernel)) ggX10_signWorth_X0_worth
theorem dX10_signWorth_0 : decode cX10_signWorth 0 = .ok (.aload_n 0, 1) := by decide +kernel
theorem dX10_signWorth_1 : decode cX10_signWorth 1 = .ok (.getfield 59, 3) := by decide +kernel
theorem dX10_signWorth_4 : decode cX10_signWorth 4 = .ok (.iconst 0, 1) := by decide +kernel
theorem dX10_signWorth_5 : decode cX10_signWorth 5 = .ok (.invokestatic 393, 3) := by decide +kernel
theorem dX10_signWorth_8 : decode cX10_signWorth 8 = .ok (.aload_n 0, 1) := by decide +kernel
theorem dX10_signWorth_9 : decode cX10_signWorth 9 = .ok (.getfield 59, 3) := by decide +kernel
theorem dX10_signWorth_12 : decode cX10_signWorth 12 = .ok (.iconst 0, 1) := by decide +kernel
theorem dX10_signWorth_13 : decode cX10_signWorth 13 = .ok (.iload_n 2, 1) := by decide +kernel
theorem dX10_signWorth_14 : decode cX10_signWorth 14 = .ok (.iastore, 1) := by decide +kernel
theorem dX10_signWorth_15 : decode cX10_signWorth 15 = .ok (.aload_n 0, 1) := by decide +kernel
theorem dX10_signWorth_16 : decode cX10_signWorth 16 = .ok (.getfield 59, 3) := by decide +kernel
theorem dX10_signWorth_19 : decode cX10_signWorth 19 = .ok (.iconst 1, 1) := by decide +kernel
theorem dX10_signWorth_20 : decode cX10_signWorth 20 = .ok (.iload_n 3, 1) := by decide +kernel
theorem dX10_signWorth_21 : decode cX10_signWorth 21 = .ok (.iastore, 1) := by decide +kernel
theorem dX10_signWorth_22 : decode cX10_signWorth 22 = .ok (.aload_n 0, 1) := by decide +kernel
theorem dX10_signWorth_23 : decode cX10_signWorth 23 = .ok (.getfield 59, 3) := by decide +kernel
theorem dX10_signWorth_26 : decode cX10_signWorth 26 = .ok (.iconst 2, 1) := by decide +kernel
theorem dX10_signWorth_27 : decode cX10_signWorth 27 = .ok (.aload_n 1, 1) := by decide +kernel
theorem dX10_signWorth_28 : decode cX10_signWorth 28 = .ok (.aload_n 0, 1) := by decide +kernel
theorem dX10_signWorth_29 : decode cX10_signWorth 29 = .ok (.getfield 73, 3) := by decide +kernel
theorem dX10_signWorth_32 : decode cX10_signWorth 32 = .ok (.invokevirtual 397, 3) := by decide +kernel
theorem dX10_signWorth_35 : decode cX10_signWorth 35 = .ok (.iastore, 1) := by decide +kernel
theorem dX10_signWorth_36 : decode cX10_signWorth 36 = .ok (.aload_n 0, 1) := by decide +kernel
theorem dX10_signWorth_37 : decode cX10_signWorth 37 = .ok (.getfield 30, 3) := by decide +kernel
theorem dX10_signWorth_40 : decode cX10_signWorth 40 = .ok (.iconst 0, 1) := by decide +kernel
theorem dX10_signWorth_41 : decode cX10_signWorth 41 = .ok (.aload_n 0, 1) := by decide +kernel
theorem dX10_signWorth_42 : decode cX10_signWorth 42 = .ok (.getfield 73, 3) := by decide +kernel
theorem dX10_signWorth_45 : decode cX10_signWorth 45 = .ok (.invokevirtual 400, 3) := by decide +kernel
theorem dX10_signWorth_48 : decode cX10_signWorth 48 = .ok (.aload_n 0, 1) := by decide +kernel
theorem dX10_signWorth_49 : decode cX10_signWorth 49 = .ok (.getfield 59, 3) := by decide +kernel
theorem dX10_signWorth_52 : decode cX10_signWorth 52 = .ok (.invokevirtual 404, 3) := by decide +kernel
theorem dX10_signWorth_55 : decode cX10_signWorth 55 = .ok (.ireturn, 1) := by decide +kernel
set_option maxRecDepth 100000 in
theorem ggX10_worthFor_X5_inForce : GoodIn wsX10_worthFor wsX5_inForce := goodIn_sub (mmC (mmI il_X10_worthFor_1 10 rfl) (mmA (mmA (mmC (mmI il_X10_worthFor_1 11 rfl) (mmC (mmI il_X10_worthFor_1 12 rfl) (mmC (mmI il_X10_worthFor_1 13 rfl) (mmC (mmI il_X10_worthFor_1 14 rfl) (mmC (mmI il_X10_worthFor_1 15 rfl) mmN))))) il_X10_worthFor_9) il_X10_worthFor_10)) gw_X5_inForce
theorem gX10_worthFor_X5_inForce : GoodIn wsX10_worthFor (wsV RX10 400 RX5 yX5_inForce wsX5_inForce) := goodIn_app (goodIn_sub (mmC (mmI il_X10_worthFor_1 6 rfl) (mmC (mmI il_X10_worthFor_1 7 rfl) (mmC (mmI il_X10_worthFor_1 8 rfl) (mmC (mmI il_X10_worthFor_1 9 rfl) mmN)))) (by decide +kernel)) ggX10_worthFor_X5_inForce
set_option maxRecDepth 100000 in
theorem ggX10_worthFor_X6_yearsOn : GoodIn wsX10_worthFor wsX6_yearsOn := goodIn_sub (mmC (mmI il_X10_worthFor_1 20 rfl) (mmA (mmC (mmI il_X10_worthFor_1 21 rfl) mmN) il_X10_worthFor_11)) gw_X6_yearsOn
theorem gX10_worthFor_X6_yearsOn : GoodIn wsX10_worthFor (wsV RX10 397 RX6 yX6_yearsOn wsX6_yearsOn) := goodIn_app (goodIn_sub (mmC (mmI il_X10_worthFor_1 16 rfl) (mmC (mmI il_X10_worthFor_1 17 rfl) (mmC (mmI il_X10_worthFor_1 18 rfl) (mmC (mmI il_X10_worthFor_1 19 rfl) mmN)))) (by decide +kernel)) ggX10_worthFor_X6_yearsOn
set_option maxRecDepth 100000 in
theorem ggX10_worthFor_X0_uses : GoodIn wsX10_worthFor wsX0_uses := goodIn_sub (mmC (mmI il_X10_worthFor_2 2 rfl) (mmA (mmC (mmI il_X10_worthFor_2 3 rfl) mmN) il_X10_worthFor_10)) gw_X0_uses
theorem gX10_worthFor_X0_uses : GoodIn wsX10_worthFor (wsV RX10 408 RX0 yX0_uses wsX0_uses) := goodIn_app (goodIn_sub (mmC (mmI il_X10_worthFor_1 22 rfl) (mmC (mmI il_X10_worthFor_1 23 rfl) (mmC (mmI il_X10_worthFor_2 0 rfl) (mmC (mmI il_X10_worthFor_2 1 rfl) mmN)))) (by decide +kernel)) ggX10_worthFor_X0_uses
set_option maxRecDepth 100000 in
theorem ggX10_worthFor_X1_daysIn : GoodIn wsX10_worthFor wsX1_daysIn := goodIn_sub (mmC (mmI il_X10_worthFor_2 8 rfl) (mmA (mmA (mmA (mmA (mmA (mmA (mmC (mmI il_X10_worthFor_2 9 rfl) (mmC (mmI il_X10_worthFor_2 10 rfl) (mmC (mmI il_X10_worthFor_2 11 rfl) (mmC (mmI il_X10_worthFor_2 12 rfl) (mmC (mmI il_X10_worthFor_2 13 rfl) (mmC (mmI il_X10_worthFor_2 14 rfl) (mmC (mmI il_X10_worthFor_2 15 rfl) (mmC (mmI il_X10_worthFor_2 16 rfl) (mmC (mmI il_X10_worthFor_2 7 rfl) (mmC (mmI il_X10_worthFor_2 17 rfl) (mmC (mmI il_X10_worthFor_2 18 rfl) (mmC (mmI il_X10_worthFor_2 19 rfl) (mmC (mmI il_X10_worthFor_2 20 rfl) (mmC (mmI il_X10_worthFor_2 21 rfl) (mmC (mmI il_X10_worthFor_2 22 rfl) (mmC (mmI il_X10_worthFor_2 23 rfl) (mmC (mmI il_X10_worthFor_3 0 rfl) (mmC (mmI il_X10_worthFor_3 1 rfl) (mmC (mmI il_X10_worthFor_3 2 rfl) (mmC (mmI il_X10_worthFor_3 3 rfl) (mmC (mmI il_X10_worthFor_3 4 rfl) (mmC (mmI il_X10_worthFor_3 5 rfl) (mmC (mmI il_X10_worthFor_3 6 rfl) (mmC (mmI il_X10_worthFor_3 7 rfl) mmN)))))))))))))))))))))))) (mmA (mmC (mmI il_X10_worthFor_3 8 rfl) (mmC (mmI il_X10_worthFor_3 9 rfl) (mmC (mmI il_X10_worthFor_3 10 rfl) (mmC (mmI il_X10_worthFor_3 11 rfl) (mmC (mmI il_X10_worthFor_3 12 rfl) (mmC (mmI il_X10_worthFor_3 13 rfl) (mmC (mmI il_X10_worthFor_3 14 rfl) (mmC (mmI il_X10_worthFor_3 15 rfl) (mmC (mmI il_X10_worthFor_3 16 rfl) (mmC (mmI il_X10_worthFor_3 17 rfl) (mmC (mmI il_X10_worthFor_3 18 rfl) (mmC (mmI il_X10_worthFor_3 19 rfl) (mmC (mmI il_X10_worthFor_3 20 rfl) (mmC (mmI il_X10_worthFor_3 21 rfl) (mmC (mmI il_X10_worthFor_3 22 rfl) (mmC (mmI il_X10_worthFor_3 23 rfl) (mmC (mmI il_X10_worthFor_4 0 rfl) (mmC (mmI il_X10_worthFor_4 1 rfl) (mmC (mmI il_X10_worthFor_4 2 rfl) (mmC (mmI il_X10_worthFor_4 3 rfl) (mmC (mmI il_X10_worthFor_4 4 rfl) (mmC (mmI il_X10_worthFor_4 5 rfl) (mmC (mmI il_X10_worthFor_4 6 rfl) (mmC (mmI il_X10_worthFor_4 7 rfl) mmN)))))))))))))))))))))))) (mmA (mmC (mmI il_X10_worthFor_4 8 rfl) (mmC (mmI il_X10_worthFor_1 7 rfl) (mmC (mmI il_X10_worthFor_1 8 rfl) (mmC (mmI il_X10_worthFor_1 9 rfl) (mmC (mmI il_X10_worthFor_1 10 rfl) (mmC (mmI il_X10_worthFor_1 11 rfl) (mmC (mmI il_X10_worthFor_1 12 rfl) (mmC (mmI il_X10_worthFor_1 13 rfl) (mmC (mmI il_X10_worthFor_1 14 rfl) (mmC (mmI il_X10_worthFor_1 15 rfl) (mmC (mmI il_X10_worthFor_4 9 rfl) (mmC (mmI il_X10_worthFor_4 10 rfl) (mmC (mmI il_X10_worthFor_4 11 rfl) (mmC (mmI il_X10_worthFor_4 12 rfl) (mmC (mmI il_X10_worthFor_4 13 rfl) (mmC (mmI il_X10_worthFor_4 14 rfl) (mmC (mmI il_X10_worthFor_4 15 rfl) (mmC (mmI il_X10_worthFor_4 16 rfl) (mmC (mmI il_X10_worthFor_4 17 rfl) (mmC (mmI il_X10_worthFor_4 18 rfl) (mmC (mmI il_X10_worthFor_4 19 rfl) (mmC (mmI il_X10_worthFor_4 20 rfl) (mmC (mmI il_X10_worthFor_4 21 rfl) (mmC (mmI il_X10_worthFor_4 22 rfl) mmN)))))))))))))))))))))))) (mmC (mmI il_X10_worthFor_4 23 rfl) (mmC (mmI il_X10_worthFor_5 0 rfl) (mmC (mmI il_X10_worthFor_5 1 rfl) (mmC (mmI il_X10_worthFor_5 2 rfl) mmN))))))) il_X10_worthFor_8) il_X10_worthFor_12) il_X10_worthFor_10) il_X10_worthFor_13) il_X10_worthFor_9)) gw_X1_daysIn
theorem gX10_worthFor_X1_daysIn : GoodIn wsX10_worthFor (wsV RX10 411 RX1 yX1_daysIn wsX1_daysIn) := goodIn_app (goodIn_sub (mmC (mmI il_X10_worthFor_2 4 rfl) (mmC (mmI il_X10_worthFor_2 5 rfl) (mmC (mmI il_X10_worthFor_2 6 rfl) (mmC (mmI il_X10_worthFor_2 7 rfl) mmN)))) (by decide +kernel)) ggX10_worthFor_X1_daysIn
set_option maxRecDepth 100000 in
theorem ggX10_worthFor_X10_menAboard : GoodIn wsX10_worthFor wsX10_menAboard := goodIn_sub (mmC (mmI il_X10_worthFor_5 7 rfl) (mmA (mmA (mmA (mmA (mmA (mmA (mmA (mmC (mmI il_X10_worthFor_5 8 rfl) (mmC (mmI il_X10_worthFor_5 9 rfl) (mmC (mmI il_X10_worthFor_1 5 rfl) (mmC (mmI il_X10_worthFor_1 0 rfl) (mmC (mmI il_X10_worthFor_5 10 rfl) (mmC (mmI il_X10_worthFor_2 15 rfl) (mmC (mmI il_X10_worthFor_2 16 rfl) (mmC (mmI il_X10_worthFor_2 7 rfl) (mmC (mmI il_X10_worthFor_2 17 rfl) (mmC (mmI il_X10_worthFor_2 9 rfl) (mmC (mmI il_X10_worthFor_2 18 rfl) (mmC (mmI il_X10_worthFor_2 19 rfl) (mmC (mmI il_X10_worthFor_2 20 rfl) (mmC (mmI il_X10_worthFor_2 21 rfl) (mmC (mmI il_X10_worthFor_2 22 rfl) (mmC (mmI il_X10_worthFor_2 23 rfl) (mmC (mmI il_X10_worthFor_3 0 rfl) (mmC (mmI il_X10_worthFor_3 1 rfl) (mmC (mmI il_X10_worthFor_3 2 rfl) (mmC (mmI il_X10_worthFor_3 3 rfl) (mmC (mmI il_X10_worthFor_3 4 rfl) (mmC (mmI il_X10_worthFor_3 5 rfl) (mmC (mmI il_X10_worthFor_3 6 rfl) (mmC (mmI il_X10_worthFor_3 7 rfl) mmN)))))))))))))))))))))))) (mmA (mmC (mmI il_X10_worthFor_3 8 rfl) (mmC (mmI il_X10_worthFor_3 9 rfl) (mmC (mmI il_X10_worthFor_3 10 rfl) (mmC (mmI il_X10_worthFor_3 11 rfl) (mmC (mmI il_X10_worthFor_3 12 rfl) (mmC (mmI il_X10_worthFor_3 13 rfl) (mmC (mmI il_X10_worthFor_3 14 rfl) (mmC (mmI il_X10_worthFor_3 15 rfl) (mmC (mmI il_X10_worthFor_3 16 rfl) (mmC (mmI il_X10_worthFor_3 17 rfl) (mmC (mmI il_X10_worthFor_3 18 rfl) (mmC (mmI il_X10_worthFor_3 19 rfl) (mmC (mmI il_X10_worthFor_3 20 rfl) (mmC (mmI il_X10_worthFor_3 21 rfl) (mmC (mmI il_X10_worthFor_3 22 rfl) (mmC (mmI il_X10_worthFor_3 23 rfl) (mmC (mmI il_X10_worthFor_4 0 rfl) (mmC (mmI il_X10_worthFor_4 1 rfl) (mmC (mmI il_X10_worthFor_4 2 rfl) (mmC (mmI il_X10_worthFor_4 3 rfl) (mmC (mmI il_X10_worthFor_4 4 rfl) (mmC (mmI il_X10_worthFor_4 5 rfl) (mmC (mmI il_X10_worthFor_4 6 rfl) (mmC (mmI il_X10_worthFor_4 7 rfl) mmN)))))))))))))))))))))))) (mmC (mmI il_X10_worthFor_4 8 rfl) (mmC (mmI il_X10_worthFor_1 7 rfl) (mmC (mmI il_X10_worthFor_1 8 rfl) (mmC (mmI il_X10_worthFor_1 9 rfl) (mmC (mmI il_X10_worthFor_1 10 rfl) (mmC (mmI il_X10_worthFor_1 11 rfl) (mmC (mmI il_X10_worthFor_1 12 rfl) (mmC (mmI il_X10_worthFor_1 13 rfl) (mmC (mmI il_X10_worthFor_1 14 rfl) (mmC (mmI il_X10_worthFor_1 15 rfl) mmN)))))))))))) il_X10_worthFor_7) il_X10_worthFor_8) il_X10_worthFor_12) il_X10_worthFor_10) il_X10_worthFor_13) il_X10_worthFor_9)) gw_X10_menAboard
theorem gX10_worthFor_X10_menAboard : GoodIn wsX10_worthFor (wsV RX10 307 RX10 yX10_menAboard wsX10_menAboard) := goodIn_app (goodIn_sub (mmC (mmI il_X10_worthFor_5 3 rfl) (mmC (mmI il_X10_worthFor_5 4 rfl) (mmC (mmI il_X10_worthFor_5 5 rfl) (mmC (mmI il_X10_worthFor_5 6 rfl) mmN)))) (by decide +kernel)) ggX10_worthFor_X10_menAboard
set_option maxRecDepth 100000 in
theorem ggX10_worthFor_X9_daysUnheard : GoodIn wsX10_worthFor wsX9_daysUnheard := goodIn_sub (mmC (mmI il_X10_worthFor_5 14 rfl) (mmA (mmA (mmC (mmI il_X10_worthFor_5 15 rfl) (mmC (mmI il_X10_worthFor_4 1 rfl) (mmC (mmI il_X10_worthFor_4 2 rfl) (mmC (mmI il_X10_worthFor_3 2 rfl) (mmC (mmI il_X10_worthFor_4 3 rfl) (mmC (mmI il_X10_worthFor_3 22 rfl) (mmC (mmI il_X10_worthFor_3 23 rfl) (mmC (mmI il_X10_worthFor_4 4 rfl) (mmC (mmI il_X10_worthFor_4 5 rfl) (mmC (mmI il_X10_worthFor_4 6 rfl) (mmC (mmI il_X10_worthFor_4 7 rfl) mmN))))))))))) il_X10_worthFor_13) il_X10_worthFor_12)) gw_X9_daysUnheard
theorem gX10_worthFor_X9_daysUnheard : GoodIn wsX10_worthFor (wsV RX10 415 RX9 yX9_daysUnheard wsX9_daysUnheard) := goodIn_app (goodIn_sub (mmC (mmI il_X10_worthFor_5 11 rfl) (mmC (mmI il_X10_worthFor_5 12 rfl) (mmC (mmI il_X10_worthFor_5 13 rfl) (mmC (mmI il_X10_worthFor_3 2 rfl) mmN)))) (by decide +kernel)) ggX10_worthFor_X9_daysUnheard
set_option maxRecDepth 100000 in
theorem ggX10_worthFor_X0_worth : GoodIn wsX10_worthFor wsX0_worth := goodIn_sub (mmC (mmI il_X10_worthFor_5 19 rfl) (mmA (mmC (mmI il_X10_worthFor_2 3 rfl) (mmC (mmI il_X10_worthFor_5 20 rfl) (mmC (mmI il_X10_worthFor_5 21 rfl) (mmC (mmI il_X10_worthFor_5 22 rfl) (mmC (mmI il_X10_worthFor_2 1 rfl) (mmC (mmI il_X10_worthFor_5 23 rfl) (mmC (mmI il_X10_worthFor_6 0 rfl) (mmC (mmI il_X10_worthFor_6 1 rfl) (mmC (mmI il_X10_worthFor_6 2 rfl) (mmC (mmI il_X10_worthFor_6 3 rfl) (mmC (mmI il_X10_worthFor_6 4 rfl) (mmC (mmI il_X10_worthFor_6 5 rfl) (mmC (mmI il_X10_worthFor_6 6 rfl) mmN))))))))))))) il_X10_worthFor_10)) gw_X0_worth
theorem gX10_worthFor_X0_worth : GoodIn wsX10_worthFor (wsV RX10 404 RX0 yX0_worth wsX0_worth) := goodIn_app (goodIn_sub (mmC (mmI il_X10_worthFor_5 16 rfl) (mmC (mmI il_X10_worthFor_5 17 rfl) (mmC (mmI il_X10_worthFor_5 18 rfl) (mmC (mmI il_X10_worthFor_2 1 rfl) mmN)))) (by decide +kernel)) ggX10_worthFor_X0_worth
theorem dX10_worthFor_0 : decode cX10_worthFor 0 = .ok (.aload_n 0, 1) := by decide +kernel
theorem dX10_worthFor_1 : decode cX10_worthFor 1 = .ok (.getfield 30, 3) := by decide +kernel
theorem dX10_worthFor_4 : decode cX10_worthFor 4 = .ok (.iload_n 1, 1) := by decide +kernel
theorem dX10_worthFor_5 : decode cX10_worthFor 5 = .ok (.iload_n 3, 1) := by decide +kernel
theorem dX10_worthFor_6 : decode cX10_worthFor 6 = .ok (.invokevirtual 400, 3) := by decide +kernel
theorem dX10_worthFor_9 : decode cX10_worthFor 9 = .ok (.astore 7, 2) := by decide +kernel
theorem dX10_worthFor_11 : decode cX10_worthFor 11 = .ok (.aload_n 0, 1) := by decide +kernel
theorem dX10_worthFor_12 : decode cX10_worthFor 12 = .ok (.getfield 59, 3) := by decide +kernel
theorem dX10_worthFor_15 : decode cX10_worthFor 15 = .ok (.iconst 0, 1) := by decide +kernel
theorem dX10_worthFor_16 : decode cX10_worthFor 16 = .ok (.aload_n 2, 1) := by decide +kernel
theorem dX10_worthFor_17 : decode cX10_worthFor 17 = .ok (.getfield 223, 3) := by decide +kernel
theorem dX10_worthFor_20 : decode cX10_worthFor 20 = .ok (.iastore, 1) := by decide +kernel
theorem dX10_worthFor_21 : decode cX10_worthFor 21 = .ok (.aload_n 0, 1) := by decide +kernel
theorem dX10_worthFor_22 : decode cX10_worthFor 22 = .ok (.getfield 59, 3) := by decide +kernel
theorem dX10_worthFor_25 : decode cX10_worthFor 25 = .ok (.iconst 1, 1) := by decide +kernel
theorem dX10_worthFor_26 : decode cX10_worthFor 26 = .ok (.aload_n 2, 1) := by decide +kernel
theorem dX10_worthFor_27 : decode cX10_worthFor 27 = .ok (.getfield 226, 3) := by decide +kernel
theorem dX10_worthFor_30 : decode cX10_worthFor 30 = .ok (.iastore, 1) := by decide +kernel
theorem dX10_worthFor_31 : decode cX10_worthFor 31 = .ok (.aload_n 0, 1) := by decide +kernel
theorem dX10_worthFor_32 : decode cX10_worthFor 32 = .ok (.getfield 59, 3) := by decide +kernel
theorem dX10_worthFor_35 : decode cX10_worthFor 35 = .ok (.iconst 2, 1) := by decide +kernel
theorem dX10_worthFor_36 : decode cX10_worthFor 36 = .ok (.aload_n 2, 1) := by decide +kernel
theorem dX10_worthFor_37 : decode cX10_worthFor 37 = .ok (.getfield 299, 3) := by decide +kernel
theorem dX10_worthFor_40 : decode cX10_worthFor 40 = .ok (.iload_n 3, 1) := by decide +kernel
theorem dX10_worthFor_41 : decode cX10_worthFor 41 = .ok (.invokevirtual 397, 3) := by decide +kernel
theorem dX10_worthFor_44 : decode cX10_worthFor 44 = .ok (.iastore, 1) := by decide +kernel
theorem dX10_worthFor_45 : decode cX10_worthFor 45 = .ok (.aload_n 0, 1) := by decide +kernel
theorem dX10_worthFor_46 : decode cX10_worthFor 46 = .ok (.getfield 59, 3) := by decide +kernel
theorem dX10_worthFor_49 : decode cX10_worthFor 49 = .ok (.iconst 3, 1) := by decide +kernel
theorem dX10_worthFor_50 : decode cX10_worthFor 50 = .ok (.aload 7, 2) := by decide +kernel
theorem dX10_worthFor_52 : decode cX10_worthFor 52 = .ok (.iconst 3, 1) := by decide +kernel
theorem dX10_worthFor_53 : decode cX10_worthFor 53 = .ok (.invokevirtual 408, 3) := by decide +kernel
theorem dX10_worthFor_56 : decode cX10_worthFor 56 = .ok (.ifCond .eq 18, 3) := by decide +kernel
theorem dX10_worthFor_59 : decode cX10_worthFor 59 = .ok (.aload_n 2, 1) := by decide +kernel
theorem dX10_worthFor_60 : decode cX10_worthFor 60 = .ok (.iconst 2, 1) := by decide +kernel
theorem dX10_worthFor_61 : decode cX10_worthFor 61 = .ok (.iload_n 3, 1) := by decide +kernel
theorem dX10_worthFor_62 : decode cX10_worthFor 62 = .ok (.iload 4, 2) := by decide +kernel
theorem dX10_worthFor_64 : decode cX10_worthFor 64 = .ok (.aload_n 0, 1) := by decide +kernel
theorem dX10_worthFor_65 : decode cX10_worthFor 65 = .ok (.getfield 30, 3) := by decide +kernel
theorem dX10_worthFor_68 : decode cX10_worthFor 68 = .ok (.invokevirtual 411, 3) := by decide +kernel
theorem dX10_worthFor_71 : decode cX10_worthFor 71 = .ok (.goto 4, 3) := by decide +kernel
theorem dX10_worthFor_74 : decode cX10_worthFor 74 = .ok (.iconst 0, 1) := by decide +kernel
theorem dX10_worthFor_75 : decode cX10_worthFor 75 = .ok (.iastore, 1) := by decide +kernel
theorem dX10_worthFor_76 : decode cX10_worthFor 76 = .ok (.aload_n 0, 1) := by decide +kernel
theorem dX10_worthFor_77 : decode cX10_worthFor 77 = .ok (.getfield 59, 3) := by decide +kernel
theorem dX10_worthFor_80 : decode cX10_worthFor 80 = .ok (.iconst 4, 1) := by decide +kernel
theorem dX10_worthFor_81 : decode cX10_worthFor 81 = .ok (.aload 7, 2) := by decide +kernel
theorem dX10_worthFor_83 : decode cX10_worthFor 83 = .ok (.iconst 4, 1) := by decide +kernel
theorem dX10_worthFor_84 : decode cX10_worthFor 84 = .ok (.invokevirtual 408, 3) := by decide +kernel
theorem dX10_worthFor_87 : decode cX10_worthFor 87 = .ok (.ifCond .eq 17, 3) := by decide +kernel
theorem dX10_worthFor_90 : decode cX10_worthFor 90 = .ok (.aload_n 0, 1) := by decide +kernel
theorem dX10_worthFor_91 : decode cX10_worthFor 91 = .ok (.aload_n 2, 1) := by decide +kernel
theorem dX10_worthFor_92 : decode cX10_worthFor 92 = .ok (.getfield 118, 3) := by decide +kernel
theorem dX10_worthFor_95 : decode cX10_worthFor 95 = .ok (.iload_n 3, 1) := by decide +kernel
theorem dX10_worthFor_96 : decode cX10_worthFor 96 = .ok (.iload 4, 2) := by decide +kernel
theorem dX10_worthFor_98 : decode cX10_worthFor 98 = .ok (.invokevirtual 307, 3) := by decide +kernel
theorem dX10_worthFor_101 : decode cX10_worthFor 101 = .ok (.goto 4, 3) := by decide +kernel
theorem dX10_worthFor_104 : decode cX10_worthFor 104 = .ok (.iconst 0, 1) := by decide +kernel
theorem dX10_worthFor_105 : decode cX10_worthFor 105 = .ok (.iastore, 1) := by decide +kernel
theorem dX10_worthFor_106 : decode cX10_worthFor 106 = .ok (.aload_n 0, 1) := by decide +kernel
theorem dX10_worthFor_107 : decode cX10_worthFor 107 = .ok (.getfield 59, 3) := by decide +kernel
theorem dX10_worthFor_110 : decode cX10_worthFor 110 = .ok (.iconst 5, 1) := by decide +kernel
theorem dX10_worthFor_111 : decode cX10_worthFor 111 = .ok (.iload 5, 2) := by decide +kernel
theorem dX10_worthFor_113 : decode cX10_worthFor 113 = .ok (.iastore, 1) := by decide +kernel
theorem dX10_worthFor_114 : decode cX10_worthFor 114 = .ok (.aload_n 0, 1) := by decide +kernel
theorem dX10_worthFor_115 : decode cX10_worthFor 115 = .ok (.getfield 59, 3) := by decide +kernel
theorem dX10_worthFor_118 : decode cX10_worthFor 118 = .ok (.bipush 6, 2) := by decide +kernel
theorem dX10_worthFor_120 : decode cX10_worthFor 120 = .ok (.aload_n 2, 1) := by decide +kernel
theorem dX10_worthFor_121 : decode cX10_worthFor 121 = .ok (.getfield 118, 3) := by decide +kernel
theorem dX10_worthFor_124 : decode cX10_worthFor 124 = .ok (.iload_n 3, 1) := by decide +kernel
theorem dX10_worthFor_125 : decode cX10_worthFor 125 = .ok (.iload 4, 2) := by decide +kernel
theorem dX10_worthFor_127 : decode cX10_worthFor 127 = .ok (.invokevirtual 415, 3) := by decide +kernel
theorem dX10_worthFor_130 : decode cX10_worthFor 130 = .ok (.iastore, 1) := by decide +kernel
theorem dX10_worthFor_131 : decode cX10_worthFor 131 = .ok (.aload_n 0, 1) := by decide +kernel
theorem dX10_worthFor_132 : decode cX10_worthFor 132 = .ok (.getfield 59, 3) := by decide +kernel
theorem dX10_worthFor_135 : decode cX10_worthFor 135 = .ok (.bipush 7, 2) := by decide +kernel
theorem dX10_worthFor_137 : decode cX10_worthFor 137 = .ok (.iload 6, 2) := by decide +kernel
theorem dX10_worthFor_139 : decode cX10_worthFor 139 = .ok (.iastore, 1) := by decide +kernel
theorem dX10_worthFor_140 : decode cX10_worthFor 140 = .ok (.aload 7, 2) := by decide +kernel
theorem dX10_worthFor_142 : decode cX10_worthFor 142 = .ok (.aload_n 0, 1) := by decide +kernel
theorem dX10_worthFor_143 : decode cX10_worthFor 143 = .ok (.getfield 59, 3) := by decide +kernel
theorem dX10_worthFor_146 : decode cX10_worthFor 146 = .ok (.invokevirtual 404, 3) := by decide +kernel
theorem dX10_worthFor_149 : decode cX10_worthFor 149 = .ok (.ireturn, 1) := by decide +kernel
set_option maxRecDepth 100000 in
theorem ggX10_standing_X10_worthFor : GoodIn wsX10_standing wsX10_worthFor := goodIn_sub (mmC (mmI il_X10_standing_1 14 rfl) (mmA (mmA (mmA (mmA (mmA (mmA (mmA (mmA (mmC (mmI il_X10_standing_1 15 rfl) (mmC (mmI il_X10_standing_1 16 rfl) (mmC (mmI il_X10_standing_1 17 rfl) (mmC (mmI il_X10_standing_1 18 rfl) (mmC (mmI il_X10_standing_1 19 rfl) (mmC (mmI il_X10_standing_1 20 rfl) (mmC (mmI il_X10_standing_1 21 rfl) (mmC (mmI il_X10_standing_1 22 rfl) (mmC (mmI il_X10_standing_1 23 rfl) (mmC (mmI il_X10_standing_2 0 rfl) (mmC (mmI il_X10_standing_2 1 rfl) (mmC (mmI il_X10_standing_2 2 rfl) (mmC (mmI il_X10_standing_2 3 rfl) (mmC (mmI il_X10_standing_2 4 rfl) (mmC (mmI il_X10_standing_2 5 rfl) (mmC (mmI il_X10_standing_2 6 rfl) (mmC (mmI il_X10_standing_2 7 rfl) (mmC (mmI il_X10_standing_2 8 rfl) (mmC (mmI il_X10_standing_2 9 rfl) (mmC (mmI il_X10_standing_2 10 rfl) (mmC (mmI il_X10_standing_2 11 rfl) (mmC (mmI il_X10_standing_2 12 rfl) (mmC (mmI il_X10_standing_2 13 rfl) (mmC (mmI il_X10_standing_2 14 rfl) mmN)))))))))))))))))))))))) (mmA (mmC (mmI il_X10_standing_2 15 rfl) (mmC (mmI il_X10_standing_2 16 rfl) (mmC (mmI il_X10_standing_2 17 rfl) (mmC (mmI il_X10_standing_2 18 rfl) (mmC (mmI il_X10_standing_2 19 rfl) (mmC (mmI il_X10_standing_2 20 rfl) (mmC (mmI il_X10_standing_2 21 rfl) (mmC (mmI il_X10_standing_2 22 rfl) (mmC (mmI il_X10_standing_2 23 rfl) (mmC (mmI il_X10_standing_3 0 rfl) (mmC (mmI il_X10_standing_3 1 rfl) (mmC (mmI il_X10_standing_1 4 rfl) (mmC (mmI il_X10_standing_1 5 rfl) (mmC (mmI il_X10_standing_1 6 rfl) (mmC (mmI il_X10_standing_3 2 rfl) (mmC (mmI il_X10_standing_3 3 rfl) (mmC (mmI il_X10_standing_3 4 rfl) (mmC (mmI il_X10_standing_3 5 rfl) (mmC (mmI il_X10_standing_3 6 rfl) (mmC (mmI il_X10_standing_3 7 rfl) (mmC (mmI il_X10_standing_3 8 rfl) (mmC (mmI il_X10_standing_3 9 rfl) (mmC (mmI il_X10_standing_3 10 rfl) (mmC (mmI il_X10_standing_3 11 rfl) mmN)))))))))))))))))))))))) (mmA (mmC (mmI il_X10_standing_3 12 rfl) (mmC (mmI il_X10_standing_3 13 rfl) (mmC (mmI il_X10_standing_3 14 rfl) (mmC (mmI il_X10_standing_3 15 rfl) (mmC (mmI il_X10_standing_3 16 rfl) (mmC (mmI il_X10_standing_3 17 rfl) (mmC (mmI il_X10_standing_3 18 rfl) (mmC (mmI il_X10_standing_3 19 rfl) (mmC (mmI il_X10_standing_3 20 rfl) (mmC (mmI il_X10_standing_3 21 rfl) (mmC (mmI il_X10_standing_3 22 rfl) (mmC (mmI il_X10_standing_3 23 rfl) (mmC (mmI il_X10_standing_4 0 rfl) (mmC (mmI il_X10_standing_4 1 rfl) (mmC (mmI il_X10_standing_4 2 rfl) (mmC (mmI il_X10_standing_4 3 rfl) (mmC (mmI il_X10_standing_4 4 rfl) (mmC (mmI il_X10_standing_4 5 rfl) (mmC (mmI il_X10_standing_4 6 rfl) (mmC (mmI il_X10_standing_4 7 rfl) (mmC (mmI il_X10_standing_4 8 rfl) (mmC (mmI il_X10_standing_4 9 rfl) (mmC (mmI il_X10_standing_4 10 rfl) (mmC (mmI il_X10_standing_4 11 rfl) mmN)))))))))))))))))))))))) (mmA (mmC (mmI il_X10_standing_4 12 rfl) (mmC (mmI il_X10_standing_4 13 rfl) (mmC (mmI il_X10_standing_4 14 rfl) (mmC (mmI il_X10_standing_4 15 rfl) (mmC (mmI il_X10_standing_4 16 rfl) (mmC (mmI il_X10_standing_4 17 rfl) (mmC (mmI il_X10_standing_4 18 rfl) (mmC (mmI il_X10_standing_4 19 rfl) (mmC (mmI il_X10_standing_4 20 rfl) (mmC (mmI il_X10_standing_4 21 rfl) (mmC (mmI il_X10_standing_4 22 rfl) (mmC (mmI il_X10_standing_4 23 rfl) (mmC (mmI il_X10_standing_5 0 rfl) (mmC (mmI il_X10_standing_5 1 rfl) (mmC (mmI il_X10_standing_5 2 rfl) (mmC (mmI il_X10_standing_5 3 rfl) (mmC (mmI il_X10_standing_5 4 rfl) (mmC (mmI il_X10_standing_5 5 rfl) (mmC (mmI il_X10_standing_5 6 rfl) (mmC (mmI il_X10_standing_5 7 rfl) (mmC (mmI il_X10_standing_5 8 rfl) (mmC (mmI il_X10_standing_5 9 rfl) (mmC (mmI il_X10_standing_5 10 rfl) (mmC (mmI il_X10_standing_5 11 rfl) mmN)))))))))))))))))))))))) (mmA (mmC (mmI il_X10_standing_5 12 rfl) (mmC (mmI il_X10_standing_5 13 rfl) (mmC (mmI il_X10_standing_5 14 rfl) (mmC (mmI il_X10_standing_5 15 rfl) (mmC (mmI il_X10_standing_5 16 rfl) (mmC (mmI il_X10_standing_5 17 rfl) (mmC (mmI il_X10_standing_1 13 rfl) (mmC (mmI il_X10_standing_5 18 rfl) (mmC (mmI il_X10_standing_5 19 rfl) (mmC (mmI il_X10_standing_5 20 rfl) (mmC (mmI il_X10_standing_5 21 rfl) (mmC (mmI il_X10_standing_5 22 rfl) (mmC (mmI il_X10_standing_5 23 rfl) (mmC (mmI il_X10_standing_6 0 rfl) (mmC (mmI il_X10_standing_6 1 rfl) (mmC (mmI il_X10_standing_6 2 rfl) (mmC (mmI il_X10_standing_6 3 rfl) (mmC (mmI il_X10_standing_6 4 rfl) (mmC (mmI il_X10_standing_6 5 rfl) (mmC (mmI il_X10_standing_6 6 rfl) (mmC (mmI il_X10_standing_6 7 rfl) (mmC (mmI il_X10_standing_6 8 rfl) (mmC (mmI il_X10_standing_6 9 rfl) (mmC (mmI il_X10_standing_6 10 rfl) mmN)))))))))))))))))))))))) (mmC (mmI il_X10_standing_6 11 rfl) (mmC (mmI il_X10_standing_6 12 rfl) (mmC (mmI il_X10_standing_6 13 rfl) (mmC (mmI il_X10_standing_6 14 rfl) (mmC (mmI il_X10_standing_6 15 rfl) (mmC (mmI il_X10_standing_6 16 rfl) (mmC (mmI il_X10_standing_6 17 rfl) mmN)))))))))))) il_X10_standing_8) il_X10_standing_9) il_X10_standing_10) il_X10_standing_11) il_X10_standing_12) il_X10_standing_13) il_X10_standing_14)) gw_X10_worthFor
theorem gX10_standing_X10_worthFor : GoodIn wsX10_standing (wsV RX10 249 RX10 yX10_worthFor wsX10_worthFor) := goodIn_app (goodIn_sub (mmC (mmI il_X10_standing_1 10 rfl) (mmC (mmI il_X10_standing_1 11 rfl) (mmC (mmI il_X10_standing_1 12 rfl) (mmC (mmI il_X10_standing_1 13 rfl) mmN)))) (by decide +kernel)) ggX10_standing_X10_worthFor
theorem dX10_standing_0 : decode cX10_standing 0 = .ok (.aload_n 0, 1) := by decide +kernel
theorem dX10_standing_1 : decode cX10_standing 1 = .ok (.iconst 1, 1) := by decide +kernel
theorem dX10_standing_2 : decode cX10_standing 2 = .ok (.aload_n 1, 1) := by decide +kernel
theorem dX10_standing_3 : decode cX10_standing 3 = .ok (.aload_n 2, 1) := by decide +kernel
theorem dX10_standing_4 : decode cX10_standing 4 = .ok (.getfield 277, 3) := by decide +kernel
theorem dX10_standing_7 : decode cX10_standing 7 = .ok (.iload_n 3, 1) := by decide +kernel
theorem dX10_standing_8 : decode cX10_standing 8 = .ok (.aload_n 2, 1) := by decide +kernel
theorem dX10_standing_9 : decode cX10_standing 9 = .ok (.getfield 418, 3) := by decide +kernel
theorem dX10_standing_12 : decode cX10_standing 12 = .ok (.aload_n 2, 1) := by decide +kernel
theorem dX10_standing_13 : decode cX10_standing 13 = .ok (.getfield 274, 3) := by decide +kernel
theorem dX10_standing_16 : decode cX10_standing 16 = .ok (.ifCond .eq 7, 3) := by decide +kernel
theorem dX10_standing_19 : decode cX10_standing 19 = .ok (.iconst 1, 1) := by decide +kernel
theorem dX10_standing_20 : decode cX10_standing 20 = .ok (.goto 4, 3) := by decide +kernel
theorem dX10_standing_23 : decode cX10_standing 23 = .ok (.iconst 0, 1) := by decide +kernel
theorem dX10_standing_24 : decode cX10_standing 24 = .ok (.invokevirtual 249, 3) := by decide +kernel
theorem dX10_standing_27 : decode cX10_standing 27 = .ok (.istore 4, 2) := by decide +kernel
theorem dX10_standing_29 : decode cX10_standing 29 = .ok (.iconst 0, 1) := by decide +kernel
theorem dX10_standing_30 : decode cX10_standing 30 = .ok (.aload_n 2, 1) := by decide +kernel
theorem dX10_standing_31 : decode cX10_standing 31 = .ok (.getfield 418, 3) := by decide +kernel
theorem dX10_standing_34 : decode cX10_standing 34 = .ok (.iload 4, 2) := by decide +kernel
theorem dX10_standing_36 : decode cX10_standing 36 = .ok (.invokestatic 378, 3) := by decide +kernel
theorem dX10_standing_39 : decode cX10_standing 39 = .ok (.invokestatic 383, 3) := by decide +kernel
theorem dX10_standing_42 : decode cX10_standing 42 = .ok (.ireturn, 1) := by decide +kernel
set_option maxRecDepth 100000 in
theorem ggX10_owedOn_X1_earningDays : GoodIn wsX10_owedOn wsX1_earningDays := goodIn_sub (mmC (mmI il_X10_owedOn_1 19 rfl) (mmA (mmA (mmA (mmA (mmA (mmA (mmC (mmI il_X10_owedOn_1 20 rfl) (mmC (mmI il_X10_owedOn_1 21 rfl) (mmC (mmI il_X10_owedOn_1 22 rfl) (mmC (mmI il_X10_owedOn_1 23 rfl) (mmC (mmI il_X10_owedOn_1 18 rfl) (mmC (mmI il_X10_owedOn_2 0 rfl) (mmC (mmI il_X10_owedOn_2 1 rfl) (mmC (mmI il_X10_owedOn_2 2 rfl) (mmC (mmI il_X10_owedOn_2 3 rfl) (mmC (mmI il_X10_owedOn_2 4 rfl) (mmC (mmI il_X10_owedOn_2 5 rfl) (mmC (mmI il_X10_owedOn_2 6 rfl) (mmC (mmI il_X10_owedOn_2 7 rfl) (mmC (mmI il_X10_owedOn_2 8 rfl) (mmC (mmI il_X10_owedOn_2 9 rfl) (mmC (mmI il_X10_owedOn_2 10 rfl) (mmC (mmI il_X10_owedOn_2 11 rfl) (mmC (mmI il_X10_owedOn_2 12 rfl) (mmC (mmI il_X10_owedOn_2 13 rfl) (mmC (mmI il_X10_owedOn_2 14 rfl) (mmC (mmI il_X10_owedOn_2 15 rfl) (mmC (mmI il_X10_owedOn_2 16 rfl) (mmC (mmI il_X10_owedOn_2 17 rfl) (mmC (mmI il_X10_owedOn_2 18 rfl) mmN)))))))))))))))))))))))) (mmA (mmC (mmI il_X10_owedOn_2 19 rfl) (mmC (mmI il_X10_owedOn_2 20 rfl) (mmC (mmI il_X10_owedOn_2 21 rfl) (mmC (mmI il_X10_owedOn_2 22 rfl) (mmC (mmI il_X10_owedOn_2 23 rfl) (mmC (mmI il_X10_owedOn_3 0 rfl) (mmC (mmI il_X10_owedOn_3 1 rfl) (mmC (mmI il_X10_owedOn_3 2 rfl) (mmC (mmI il_X10_owedOn_3 3 rfl) (mmC (mmI il_X10_owedOn_3 4 rfl) (mmC (mmI il_X10_owedOn_3 5 rfl) (mmC (mmI il_X10_owedOn_3 6 rfl) (mmC (mmI il_X10_owedOn_3 7 rfl) (mmC (mmI il_X10_owedOn_3 8 rfl) (mmC (mmI il_X10_owedOn_3 9 rfl) (mmC (mmI il_X10_owedOn_3 10 rfl) (mmC (mmI il_X10_owedOn_3 11 rfl) (mmC (mmI il_X10_owedOn_3 12 rfl) (mmC (mmI il_X10_owedOn_3 13 rfl) (mmC (mmI il_X10_owedOn_3 14 rfl) (mmC (mmI il_X10_owedOn_3 15 rfl) (mmC (mmI il_X10_owedOn_3 16 rfl) (mmC (mmI il_X10_owedOn_3 17 rfl) (mmC (mmI il_X10_owedOn_3 18 rfl) mmN)))))))))))))))))))))))) (mmA (mmC (mmI il_X10_owedOn_3 19 rfl) (mmC (mmI il_X10_owedOn_3 20 rfl) (mmC (mmI il_X10_owedOn_3 21 rfl) (mmC (mmI il_X10_owedOn_3 22 rfl) (mmC (mmI il_X10_owedOn_3 23 rfl) (mmC (mmI il_X10_owedOn_4 0 rfl) (mmC (mmI il_X10_owedOn_4 1 rfl) (mmC (mmI il_X10_owedOn_4 2 rfl) (mmC (mmI il_X10_owedOn_4 3 rfl) (mmC (mmI il_X10_owedOn_4 4 rfl) (mmC (mmI il_X10_owedOn_4 5 rfl) (mmC (mmI il_X10_owedOn_1 8 rfl) (mmC (mmI il_X10_owedOn_1 9 rfl) (mmC (mmI il_X10_owedOn_1 10 rfl) (mmC (mmI il_X10_owedOn_4 6 rfl) (mmC (mmI il_X10_owedOn_4 7 rfl) (mmC (mmI il_X10_owedOn_4 8 rfl) (mmC (mmI il_X10_owedOn_4 9 rfl) (mmC (mmI il_X10_owedOn_4 10 rfl) (mmC (mmI il_X10_owedOn_4 11 rfl) (mmC (mmI il_X10_owedOn_4 12 rfl) (mmC (mmI il_X10_owedOn_4 13 rfl) (mmC (mmI il_X10_owedOn_4 14 rfl) (mmC (mmI il_X10_owedOn_4 15 rfl) mmN)))))))))))))))))))))))) (mmC (mmI il_X10_owedOn_4 16 rfl) (mmC (mmI il_X10_owedOn_4 17 rfl) (mmC (mmI il_X10_owedOn_4 18 rfl) (mmC (mmI il_X10_owedOn_4 19 rfl) (mmC (mmI il_X10_owedOn_4 20 rfl) (mmC (mmI il_X10_owedOn_4 21 rfl) (mmC (mmI il_X10_owedOn_4 22 rfl) (mmC (mmI il_X10_owedOn_4 23 rfl) mmN))))))))))) il_X10_owedOn_9) il_X10_owedOn_12) il_X10_owedOn_13) il_X10_owedOn_14) il_X10_owedOn_15)) gw_X1_earningDays
theorem gX10_owedOn_X1_earningDays : GoodIn wsX10_owedOn (wsV RX10 237 RX1 yX1_earningDays wsX1_earningDays) := goodIn_app (goodIn_sub (mmC (mmI il_X10_owedOn_1 15 rfl) (mmC (mmI il_X10_owedOn_1 16 rfl) (mmC (mmI il_X10_owedOn_1 17 rfl) (mmC (mmI il_X10_owedOn_1 18 rfl) mmN)))) (by decide +kernel)) ggX10_owedOn_X1_earningDays
set_option maxRecDepth 100000 in
theorem ggX10_owedOn_X1_notePaid : GoodIn wsX10_owedOn wsX1_notePaid := goodIn_sub (mmC (mmI il_X10_owedOn_5 3 rfl) (mmA (mmA (mmA (mmA (mmA (mmA (mmC (mmI il_X10_owedOn_5 4 rfl) (mmC (mmI il_X10_owedOn_1 20 rfl) (mmC (mmI il_X10_owedOn_5 5 rfl) (mmC (mmI il_X10_owedOn_3 1 rfl) (mmC (mmI il_X10_owedOn_3 2 rfl) (mmC (mmI il_X10_owedOn_3 3 rfl) (mmC (mmI il_X10_owedOn_2 9 rfl) (mmC (mmI il_X10_owedOn_3 4 rfl) (mmC (mmI il_X10_owedOn_3 5 rfl) (mmC (mmI il_X10_owedOn_3 6 rfl) (mmC (mmI il_X10_owedOn_1 21 rfl) (mmC (mmI il_X10_owedOn_1 22 rfl) (mmC (mmI il_X10_owedOn_1 23 rfl) (mmC (mmI il_X10_owedOn_1 18 rfl) (mmC (mmI il_X10_owedOn_2 0 rfl) (mmC (mmI il_X10_owedOn_2 1 rfl) (mmC (mmI il_X10_owedOn_2 2 rfl) (mmC (mmI il_X10_owedOn_2 3 rfl) (mmC (mmI il_X10_owedOn_2 4 rfl) (mmC (mmI il_X10_owedOn_2 5 rfl) (mmC (mmI il_X10_owedOn_2 6 rfl) (mmC (mmI il_X10_owedOn_2 7 rfl) (mmC (mmI il_X10_owedOn_2 8 rfl) (mmC (mmI il_X10_owedOn_2 10 rfl) mmN)))))))))))))))))))))))) (mmA (mmC (mmI il_X10_owedOn_2 11 rfl) (mmC (mmI il_X10_owedOn_2 12 rfl) (mmC (mmI il_X10_owedOn_2 13 rfl) (mmC (mmI il_X10_owedOn_2 14 rfl) (mmC (mmI il_X10_owedOn_2 15 rfl) (mmC (mmI il_X10_owedOn_2 16 rfl) (mmC (mmI il_X10_owedOn_2 17 rfl) (mmC (mmI il_X10_owedOn_2 18 rfl) (mmC (mmI il_X10_owedOn_2 19 rfl) (mmC (mmI il_X10_owedOn_2 20 rfl) (mmC (mmI il_X10_owedOn_2 21 rfl) (mmC (mmI il_X10_owedOn_2 22 rfl) (mmC (mmI il_X10_owedOn_2 23 rfl) (mmC (mmI il_X10_owedOn_3 0 rfl) (mmC (mmI il_X10_owedOn_3 7 rfl) (mmC (mmI il_X10_owedOn_3 8 rfl) (mmC (mmI il_X10_owedOn_3 9 rfl) (mmC (mmI il_X10_owedOn_3 10 rfl) (mmC (mmI il_X10_owedOn_3 11 rfl) (mmC (mmI il_X10_owedOn_3 12 rfl) (mmC (mmI il_X10_owedOn_3 13 rfl) (mmC (mmI il_X10_owedOn_3 14 rfl) (mmC (mmI il_X10_owedOn_3 15 rfl) (mmC (mmI il_X10_owedOn_3 16 rfl) mmN)))))))))))))))))))))))) (mmC (mmI il_X10_owedOn_3 17 rfl) (mmC (mmI il_X10_owedOn_3 18 rfl) (mmC (mmI il_X10_owedOn_3 19 rfl) (mmC (mmI il_X10_owedOn_3 20 rfl) (mmC (mmI il_X10_owedOn_3 21 rfl) (mmC (mmI il_X10_owedOn_3 22 rfl) (mmC (mmI il_X10_owedOn_3 23 rfl) (mmC (mmI il_X10_owedOn_4 0 rfl) mmN)))))))))) il_X10_owedOn_9) il_X10_owedOn_14) il_X10_owedOn_12) il_X10_owedOn_13) il_X10_owedOn_15)) gw_X1_notePaid
theorem gX10_owedOn_X1_notePaid : GoodIn wsX10_owedOn (wsV RX10 421 RX1 yX1_notePaid wsX1_notePaid) := goodIn_app (goodIn_sub (mmC (mmI il_X10_owedOn_5 0 rfl) (mmC (mmI il_X10_owedOn_5 1 rfl) (mmC (mmI il_X10_owedOn_5 2 rfl) (mmC (mmI il_X10_owedOn_1 18 rfl) mmN)))) (by decide +kernel)) ggX10_owedOn_X1_notePaid
set_option maxRecDepth 100000 in
theorem ggX10_owedOn_X1_allotmentsPaid : GoodIn wsX10_owedOn wsX1_allotmentsPaid := goodIn_sub (mmC (mmI il_X10_owedOn_5 9 rfl) (mmA (mmA (mmA (mmA (mmA (mmA (mmC (mmI il_X10_owedOn_5 10 rfl) (mmC (mmI il_X10_owedOn_1 20 rfl) (mmC (mmI il_X10_owedOn_5 5 rfl) (mmC (mmI il_X10_owedOn_3 1 rfl) (mmC (mmI il_X10_owedOn_3 2 rfl) (mmC (mmI il_X10_owedOn_3 3 rfl) (mmC (mmI il_X10_owedOn_2 9 rfl) (mmC (mmI il_X10_owedOn_3 4 rfl) (mmC (mmI il_X10_owedOn_3 5 rfl) (mmC (mmI il_X10_owedOn_3 6 rfl) (mmC (mmI il_X10_owedOn_1 21 rfl) (mmC (mmI il_X10_owedOn_1 22 rfl) (mmC (mmI il_X10_owedOn_1 23 rfl) (mmC (mmI il_X10_owedOn_1 18 rfl) (mmC (mmI il_X10_owedOn_2 0 rfl) (mmC (mmI il_X10_owedOn_2 1 rfl) (mmC (mmI il_X10_owedOn_2 2 rfl) (mmC (mmI il_X10_owedOn_2 3 rfl) (mmC (mmI il_X10_owedOn_2 4 rfl) (mmC (mmI il_X10_owedOn_2 5 rfl) (mmC (mmI il_X10_owedOn_2 6 rfl) (mmC (mmI il_X10_owedOn_2 7 rfl) (mmC (mmI il_X10_owedOn_2 8 rfl) (mmC (mmI il_X10_owedOn_2 10 rfl) mmN)))))))))))))))))))))))) (mmA (mmC (mmI il_X10_owedOn_2 11 rfl) (mmC (mmI il_X10_owedOn_2 12 rfl) (mmC (mmI il_X10_owedOn_2 13 rfl) (mmC (mmI il_X10_owedOn_2 14 rfl) (mmC (mmI il_X10_owedOn_2 15 rfl) (mmC (mmI il_X10_owedOn_2 16 rfl) (mmC (mmI il_X10_owedOn_2 17 rfl) (mmC (mmI il_X10_owedOn_2 18 rfl) (mmC (mmI il_X10_owedOn_2 19 rfl) (mmC (mmI il_X10_owedOn_2 20 rfl) (mmC (mmI il_X10_owedOn_2 21 rfl) (mmC (mmI il_X10_owedOn_2 22 rfl) (mmC (mmI il_X10_owedOn_2 23 rfl) (mmC (mmI il_X10_owedOn_3 0 rfl) (mmC (mmI il_X10_owedOn_3 7 rfl) (mmC (mmI il_X10_owedOn_3 8 rfl) (mmC (mmI il_X10_owedOn_3 9 rfl) (mmC (mmI il_X10_owedOn_3 10 rfl) (mmC (mmI il_X10_owedOn_3 11 rfl) (mmC (mmI il_X10_owedOn_3 12 rfl) (mmC (mmI il_X10_owedOn_3 13 rfl) (mmC (mmI il_X10_owedOn_3 14 rfl) (mmC (mmI il_X10_owedOn_3 15 rfl) (mmC (mmI il_X10_owedOn_3 16 rfl) mmN)))))))))))))))))))))))) (mmC (mmI il_X10_owedOn_3 17 rfl) (mmC (mmI il_X10_owedOn_3 18 rfl) (mmC (mmI il_X10_owedOn_3 19 rfl) (mmC (mmI il_X10_owedOn_3 20 rfl) (mmC (mmI il_X10_owedOn_3 21 rfl) (mmC (mmI il_X10_owedOn_3 22 rfl) (mmC (mmI il_X10_owedOn_3 23 rfl) (mmC (mmI il_X10_owedOn_4 0 rfl) mmN)))))))))) il_X10_owedOn_9) il_X10_owedOn_14) il_X10_owedOn_12) il_X10_owedOn_13) il_X10_owedOn_15)) gw_X1_allotmentsPaid
theorem gX10_owedOn_X1_allotmentsPaid : GoodIn wsX10_owedOn (wsV RX10 424 RX1 yX1_allotmentsPaid wsX1_allotmentsPaid) := goodIn_app (goodIn_sub (mmC (mmI il_X10_owedOn_5 6 rfl) (mmC (mmI il_X10_owedOn_5 7 rfl) (mmC (mmI il_X10_owedOn_5 8 rfl) (mmC (mmI il_X10_owedOn_1 18 rfl) mmN)))) (by decide +kernel)) ggX10_owedOn_X1_allotmentsPaid
set_option maxRecDepth 100000 in
theorem ggX10_owedOn_X10_standing : GoodIn wsX10_owedOn wsX10_standing := goodIn_sub (mmC (mmI il_X10_owedOn_5 15 rfl) (mmA (mmA (mmA (mmA (mmA (mmA (mmA (mmA (mmA (mmC (mmI il_X10_owedOn_1 5 rfl) (mmC (mmI il_X10_owedOn_5 16 rfl) (mmC (mmI il_X10_owedOn_5 17 rfl) (mmC (mmI il_X10_owedOn_1 7 rfl) (mmC (mmI il_X10_owedOn_1 8 rfl) (mmC (mmI il_X10_owedOn_1 9 rfl) (mmC (mmI il_X10_owedOn_1 10 rfl) (mmC (mmI il_X10_owedOn_1 11 rfl) (mmC (mmI il_X10_owedOn_1 12 rfl) (mmC (mmI il_X10_owedOn_1 13 rfl) (mmC (mmI il_X10_owedOn_5 18 rfl) (mmC (mmI il_X10_owedOn_5 19 rfl) (mmC (mmI il_X10_owedOn_5 20 rfl) (mmC (mmI il_X10_owedOn_5 14 rfl) (mmC (mmI il_X10_owedOn_5 21 rfl) (mmC (mmI il_X10_owedOn_1 2 rfl) (mmC (mmI il_X10_owedOn_5 22 rfl) (mmC (mmI il_X10_owedOn_1 1 rfl) (mmC (mmI il_X10_owedOn_5 23 rfl) (mmC (mmI il_X10_owedOn_6 0 rfl) (mmC (mmI il_X10_owedOn_6 1 rfl) (mmC (mmI il_X10_owedOn_6 2 rfl) (mmC (mmI il_X10_owedOn_3 16 rfl) (mmC (mmI il_X10_owedOn_3 17 rfl) mmN)))))))))))))))))))))))) (mmA (mmC (mmI il_X10_owedOn_3 18 rfl) (mmC (mmI il_X10_owedOn_3 19 rfl) (mmC (mmI il_X10_owedOn_3 20 rfl) (mmC (mmI il_X10_owedOn_3 21 rfl) (mmC (mmI il_X10_owedOn_3 22 rfl) (mmC (mmI il_X10_owedOn_3 23 rfl) (mmC (mmI il_X10_owedOn_4 0 rfl) (mmC (mmI il_X10_owedOn_6 3 rfl) (mmC (mmI il_X10_owedOn_6 4 rfl) (mmC (mmI il_X10_owedOn_6 5 rfl) (mmC (mmI il_X10_owedOn_6 6 rfl) (mmC (mmI il_X10_owedOn_6 7 rfl) (mmC (mmI il_X10_owedOn_6 8 rfl) (mmC (mmI il_X10_owedOn_6 9 rfl) (mmC (mmI il_X10_owedOn_6 10 rfl) (mmC (mmI il_X10_owedOn_6 11 rfl) (mmC (mmI il_X10_owedOn_6 12 rfl) (mmC (mmI il_X10_owedOn_6 13 rfl) (mmC (mmI il_X10_owedOn_6 14 rfl) (mmC (mmI il_X10_owedOn_6 15 rfl) (mmC (mmI il_X10_owedOn_4 2 rfl) (mmC (mmI il_X10_owedOn_4 3 rfl) (mmC (mmI il_X10_owedOn_1 18 rfl) (mmC (mmI il_X10_owedOn_4 4 rfl) mmN)))))))))))))))))))))))) (mmA (mmC (mmI il_X10_owedOn_2 1 rfl) (mmC (mmI il_X10_owedOn_4 5 rfl) (mmC (mmI il_X10_owedOn_1 21 rfl) (mmC (mmI il_X10_owedOn_1 22 rfl) (mmC (mmI il_X10_owedOn_1 23 rfl) (mmC (mmI il_X10_owedOn_2 0 rfl) (mmC (mmI il_X10_owedOn_1 20 rfl) (mmC (mmI il_X10_owedOn_2 2 rfl) (mmC (mmI il_X10_owedOn_2 3 rfl) (mmC (mmI il_X10_owedOn_2 4 rfl) (mmC (mmI il_X10_owedOn_2 5 rfl) (mmC (mmI il_X10_owedOn_2 6 rfl) (mmC (mmI il_X10_owedOn_2 7 rfl) (mmC (mmI il_X10_owedOn_2 8 rfl) (mmC (mmI il_X10_owedOn_2 9 rfl) (mmC (mmI il_X10_owedOn_2 10 rfl) (mmC (mmI il_X10_owedOn_2 11 rfl) (mmC (mmI il_X10_owedOn_2 12 rfl) (mmC (mmI il_X10_owedOn_2 13 rfl) (mmC (mmI il_X10_owedOn_2 14 rfl) (mmC (mmI il_X10_owedOn_2 15 rfl) (mmC (mmI il_X10_owedOn_2 16 rfl) (mmC (mmI il_X10_owedOn_2 17 rfl) (mmC (mmI il_X10_owedOn_2 18 rfl) mmN)))))))))))))))))))))))) (mmA (mmC (mmI il_X10_owedOn_2 19 rfl) (mmC (mmI il_X10_owedOn_2 20 rfl) (mmC (mmI il_X10_owedOn_2 21 rfl) (mmC (mmI il_X10_owedOn_2 22 rfl) (mmC (mmI il_X10_owedOn_2 23 rfl) (mmC (mmI il_X10_owedOn_3 0 rfl) (mmC (mmI il_X10_owedOn_3 1 rfl) (mmC (mmI il_X10_owedOn_3 2 rfl) (mmC (mmI il_X10_owedOn_3 3 rfl) (mmC (mmI il_X10_owedOn_3 4 rfl) (mmC (mmI il_X10_owedOn_3 5 rfl) (mmC (mmI il_X10_owedOn_3 6 rfl) (mmC (mmI il_X10_owedOn_3 7 rfl) (mmC (mmI il_X10_owedOn_3 8 rfl) (mmC (mmI il_X10_owedOn_3 9 rfl) (mmC (mmI il_X10_owedOn_3 10 rfl) (mmC (mmI il_X10_owedOn_3 11 rfl) (mmC (mmI il_X10_owedOn_3 12 rfl) (mmC (mmI il_X10_owedOn_3 13 rfl) (mmC (mmI il_X10_owedOn_3 14 rfl) (mmC (mmI il_X10_owedOn_3 15 rfl) (mmC (mmI il_X10_owedOn_4 6 rfl) (mmC (mmI il_X10_owedOn_4 7 rfl) (mmC (mmI il_X10_owedOn_4 8 rfl) mmN)))))))))))))))))))))))) (mmA (mmC (mmI il_X10_owedOn_4 9 rfl) (mmC (mmI il_X10_owedOn_4 10 rfl) (mmC (mmI il_X10_owedOn_4 11 rfl) (mmC (mmI il_X10_owedOn_4 12 rfl) (mmC (mmI il_X10_owedOn_4 13 rfl) (mmC (mmI il_X10_owedOn_4 14 rfl) (mmC (mmI il_X10_owedOn_4 15 rfl) (mmC (mmI il_X10_owedOn_4 16 rfl) (mmC (mmI il_X10_owedOn_4 17 rfl) (mmC (mmI il_X10_owedOn_4 18 rfl) (mmC (mmI il_X10_owedOn_4 19 rfl) (mmC (mmI il_X10_owedOn_4 20 rfl) (mmC (mmI il_X10_owedOn_4 21 rfl) (mmC (mmI il_X10_owedOn_4 22 rfl) (mmC (mmI il_X10_owedOn_4 23 rfl) (mmC (mmI il_X10_owedOn_6 16 rfl) (mmC (mmI il_X10_owedOn_6 17 rfl) (mmC (mmI il_X10_owedOn_6 18 rfl) (mmC (mmI il_X10_owedOn_6 19 rfl) (mmC (mmI il_X10_owedOn_6 20 rfl) (mmC (mmI il_X10_owedOn_6 21 rfl) (mmC (mmI il_X10_owedOn_6 22 rfl) (mmC (mmI il_X10_owedOn_6 23 rfl) (mmC (mmI il_X10_owedOn_7 0 rfl) mmN)))))))))))))))))))))))) (mmC (mmI il_X10_owedOn_7 1 rfl) (mmC (mmI il_X10_owedOn_7 2 rfl) (mmC (mmI il_X10_owedOn_7 3 rfl) (mmC (mmI il_X10_owedOn_7 4 rfl) (mmC (mmI il_X10_owedOn_7 5 rfl) (mmC (mmI il_X10_owedOn_7 6 rfl) (mmC (mmI il_X10_owedOn_7 7 rfl) (mmC (mmI il_X10_owedOn_7 8 rfl) (mmC (mmI il_X10_owedOn_7 9 rfl) (mmC (mmI il_X10_owedOn_7 10 rfl) (mmC (mmI il_X10_owedOn_7 11 rfl) (mmC (mmI il_X10_owedOn_7 12 rfl) (mmC (mmI il_X10_owedOn_7 13 rfl) (mmC (mmI il_X10_owedOn_7 14 rfl) (mmC (mmI il_X10_owedOn_7 15 rfl) (mmC (mmI il_X10_owedOn_7 16 rfl) (mmC (mmI il_X10_owedOn_7 17 rfl) (mmC (mmI il_X10_owedOn_7 18 rfl) mmN))))))))))))))))))))))) il_X10_owedOn_11) il_X10_owedOn_10) il_X10_owedOn_9) il_X10_owedOn_15) il_X10_owedOn_13) il_X10_owedOn_16) il_X10_owedOn_12) il_X10_owedOn_14)) gw_X10_standing
theorem gX10_owedOn_X10_standing : GoodIn wsX10_owedOn (wsV RX10 280 RX10 yX10_standing wsX10_standing) := goodIn_app (goodIn_sub (mmC (mmI il_X10_owedOn_5 11 rfl) (mmC (mmI il_X10_owedOn_5 12 rfl) (mmC (mmI il_X10_owedOn_5 13 rfl) (mmC (mmI il_X10_owedOn_5 14 rfl) mmN)))) (by decide +kernel)) ggX10_owedOn_X10_standing
set_option maxRecDepth 100000 in
theorem ggX10_owedOn_X1_shortPence : GoodIn wsX10_owedOn wsX1_shortPence := goodIn_sub (mmC (mmI il_X10_owedOn_7 22 rfl) (mmA (mmC (mmI il_X10_owedOn_7 23 rfl) (mmC (mmI il_X10_owedOn_8 0 rfl) (mmC (mmI il_X10_owedOn_8 1 rfl) mmN))) il_X10_owedOn_9)) gw_X1_shortPence
theorem gX10_owedOn_X1_shortPence : GoodIn wsX10_owedOn (wsV RX10 427 RX1 yX1_shortPence wsX1_shortPence) := goodIn_app (goodIn_sub (mmC (mmI il_X10_owedOn_7 19 rfl) (mmC (mmI il_X10_owedOn_7 20 rfl) (mmC (mmI il_X10_owedOn_7 21 rfl) (mmC (mmI il_X10_owedOn_1 18 rfl) mmN)))) (by decide +kernel)) ggX10_owedOn_X1_shortPence
set_option maxRecDepth 100000 in
theorem ggX10_owedOn_X1_leavingOn : GoodIn wsX10_owedOn wsX1_leavingOn := goodIn_sub (mmC (mmI il_X10_owedOn_8 5 rfl) (mmA (mmA (mmA (mmA (mmA (mmA (mmC (mmI il_X10_owedOn_1 21 rfl) (mmC (mmI il_X10_owedOn_1 22 rfl) (mmC (mmI il_X10_owedOn_1 23 rfl) (mmC (mmI il_X10_owedOn_1 18 rfl) (mmC (mmI il_X10_owedOn_2 0 rfl) (mmC (mmI il_X10_owedOn_2 1 rfl) (mmC (mmI il_X10_owedOn_1 20 rfl) (mmC (mmI il_X10_owedOn_2 2 rfl) (mmC (mmI il_X10_owedOn_2 3 rfl) (mmC (mmI il_X10_owedOn_2 4 rfl) (mmC (mmI il_X10_owedOn_2 5 rfl) (mmC (mmI il_X10_owedOn_2 6 rfl) (mmC (mmI il_X10_owedOn_2 7 rfl) (mmC (mmI il_X10_owedOn_2 8 rfl) (mmC (mmI il_X10_owedOn_2 9 rfl) (mmC (mmI il_X10_owedOn_2 10 rfl) (mmC (mmI il_X10_owedOn_2 11 rfl) (mmC (mmI il_X10_owedOn_2 12 rfl) (mmC (mmI il_X10_owedOn_2 13 rfl) (mmC (mmI il_X10_owedOn_2 14 rfl) (mmC (mmI il_X10_owedOn_2 15 rfl) (mmC (mmI il_X10_owedOn_2 16 rfl) (mmC (mmI il_X10_owedOn_2 17 rfl) (mmC (mmI il_X10_owedOn_2 18 rfl) mmN)))))))))))))))))))))))) (mmA (mmC (mmI il_X10_owedOn_2 19 rfl) (mmC (mmI il_X10_owedOn_2 20 rfl) (mmC (mmI il_X10_owedOn_2 21 rfl) (mmC (mmI il_X10_owedOn_2 22 rfl) (mmC (mmI il_X10_owedOn_2 23 rfl) (mmC (mmI il_X10_owedOn_3 0 rfl) (mmC (mmI il_X10_owedOn_3 1 rfl) (mmC (mmI il_X10_owedOn_3 2 rfl) (mmC (mmI il_X10_owedOn_3 3 rfl) (mmC (mmI il_X10_owedOn_3 4 rfl) (mmC (mmI il_X10_owedOn_3 5 rfl) (mmC (mmI il_X10_owedOn_3 6 rfl) (mmC (mmI il_X10_owedOn_3 7 rfl) (mmC (mmI il_X10_owedOn_3 8 rfl) (mmC (mmI il_X10_owedOn_3 9 rfl) (mmC (mmI il_X10_owedOn_3 10 rfl) (mmC (mmI il_X10_owedOn_3 11 rfl) (mmC (mmI il_X10_owedOn_3 12 rfl) (mmC (mmI il_X10_owedOn_3 13 rfl) (mmC (mmI il_X10_owedOn_3 14 rfl) (mmC (mmI il_X10_owedOn_3 15 rfl) (mmC (mmI il_X10_owedOn_3 16 rfl) (mmC (mmI il_X10_owedOn_3 17 rfl) (mmC (mmI il_X10_owedOn_3 18 rfl) mmN)))))))))))))))))))))))) (mmC (mmI il_X10_owedOn_3 19 rfl) (mmC (mmI il_X10_owedOn_3 20 rfl) (mmC (mmI il_X10_owedOn_3 21 rfl) (mmC (mmI il_X10_owedOn_3 22 rfl) (mmC (mmI il_X10_owedOn_3 23 rfl) (mmC (mmI il_X10_owedOn_4 0 rfl) mmN)))))))) il_X10_owedOn_9) il_X10_owedOn_12) il_X10_owedOn_13) il_X10_owedOn_14) il_X10_owedOn_15)) gw_X1_leavingOn
theorem gX10_owedOn_X1_leavingOn : GoodIn wsX10_owedOn (wsV RX10 322 RX1 yX1_leavingOn wsX1_leavingOn) := goodIn_app (goodIn_sub (mmC (mmI il_X10_owedOn_8 2 rfl) (mmC (mmI il_X10_owedOn_8 3 rfl) (mmC (mmI il_X10_owedOn_8 4 rfl) (mmC (mmI il_X10_owedOn_1 18 rfl) mmN)))) (by decide +kernel)) ggX10_owedOn_X1_leavingOn
set_option maxRecDepth 100000 in
theorem ggX10_owedOn_X10_worthFor : GoodIn wsX10_owedOn wsX10_worthFor := goodIn_sub (mmC (mmI il_X10_owedOn_5 21 rfl) (mmA (mmA (mmA (mmA (mmA (mmA (mmA (mmA (mmC (mmI il_X10_owedOn_1 2 rfl) (mmC (mmI il_X10_owedOn_5 22 rfl) (mmC (mmI il_X10_owedOn_1 1 rfl) (mmC (mmI il_X10_owedOn_5 23 rfl) (mmC (mmI il_X10_owedOn_6 0 rfl) (mmC (mmI il_X10_owedOn_6 1 rfl) (mmC (mmI il_X10_owedOn_6 2 rfl) (mmC (mmI il_X10_owedOn_3 16 rfl) (mmC (mmI il_X10_owedOn_3 17 rfl) (mmC (mmI il_X10_owedOn_3 18 rfl) (mmC (mmI il_X10_owedOn_3 19 rfl) (mmC (mmI il_X10_owedOn_3 20 rfl) (mmC (mmI il_X10_owedOn_3 21 rfl) (mmC (mmI il_X10_owedOn_3 22 rfl) (mmC (mmI il_X10_owedOn_3 23 rfl) (mmC (mmI il_X10_owedOn_4 0 rfl) (mmC (mmI il_X10_owedOn_6 3 rfl) (mmC (mmI il_X10_owedOn_6 4 rfl) (mmC (mmI il_X10_owedOn_6 5 rfl) (mmC (mmI il_X10_owedOn_6 6 rfl) (mmC (mmI il_X10_owedOn_6 7 rfl) (mmC (mmI il_X10_owedOn_6 8 rfl) (mmC (mmI il_X10_owedOn_6 9 rfl) (mmC (mmI il_X10_owedOn_6 10 rfl) mmN)))))))))))))))))))))))) (mmA (mmC (mmI il_X10_owedOn_6 11 rfl) (mmC (mmI il_X10_owedOn_6 12 rfl) (mmC (mmI il_X10_owedOn_6 13 rfl) (mmC (mmI il_X10_owedOn_6 14 rfl) (mmC (mmI il_X10_owedOn_6 15 rfl) (mmC (mmI il_X10_owedOn_4 2 rfl) (mmC (mmI il_X10_owedOn_4 3 rfl) (mmC (mmI il_X10_owedOn_1 18 rfl) (mmC (mmI il_X10_owedOn_4 4 rfl) (mmC (mmI il_X10_owedOn_2 1 rfl) (mmC (mmI il_X10_owedOn_4 5 rfl) (mmC (mmI il_X10_owedOn_1 8 rfl) (mmC (mmI il_X10_owedOn_1 9 rfl) (mmC (mmI il_X10_owedOn_1 10 rfl) (mmC (mmI il_X10_owedOn_1 21 rfl) (mmC (mmI il_X10_owedOn_1 22 rfl) (mmC (mmI il_X10_owedOn_1 23 rfl) (mmC (mmI il_X10_owedOn_2 0 rfl) (mmC (mmI il_X10_owedOn_1 20 rfl) (mmC (mmI il_X10_owedOn_2 2 rfl) (mmC (mmI il_X10_owedOn_2 3 rfl) (mmC (mmI il_X10_owedOn_2 4 rfl) (mmC (mmI il_X10_owedOn_2 5 rfl) (mmC (mmI il_X10_owedOn_2 6 rfl) mmN)))))))))))))))))))))))) (mmA (mmC (mmI il_X10_owedOn_2 7 rfl) (mmC (mmI il_X10_owedOn_2 8 rfl) (mmC (mmI il_X10_owedOn_2 9 rfl) (mmC (mmI il_X10_owedOn_2 10 rfl) (mmC (mmI il_X10_owedOn_2 11 rfl) (mmC (mmI il_X10_owedOn_2 12 rfl) (mmC (mmI il_X10_owedOn_2 13 rfl) (mmC (mmI il_X10_owedOn_2 14 rfl) (mmC (mmI il_X10_owedOn_2 15 rfl) (mmC (mmI il_X10_owedOn_2 16 rfl) (mmC (mmI il_X10_owedOn_2 17 rfl) (mmC (mmI il_X10_owedOn_2 18 rfl) (mmC (mmI il_X10_owedOn_2 19 rfl) (mmC (mmI il_X10_owedOn_2 20 rfl) (mmC (mmI il_X10_owedOn_2 21 rfl) (mmC (mmI il_X10_owedOn_2 22 rfl) (mmC (mmI il_X10_owedOn_2 23 rfl) (mmC (mmI il_X10_owedOn_3 0 rfl) (mmC (mmI il_X10_owedOn_3 1 rfl) (mmC (mmI il_X10_owedOn_3 2 rfl) (mmC (mmI il_X10_owedOn_3 3 rfl) (mmC (mmI il_X10_owedOn_3 4 rfl) (mmC (mmI il_X10_owedOn_3 5 rfl) (mmC (mmI il_X10_owedOn_3 6 rfl) mmN)))))))))))))))))))))))) (mmA (mmC (mmI il_X10_owedOn_3 7 rfl) (mmC (mmI il_X10_owedOn_3 8 rfl) (mmC (mmI il_X10_owedOn_3 9 rfl) (mmC (mmI il_X10_owedOn_3 10 rfl) (mmC (mmI il_X10_owedOn_3 11 rfl) (mmC (mmI il_X10_owedOn_3 12 rfl) (mmC (mmI il_X10_owedOn_3 13 rfl) (mmC (mmI il_X10_owedOn_3 14 rfl) (mmC (mmI il_X10_owedOn_3 15 rfl) (mmC (mmI il_X10_owedOn_4 6 rfl) (mmC (mmI il_X10_owedOn_4 7 rfl) (mmC (mmI il_X10_owedOn_4 8 rfl) (mmC (mmI il_X10_owedOn_4 9 rfl) (mmC (mmI il_X10_owedOn_4 10 rfl) (mmC (mmI il_X10_owedOn_4 11 rfl) (mmC (mmI il_X10_owedOn_4 12 rfl) (mmC (mmI il_X10_owedOn_4 13 rfl) (mmC (mmI il_X10_owedOn_4 14 rfl) (mmC (mmI il_X10_owedOn_4 15 rfl) (mmC (mmI il_X10_owedOn_4 16 rfl) (mmC (mmI il_X10_owedOn_4 17 rfl) (mmC (mmI il_X10_owedOn_4 18 rfl) (mmC (mmI il_X10_owedOn_4 19 rfl) (mmC (mmI il_X10_owedOn_4 20 rfl) mmN)))))))))))))))))))))))) (mmA (mmC (mmI il_X10_owedOn_4 21 rfl) (mmC (mmI il_X10_owedOn_4 22 rfl) (mmC (mmI il_X10_owedOn_4 23 rfl) (mmC (mmI il_X10_owedOn_6 16 rfl) (mmC (mmI il_X10_owedOn_6 17 rfl) (mmC (mmI il_X10_owedOn_6 18 rfl) (mmC (mmI il_X10_owedOn_5 14 rfl) (mmC (mmI il_X10_owedOn_6 19 rfl) (mmC (mmI il_X10_owedOn_6 20 rfl) (mmC (mmI il_X10_owedOn_6 21 rfl) (mmC (mmI il_X10_owedOn_6 22 rfl) (mmC (mmI il_X10_owedOn_6 23 rfl) (mmC (mmI il_X10_owedOn_7 0 rfl) (mmC (mmI il_X10_owedOn_7 1 rfl) (mmC (mmI il_X10_owedOn_7 2 rfl) (mmC (mmI il_X10_owedOn_7 3 rfl) (mmC (mmI il_X10_owedOn_7 4 rfl) (mmC (mmI il_X10_owedOn_7 5 rfl) (mmC (mmI il_X10_owedOn_7 6 rfl) (mmC (mmI il_X10_owedOn_7 7 rfl) (mmC (mmI il_X10_owedOn_7 8 rfl) (mmC (mmI il_X10_owedOn_7 9 rfl) (mmC (mmI il_X10_owedOn_7 10 rfl) (mmC (mmI il_X10_owedOn_7 11 rfl) mmN)))))))))))))))))))))))) (mmC (mmI il_X10_owedOn_7 12 rfl) (mmC (mmI il_X10_owedOn_7 13 rfl) (mmC (mmI il_X10_owedOn_7 14 rfl) (mmC (mmI il_X10_owedOn_7 15 rfl) (mmC (mmI il_X10_owedOn_7 16 rfl) (mmC (mmI il_X10_owedOn_7 17 rfl) (mmC (mmI il_X10_owedOn_7 18 rfl) mmN)))))))))))) il_X10_owedOn_10) il_X10_owedOn_9) il_X10_owedOn_15) il_X10_owedOn_13) il_X10_owedOn_16) il_X10_owedOn_12) il_X10_owedOn_14)) gw_X10_worthFor
theorem gX10_owedOn_X10_worthFor : GoodIn wsX10_owedOn (wsV RX10 249 RX10 yX10_worthFor wsX10_worthFor) := goodIn_app (goodIn_sub (mmC (mmI il_X10_owedOn_5 18 rfl) (mmC (mmI il_X10_owedOn_5 19 rfl) (mmC (mmI il_X10_owedOn_5 20 rfl) (mmC (mmI il_X10_owedOn_5 14 rfl) mmN)))) (by decide +kernel)) ggX10_owedOn_X10_worthFor
theorem dX10_owedOn_0 : decode cX10_owedOn 0 = .ok (.iload_n 2, 1) := by decide +kernel
theorem dX10_owedOn_1 : decode cX10_owedOn 1 = .ok (.aload_n 1, 1) := by decide +kernel
theorem dX10_owedOn_2 : decode cX10_owedOn 2 = .ok (.getfield 255, 3) := by decide +kernel
theorem dX10_owedOn_5 : decode cX10_owedOn 5 = .ok (.if_icmp .ge 5, 3) := by decide +kernel
theorem dX10_owedOn_8 : decode cX10_owedOn 8 = .ok (.iconst 0, 1) := by decide +kernel
theorem dX10_owedOn_9 : decode cX10_owedOn 9 = .ok (.ireturn, 1) := by decide +kernel
theorem dX10_owedOn_10 : decode cX10_owedOn 10 = .ok (.aload_n 1, 1) := by decide +kernel
theorem dX10_owedOn_11 : decode cX10_owedOn 11 = .ok (.getfield 223, 3) := by decide +kernel
theorem dX10_owedOn_14 : decode cX10_owedOn 14 = .ok (.aload_n 1, 1) := by decide +kernel
theorem dX10_owedOn_15 : decode cX10_owedOn 15 = .ok (.iload_n 2, 1) := by decide +kernel
theorem dX10_owedOn_16 : decode cX10_owedOn 16 = .ok (.iload_n 3, 1) := by decide +kernel
theorem dX10_owedOn_17 : decode cX10_owedOn 17 = .ok (.aload_n 0, 1) := by decide +kernel
theorem dX10_owedOn_18 : decode cX10_owedOn 18 = .ok (.getfield 30, 3) := by decide +kernel
theorem dX10_owedOn_21 : decode cX10_owedOn 21 = .ok (.invokevirtual 237, 3) := by decide +kernel
theorem dX10_owedOn_24 : decode cX10_owedOn 24 = .ok (.imul, 1) := by decide +kernel
theorem dX10_owedOn_25 : decode cX10_owedOn 25 = .ok (.bipush 30, 2) := by decide +kernel
theorem dX10_owedOn_27 : decode cX10_owedOn 27 = .ok (.idiv, 1) := by decide +kernel
theorem dX10_owedOn_28 : decode cX10_owedOn 28 = .ok (.istore 4, 2) := by decide +kernel
theorem dX10_owedOn_30 : decode cX10_owedOn 30 = .ok (.iload 4, 2) := by decide +kernel
theorem dX10_owedOn_32 : decode cX10_owedOn 32 = .ok (.aload_n 1, 1) := by decide +kernel
theorem dX10_owedOn_33 : decode cX10_owedOn 33 = .ok (.iload_n 2, 1) := by decide +kernel
theorem dX10_owedOn_34 : decode cX10_owedOn 34 = .ok (.iload_n 3, 1) := by decide +kernel
theorem dX10_owedOn_35 : decode cX10_owedOn 35 = .ok (.aload_n 0, 1) := by decide +kernel
theorem dX10_owedOn_36 : decode cX10_owedOn 36 = .ok (.getfield 30, 3) := by decide +kernel
theorem dX10_owedOn_39 : decode cX10_owedOn 39 = .ok (.invokevirtual 421, 3) := by decide +kernel
theorem dX10_owedOn_42 : decode cX10_owedOn 42 = .ok (.aload_n 1, 1) := by decide +kernel
theorem dX10_owedOn_43 : decode cX10_owedOn 43 = .ok (.iload_n 2, 1) := by decide +kernel
theorem dX10_owedOn_44 : decode cX10_owedOn 44 = .ok (.iload_n 3, 1) := by decide +kernel
theorem dX10_owedOn_45 : decode cX10_owedOn 45 = .ok (.aload_n 0, 1) := by decide +kernel
theorem dX10_owedOn_46 : decode cX10_owedOn 46 = .ok (.getfield 30, 3) := by decide +kernel
theorem dX10_owedOn_49 : decode cX10_owedOn 49 = .ok (.invokevirtual 424, 3) := by decide +kernel
theorem dX10_owedOn_52 : decode cX10_owedOn 52 = .ok (.iadd, 1) := by decide +kernel
theorem dX10_owedOn_53 : decode cX10_owedOn 53 = .ok (.isub, 1) := by decide +kernel
theorem dX10_owedOn_54 : decode cX10_owedOn 54 = .ok (.istore 4, 2) := by decide +kernel
theorem dX10_owedOn_56 : decode cX10_owedOn 56 = .ok (.iconst 0, 1) := by decide +kernel
theorem dX10_owedOn_57 : decode cX10_owedOn 57 = .ok (.istore 5, 2) := by decide +kernel
theorem dX10_owedOn_59 : decode cX10_owedOn 59 = .ok (.iload 5, 2) := by decide +kernel
theorem dX10_owedOn_61 : decode cX10_owedOn 61 = .ok (.aload_n 1, 1) := by decide +kernel
theorem dX10_owedOn_62 : decode cX10_owedOn 62 = .ok (.getfield 258, 3) := by decide +kernel
theorem dX10_owedOn_65 : decode cX10_owedOn 65 = .ok (.if_icmp .ge 41, 3) := by decide +kernel
theorem dX10_owedOn_68 : decode cX10_owedOn 68 = .ok (.aload_n 1, 1) := by decide +kernel
theorem dX10_owedOn_69 : decode cX10_owedOn 69 = .ok (.getfield 261, 3) := by decide +kernel
theorem dX10_owedOn_72 : decode cX10_owedOn 72 = .ok (.iload 5, 2) := by decide +kernel
theorem dX10_owedOn_74 : decode cX10_owedOn 74 = .ok (.aaload, 1) := by decide +kernel
theorem dX10_owedOn_75 : decode cX10_owedOn 75 = .ok (.getfield 277, 3) := by decide +kernel
theorem dX10_owedOn_78 : decode cX10_owedOn 78 = .ok (.iload_n 2, 1) := by decide +kernel
theorem dX10_owedOn_79 : decode cX10_owedOn 79 = .ok (.if_icmp .gt 21, 3) := by decide +kernel
theorem dX10_owedOn_82 : decode cX10_owedOn 82 = .ok (.iload 4, 2) := by decide +kernel
theorem dX10_owedOn_84 : decode cX10_owedOn 84 = .ok (.aload_n 0, 1) := by decide +kernel
theorem dX10_owedOn_85 : decode cX10_owedOn 85 = .ok (.aload_n 1, 1) := by decide +kernel
theorem dX10_owedOn_86 : decode cX10_owedOn 86 = .ok (.aload_n 1, 1) := by decide +kernel
theorem dX10_owedOn_87 : decode cX10_owedOn 87 = .ok (.getfield 261, 3) := by decide +kernel
theorem dX10_owedOn_90 : decode cX10_owedOn 90 = .ok (.iload 5, 2) := by decide +kernel
theorem dX10_owedOn_92 : decode cX10_owedOn 92 = .ok (.aaload, 1) := by decide +kernel
theorem dX10_owedOn_93 : decode cX10_owedOn 93 = .ok (.iload_n 3, 1) := by decide +kernel
theorem dX10_owedOn_94 : decode cX10_owedOn 94 = .ok (.invokevirtual 280, 3) := by decide +kernel
theorem dX10_owedOn_97 : decode cX10_owedOn 97 = .ok (.isub, 1) := by decide +kernel
theorem dX10_owedOn_98 : decode cX10_owedOn 98 = .ok (.istore 4, 2) := by decide +kernel
theorem dX10_owedOn_100 : decode cX10_owedOn 100 = .ok (.iinc 5 1, 3) := by decide +kernel
theorem dX10_owedOn_103 : decode cX10_owedOn 103 = .ok (.goto (-44), 3) := by decide +kernel
theorem dX10_owedOn_106 : decode cX10_owedOn 106 = .ok (.iload 4, 2) := by decide +kernel
theorem dX10_owedOn_108 : decode cX10_owedOn 108 = .ok (.aload_n 1, 1) := by decide +kernel
theorem dX10_owedOn_109 : decode cX10_owedOn 109 = .ok (.iload_n 3, 1) := by decide +kernel
theorem dX10_owedOn_110 : decode cX10_owedOn 110 = .ok (.invokevirtual 427, 3) := by decide +kernel
theorem dX10_owedOn_113 : decode cX10_owedOn 113 = .ok (.iadd, 1) := by decide +kernel
theorem dX10_owedOn_114 : decode cX10_owedOn 114 = .ok (.istore 4, 2) := by decide +kernel
theorem dX10_owedOn_116 : decode cX10_owedOn 116 = .ok (.aload_n 1, 1) := by decide +kernel
theorem dX10_owedOn_117 : decode cX10_owedOn 117 = .ok (.iload_n 2, 1) := by decide +kernel
theorem dX10_owedOn_118 : decode cX10_owedOn 118 = .ok (.iload_n 3, 1) := by decide +kernel
theorem dX10_owedOn_119 : decode cX10_owedOn 119 = .ok (.aload_n 0, 1) := by decide +kernel
theorem dX10_owedOn_120 : decode cX10_owedOn 120 = .ok (.getfield 30, 3) := by decide +kernel
theorem dX10_owedOn_123 : decode cX10_owedOn 123 = .ok (.invokevirtual 322, 3) := by decide +kernel
theorem dX10_owedOn_126 : decode cX10_owedOn 126 = .ok (.astore 5, 2) := by decide +kernel
theorem dX10_owedOn_128 : decode cX10_owedOn 128 = .ok (.iload 4, 2) := by decide +kernel
theorem dX10_owedOn_130 : decode cX10_owedOn 130 = .ok (.ifCond .le 16, 3) := by decide +kernel
theorem dX10_owedOn_133 : decode cX10_owedOn 133 = .ok (.aload 5, 2) := by decide +kernel
theorem dX10_owedOn_135 : decode cX10_owedOn 135 = .ok (.ifnull 11, 3) := by decide +kernel
theorem dX10_owedOn_138 : decode cX10_owedOn 138 = .ok (.aload 5, 2) := by decide +kernel
theorem dX10_owedOn_140 : decode cX10_owedOn 140 = .ok (.getfield 326, 3) := by decide +kernel
theorem dX10_owedOn_143 : decode cX10_owedOn 143 = .ok (.ifCond .eq 6, 3) := by decide +kernel
theorem dX10_owedOn_146 : decode cX10_owedOn 146 = .ok (.iload 4, 2) := by decide +kernel
theorem dX10_owedOn_148 : decode cX10_owedOn 148 = .ok (.ireturn, 1) := by decide +kernel
theorem dX10_owedOn_149 : decode cX10_owedOn 149 = .ok (.aload_n 0, 1) := by decide +kernel
theorem dX10_owedOn_150 : decode cX10_owedOn 150 = .ok (.iconst 2, 1) := by decide +kernel
theorem dX10_owedOn_151 : decode cX10_owedOn 151 = .ok (.aload_n 1, 1) := by decide +kernel
theorem dX10_owedOn_152 : decode cX10_owedOn 152 = .ok (.iload_n 2, 1) := by decide +kernel
theorem dX10_owedOn_153 : decode cX10_owedOn 153 = .ok (.iload_n 3, 1) := by decide +kernel
theorem dX10_owedOn_154 : decode cX10_owedOn 154 = .ok (.iconst 0, 1) := by decide +kernel
theorem dX10_owedOn_155 : decode cX10_owedOn 155 = .ok (.iconst 0, 1) := by decide +kernel
theorem dX10_owedOn_156 : decode cX10_owedOn 156 = .ok (.invokevirtual 249, 3) := by decide +kernel
theorem dX10_owedOn_159 : decode cX10_owedOn 159 = .ok (.istore 6, 2) := by decide +kernel
theorem dX10_owedOn_161 : decode cX10_owedOn 161 = .ok (.iconst 0, 1) := by decide +kernel
theorem dX10_owedOn_162 : decode cX10_owedOn 162 = .ok (.bipush 100, 2) := by decide +kernel
theorem dX10_owedOn_164 : decode cX10_owedOn 164 = .ok (.iload 6, 2) := by decide +kernel
theorem dX10_owedOn_166 : decode cX10_owedOn 166 = .ok (.invokestatic 378, 3) := by decide +kernel
theorem dX10_owedOn_169 : decode cX10_owedOn 169 = .ok (.invokestatic 383, 3) := by decide +kernel
theorem dX10_owedOn_172 : decode cX10_owedOn 172 = .ok (.i2l, 1) := by decide +kernel
theorem dX10_owedOn_173 : decode cX10_owedOn 173 = .ok (.lstore 7, 2) := by decide +kernel
theorem dX10_owedOn_175 : decode cX10_owedOn 175 = .ok (.iload 4, 2) := by decide +kernel
theorem dX10_owedOn_177 : decode cX10_owedOn 177 = .ok (.iload 4, 2) := by decide +kernel
theorem dX10_owedOn_179 : decode cX10_owedOn 179 = .ok (.i2l, 1) := by decide +kernel
theorem dX10_owedOn_180 : decode cX10_owedOn 180 = .ok (.lload 7, 2) := by decide +kernel
theorem dX10_owedOn_182 : decode cX10_owedOn 182 = .ok (.lmul, 1) := by decide +kernel
theorem dX10_owedOn_183 : decode cX10_owedOn 183 = .ok (.ldc2_w 253, 3) := by decide +kernel
theorem dX10_owedOn_186 : decode cX10_owedOn 186 = .ok (.ldiv, 1) := by decide +kernel
theorem dX10_owedOn_187 : decode cX10_owedOn 187 = .ok (.l2i, 1) := by decide +kernel
theorem dX10_owedOn_188 : decode cX10_owedOn 188 = .ok (.isub, 1) := by decide +kernel
theorem dX10_owedOn_189 : decode cX10_owedOn 189 = .ok (.ireturn, 1) := by decide +kernel
theorem in_wsX1_addShort_X1 : ∀ w ∈ wsX10, w ∈ wsX1_addShort := fun w h => List.mem_cons_of_mem _ (List.mem_append_right _ h)
theorem in_wsX5_add_X5 : ∀ w ∈ wsX50, w ∈ wsX5_add := fun w h => List.mem_cons_of_mem _ (List.mem_append_right _ h)
theorem in_wsX10_menWhoAsk_X10 : ∀ w ∈ wsX100, w ∈ wsX10_menWhoAsk := fun w h => List.mem_cons_of_mem _ (List.mem_append_left _ (List.mem_append_right _ h))
theorem in_wsX10_menAboard_X10 : ∀ w ∈ wsX100, w ∈ wsX10_menAboard := fun w h => List.mem_cons_of_mem _ (List.mem_append_left _ (List.mem_append_left _ (List.mem_append_left _ (List.mem_append_left _ (List.mem_append_left _ (List.mem_append_right _ h))))))
theorem in_wsX10_menAboard_X1 : ∀ w ∈ wsX10, w ∈ wsX10_menAboard := fun w h => List.mem_cons_of_mem _ (List.mem_append_left _ (List.mem_append_left _ (List.mem_append_left _ (List.mem_append_left _ (List.mem_append_right _ h)))))
theorem in_wsX10_isShownTwice_X10 : ∀ w ∈ wsX100, w ∈ wsX10_isShownTwice := fun w h => List.mem_cons_of_mem _ (List.mem_append_left _ (List.mem_append_right _ h))
theorem in_wsX10_isShownTwice_X1 : ∀ w ∈ wsX10, w ∈ wsX10_isShownTwice := fun w h => List.mem_cons_of_mem _ (List.mem_append_right _ h)
theorem in_wsX10_mergeGroups_X10 : ∀ w ∈ wsX100, w ∈ wsX10_mergeGroups := fun w h => List.mem_cons_of_mem _ (List.mem_append_left _ (List.mem_append_right _ h))
theorem in_wsX10_mergeGroups_X6 : ∀ w ∈ wsX60, w ∈ wsX10_mergeGroups := fun w h => List.mem_cons_of_mem _ (List.mem_append_right _ h)
theorem in_wsX10_joinGroups_X10 : ∀ w ∈ wsX100, w ∈ wsX10_joinGroups := fun w h => List.mem_cons_of_mem _ (List.mem_append_left _ (List.mem_append_right _ h))
theorem in_wsX10_joinGroups_X6 : ∀ w ∈ wsX60, w ∈ wsX10_joinGroups := fun w h => List.mem_cons_of_mem _ (List.mem_append_right _ h)
theorem in_wsX10_signWorth_X10 : ∀ w ∈ wsX100, w ∈ wsX10_signWorth := fun w h => List.mem_cons_of_mem _ (List.mem_append_left _ (List.mem_append_left _ (List.mem_append_left _ (List.mem_append_right _ h))))
theorem in_wsX10_worthFor_X10 : ∀ w ∈ wsX100, w ∈ wsX10_worthFor := fun w h => List.mem_cons_of_mem _ (List.mem_append_left _ (List.mem_append_left _ (List.mem_append_left _ (List.mem_append_left _ (List.mem_append_left _ (List.mem_append_left _ (List.mem_append_right _ h)))))))
theorem in_wsX10_worthFor_X1 : ∀ w ∈ wsX10, w ∈ wsX10_worthFor := fun w h => List.mem_cons_of_mem _ (List.mem_append_left _ (List.mem_append_left _ (List.mem_append_left _ (List.mem_append_left _ (List.mem_append_left _ (List.mem_append_right _ h))))))
theorem in_wsX10_standing_X2 : ∀ w ∈ wsX20, w ∈ wsX10_standing := fun w h => List.mem_cons_of_mem _ (List.mem_append_left _ (List.mem_append_left _ (List.mem_append_left _ (List.mem_append_left _ (List.mem_append_left _ (List.mem_append_left _ (List.mem_append_left _ (List.mem_append_right _ h))))))))
theorem in_wsX10_owedOn_X1 : ∀ w ∈ wsX10, w ∈ wsX10_owedOn := fun w h => List.mem_cons_of_mem _ (List.mem_append_left _ (List.mem_append_left _ (List.mem_append_left _ (List.mem_append_left _ (List.mem_append_left _ (List.mem_append_left _ (List.mem_append_left _ (List.mem_append_right _ h))))))))
theorem in_wsX10_owedOn_X10 : ∀ w ∈ wsX100, w ∈ wsX10_owedOn := fun w h => List.mem_cons_of_mem _ (List.mem_append_left _ (List.mem_append_left _ (List.mem_append_left _ (List.mem_append_left _ (List.mem_append_left _ (List.mem_append_left _ (List.mem_append_right _ h)))))))
theorem in_wsX10_owedOn_X3 : ∀ w ∈ wsX30, w ∈ wsX10_owedOn := fun w h => List.mem_cons_of_mem _ (List.mem_append_left _ (List.mem_append_left _ (List.mem_append_left _ (List.mem_append_left _ (List.mem_append_right _ h)))))
theorem in_wsX10_owedOn_X2 : ∀ w ∈ wsX20, w ∈ wsX10_owedOn := fun w h => List.mem_cons_of_mem _ (List.mem_append_left _ (List.mem_append_left _ (List.mem_append_left _ (List.mem_append_left _ (List.mem_append_left _ (List.mem_append_right _ h))))))

set_option maxHeartbeats 4000000 in
set_option maxRecDepth 100000 in
theorem c_X1_addShort (l : Launch) (dC : Nat → ClassId) (dI : Nat → Nat → Nat) (sz : Nat) (cq : Nat → ClassId) (Z : oS) (gI : oInv Z) (o : Nat) (to : oty Z o 1) (x1 : Int32) (x2 : Int32) (x3 : Int32) : Met l yX1_addShort wsX1_addShort ({ frames := 0, cells := 0, slots := 0, locals := 0 }) (va_Pc [.ref o, .int x1, .int x2, .int x3] (pcW (dC, dI) (oT cq) (oW cq Z) sz)) (va_Qv (fun (u : oS) => oInv u ∧ oX [116, 117, 2064, 2120] Z u) (fun u t => va_P (dC, dI) vwCl (oW cq u) t.heap ∧ va_K (dC, dI) vwCl (oT cq) t ∧ va_D (va_A (oW cq Z) sz) (oW cq u)) (va_A (oW cq Z) sz)) 0 0 (va_A (oW cq Z) sz) := by
  refine Met.ofW (cc := cX1_addShort) (maxL := 4) (ret := none) (by decide +kernel) rfl ?_
  intro p e s m args below meth c s₁ B hml hv
  obtain ⟨rfl, hsz, hP, hK, hD0⟩ := hv
  have hx := B.exec
  have hb := B.bytes
  have hr := B.returns
  have hts := atoms_spec (ws := wsX1_addShort) B.pre
  have hown : s.vm.findClass RX1 = some m.cls := findClass_of_methodNamed B.named
  have hlocks := B.notSynchronized
  subst hsz
  have hD := hD0.self (sz := s.heap.size)
  generalize hAe : va_A (oW cq Z) s.heap.size = A at hD ⊢
  have hA : ∀ q : Nat, s.heap.size ≤ q → A q := fun q h => by rw [← hAe]; exact Or.inr h
  have hS : va_S A s.heap s.heap [] := va_S.rf
  have hP : va_P (dC, dI) vwCl (oW cq Z) s.heap := hP
  have hl := lv_entry ([.ref o, .int x1, .int x2, .int x3]) (n := 4) (Nat.le_of_ble_eq_true rfl)
  rw [lg_entry_eq]
  generalize (lg_sl ([.ref o, .int x1, .int x2, .int x3]) ++ List.replicate (4 - (lg_sl ([.ref o, .int x1, .int x2, .int x3])).length) Slot.unset).toArray = ls at hl ⊢
  have hl : lv_has ls 4 [(0, .ref o), (1, .int x1), (2, .int x2), (3, .int x3)] := hl
  refine lv_aload_n hx hb dX1_addShort_0 rfl (lv_at hl 0 rfl) ?_
  obtain ⟨q_1, hq_1⟩ := og (cq := cq) to.1 (oE_1 to.2)
  refine va_get (D := (dC, dI)) (ci := 1) (v := .int (oI Z o 16)) (C := RX1) (T := TX1) (N := 18) hx hb hts in_wsX1_addShort_X1 hown hK hP q_1 hq_1 rfl 16 (by decide +kernel) (hts (.fieldLink RX1 136 "ShipOffice$Agreement" "shortCount" "I") iw_X1_addShort_1) (fun _ h9 => h9) rfl dX1_addShort_1 ?_
  refine lv_topi (fun x_2 ex_2 => ?_)
  have hx_2 : 0 ≤ x_2.toInt ∧ x_2.toInt ≤ 20 := iv_of ex_2 (oInv.iv gI to.2 rfl rfl)
  have gx_2 : x_2.toInt = (oI Z o 16).toInt := iv_to ex_2
  clear ex_2
  refine lv_bipush (v := 20) hx hb dX1_addShort_4 (by decide +kernel) ?_
  refine lv_icmp_ge (tgt := 51) hx hb dX1_addShort_6 (by decide +kernel) (fun c_3 => ?_) (fun c_3 => ?_)
  · have dc_3 := c_le (a := 20) (b := x_2.toInt) (by decide +kernel) rfl c_3
    exact W.vret hx hb hr (fun t ht hW => ⟨⟨Z, rfl, ⟨gI, oX.rf⟩, ⟨by rw [ht]; exact hP, va_K.moved hW.alike hK, hD⟩⟩, hS.F ht⟩) hS.2.2 dX1_addShort_51
  · have dc_3 := c_nle (a := 20) (b := x_2.toInt) (by decide +kernel) rfl c_3
    refine lv_aload_n hx hb dX1_addShort_9 rfl (lv_at hl 0 rfl) ?_
    obtain ⟨b_4, hb_4⟩ := oInv.nn (i := 14) gI to rfl
    refine va_get (D := (dC, dI)) (ci := 1) (v := .ref b_4) (C := RX1) (T := TX1) (N := 18) hx hb hts in_wsX1_addShort_X1 hown hK hP q_1 hq_1 rfl 14 (by decide +kernel) (hts (.fieldLink RX1 22 "ShipOffice$Agreement" "shortTold" "[I") iw_X1_addShort_2) (fun _ h9 => h9) (o_rd hb_4) dX1_addShort_10 ?_
    have tb_4 : oty Z b_4 120 := oInv.rd gI to.2 hb_4 rfl rfl
    refine lv_aload_n hx hb dX1_addShort_13 rfl (lv_at hl 0 rfl) ?_
    refine va_get (D := (dC, dI)) (ci := 1) (v := .int (oI Z o 16)) (C := RX1) (T := TX1) (N := 18) hx hb hts in_wsX1_addShort_X1 hown hK hP q_1 hq_1 rfl 16 (by decide +kernel) (hts (.fieldLink RX1 136 "ShipOffice$Agreement" "shortCount" "I") iw_X1_addShort_1) (fun _ h9 => h9) rfl dX1_addShort_14 ?_
    refine lv_topi (fun x_5 ex_5 => ?_)
    have hx_5 : 0 ≤ x_5.toInt ∧ x_5.toInt ≤ 20 := iv_of ex_5 (oInv.iv gI to.2 rfl rfl)
    have gx_5 : x_5.toInt = (oI Z o 16).toInt := iv_to ex_5
    clear ex_5
    refine lv_iload_n hx hb dX1_addShort_17 rfl (lv_at hl 3 rfl) ?_
    obtain ⟨q_6, hq_6⟩ := og (cq := cq) tb_4.1 (oE_a1 (n := 20) tb_4.2 (by decide +kernel))
    refine va_iast hx hb hK hP hD hS q_6 0 hq_6 rfl (vp_in_iff.mpr (by omega)) dX1_addShort_18 (fun H locs hP1 hD1 hS => ?_)
    obtain ⟨S_7, eS_7⟩ : ∃ zq, zq = setI Z b_4 (x_5 : Int32).toNatClampNeg x3 := ⟨_, rfl⟩
    have hP : va_P (dC, dI) vwCl (oW cq S_7) H := by rw [eS_7]; exact cP (oset tb_4.1 hq_6 hD rfl (he_a1 (n := 20) tb_4.2 (by decide +kernel)) neI) hP1
    have hD : va_D A (oW cq S_7) := by rw [eS_7]; exact cD (oset tb_4.1 hq_6 hD rfl (he_a1 (n := 20) tb_4.2 (by decide +kernel)) neI) hD1
    clear hP1 hD1
    have hIS_7 : oInv S_7 := by rw [eS_7]; exact oInv.A (k := 120) gI tb_4.2 (by decide +kernel)
    have XS_7 : oX [2120] Z S_7 := by rw [eS_7]; exact oX.I (k := 120) (key := 2120) tb_4.2 rfl (List.mem_singleton.mpr rfl)
    have X_8 : oX [116, 117, 2064, 2120] Z S_7 := oX.st oX.rf XS_7 (by decide +kernel)
    have g_9 : (oI S_7 o 16).toInt = (oI Z o 16).toInt := by rw [eS_7, setI_oth (ty_ne to tb_4 (by decide +kernel))]
    refine lv_aload_n hx hb dX1_addShort_19 rfl (lv_at hl 0 rfl) ?_
    have t_10 : oty S_7 o 1 := (oX.ty XS_7 to)
    obtain ⟨q_11, hq_11⟩ := og (cq := cq) t_10.1 (oE_1 t_10.2)
    obtain ⟨b_12, hb_12⟩ := oInv.nn (i := 15) hIS_7 t_10 rfl
    refine va_get (D := (dC, dI)) (ci := 1) (v := .ref b_12) (C := RX1) (T := TX1) (N := 18) hx hb hts in_wsX1_addShort_X1 hown hK hP q_11 hq_11 rfl 15 (by decide +kernel) (hts (.fieldLink RX1 26 "ShipOffice$Agreement" "shortSum" "[I") iw_X1_addShort_3) (fun _ h9 => h9) (o_rd hb_12) dX1_addShort_20 ?_
    have tb_12 : oty S_7 b_12 64 := oInv.rd hIS_7 t_10.2 hb_12 rfl rfl
    refine lv_aload_n hx hb dX1_addShort_23 rfl (lv_at hl 0 rfl) ?_
    refine va_get (D := (dC, dI)) (ci := 1) (v := .int (oI S_7 o 16)) (C := RX1) (T := TX1) (N := 18) hx hb hts in_wsX1_addShort_X1 hown hK hP q_11 hq_11 rfl 16 (by decide +kernel) (hts (.fieldLink RX1 136 "ShipOffice$Agreement" "shortCount" "I") iw_X1_addShort_1) (fun _ h9 => h9) rfl dX1_addShort_24 ?_
    refine lv_topi (fun x_13 ex_13 => ?_)
    have hx_13 : 0 ≤ x_13.toInt ∧ x_13.toInt ≤ 20 := iv_of ex_13 (oInv.iv hIS_7 t_10.2 rfl rfl)
    have gx_13 : x_13.toInt = (oI S_7 o 16).toInt := iv_to ex_13
    clear ex_13
    refine lv_iload_n hx hb dX1_addShort_27 rfl (lv_at hl 1 rfl) ?_
    refine lv_iload_n hx hb dX1_addShort_28 rfl (lv_at hl 2 rfl) ?_
    refine lv_imul hx hb dX1_addShort_29 ?_
    refine lv_topi (fun x_14 ex_14 => ?_)
    clear ex_14
    obtain ⟨q_15, hq_15⟩ := og (cq := cq) tb_12.1 (oE_64 tb_12.2)
    refine va_iast hx hb hK hP hD hS q_15 0 hq_15 rfl (vp_in_iff.mpr (by omega)) dX1_addShort_30 (fun H locs hP1 hD1 hS => ?_)
    obtain ⟨S_16, eS_16⟩ : ∃ zq, zq = setI S_7 b_12 (x_13 : Int32).toNatClampNeg x_14 := ⟨_, rfl⟩
    have hP : va_P (dC, dI) vwCl (oW cq S_16) H := by rw [eS_16]; exact cP (oset tb_12.1 hq_15 hD rfl (he_64 tb_12.2) neI) hP1
    have hD : va_D A (oW cq S_16) := by rw [eS_16]; exact cD (oset tb_12.1 hq_15 hD rfl (he_64 tb_12.2) neI) hD1
    clear hP1 hD1
    have hIS_16 : oInv S_16 := by rw [eS_16]; exact oInv.A (k := 64) hIS_7 tb_12.2 (by decide +kernel)
    have XS_16 : oX [2064] S_7 S_16 := by rw [eS_16]; exact oX.I (k := 64) (key := 2064) tb_12.2 rfl (List.mem_singleton.mpr rfl)
    have X_17 : oX [116, 117, 2064, 2120] Z S_16 := oX.st X_8 XS_16 (by decide +kernel)
    have g_18 : (oI S_16 o 16).toInt = (oI S_7 o 16).toInt := by rw [eS_16, setI_oth (ty_ne t_10 tb_12 (by decide +kernel))]
    refine lv_aload_n hx hb dX1_addShort_31 rfl (lv_at hl 0 rfl) ?_
    refine lv_dup hx hb dX1_addShort_32 rfl ?_
    have t_19 : oty S_16 o 1 := (oX.ty XS_16 t_10)
    obtain ⟨q_20, hq_20⟩ := og (cq := cq) t_19.1 (oE_1 t_19.2)
    refine va_get (D := (dC, dI)) (ci := 1) (v := .int (oI S_16 o 16)) (C := RX1) (T := TX1) (N := 18) hx hb hts in_wsX1_addShort_X1 hown hK hP q_20 hq_20 rfl 16 (by decide +kernel) (hts (.fieldLink RX1 136 "ShipOffice$Agreement" "shortCount" "I") iw_X1_addShort_1) (fun _ h9 => h9) rfl dX1_addShort_33 ?_
    refine lv_topi (fun x_21 ex_21 => ?_)
    have hx_21 : 0 ≤ x_21.toInt ∧ x_21.toInt ≤ 20 := iv_of ex_21 (oInv.iv hIS_16 t_19.2 rfl rfl)
    have gx_21 : x_21.toInt = (oI S_16 o 16).toInt := iv_to ex_21
    clear ex_21
    refine lv_iconst (v := 1) hx hb dX1_addShort_36 (by decide +kernel) ?_
    refine lv_iadd hx hb dX1_addShort_37 ?_
    refine lv_topi (fun x_22 ex_22 => ?_)
    have hx_22 : x_22.toInt = x_21.toInt + 1 := (iv_to ex_22).trans (ad_i rfl (by decide +kernel) (by omega) (by omega))
    clear ex_22
    refine va_put (D := (dC, dI)) (ci := 1) (v := .int x_22) (ty := .int) (C := RX1) (T := TX1) (N := 18) hx hb hts in_wsX1_addShort_X1 tyX1 tyX1_ok nmX1 hown hK hP hD hS q_20 hq_20 rfl 16 (by decide +kernel) (hts (.fieldLink RX1 136 "ShipOffice$Agreement" "shortCount" "I") iw_X1_addShort_1) (fun _ h9 => h9) rfl (by decide +kernel) rfl rfl (Nat.le_of_ble_eq_true rfl) dX1_addShort_38 (fun H locs hP1 hD1 hS => ?_)
    obtain ⟨S_23, eS_23⟩ : ∃ zq, zq = setI S_16 o 16 x_22 := ⟨_, rfl⟩
    have hP : va_P (dC, dI) vwCl (oW cq S_23) H := by rw [eS_23]; exact cP (oset t_19.1 hq_20 hD rfl (he_1_16 t_19.2) neI) hP1
    have hD : va_D A (oW cq S_23) := by rw [eS_23]; exact cD (oset t_19.1 hq_20 hD rfl (he_1_16 t_19.2) neI) hD1
    clear hP1 hD1
    have hIS_23 : oInv S_23 := by rw [eS_23]; exact oInv.I0 (k := 1) (lo := 0) (hi := 20) hIS_16 t_19.2 (by decide +kernel) rfl rfl rfl (by omega)
    have XS_23 : oX [116] S_16 S_23 := by rw [eS_23]; exact oX.I (k := 1) (key := 116) t_19.2 rfl (List.mem_singleton.mpr rfl)
    have X_24 : oX [116, 117, 2064, 2120] Z S_23 := oX.st X_17 XS_23 (by decide +kernel)
    have g_25 : (oI S_23 o 16).toInt = x_22.toInt := by rw [eS_23, setI_same]
    refine lv_aload_n hx hb dX1_addShort_41 rfl (lv_at hl 0 rfl) ?_
    refine lv_dup hx hb dX1_addShort_42 rfl ?_
    have t_26 : oty S_23 o 1 := (oX.ty XS_23 t_19)
    obtain ⟨q_27, hq_27⟩ := og (cq := cq) t_26.1 (oE_1 t_26.2)
    refine va_get (D := (dC, dI)) (ci := 1) (v := .int (oI S_23 o 17)) (C := RX1) (T := TX1) (N := 18) hx hb hts in_wsX1_addShort_X1 hown hK hP q_27 hq_27 rfl 17 (by decide +kernel) (hts (.fieldLink RX1 139 "ShipOffice$Agreement" "shortDays" "I") iw_X1_addShort_4) (fun _ h9 => h9) rfl dX1_addShort_43 ?_
    refine lv_topi (fun x_28 ex_28 => ?_)
    clear ex_28
    refine lv_iload_n hx hb dX1_addShort_46 rfl (lv_at hl 1 rfl) ?_
    refine lv_iadd hx hb dX1_addShort_47 ?_
    refine lv_topi (fun x_29 ex_29 => ?_)
    clear ex_29
    refine va_put (D := (dC, dI)) (ci := 1) (v := .int x_29) (ty := .int) (C := RX1) (T := TX1) (N := 18) hx hb hts in_wsX1_addShort_X1 tyX1 tyX1_ok nmX1 hown hK hP hD hS q_27 hq_27 rfl 17 (by decide +kernel) (hts (.fieldLink RX1 139 "ShipOffice$Agreement" "shortDays" "I") iw_X1_addShort_4) (fun _ h9 => h9) rfl (by decide +kernel) rfl rfl (Nat.le_of_ble_eq_true rfl) dX1_addShort_48 (fun H locs hP1 hD1 hS => ?_)
    obtain ⟨S_30, eS_30⟩ : ∃ zq, zq = setI S_23 o 17 x_29 := ⟨_, rfl⟩
    have hP : va_P (dC, dI) vwCl (oW cq S_30) H := by rw [eS_30]; exact cP (oset t_26.1 hq_27 hD rfl (he_1_17 t_26.2) neI) hP1
    have hD : va_D A (oW cq S_30) := by rw [eS_30]; exact cD (oset t_26.1 hq_27 hD rfl (he_1_17 t_26.2) neI) hD1
    clear hP1 hD1
    have hIS_30 : oInv S_30 := by rw [eS_30]; exact oInv.I0 (k := 1) (lo := -2147483648) (hi := 2147483647) hIS_23 t_26.2 (by decide +kernel) rfl rfl rfl (iv_all _)
    have XS_30 : oX [117] S_23 S_30 := by rw [eS_30]; exact oX.I (k := 1) (key := 117) t_26.2 rfl (List.mem_singleton.mpr rfl)
    have X_31 : oX [116, 117, 2064, 2120] Z S_30 := oX.st X_24 XS_30 (by decide +kernel)
    have g_32 : (oI S_30 o 16).toInt = (oI S_23 o 16).toInt := by rw [eS_30, setI_ne (by decide +kernel)]
    exact W.vret hx hb hr (fun t ht hW => ⟨⟨S_30, rfl, ⟨hIS_30, X_31⟩, ⟨by rw [ht]; exact hP, va_K.moved hW.alike hK, hD⟩⟩, hS.F ht⟩) hS.2.2 dX1_addShort_51
set_option maxHeartbeats 4000000 in
set_option maxRecDepth 100000 in
theorem c_X10_menWhoAsk (l : Launch) (dC : Nat → ClassId) (dI : Nat → Nat → Nat) (sz : Nat) (cq : Nat → ClassId) (Z : oS) (gI : oInv Z) (o : Nat) (to : oty Z o 10) : Met l yX10_menWhoAsk wsX10_menWhoAsk ({ frames := 1, cells := 0, slots := 0, locals := 24 }) (va_Pc [.ref o] (pcW (dC, dI) (oT cq) (oW cq Z) sz)) (va_Qi (fun (r : Int32) (u : Unit) => True) (fun _ _ => True) (va_A [] sz)) 0 0 (va_A [] sz) := by
  refine Met.ofW (cc := cX10_menWhoAsk) (maxL := 3) (ret := (some .int)) (by decide +kernel) rfl ?_
  intro p e s m args below meth c s₁ B hml hv
  obtain ⟨rfl, hsz, hP, hK, hD0⟩ := hv
  have hx := B.exec
  have hb := B.bytes
  have hr := B.returns
  have hts := atoms_spec (ws := wsX10_menWhoAsk) B.pre
  have hown : s.vm.findClass RX10 = some m.cls := findClass_of_methodNamed B.named
  have hlocks := B.notSynchronized
  subst hsz
  have hD := hD0
  generalize hAe : va_A [] s.heap.size = A at ⊢
  have hA : ∀ q : Nat, s.heap.size ≤ q → A q := fun q h => by rw [← hAe]; exact Or.inr h
  have hS : va_S A s.heap s.heap [] := va_S.rf
  have hP : va_P (dC, dI) vwCl (oW cq Z) s.heap := hP
  have hl := lv_entry ([.ref o]) (n := 3) (Nat.le_of_ble_eq_true rfl)
  rw [lg_entry_eq]
  generalize (lg_sl ([.ref o]) ++ List.replicate (3 - (lg_sl ([.ref o])).length) Slot.unset).toArray = ls at hl ⊢
  have hl : lv_has ls 3 [(0, .ref o)] := hl
  refine lv_iconst (v := 0) hx hb dX10_menWhoAsk_0 (by decide +kernel) ?_
  refine lv_istore_n (lv' := [(1, .int 0), (0, .ref o)]) hx hb dX10_menWhoAsk_1 rfl hl (by decide +kernel) rfl (fun ls hl => ?_)
  refine lv_iconst (v := 0) hx hb dX10_menWhoAsk_2 (by decide +kernel) ?_
  refine lv_istore_n (lv' := [(2, .int 0), (1, .int 0), (0, .ref o)]) hx hb dX10_menWhoAsk_3 rfl hl (by decide +kernel) rfl (fun ls hl => ?_)
  have cut_1 : ∀ (n : Nat) (y_2 : Int32) (y_3 : Int32) (H : Heap) (locs : List Loc) (ls : Array Slot), 40 - y_2.toInt ≤ (n : Int) → (0 ≤ y_2.toInt ∧ y_2.toInt ≤ 40) → va_P (dC, dI) vwCl (oW cq Z) H → va_S A s.heap H locs → lv_has ls 3 [(2, .int y_2), (1, .int y_3), (0, .ref o)] → W p l e (headSpec wsX10_menWhoAsk { frames := 1, cells := 0, slots := 0, locals := 24 }).room s m #[Value.ref o] below meth c H locs 0 0 (MQ below (va_Qi (fun (r : Int32) (u : Unit) => True) (fun _ _ => True) A) #[Value.ref o] s 0 0 A) (F0 m 4 ls []) := by
    intro n
    induction n using Nat.strongRecOn with
    | ind n ih =>
      intro y_2 y_3 H locs ls hm hy_2 hP hS hl
      refine lv_iload_n hx hb dX10_menWhoAsk_4 rfl (lv_at hl 0 rfl) ?_
      refine lv_aload_n hx hb dX10_menWhoAsk_5 rfl (lv_at hl 2 rfl) ?_
      obtain ⟨q_4, hq_4⟩ := og (cq := cq) to.1 (oE_10 to.2)
      refine va_get (D := (dC, dI)) (ci := 10) (v := .int (oI Z o 2)) (C := RX10) (T := TX10) (N := 16) hx hb hts in_wsX10_menWhoAsk_X10 hown hK hP q_4 hq_4 rfl 2 (by decide +kernel) (hts (.fieldLink RX10 86 "ShipOffice" "manCount" "I") iw_X10_menWhoAsk_1) (fun _ h9 => h9) rfl dX10_menWhoAsk_6 ?_
      refine lv_topi (fun x_5 ex_5 => ?_)
      have hx_5 : 0 ≤ x_5.toInt ∧ x_5.toInt ≤ 40 := iv_of ex_5 (oInv.iv gI to.2 rfl rfl)
      have gx_5 : x_5.toInt = (oI Z o 2).toInt := iv_to ex_5
      clear ex_5
      refine lv_icmp_ge (tgt := 33) hx hb dX10_menWhoAsk_9 (by decide +kernel) (fun c_6 => ?_) (fun c_6 => ?_)
      · have dc_6 := c_le (a := x_5.toInt) (b := y_2.toInt) rfl rfl c_6
        refine lv_iload_n hx hb dX10_menWhoAsk_33 rfl (lv_at hl 1 rfl) ?_
        exact W.iret (v := y_3) hx hb hr (fun t ht hW => ⟨⟨y_3, (), rfl, trivial, trivial⟩, hS.F ht⟩) hS.2.2 dX10_menWhoAsk_34
      · have dc_6 := c_nle (a := x_5.toInt) (b := y_2.toInt) rfl rfl c_6
        refine lv_aload_n hx hb dX10_menWhoAsk_12 rfl (lv_at hl 2 rfl) ?_
        obtain ⟨b_7, hb_7⟩ := oInv.nn (i := 1) gI to rfl
        refine va_get (D := (dC, dI)) (ci := 10) (v := .ref b_7) (C := RX10) (T := TX10) (N := 16) hx hb hts in_wsX10_menWhoAsk_X10 hown hK hP q_4 hq_4 rfl 1 (by decide +kernel) (hts (.fieldLink RX10 11 "ShipOffice" "men" "[LShipOffice$Man;") iw_X10_menWhoAsk_2) (fun _ h9 => h9) (o_rd hb_7) dX10_menWhoAsk_13 ?_
        have tb_7 : oty Z b_7 14 := oInv.rd gI to.2 hb_7 rfl rfl
        refine lv_iload_n hx hb dX10_menWhoAsk_16 rfl (lv_at hl 0 rfl) ?_
        obtain ⟨q_8, hq_8⟩ := og (cq := cq) tb_7.1 (oE_14 tb_7.2)
        refine va_aldq hx hb hK hP q_8 3 hq_8 rfl (vp_in_iff.mpr (by omega)) dX10_menWhoAsk_17 ?_
        obtain ⟨b_9, hb_9⟩ := oInv.el (i := 2) (x := y_2) gI to rfl hb_7 (by omega) (by omega)
        refine W.eq (g2 := F0 m 18 ls [.ref b_9]) (congrArg (fun z => F0 m 18 ls [va_rf z]) hb_9) ?_
        have tb_9 : oty Z b_9 6 := oInv.rd gI tb_7.2 hb_9 rfl rfl
        have hFc : ∀ q, va_A [] H.size q → A q := pu_free hS hA
        obtain ⟨q_10, hq_10⟩ := og (cq := cq) tb_9.1 (oE_6 tb_9.2)
        refine va_calli (va_runV (As := []) (rest := []) ⟨hx, hb, hml, hown, hts⟩ (c_X6_asks l dC dI H.size cq Z gI b_9 tb_9) (cwV 0 hts gX10_menWhoAsk_X6_asks rfl rfl rfl (by decide +kernel) ⟨(Nat.le_of_ble_eq_true rfl), (Nat.le_of_ble_eq_true rfl)⟩) (pr_V (r := (RX6, TX6, 6)) hP hK hD q_10 6 rfl hq_10) rfl rfl hl.1 rfl (lv_room (Nat.le_of_ble_eq_true rfl)) dX10_menWhoAsk_18 ⟨(Nat.le_of_ble_eq_true rfl), (Nat.le_of_ble_eq_true rfl)⟩) hS (fun q _ h => hFc q h) hFc (fun r_12 u t H locs ht hvm w_11 hB hz1 hk1 hS => ?_)
        have hP := pu_keep hP hk1
        clear hk1 hz1 hvm hB ht hFc
        have hb_13 := w_11
        refine lv_if_eq (tgt := 27) hx hb dX10_menWhoAsk_21 (by decide +kernel) (fun c_14 => ?_) (fun c_14 => ?_)
        · have dc_14 := c_eq (a := r_12.toInt) (b := 0) rfl (by decide +kernel) c_14
          obtain ⟨x_15, ex_15⟩ : ∃ zq : Int32, y_2 + 1 = zq := ⟨_, rfl⟩
          have hx_15 : x_15.toInt = y_2.toInt + 1 := (iv_to ex_15).symm.trans (ad_i rfl (by decide +kernel) (by omega) (by omega))
          refine lv_iinc (v := x_15) (lv' := [(2, .int x_15), (1, .int y_3), (0, .ref o)]) hx hb dX10_menWhoAsk_27 hl (k := 0) rfl ex_15 (by decide +kernel) rfl (fun ls hl => ?_)
          clear ex_15
          refine lv_goto (tgt := 4) hx hb dX10_menWhoAsk_30 (by decide +kernel) ?_
          exact ih (n - 1) (by omega) x_15 y_3 _ _ ls (by omega) (by omega) hP hS (lv_sub hl [0, 1, 2] rfl)
        · have dc_14 := c_ne (a := r_12.toInt) (b := 0) rfl (by decide +kernel) c_14
          obtain ⟨x_16, ex_16⟩ : ∃ zq : Int32, y_3 + 1 = zq := ⟨_, rfl⟩
          refine lv_iinc (v := x_16) (lv' := [(1, .int x_16), (2, .int y_2), (0, .ref o)]) hx hb dX10_menWhoAsk_24 hl (k := 1) rfl ex_16 (by decide +kernel) rfl (fun ls hl => ?_)
          clear ex_16
          obtain ⟨x_17, ex_17⟩ : ∃ zq : Int32, y_2 + 1 = zq := ⟨_, rfl⟩
          have hx_17 : x_17.toInt = y_2.toInt + 1 := (iv_to ex_17).symm.trans (ad_i rfl (by decide +kernel) (by omega) (by omega))
          refine lv_iinc (v := x_17) (lv' := [(2, .int x_17), (1, .int x_16), (0, .ref o)]) hx hb dX10_menWhoAsk_27 hl (k := 1) rfl ex_17 (by decide +kernel) rfl (fun ls hl => ?_)
          clear ex_17
          refine lv_goto (tgt := 4) hx hb dX10_menWhoAsk_30 (by decide +kernel) ?_
          exact ih (n - 1) (by omega) x_17 x_16 _ _ ls (by omega) (by omega) hP hS (lv_sub hl [0, 1, 2] rfl)
  have kc_18 : (0 : Int32).toInt = 0 := by decide
  exact cut_1 41 0 0 _ _ ls (by omega) (by decide +kernel) hP hS (lv_sub hl [0, 1, 2] rfl)
set_option maxHeartbeats 4000000 in
set_option maxRecDepth 100000 in
theorem c_X10_menAboard (l : Launch) (dC : Nat → ClassId) (dI : Nat → Nat → Nat) (sz : Nat) (cq : Nat → ClassId) (Z : oS) (gI : oInv Z) (o : Nat) (to : oty Z o 10) (a1 : Nat) (ta1 : oty Z a1 9) (x2 : Int32) (x3 : Int32) : Met l yX10_menAboard wsX10_menAboard ({ frames := 2, cells := 0, slots := 0, locals := 49 }) (va_Pc [.ref o, .ref a1, .int x2, .int x3] (pcW (dC, dI) (oT cq) (oW cq Z) sz)) (va_Qi (fun (r : Int32) (u : Unit) => True) (fun _ _ => True) (va_A [] sz)) 0 0 (va_A [] sz) := by
  refine Met.ofW (cc := cX10_menAboard) (maxL := 6) (ret := (some .int)) (by decide +kernel) rfl ?_
  intro p e s m args below meth c s₁ B hml hv
  obtain ⟨rfl, hsz, hP, hK, hD0⟩ := hv
  have hx := B.exec
  have hb := B.bytes
  have hr := B.returns
  have hts := atoms_spec (ws := wsX10_menAboard) B.pre
  have hown : s.vm.findClass RX10 = some m.cls := findClass_of_methodNamed B.named
  have hlocks := B.notSynchronized
  subst hsz
  have hD := hD0
  generalize hAe : va_A [] s.heap.size = A at ⊢
  have hA : ∀ q : Nat, s.heap.size ≤ q → A q := fun q h => by rw [← hAe]; exact Or.inr h
  have hS : va_S A s.heap s.heap [] := va_S.rf
  have hP : va_P (dC, dI) vwCl (oW cq Z) s.heap := hP
  have hl := lv_entry ([.ref o, .ref a1, .int x2, .int x3]) (n := 6) (Nat.le_of_ble_eq_true rfl)
  rw [lg_entry_eq]
  generalize (lg_sl ([.ref o, .ref a1, .int x2, .int x3]) ++ List.replicate (6 - (lg_sl ([.ref o, .ref a1, .int x2, .int x3])).length) Slot.unset).toArray = ls at hl ⊢
  have hl : lv_has ls 6 [(0, .ref o), (1, .ref a1), (2, .int x2), (3, .int x3)] := hl
  refine lv_iconst (v := 0) hx hb dX10_menAboard_0 (by decide +kernel) ?_
  refine lv_istore (lv' := [(4, .int 0), (0, .ref o), (1, .ref a1), (2, .int x2), (3, .int x3)]) hx hb dX10_menAboard_1 hl (by decide +kernel) rfl (fun ls hl => ?_)
  refine lv_iconst (v := 0) hx hb dX10_menAboard_3 (by decide +kernel) ?_
  refine lv_istore (lv' := [(5, .int 0), (4, .int 0), (0, .ref o), (1, .ref a1), (2, .int x2), (3, .int x3)]) hx hb dX10_menAboard_4 hl (by decide +kernel) rfl (fun ls hl => ?_)
  have cut_1 : ∀ (n : Nat) (y_2 : Int32) (y_3 : Int32) (H : Heap) (locs : List Loc) (ls : Array Slot), 60 - y_2.toInt ≤ (n : Int) → (0 ≤ y_2.toInt ∧ y_2.toInt ≤ 60) → va_P (dC, dI) vwCl (oW cq Z) H → va_S A s.heap H locs → lv_has ls 6 [(5, .int y_2), (4, .int y_3), (0, .ref o), (1, .ref a1), (2, .int x2), (3, .int x3)] → W p l e (headSpec wsX10_menAboard { frames := 2, cells := 0, slots := 0, locals := 49 }).room s m #[Value.ref o, Value.ref a1, Value.int x2, Value.int x3] below meth c H locs 0 0 (MQ below (va_Qi (fun (r : Int32) (u : Unit) => True) (fun _ _ => True) A) #[Value.ref o, Value.ref a1, Value.int x2, Value.int x3] s 0 0 A) (F0 m 6 ls []) := by
    intro n
    induction n using Nat.strongRecOn with
    | ind n ih =>
      intro y_2 y_3 H locs ls hm hy_2 hP hS hl
      refine lv_iload hx hb dX10_menAboard_6 (lv_at hl 0 rfl) ?_
      refine lv_aload_n hx hb dX10_menAboard_8 rfl (lv_at hl 2 rfl) ?_
      obtain ⟨q_4, hq_4⟩ := og (cq := cq) to.1 (oE_10 to.2)
      refine va_get (D := (dC, dI)) (ci := 10) (v := .int (oI Z o 6)) (C := RX10) (T := TX10) (N := 16) hx hb hts in_wsX10_menAboard_X10 hown hK hP q_4 hq_4 rfl 6 (by decide +kernel) (hts (.fieldLink RX10 115 "ShipOffice" "agreementCount" "I") iw_X10_menAboard_1) (fun _ h9 => h9) rfl dX10_menAboard_9 ?_
      refine lv_topi (fun x_5 ex_5 => ?_)
      have hx_5 : 0 ≤ x_5.toInt ∧ x_5.toInt ≤ 60 := iv_of ex_5 (oInv.iv gI to.2 rfl rfl)
      have gx_5 : x_5.toInt = (oI Z o 6).toInt := iv_to ex_5
      clear ex_5
      refine lv_icmp_ge (tgt := 58) hx hb dX10_menAboard_12 (by decide +kernel) (fun c_6 => ?_) (fun c_6 => ?_)
      · have dc_6 := c_le (a := x_5.toInt) (b := y_2.toInt) rfl rfl c_6
        refine lv_iload hx hb dX10_menAboard_58 (lv_at hl 1 rfl) ?_
        exact W.iret (v := y_3) hx hb hr (fun t ht hW => ⟨⟨y_3, (), rfl, trivial, trivial⟩, hS.F ht⟩) hS.2.2 dX10_menAboard_60
      · have dc_6 := c_nle (a := x_5.toInt) (b := y_2.toInt) rfl rfl c_6
        refine lv_aload_n hx hb dX10_menAboard_15 rfl (lv_at hl 2 rfl) ?_
        obtain ⟨b_7, hb_7⟩ := oInv.nn (i := 5) gI to rfl
        refine va_get (D := (dC, dI)) (ci := 10) (v := .ref b_7) (C := RX10) (T := TX10) (N := 16) hx hb hts in_wsX10_menAboard_X10 hown hK hP q_4 hq_4 rfl 5 (by decide +kernel) (hts (.fieldLink RX10 23 "ShipOffice" "agreements" "[LShipOffice$Agreement;") iw_X10_menAboard_2) (fun _ h9 => h9) (o_rd hb_7) dX10_menAboard_16 ?_
        have tb_7 : oty Z b_7 16 := oInv.rd gI to.2 hb_7 rfl rfl
        refine lv_iload hx hb dX10_menAboard_19 (lv_at hl 0 rfl) ?_
        obtain ⟨q_8, hq_8⟩ := og (cq := cq) tb_7.1 (oE_16 tb_7.2)
        refine va_aldq hx hb hK hP q_8 5 hq_8 rfl (vp_in_iff.mpr (by omega)) dX10_menAboard_21 ?_
        obtain ⟨b_9, hb_9⟩ := oInv.el (i := 6) (x := y_2) gI to rfl hb_7 (by omega) (by omega)
        refine W.eq (g2 := F0 m 22 ls [.ref b_9]) (congrArg (fun z => F0 m 22 ls [va_rf z]) hb_9) ?_
        have tb_9 : oty Z b_9 1 := oInv.rd gI tb_7.2 hb_9 rfl rfl
        obtain ⟨q_10, hq_10⟩ := og (cq := cq) tb_9.1 (oE_1 tb_9.2)
        obtain ⟨b_11, hb_11⟩ := oInv.nn (i := 1) gI tb_9 rfl
        refine va_get (D := (dC, dI)) (ci := 1) (v := .ref b_11) (C := RX1) (T := TX1) (N := 18) hx hb hts in_wsX10_menAboard_X1 hown hK hP q_10 hq_10 rfl 1 (by decide +kernel) (hts (.fieldLink RX10 118 "ShipOffice$Agreement" "voyage" "LShipOffice$Voyage;") iw_X10_menAboard_3) (fun _ h9 => h9) (o_rd hb_11) dX10_menAboard_22 ?_
        have tb_11 : oty Z b_11 9 := oInv.rd gI tb_9.2 hb_11 rfl rfl
        refine lv_aload_n hx hb dX10_menAboard_25 rfl (lv_at hl 3 rfl) ?_
        refine lv_acmp_ne (rx := (some b_11)) (ry := (some a1)) (tgt := 52) hx hb dX10_menAboard_26 (by decide +kernel) (fun c_12 => ?_) (fun c_12 => ?_)
        · clear c_12
          obtain ⟨x_13, ex_13⟩ : ∃ zq : Int32, y_2 + 1 = zq := ⟨_, rfl⟩
          have hx_13 : x_13.toInt = y_2.toInt + 1 := (iv_to ex_13).symm.trans (ad_i rfl (by decide +kernel) (by omega) (by omega))
          refine lv_iinc (v := x_13) (lv' := [(5, .int x_13), (4, .int y_3), (0, .ref o), (1, .ref a1), (2, .int x2), (3, .int x3)]) hx hb dX10_menAboard_52 hl (k := 0) rfl ex_13 (by decide +kernel) rfl (fun ls hl => ?_)
          clear ex_13
          refine lv_goto (tgt := 6) hx hb dX10_menAboard_55 (by decide +kernel) ?_
          exact ih (n - 1) (by omega) x_13 y_3 _ _ ls (by omega) (by omega) hP hS (lv_sub hl [0, 1, 2, 3, 4, 5] rfl)
        · clear c_12
          refine lv_aload_n hx hb dX10_menAboard_29 rfl (lv_at hl 2 rfl) ?_
          refine va_get (D := (dC, dI)) (ci := 10) (v := .ref b_7) (C := RX10) (T := TX10) (N := 16) hx hb hts in_wsX10_menAboard_X10 hown hK hP q_4 hq_4 rfl 5 (by decide +kernel) (hts (.fieldLink RX10 23 "ShipOffice" "agreements" "[LShipOffice$Agreement;") iw_X10_menAboard_2) (fun _ h9 => h9) (o_rd hb_7) dX10_menAboard_30 ?_
          refine lv_iload hx hb dX10_menAboard_33 (lv_at hl 0 rfl) ?_
          refine va_aldq hx hb hK hP q_8 5 hq_8 rfl (vp_in_iff.mpr (by omega)) dX10_menAboard_35 ?_
          obtain ⟨b_14, hb_14⟩ := oInv.el (i := 6) (x := y_2) gI to rfl hb_7 (by omega) (by omega)
          refine W.eq (g2 := F0 m 36 ls [.ref b_14]) (congrArg (fun z => F0 m 36 ls [va_rf z]) hb_14) ?_
          have tb_14 : oty Z b_14 1 := oInv.rd gI tb_7.2 hb_14 rfl rfl
          refine lv_iload_n hx hb dX10_menAboard_36 rfl (lv_at hl 4 rfl) ?_
          refine lv_iload_n hx hb dX10_menAboard_37 rfl (lv_at hl 5 rfl) ?_
          refine lv_aload_n hx hb dX10_menAboard_38 rfl (lv_at hl 2 rfl) ?_
          obtain ⟨b_15, hb_15⟩ := oInv.nn (i := 8) gI to rfl
          refine va_get (D := (dC, dI)) (ci := 10) (v := .ref b_15) (C := RX10) (T := TX10) (N := 16) hx hb hts in_wsX10_menAboard_X10 hown hK hP q_4 hq_4 rfl 8 (by decide +kernel) (hts (.fieldLink RX10 30 "ShipOffice" "law" "LShipOffice$Law;") iw_X10_menAboard_4) (fun _ h9 => h9) (o_rd hb_15) dX10_menAboard_39 ?_
          have tb_15 : oty Z b_15 5 := oInv.rd gI to.2 hb_15 rfl rfl
          have hFc : ∀ q, va_A [] H.size q → A q := pu_free hS hA
          obtain ⟨q_16, hq_16⟩ := og (cq := cq) tb_14.1 (oE_1 tb_14.2)
          refine va_calli (va_runV (As := [.int x2, .int x3, .ref b_15]) (rest := []) ⟨hx, hb, hml, hown, hts⟩ (c_X1_stateOn l dC dI H.size cq Z gI b_14 tb_14 x2 x3 b_15 tb_15) (cwV 3 hts gX10_menAboard_X1_stateOn rfl rfl rfl (by decide +kernel) ⟨(Nat.le_of_ble_eq_true rfl), (Nat.le_of_ble_eq_true rfl)⟩) (pr_V (r := (RX1, TX1, 18)) hP hK hD q_16 1 rfl hq_16) rfl rfl hl.1 rfl (lv_room (Nat.le_of_ble_eq_true rfl)) dX10_menAboard_42 ⟨(Nat.le_of_ble_eq_true rfl), (Nat.le_of_ble_eq_true rfl)⟩) hS (fun q _ h => hFc q h) hFc (fun r_18 u t H locs ht hvm w_17 hB hz1 hk1 hS => ?_)
          have hP := pu_keep hP hk1
          clear hk1 hz1 hvm hB ht hFc
          have hb_19 := w_17
          refine lv_iconst (v := 1) hx hb dX10_menAboard_45 (by decide +kernel) ?_
          refine lv_icmp_ne (tgt := 52) hx hb dX10_menAboard_46 (by decide +kernel) (fun c_20 => ?_) (fun c_20 => ?_)
          · have dc_20 := c_ne (a := r_18.toInt) (b := 1) rfl (by decide +kernel) c_20
            obtain ⟨x_21, ex_21⟩ : ∃ zq : Int32, y_2 + 1 = zq := ⟨_, rfl⟩
            have hx_21 : x_21.toInt = y_2.toInt + 1 := (iv_to ex_21).symm.trans (ad_i rfl (by decide +kernel) (by omega) (by omega))
            refine lv_iinc (v := x_21) (lv' := [(5, .int x_21), (4, .int y_3), (0, .ref o), (1, .ref a1), (2, .int x2), (3, .int x3)]) hx hb dX10_menAboard_52 hl (k := 0) rfl ex_21 (by decide +kernel) rfl (fun ls hl => ?_)
            clear ex_21
            refine lv_goto (tgt := 6) hx hb dX10_menAboard_55 (by decide +kernel) ?_
            exact ih (n - 1) (by omega) x_21 y_3 _ _ ls (by omega) (by omega) hP hS (lv_sub hl [0, 1, 2, 3, 4, 5] rfl)
          · have dc_20 := c_eq (a := r_18.toInt) (b := 1) rfl (by decide +kernel) c_20
            obtain ⟨x_22, ex_22⟩ : ∃ zq : Int32, y_3 + 1 = zq := ⟨_, rfl⟩
            refine lv_iinc (v := x_22) (lv' := [(4, .int x_22), (5, .int y_2), (0, .ref o), (1, .ref a1), (2, .int x2), (3, .int x3)]) hx hb dX10_menAboard_49 hl (k := 1) rfl ex_22 (by decide +kernel) rfl (fun ls hl => ?_)
            clear ex_22
            obtain ⟨x_23, ex_23⟩ : ∃ zq : Int32, y_2 + 1 = zq := ⟨_, rfl⟩
            have hx_23 : x_23.toInt = y_2.toInt + 1 := (iv_to ex_23).symm.trans (ad_i rfl (by decide +kernel) (by omega) (by omega))
            refine lv_iinc (v := x_23) (lv' := [(5, .int x_23), (4, .int x_22), (0, .ref o), (1, .ref a1), (2, .int x2), (3, .int x3)]) hx hb dX10_menAboard_52 hl (k := 1) rfl ex_23 (by decide +kernel) rfl (fun ls hl => ?_)
            clear ex_23
            refine lv_goto (tgt := 6) hx hb dX10_menAboard_55 (by decide +kernel) ?_
            exact ih (n - 1) (by omega) x_23 x_22 _ _ ls (by omega) (by omega) hP hS (lv_sub hl [0, 1, 2, 3, 4, 5] rfl)
  have kc_24 : (0 : Int32).toInt = 0 := by decide
  exact cut_1 61 0 0 _ _ ls (by omega) (by decide +kernel) hP hS (lv_sub hl [0, 1, 2, 3, 4, 5] rfl)
set_option maxHeartbeats 4000000 in
set_option maxRecDepth 100000 in
theorem c_X10_isShownTwice (l : Launch) (dC : Nat → ClassId) (dI : Nat → Nat → Nat) (sz : Nat) (cq : Nat → ClassId) (Z : oS) (gI : oInv Z) (o : Nat) (to : oty Z o 10) (a1 : Nat) (ta1 : oty Z a1 1) : Met l yX10_isShownTwice wsX10_isShownTwice ({ frames := 1, cells := 0, slots := 0, locals := 21 }) (va_Pc [.ref o, .ref a1] (pcW (dC, dI) (oT cq) (oW cq Z) sz)) (va_Qi (fun (r : Int32) (u : Unit) => (0 ≤ r.toInt ∧ r.toInt ≤ 1)) (fun _ _ => True) (va_A [] sz)) 0 0 (va_A [] sz) := by
  refine Met.ofW (cc := cX10_isShownTwice) (maxL := 4) (ret := (some .boolean)) (by decide +kernel) rfl ?_
  intro p e s m args below meth c s₁ B hml hv
  obtain ⟨rfl, hsz, hP, hK, hD0⟩ := hv
  have hx := B.exec
  have hb := B.bytes
  have hr := B.returns
  have hts := atoms_spec (ws := wsX10_isShownTwice) B.pre
  have hown : s.vm.findClass RX10 = some m.cls := findClass_of_methodNamed B.named
  have hlocks := B.notSynchronized
  subst hsz
  have hD := hD0
  generalize hAe : va_A [] s.heap.size = A at ⊢
  have hA : ∀ q : Nat, s.heap.size ≤ q → A q := fun q h => by rw [← hAe]; exact Or.inr h
  have hS : va_S A s.heap s.heap [] := va_S.rf
  have hP : va_P (dC, dI) vwCl (oW cq Z) s.heap := hP
  have hl := lv_entry ([.ref o, .ref a1]) (n := 4) (Nat.le_of_ble_eq_true rfl)
  rw [lg_entry_eq]
  generalize (lg_sl ([.ref o, .ref a1]) ++ List.replicate (4 - (lg_sl ([.ref o, .ref a1])).length) Slot.unset).toArray = ls at hl ⊢
  have hl : lv_has ls 4 [(0, .ref o), (1, .ref a1)] := hl
  refine lv_iconst (v := 0) hx hb dX10_isShownTwice_0 (by decide +kernel) ?_
  refine lv_istore_n (lv' := [(2, .int 0), (0, .ref o), (1, .ref a1)]) hx hb dX10_isShownTwice_1 rfl hl (by decide +kernel) rfl (fun ls hl => ?_)
  have cut_1 : ∀ (n : Nat) (y_2 : Int32) (H : Heap) (locs : List Loc) (ls : Array Slot), 60 - y_2.toInt ≤ (n : Int) → (0 ≤ y_2.toInt ∧ y_2.toInt ≤ 60) → va_P (dC, dI) vwCl (oW cq Z) H → va_S A s.heap H locs → lv_has ls 4 [(2, .int y_2), (0, .ref o), (1, .ref a1)] → W p l e (headSpec wsX10_isShownTwice { frames := 1, cells := 0, slots := 0, locals := 21 }).room s m #[Value.ref o, Value.ref a1] below meth c H locs 0 0 (MQ below (va_Qi (fun (r : Int32) (u : Unit) => (0 ≤ r.toInt ∧ r.toInt ≤ 1)) (fun _ _ => True) A) #[Value.ref o, Value.ref a1] s 0 0 A) (F0 m 2 ls []) := by
    intro n
    induction n using Nat.strongRecOn with
    | ind n ih =>
      intro y_2 H locs ls hm hy_2 hP hS hl
      refine lv_iload_n hx hb dX10_isShownTwice_2 rfl (lv_at hl 0 rfl) ?_
      refine lv_aload_n hx hb dX10_isShownTwice_3 rfl (lv_at hl 1 rfl) ?_
      obtain ⟨q_3, hq_3⟩ := og (cq := cq) to.1 (oE_10 to.2)
      refine va_get (D := (dC, dI)) (ci := 10) (v := .int (oI Z o 6)) (C := RX10) (T := TX10) (N := 16) hx hb hts in_wsX10_isShownTwice_X10 hown hK hP q_3 hq_3 rfl 6 (by decide +kernel) (hts (.fieldLink RX10 115 "ShipOffice" "agreementCount" "I") iw_X10_isShownTwice_1) (fun _ h9 => h9) rfl dX10_isShownTwice_4 ?_
      refine lv_topi (fun x_4 ex_4 => ?_)
      have hx_4 : 0 ≤ x_4.toInt ∧ x_4.toInt ≤ 60 := iv_of ex_4 (oInv.iv gI to.2 rfl rfl)
      have gx_4 : x_4.toInt = (oI Z o 6).toInt := iv_to ex_4
      clear ex_4
      refine lv_icmp_ge (tgt := 65) hx hb dX10_isShownTwice_7 (by decide +kernel) (fun c_5 => ?_) (fun c_5 => ?_)
      · have dc_5 := c_le (a := x_4.toInt) (b := y_2.toInt) rfl rfl c_5
        refine lv_iconst (v := 0) hx hb dX10_isShownTwice_65 (by decide +kernel) ?_
        exact W.zret (v := 0) hx hb hr rfl (fun t ht hW => ⟨⟨0, (), rfl, (by decide +kernel), trivial⟩, hS.F ht⟩) hS.2.2 dX10_isShownTwice_66
      · have dc_5 := c_nle (a := x_4.toInt) (b := y_2.toInt) rfl rfl c_5
        have cut_6 : ∀ (H : Heap) (locs : List Loc) (ls : Array Slot), va_P (dC, dI) vwCl (oW cq Z) H → va_S A s.heap H locs → lv_has ls 4 [(2, .int y_2), (0, .ref o), (1, .ref a1)] → W p l e (headSpec wsX10_isShownTwice { frames := 1, cells := 0, slots := 0, locals := 21 }).room s m #[Value.ref o, Value.ref a1] below meth c H locs 0 0 (MQ below (va_Qi (fun (r : Int32) (u : Unit) => (0 ≤ r.toInt ∧ r.toInt ≤ 1)) (fun _ _ => True) A) #[Value.ref o, Value.ref a1] s 0 0 A) (F0 m 59 ls []) := by
          intro  H locs ls hP hS hl
          obtain ⟨x_7, ex_7⟩ : ∃ zq : Int32, y_2 + 1 = zq := ⟨_, rfl⟩
          have hx_7 : x_7.toInt = y_2.toInt + 1 := (iv_to ex_7).symm.trans (ad_i rfl (by decide +kernel) (by omega) (by omega))
          refine lv_iinc (v := x_7) (lv' := [(2, .int x_7), (0, .ref o), (1, .ref a1)]) hx hb dX10_isShownTwice_59 hl (k := 0) rfl ex_7 (by decide +kernel) rfl (fun ls hl => ?_)
          clear ex_7
          refine lv_goto (tgt := 2) hx hb dX10_isShownTwice_62 (by decide +kernel) ?_
          exact ih (n - 1) (by omega) x_7 _ _ ls (by omega) (by omega) hP hS (lv_sub hl [0, 1, 2] rfl)
        refine lv_aload_n hx hb dX10_isShownTwice_10 rfl (lv_at hl 1 rfl) ?_
        obtain ⟨b_8, hb_8⟩ := oInv.nn (i := 5) gI to rfl
        refine va_get (D := (dC, dI)) (ci := 10) (v := .ref b_8) (C := RX10) (T := TX10) (N := 16) hx hb hts in_wsX10_isShownTwice_X10 hown hK hP q_3 hq_3 rfl 5 (by decide +kernel) (hts (.fieldLink RX10 23 "ShipOffice" "agreements" "[LShipOffice$Agreement;") iw_X10_isShownTwice_2) (fun _ h9 => h9) (o_rd hb_8) dX10_isShownTwice_11 ?_
        have tb_8 : oty Z b_8 16 := oInv.rd gI to.2 hb_8 rfl rfl
        refine lv_iload_n hx hb dX10_isShownTwice_14 rfl (lv_at hl 0 rfl) ?_
        obtain ⟨q_9, hq_9⟩ := og (cq := cq) tb_8.1 (oE_16 tb_8.2)
        refine va_aldq hx hb hK hP q_9 5 hq_9 rfl (vp_in_iff.mpr (by omega)) dX10_isShownTwice_15 ?_
        obtain ⟨b_10, hb_10⟩ := oInv.el (i := 6) (x := y_2) gI to rfl hb_8 (by omega) (by omega)
        refine W.eq (g2 := F0 m 16 ls [.ref b_10]) (congrArg (fun z => F0 m 16 ls [va_rf z]) hb_10) ?_
        have tb_10 : oty Z b_10 1 := oInv.rd gI tb_8.2 hb_10 rfl rfl
        refine lv_astore_n (lv' := [(3, .ref b_10), (2, .int y_2), (0, .ref o), (1, .ref a1)]) hx hb dX10_isShownTwice_16 rfl hl (by decide +kernel) rfl (fun ls hl => ?_)
        refine lv_aload_n hx hb dX10_isShownTwice_17 rfl (lv_at hl 0 rfl) ?_
        refine lv_aload_n hx hb dX10_isShownTwice_18 rfl (lv_at hl 3 rfl) ?_
        refine lv_acmp_eq (rx := (some b_10)) (ry := (some a1)) (tgt := 59) hx hb dX10_isShownTwice_19 (by decide +kernel) (fun c_11 => ?_) (fun c_11 => ?_)
        · clear c_11
          exact cut_6  _ _ ls  hP hS (lv_sub hl [1, 2, 3] rfl)
        · clear c_11
          refine lv_aload_n hx hb dX10_isShownTwice_22 rfl (lv_at hl 0 rfl) ?_
          obtain ⟨q_12, hq_12⟩ := og (cq := cq) tb_10.1 (oE_1 tb_10.2)
          rcases hb_14 : oP Z b_10 3 with _ | b_13
          · refine va_get (D := (dC, dI)) (ci := 1) (v := .null) (C := RX1) (T := TX1) (N := 18) hx hb hts in_wsX10_isShownTwice_X1 hown hK hP q_12 hq_12 rfl 3 (by decide +kernel) (hts (.fieldLink RX10 314 "ShipOffice$Agreement" "paper" "LShipOffice$Agreement;") iw_X10_isShownTwice_3) (fun _ h9 => h9) (o_rd hb_14) dX10_isShownTwice_23 ?_
            refine lv_aload_n hx hb dX10_isShownTwice_26 rfl (lv_at hl 3 rfl) ?_
            obtain ⟨q_15, hq_15⟩ := og (cq := cq) ta1.1 (oE_1 ta1.2)
            rcases hb_17 : oP Z a1 3 with _ | b_16
            · refine va_get (D := (dC, dI)) (ci := 1) (v := .null) (C := RX1) (T := TX1) (N := 18) hx hb hts in_wsX10_isShownTwice_X1 hown hK hP q_15 hq_15 rfl 3 (by decide +kernel) (hts (.fieldLink RX10 314 "ShipOffice$Agreement" "paper" "LShipOffice$Agreement;") iw_X10_isShownTwice_3) (fun _ h9 => h9) (o_rd hb_17) dX10_isShownTwice_27 ?_
              refine lv_acmp_ne (rx := none) (ry := none) (tgt := 59) hx hb dX10_isShownTwice_30 (by decide +kernel) (fun c_18 => ?_) (fun c_18 => ?_)
              · clear c_18
                exact cut_6  _ _ ls  hP hS (lv_sub hl [1, 2, 3] rfl)
              · clear c_18
                refine lv_aload_n hx hb dX10_isShownTwice_33 rfl (lv_at hl 0 rfl) ?_
                refine va_get (D := (dC, dI)) (ci := 1) (v := .int (oI Z b_10 2)) (C := RX1) (T := TX1) (N := 18) hx hb hts in_wsX10_isShownTwice_X1 hown hK hP q_12 hq_12 rfl 2 (by decide +kernel) (hts (.fieldLink RX10 255 "ShipOffice$Agreement" "signedOn" "I") iw_X10_isShownTwice_4) (fun _ h9 => h9) rfl dX10_isShownTwice_34 ?_
                refine lv_topi (fun x_19 ex_19 => ?_)
                clear ex_19
                refine lv_aload_n hx hb dX10_isShownTwice_37 rfl (lv_at hl 2 rfl) ?_
                refine lv_aload_n hx hb dX10_isShownTwice_38 rfl (lv_at hl 3 rfl) ?_
                have hFc : ∀ q, va_A [] H.size q → A q := pu_free hS hA
                refine va_calli (va_runV (As := [.ref a1]) (rest := [.int x_19]) ⟨hx, hb, hml, hown, hts⟩ (c_X10_lastDay l dC dI H.size cq Z gI o to a1 ta1) (cwV 1 hts gX10_isShownTwice_X10_lastDay rfl rfl rfl (by decide +kernel) ⟨(Nat.le_of_ble_eq_true rfl), (Nat.le_of_ble_eq_true rfl)⟩) (pr_V (r := (RX10, TX10, 16)) hP hK hD q_3 10 rfl hq_3) rfl rfl hl.1 rfl (lv_room (Nat.le_of_ble_eq_true rfl)) dX10_isShownTwice_39 ⟨(Nat.le_of_ble_eq_true rfl), (Nat.le_of_ble_eq_true rfl)⟩) hS (fun q _ h => hFc q h) hFc (fun r_21 u t H locs ht hvm w_20 hB hz1 hk1 hS => ?_)
                have hP := pu_keep hP hk1
                clear hk1 hz1 hvm hB ht hFc
                refine lv_icmp_gt (tgt := 59) hx hb dX10_isShownTwice_42 (by decide +kernel) (fun c_22 => ?_) (fun c_22 => ?_)
                · have dc_22 := c_lt (a := r_21.toInt) (b := x_19.toInt) rfl rfl c_22
                  exact cut_6  _ _ ls  hP hS (lv_sub hl [1, 2, 3] rfl)
                · have dc_22 := c_nlt (a := r_21.toInt) (b := x_19.toInt) rfl rfl c_22
                  refine lv_aload_n hx hb dX10_isShownTwice_45 rfl (lv_at hl 3 rfl) ?_
                  refine va_get (D := (dC, dI)) (ci := 1) (v := .int (oI Z a1 2)) (C := RX1) (T := TX1) (N := 18) hx hb hts in_wsX10_isShownTwice_X1 hown hK hP q_15 hq_15 rfl 2 (by decide +kernel) (hts (.fieldLink RX10 255 "ShipOffice$Agreement" "signedOn" "I") iw_X10_isShownTwice_4) (fun _ h9 => h9) rfl dX10_isShownTwice_46 ?_
                  refine lv_topi (fun x_23 ex_23 => ?_)
                  clear ex_23
                  refine lv_aload_n hx hb dX10_isShownTwice_49 rfl (lv_at hl 2 rfl) ?_
                  refine lv_aload_n hx hb dX10_isShownTwice_50 rfl (lv_at hl 0 rfl) ?_
                  have hFc : ∀ q, va_A [] H.size q → A q := pu_free hS hA
                  refine va_calli (va_runV (As := [.ref b_10]) (rest := [.int x_23]) ⟨hx, hb, hml, hown, hts⟩ (c_X10_lastDay l dC dI H.size cq Z gI o to b_10 tb_10) (cwV 1 hts gX10_isShownTwice_X10_lastDay rfl rfl rfl (by decide +kernel) ⟨(Nat.le_of_ble_eq_true rfl), (Nat.le_of_ble_eq_true rfl)⟩) (pr_V (r := (RX10, TX10, 16)) hP hK hD q_3 10 rfl hq_3) rfl rfl hl.1 rfl (lv_room (Nat.le_of_ble_eq_true rfl)) dX10_isShownTwice_51 ⟨(Nat.le_of_ble_eq_true rfl), (Nat.le_of_ble_eq_true rfl)⟩) hS (fun q _ h => hFc q h) hFc (fun r_25 u t H locs ht hvm w_24 hB hz1 hk1 hS => ?_)
                  have hP := pu_keep hP hk1
                  clear hk1 hz1 hvm hB ht hFc
                  refine lv_icmp_gt (tgt := 59) hx hb dX10_isShownTwice_54 (by decide +kernel) (fun c_26 => ?_) (fun c_26 => ?_)
                  · have dc_26 := c_lt (a := r_25.toInt) (b := x_23.toInt) rfl rfl c_26
                    exact cut_6  _ _ ls  hP hS (lv_sub hl [1, 2, 3] rfl)
                  · have dc_26 := c_nlt (a := r_25.toInt) (b := x_23.toInt) rfl rfl c_26
                    refine lv_iconst (v := 1) hx hb dX10_isShownTwice_57 (by decide +kernel) ?_
                    exact W.zret (v := 1) hx hb hr rfl (fun t ht hW => ⟨⟨1, (), rfl, (by decide +kernel), trivial⟩, hS.F ht⟩) hS.2.2 dX10_isShownTwice_58
            · refine va_get (D := (dC, dI)) (ci := 1) (v := .ref b_16) (C := RX1) (T := TX1) (N := 18) hx hb hts in_wsX10_isShownTwice_X1 hown hK hP q_15 hq_15 rfl 3 (by decide +kernel) (hts (.fieldLink RX10 314 "ShipOffice$Agreement" "paper" "LShipOffice$Agreement;") iw_X10_isShownTwice_3) (fun _ h9 => h9) (o_rd hb_17) dX10_isShownTwice_27 ?_
              have tb_16 : oty Z b_16 1 := oInv.rd gI ta1.2 hb_17 rfl rfl
              refine lv_acmp_ne (rx := none) (ry := (some b_16)) (tgt := 59) hx hb dX10_isShownTwice_30 (by decide +kernel) (fun c_27 => ?_) (fun c_27 => ?_)
              · clear c_27
                exact cut_6  _ _ ls  hP hS (lv_sub hl [1, 2, 3] rfl)
              · clear c_27
                refine lv_aload_n hx hb dX10_isShownTwice_33 rfl (lv_at hl 0 rfl) ?_
                refine va_get (D := (dC, dI)) (ci := 1) (v := .int (oI Z b_10 2)) (C := RX1) (T := TX1) (N := 18) hx hb hts in_wsX10_isShownTwice_X1 hown hK hP q_12 hq_12 rfl 2 (by decide +kernel) (hts (.fieldLink RX10 255 "ShipOffice$Agreement" "signedOn" "I") iw_X10_isShownTwice_4) (fun _ h9 => h9) rfl dX10_isShownTwice_34 ?_
                refine lv_topi (fun x_28 ex_28 => ?_)
                clear ex_28
                refine lv_aload_n hx hb dX10_isShownTwice_37 rfl (lv_at hl 2 rfl) ?_
                refine lv_aload_n hx hb dX10_isShownTwice_38 rfl (lv_at hl 3 rfl) ?_
                have hFc : ∀ q, va_A [] H.size q → A q := pu_free hS hA
                refine va_calli (va_runV (As := [.ref a1]) (rest := [.int x_28]) ⟨hx, hb, hml, hown, hts⟩ (c_X10_lastDay l dC dI H.size cq Z gI o to a1 ta1) (cwV 1 hts gX10_isShownTwice_X10_lastDay rfl rfl rfl (by decide +kernel) ⟨(Nat.le_of_ble_eq_true rfl), (Nat.le_of_ble_eq_true rfl)⟩) (pr_V (r := (RX10, TX10, 16)) hP hK hD q_3 10 rfl hq_3) rfl rfl hl.1 rfl (lv_room (Nat.le_of_ble_eq_true rfl)) dX10_isShownTwice_39 ⟨(Nat.le_of_ble_eq_true rfl), (Nat.le_of_ble_eq_true rfl)⟩) hS (fun q _ h => hFc q h) hFc (fun r_30 u t H locs ht hvm w_29 hB hz1 hk1 hS => ?_)
                have hP := pu_keep hP hk1
                clear hk1 hz1 hvm hB ht hFc
                refine lv_icmp_gt (tgt := 59) hx hb dX10_isShownTwice_42 (by decide +kernel) (fun c_31 => ?_) (fun c_31 => ?_)
                · have dc_31 := c_lt (a := r_30.toInt) (b := x_28.toInt) rfl rfl c_31
                  exact cut_6  _ _ ls  hP hS (lv_sub hl [1, 2, 3] rfl)
                · have dc_31 := c_nlt (a := r_30.toInt) (b := x_28.toInt) rfl rfl c_31
                  refine lv_aload_n hx hb dX10_isShownTwice_45 rfl (lv_at hl 3 rfl) ?_
                  refine va_get (D := (dC, dI)) (ci := 1) (v := .int (oI Z a1 2)) (C := RX1) (T := TX1) (N := 18) hx hb hts in_wsX10_isShownTwice_X1 hown hK hP q_15 hq_15 rfl 2 (by decide +kernel) (hts (.fieldLink RX10 255 "ShipOffice$Agreement" "signedOn" "I") iw_X10_isShownTwice_4) (fun _ h9 => h9) rfl dX10_isShownTwice_46 ?_
                  refine lv_topi (fun x_32 ex_32 => ?_)
                  clear ex_32
                  refine lv_aload_n hx hb dX10_isShownTwice_49 rfl (lv_at hl 2 rfl) ?_
                  refine lv_aload_n hx hb dX10_isShownTwice_50 rfl (lv_at hl 0 rfl) ?_
                  have hFc : ∀ q, va_A [] H.size q → A q := pu_free hS hA
                  refine va_calli (va_runV (As := [.ref b_10]) (rest := [.int x_32]) ⟨hx, hb, hml, hown, hts⟩ (c_X10_lastDay l dC dI H.size cq Z gI o to b_10 tb_10) (cwV 1 hts gX10_isShownTwice_X10_lastDay rfl rfl rfl (by decide +kernel) ⟨(Nat.le_of_ble_eq_true rfl), (Nat.le_of_ble_eq_true rfl)⟩) (pr_V (r := (RX10, TX10, 16)) hP hK hD q_3 10 rfl hq_3) rfl rfl hl.1 rfl (lv_room (Nat.le_of_ble_eq_true rfl)) dX10_isShownTwice_51 ⟨(Nat.le_of_ble_eq_true rfl), (Nat.le_of_ble_eq_true rfl)⟩) hS (fun q _ h => hFc q h) hFc (fun r_34 u t H locs ht hvm w_33 hB hz1 hk1 hS => ?_)
                  have hP := pu_keep hP hk1
                  clear hk1 hz1 hvm hB ht hFc
                  refine lv_icmp_gt (tgt := 59) hx hb dX10_isShownTwice_54 (by decide +kernel) (fun c_35 => ?_) (fun c_35 => ?_)
                  · have dc_35 := c_lt (a := r_34.toInt) (b := x_32.toInt) rfl rfl c_35
                    exact cut_6  _ _ ls  hP hS (lv_sub hl [1, 2, 3] rfl)
                  · have dc_35 := c_nlt (a := r_34.toInt) (b := x_32.toInt) rfl rfl c_35
                    refine lv_iconst (v := 1) hx hb dX10_isShownTwice_57 (by decide +kernel) ?_
                    exact W.zret (v := 1) hx hb hr rfl (fun t ht hW => ⟨⟨1, (), rfl, (by decide +kernel), trivial⟩, hS.F ht⟩) hS.2.2 dX10_isShownTwice_58
          · refine va_get (D := (dC, dI)) (ci := 1) (v := .ref b_13) (C := RX1) (T := TX1) (N := 18) hx hb hts in_wsX10_isShownTwice_X1 hown hK hP q_12 hq_12 rfl 3 (by decide +kernel) (hts (.fieldLink RX10 314 "ShipOffice$Agreement" "paper" "LShipOffice$Agreement;") iw_X10_isShownTwice_3) (fun _ h9 => h9) (o_rd hb_14) dX10_isShownTwice_23 ?_
            have tb_13 : oty Z b_13 1 := oInv.rd gI tb_10.2 hb_14 rfl rfl
            refine lv_aload_n hx hb dX10_isShownTwice_26 rfl (lv_at hl 3 rfl) ?_
            obtain ⟨q_36, hq_36⟩ := og (cq := cq) ta1.1 (oE_1 ta1.2)
            rcases hb_38 : oP Z a1 3 with _ | b_37
            · refine va_get (D := (dC, dI)) (ci := 1) (v := .null) (C := RX1) (T := TX1) (N := 18) hx hb hts in_wsX10_isShownTwice_X1 hown hK hP q_36 hq_36 rfl 3 (by decide +kernel) (hts (.fieldLink RX10 314 "ShipOffice$Agreement" "paper" "LShipOffice$Agreement;") iw_X10_isShownTwice_3) (fun _ h9 => h9) (o_rd hb_38) dX10_isShownTwice_27 ?_
              refine lv_acmp_ne (rx := (some b_13)) (ry := none) (tgt := 59) hx hb dX10_isShownTwice_30 (by decide +kernel) (fun c_39 => ?_) (fun c_39 => ?_)
              · clear c_39
                exact cut_6  _ _ ls  hP hS (lv_sub hl [1, 2, 3] rfl)
              · clear c_39
                refine lv_aload_n hx hb dX10_isShownTwice_33 rfl (lv_at hl 0 rfl) ?_
                refine va_get (D := (dC, dI)) (ci := 1) (v := .int (oI Z b_10 2)) (C := RX1) (T := TX1) (N := 18) hx hb hts in_wsX10_isShownTwice_X1 hown hK hP q_12 hq_12 rfl 2 (by decide +kernel) (hts (.fieldLink RX10 255 "ShipOffice$Agreement" "signedOn" "I") iw_X10_isShownTwice_4) (fun _ h9 => h9) rfl dX10_isShownTwice_34 ?_
                refine lv_topi (fun x_40 ex_40 => ?_)
                clear ex_40
                refine lv_aload_n hx hb dX10_isShownTwice_37 rfl (lv_at hl 2 rfl) ?_
                refine lv_aload_n hx hb dX10_isShownTwice_38 rfl (lv_at hl 3 rfl) ?_
                have hFc : ∀ q, va_A [] H.size q → A q := pu_free hS hA
                refine va_calli (va_runV (As := [.ref a1]) (rest := [.int x_40]) ⟨hx, hb, hml, hown, hts⟩ (c_X10_lastDay l dC dI H.size cq Z gI o to a1 ta1) (cwV 1 hts gX10_isShownTwice_X10_lastDay rfl rfl rfl (by decide +kernel) ⟨(Nat.le_of_ble_eq_true rfl), (Nat.le_of_ble_eq_true rfl)⟩) (pr_V (r := (RX10, TX10, 16)) hP hK hD q_3 10 rfl hq_3) rfl rfl hl.1 rfl (lv_room (Nat.le_of_ble_eq_true rfl)) dX10_isShownTwice_39 ⟨(Nat.le_of_ble_eq_true rfl), (Nat.le_of_ble_eq_true rfl)⟩) hS (fun q _ h => hFc q h) hFc (fun r_42 u t H locs ht hvm w_41 hB hz1 hk1 hS => ?_)
                have hP := pu_keep hP hk1
                clear hk1 hz1 hvm hB ht hFc
                refine lv_icmp_gt (tgt := 59) hx hb dX10_isShownTwice_42 (by decide +kernel) (fun c_43 => ?_) (fun c_43 => ?_)
                · have dc_43 := c_lt (a := r_42.toInt) (b := x_40.toInt) rfl rfl c_43
                  exact cut_6  _ _ ls  hP hS (lv_sub hl [1, 2, 3] rfl)
                · have dc_43 := c_nlt (a := r_42.toInt) (b := x_40.toInt) rfl rfl c_43
                  refine lv_aload_n hx hb dX10_isShownTwice_45 rfl (lv_at hl 3 rfl) ?_
                  refine va_get (D := (dC, dI)) (ci := 1) (v := .int (oI Z a1 2)) (C := RX1) (T := TX1) (N := 18) hx hb hts in_wsX10_isShownTwice_X1 hown hK hP q_36 hq_36 rfl 2 (by decide +kernel) (hts (.fieldLink RX10 255 "ShipOffice$Agreement" "signedOn" "I") iw_X10_isShownTwice_4) (fun _ h9 => h9) rfl dX10_isShownTwice_46 ?_
                  refine lv_topi (fun x_44 ex_44 => ?_)
                  clear ex_44
                  refine lv_aload_n hx hb dX10_isShownTwice_49 rfl (lv_at hl 2 rfl) ?_
                  refine lv_aload_n hx hb dX10_isShownTwice_50 rfl (lv_at hl 0 rfl) ?_
                  have hFc : ∀ q, va_A [] H.size q → A q := pu_free hS hA
                  refine va_calli (va_runV (As := [.ref b_10]) (rest := [.int x_44]) ⟨hx, hb, hml, hown, hts⟩ (c_X10_lastDay l dC dI H.size cq Z gI o to b_10 tb_10) (cwV 1 hts gX10_isShownTwice_X10_lastDay rfl rfl rfl (by decide +kernel) ⟨(Nat.le_of_ble_eq_true rfl), (Nat.le_of_ble_eq_true rfl)⟩) (pr_V (r := (RX10, TX10, 16)) hP hK hD q_3 10 rfl hq_3) rfl rfl hl.1 rfl (lv_room (Nat.le_of_ble_eq_true rfl)) dX10_isShownTwice_51 ⟨(Nat.le_of_ble_eq_true rfl), (Nat.le_of_ble_eq_true rfl)⟩) hS (fun q _ h => hFc q h) hFc (fun r_46 u t H locs ht hvm w_45 hB hz1 hk1 hS => ?_)
                  have hP := pu_keep hP hk1
                  clear hk1 hz1 hvm hB ht hFc
                  refine lv_icmp_gt (tgt := 59) hx hb dX10_isShownTwice_54 (by decide +kernel) (fun c_47 => ?_) (fun c_47 => ?_)
                  · have dc_47 := c_lt (a := r_46.toInt) (b := x_44.toInt) rfl rfl c_47
                    exact cut_6  _ _ ls  hP hS (lv_sub hl [1, 2, 3] rfl)
                  · have dc_47 := c_nlt (a := r_46.toInt) (b := x_44.toInt) rfl rfl c_47
                    refine lv_iconst (v := 1) hx hb dX10_isShownTwice_57 (by decide +kernel) ?_
                    exact W.zret (v := 1) hx hb hr rfl (fun t ht hW => ⟨⟨1, (), rfl, (by decide +kernel), trivial⟩, hS.F ht⟩) hS.2.2 dX10_isShownTwice_58
            · refine va_get (D := (dC, dI)) (ci := 1) (v := .ref b_37) (C := RX1) (T := TX1) (N := 18) hx hb hts in_wsX10_isShownTwice_X1 hown hK hP q_36 hq_36 rfl 3 (by decide +kernel) (hts (.fieldLink RX10 314 "ShipOffice$Agreement" "paper" "LShipOffice$Agreement;") iw_X10_isShownTwice_3) (fun _ h9 => h9) (o_rd hb_38) dX10_isShownTwice_27 ?_
              have tb_37 : oty Z b_37 1 := oInv.rd gI ta1.2 hb_38 rfl rfl
              refine lv_acmp_ne (rx := (some b_13)) (ry := (some b_37)) (tgt := 59) hx hb dX10_isShownTwice_30 (by decide +kernel) (fun c_48 => ?_) (fun c_48 => ?_)
              · clear c_48
                exact cut_6  _ _ ls  hP hS (lv_sub hl [1, 2, 3] rfl)
              · clear c_48
                refine lv_aload_n hx hb dX10_isShownTwice_33 rfl (lv_at hl 0 rfl) ?_
                refine va_get (D := (dC, dI)) (ci := 1) (v := .int (oI Z b_10 2)) (C := RX1) (T := TX1) (N := 18) hx hb hts in_wsX10_isShownTwice_X1 hown hK hP q_12 hq_12 rfl 2 (by decide +kernel) (hts (.fieldLink RX10 255 "ShipOffice$Agreement" "signedOn" "I") iw_X10_isShownTwice_4) (fun _ h9 => h9) rfl dX10_isShownTwice_34 ?_
                refine lv_topi (fun x_49 ex_49 => ?_)
                clear ex_49
                refine lv_aload_n hx hb dX10_isShownTwice_37 rfl (lv_at hl 2 rfl) ?_
                refine lv_aload_n hx hb dX10_isShownTwice_38 rfl (lv_at hl 3 rfl) ?_
                have hFc : ∀ q, va_A [] H.size q → A q := pu_free hS hA
                refine va_calli (va_runV (As := [.ref a1]) (rest := [.int x_49]) ⟨hx, hb, hml, hown, hts⟩ (c_X10_lastDay l dC dI H.size cq Z gI o to a1 ta1) (cwV 1 hts gX10_isShownTwice_X10_lastDay rfl rfl rfl (by decide +kernel) ⟨(Nat.le_of_ble_eq_true rfl), (Nat.le_of_ble_eq_true rfl)⟩) (pr_V (r := (RX10, TX10, 16)) hP hK hD q_3 10 rfl hq_3) rfl rfl hl.1 rfl (lv_room (Nat.le_of_ble_eq_true rfl)) dX10_isShownTwice_39 ⟨(Nat.le_of_ble_eq_true rfl), (Nat.le_of_ble_eq_true rfl)⟩) hS (fun q _ h => hFc q h) hFc (fun r_51 u t H locs ht hvm w_50 hB hz1 hk1 hS => ?_)
                have hP := pu_keep hP hk1
                clear hk1 hz1 hvm hB ht hFc
                refine lv_icmp_gt (tgt := 59) hx hb dX10_isShownTwice_42 (by decide +kernel) (fun c_52 => ?_) (fun c_52 => ?_)
                · have dc_52 := c_lt (a := r_51.toInt) (b := x_49.toInt) rfl rfl c_52
                  exact cut_6  _ _ ls  hP hS (lv_sub hl [1, 2, 3] rfl)
                · have dc_52 := c_nlt (a := r_51.toInt) (b := x_49.toInt) rfl rfl c_52
                  refine lv_aload_n hx hb dX10_isShownTwice_45 rfl (lv_at hl 3 rfl) ?_
                  refine va_get (D := (dC, dI)) (ci := 1) (v := .int (oI Z a1 2)) (C := RX1) (T := TX1) (N := 18) hx hb hts in_wsX10_isShownTwice_X1 hown hK hP q_36 hq_36 rfl 2 (by decide +kernel) (hts (.fieldLink RX10 255 "ShipOffice$Agreement" "signedOn" "I") iw_X10_isShownTwice_4) (fun _ h9 => h9) rfl dX10_isShownTwice_46 ?_
                  refine lv_topi (fun x_53 ex_53 => ?_)
                  clear ex_53
                  refine lv_aload_n hx hb dX10_isShownTwice_49 rfl (lv_at hl 2 rfl) ?_
                  refine lv_aload_n hx hb dX10_isShownTwice_50 rfl (lv_at hl 0 rfl) ?_
                  have hFc : ∀ q, va_A [] H.size q → A q := pu_free hS hA
                  refine va_calli (va_runV (As := [.ref b_10]) (rest := [.int x_53]) ⟨hx, hb, hml, hown, hts⟩ (c_X10_lastDay l dC dI H.size cq Z gI o to b_10 tb_10) (cwV 1 hts gX10_isShownTwice_X10_lastDay rfl rfl rfl (by decide +kernel) ⟨(Nat.le_of_ble_eq_true rfl), (Nat.le_of_ble_eq_true rfl)⟩) (pr_V (r := (RX10, TX10, 16)) hP hK hD q_3 10 rfl hq_3) rfl rfl hl.1 rfl (lv_room (Nat.le_of_ble_eq_true rfl)) dX10_isShownTwice_51 ⟨(Nat.le_of_ble_eq_true rfl), (Nat.le_of_ble_eq_true rfl)⟩) hS (fun q _ h => hFc q h) hFc (fun r_55 u t H locs ht hvm w_54 hB hz1 hk1 hS => ?_)
                  have hP := pu_keep hP hk1
                  clear hk1 hz1 hvm hB ht hFc
                  refine lv_icmp_gt (tgt := 59) hx hb dX10_isShownTwice_54 (by decide +kernel) (fun c_56 => ?_) (fun c_56 => ?_)
                  · have dc_56 := c_lt (a := r_55.toInt) (b := x_53.toInt) rfl rfl c_56
                    exact cut_6  _ _ ls  hP hS (lv_sub hl [1, 2, 3] rfl)
                  · have dc_56 := c_nlt (a := r_55.toInt) (b := x_53.toInt) rfl rfl c_56
                    refine lv_iconst (v := 1) hx hb dX10_isShownTwice_57 (by decide +kernel) ?_
                    exact W.zret (v := 1) hx hb hr rfl (fun t ht hW => ⟨⟨1, (), rfl, (by decide +kernel), trivial⟩, hS.F ht⟩) hS.2.2 dX10_isShownTwice_58
  have kc_57 : (0 : Int32).toInt = 0 := by decide
  exact cut_1 61 0 _ _ ls (by omega) (by decide +kernel) hP hS (lv_sub hl [0, 1, 2] rfl)
set_option maxHeartbeats 4000000 in
set_option maxRecDepth 100000 in
theorem c_X10_mergeGroups (l : Launch) (dC : Nat → ClassId) (dI : Nat → Nat → Nat) (sz : Nat) (cq : Nat → ClassId) (Z : oS) (gI : oInv Z) (o : Nat) (to : oty Z o 10) (x1 : Int32) (x2 : Int32) : Met l yX10_mergeGroups wsX10_mergeGroups ({ frames := 1, cells := 0, slots := 0, locals := 16 }) (va_Pc [.ref o, .int x1, .int x2] (pcW (dC, dI) (oT cq) (oW cq Z) sz)) (va_Qv (fun (u : oS) => oInv u ∧ oX [605] Z u) (fun u t => va_P (dC, dI) vwCl (oW cq u) t.heap ∧ va_K (dC, dI) vwCl (oT cq) t ∧ va_D (va_A (oW cq Z) sz) (oW cq u)) (va_A (oW cq Z) sz)) 0 0 (va_A (oW cq Z) sz) := by
  refine Met.ofW (cc := cX10_mergeGroups) (maxL := 6) (ret := none) (by decide +kernel) rfl ?_
  intro p e s m args below meth c s₁ B hml hv
  obtain ⟨rfl, hsz, hP, hK, hD0⟩ := hv
  have hx := B.exec
  have hb := B.bytes
  have hr := B.returns
  have hts := atoms_spec (ws := wsX10_mergeGroups) B.pre
  have hown : s.vm.findClass RX10 = some m.cls := findClass_of_methodNamed B.named
  have hlocks := B.notSynchronized
  subst hsz
  have hD := hD0.self (sz := s.heap.size)
  generalize hAe : va_A (oW cq Z) s.heap.size = A at hD ⊢
  have hA : ∀ q : Nat, s.heap.size ≤ q → A q := fun q h => by rw [← hAe]; exact Or.inr h
  have hS : va_S A s.heap s.heap [] := va_S.rf
  have hP : va_P (dC, dI) vwCl (oW cq Z) s.heap := hP
  have hl := lv_entry ([.ref o, .int x1, .int x2]) (n := 6) (Nat.le_of_ble_eq_true rfl)
  rw [lg_entry_eq]
  generalize (lg_sl ([.ref o, .int x1, .int x2]) ++ List.replicate (6 - (lg_sl ([.ref o, .int x1, .int x2])).length) Slot.unset).toArray = ls at hl ⊢
  have hl : lv_has ls 6 [(0, .ref o), (1, .int x1), (2, .int x2)] := hl
  refine lv_iload_n hx hb dX10_mergeGroups_0 rfl (lv_at hl 1 rfl) ?_
  refine lv_iload_n hx hb dX10_mergeGroups_1 rfl (lv_at hl 2 rfl) ?_
  refine va_mmin hx hb (by rw [hml]; exact hl.1.symm) hown (hts (.methodLink RX10 378 Lib.Math.min.name) iw_X10_mergeGroups_1) (hts (.static Lib.Math.min.name) iw_X10_mergeGroups_2) (hts (.initialized "java/lang/Math") iw_X10_mergeGroups_3) (hts (.code Lib.Math.min.name Lib.Math.min.code 2 (some .int)) (by decide +kernel)) (Nat.le_of_ble_eq_true rfl) (Nat.le_of_ble_eq_true rfl) (Nat.le_of_ble_eq_true rfl) (Nat.le_of_ble_eq_true rfl) dX10_mergeGroups_2 ?_
  refine lv_topi (fun x_1 ex_1 => ?_)
  have hx_1 := mmin_i ex_1
  clear ex_1
  refine lv_istore_n (lv' := [(3, .int x_1), (0, .ref o), (1, .int x1), (2, .int x2)]) hx hb dX10_mergeGroups_5 rfl hl (by decide +kernel) rfl (fun ls hl => ?_)
  refine lv_iload_n hx hb dX10_mergeGroups_6 rfl (lv_at hl 2 rfl) ?_
  refine lv_iload_n hx hb dX10_mergeGroups_7 rfl (lv_at hl 3 rfl) ?_
  refine va_mmax hx hb (by rw [hml]; exact hl.1.symm) hown (hts (.methodLink RX10 383 Lib.Math.max.name) iw_X10_mergeGroups_4) (hts (.static Lib.Math.max.name) iw_X10_mergeGroups_5) (hts (.initialized "java/lang/Math") iw_X10_mergeGroups_3) (hts (.code Lib.Math.max.name Lib.Math.max.code 2 (some .int)) (by decide +kernel)) (Nat.le_of_ble_eq_true rfl) (Nat.le_of_ble_eq_true rfl) (Nat.le_of_ble_eq_true rfl) (Nat.le_of_ble_eq_true rfl) dX10_mergeGroups_8 ?_
  refine lv_topi (fun x_2 ex_2 => ?_)
  have hx_2 := mmax_i ex_2
  clear ex_2
  refine lv_istore (lv' := [(4, .int x_2), (3, .int x_1), (0, .ref o), (1, .int x1), (2, .int x2)]) hx hb dX10_mergeGroups_11 hl (by decide +kernel) rfl (fun ls hl => ?_)
  refine lv_iconst (v := 0) hx hb dX10_mergeGroups_13 (by decide +kernel) ?_
  refine lv_istore (lv' := [(5, .int 0), (4, .int x_2), (3, .int x_1), (0, .ref o), (1, .int x1), (2, .int x2)]) hx hb dX10_mergeGroups_14 hl (by decide +kernel) rfl (fun ls hl => ?_)
  have cut_3 : ∀ (n : Nat) (y_4 : Int32) (S_5 : oS) (H : Heap) (locs : List Loc) (ls : Array Slot), 40 - y_4.toInt ≤ (n : Int) → (0 ≤ y_4.toInt ∧ y_4.toInt ≤ 40) → oInv S_5 → oX [605] Z S_5 → va_P (dC, dI) vwCl (oW cq S_5) H → va_D A (oW cq S_5) → va_S A s.heap H locs → lv_has ls 6 [(5, .int y_4), (4, .int x_2), (3, .int x_1), (0, .ref o), (1, .int x1), (2, .int x2)] → W p l e (headSpec wsX10_mergeGroups { frames := 1, cells := 0, slots := 0, locals := 16 }).room s m #[Value.ref o, Value.int x1, Value.int x2] below meth c H locs 0 0 (MQ below (va_Qv (fun (u : oS) => oInv u ∧ oX [605] Z u) (fun u t => va_P (dC, dI) vwCl (oW cq u) t.heap ∧ va_K (dC, dI) vwCl (oT cq) t ∧ va_D A (oW cq u)) A) #[Value.ref o, Value.int x1, Value.int x2] s 0 0 A) (F0 m 16 ls []) := by
    intro n
    induction n using Nat.strongRecOn with
    | ind n ih =>
      intro y_4 S_5 H locs ls hm hy_4 hIS_5 XS_5 hP hD hS hl
      have YS_5 : oX [605] Z S_5 := oX.st oX.rf XS_5 (fun _ q => q)
      refine lv_iload hx hb dX10_mergeGroups_16 (lv_at hl 0 rfl) ?_
      refine lv_aload_n hx hb dX10_mergeGroups_18 rfl (lv_at hl 3 rfl) ?_
      have t_6 : oty S_5 o 10 := (oX.ty XS_5 to)
      obtain ⟨q_7, hq_7⟩ := og (cq := cq) t_6.1 (oE_10 t_6.2)
      refine va_get (D := (dC, dI)) (ci := 10) (v := .int (oI S_5 o 2)) (C := RX10) (T := TX10) (N := 16) hx hb hts in_wsX10_mergeGroups_X10 hown hK hP q_7 hq_7 rfl 2 (by decide +kernel) (hts (.fieldLink RX10 86 "ShipOffice" "manCount" "I") iw_X10_mergeGroups_6) (fun _ h9 => h9) rfl dX10_mergeGroups_19 ?_
      refine lv_topi (fun x_8 ex_8 => ?_)
      have hx_8 : 0 ≤ x_8.toInt ∧ x_8.toInt ≤ 40 := iv_of ex_8 (oInv.iv hIS_5 t_6.2 rfl rfl)
      have gx_8 : x_8.toInt = (oI S_5 o 2).toInt := iv_to ex_8
      clear ex_8
      refine lv_icmp_ge (tgt := 57) hx hb dX10_mergeGroups_22 (by decide +kernel) (fun c_9 => ?_) (fun c_9 => ?_)
      · have dc_9 := c_le (a := x_8.toInt) (b := y_4.toInt) rfl rfl c_9
        exact W.vret hx hb hr (fun t ht hW => ⟨⟨S_5, rfl, ⟨hIS_5, YS_5⟩, ⟨by rw [ht]; exact hP, va_K.moved hW.alike hK, hD⟩⟩, hS.F ht⟩) hS.2.2 dX10_mergeGroups_57
      · have dc_9 := c_nle (a := x_8.toInt) (b := y_4.toInt) rfl rfl c_9
        refine lv_aload_n hx hb dX10_mergeGroups_25 rfl (lv_at hl 3 rfl) ?_
        obtain ⟨b_10, hb_10⟩ := oInv.nn (i := 1) hIS_5 t_6 rfl
        refine va_get (D := (dC, dI)) (ci := 10) (v := .ref b_10) (C := RX10) (T := TX10) (N := 16) hx hb hts in_wsX10_mergeGroups_X10 hown hK hP q_7 hq_7 rfl 1 (by decide +kernel) (hts (.fieldLink RX10 11 "ShipOffice" "men" "[LShipOffice$Man;") iw_X10_mergeGroups_7) (fun _ h9 => h9) (o_rd hb_10) dX10_mergeGroups_26 ?_
        have tb_10 : oty S_5 b_10 14 := oInv.rd hIS_5 t_6.2 hb_10 rfl rfl
        refine lv_iload hx hb dX10_mergeGroups_29 (lv_at hl 0 rfl) ?_
        obtain ⟨q_11, hq_11⟩ := og (cq := cq) tb_10.1 (oE_14 tb_10.2)
        refine va_aldq hx hb hK hP q_11 3 hq_11 rfl (vp_in_iff.mpr (by omega)) dX10_mergeGroups_31 ?_
        obtain ⟨b_12, hb_12⟩ := oInv.el (i := 2) (x := y_4) hIS_5 t_6 rfl hb_10 (by omega) (by omega)
        refine W.eq (g2 := F0 m 32 ls [.ref b_12]) (congrArg (fun z => F0 m 32 ls [va_rf z]) hb_12) ?_
        have tb_12 : oty S_5 b_12 6 := oInv.rd hIS_5 tb_10.2 hb_12 rfl rfl
        obtain ⟨q_13, hq_13⟩ := og (cq := cq) tb_12.1 (oE_6 tb_12.2)
        refine va_get (D := (dC, dI)) (ci := 6) (v := .int (oI S_5 b_12 5)) (C := RX6) (T := TX6) (N := 6) hx hb hts in_wsX10_mergeGroups_X6 hown hK hP q_13 hq_13 rfl 5 (by decide +kernel) (hts (.fieldLink RX10 311 "ShipOffice$Man" "leastAlike" "I") iw_X10_mergeGroups_8) (fun _ h9 => h9) rfl dX10_mergeGroups_32 ?_
        refine lv_topi (fun x_14 ex_14 => ?_)
        clear ex_14
        refine lv_iload hx hb dX10_mergeGroups_35 (lv_at hl 1 rfl) ?_
        refine lv_icmp_ne (tgt := 51) hx hb dX10_mergeGroups_37 (by decide +kernel) (fun c_15 => ?_) (fun c_15 => ?_)
        · have dc_15 := c_ne (a := x_14.toInt) (b := x_2.toInt) rfl rfl c_15
          obtain ⟨x_16, ex_16⟩ : ∃ zq : Int32, y_4 + 1 = zq := ⟨_, rfl⟩
          have hx_16 : x_16.toInt = y_4.toInt + 1 := (iv_to ex_16).symm.trans (ad_i rfl (by decide +kernel) (by omega) (by omega))
          refine lv_iinc (v := x_16) (lv' := [(5, .int x_16), (4, .int x_2), (3, .int x_1), (0, .ref o), (1, .int x1), (2, .int x2)]) hx hb dX10_mergeGroups_51 hl (k := 0) rfl ex_16 (by decide +kernel) rfl (fun ls hl => ?_)
          clear ex_16
          refine lv_goto (tgt := 16) hx hb dX10_mergeGroups_54 (by decide +kernel) ?_
          exact ih (n - 1) (by omega) x_16 S_5 _ _ ls (by omega) (by omega) hIS_5 (oX.st oX.rf XS_5 (by decide +kernel)) hP hD hS (lv_sub hl [0, 1, 2, 3, 4, 5] rfl)
        · have dc_15 := c_eq (a := x_14.toInt) (b := x_2.toInt) rfl rfl c_15
          refine lv_aload_n hx hb dX10_mergeGroups_40 rfl (lv_at hl 3 rfl) ?_
          refine va_get (D := (dC, dI)) (ci := 10) (v := .ref b_10) (C := RX10) (T := TX10) (N := 16) hx hb hts in_wsX10_mergeGroups_X10 hown hK hP q_7 hq_7 rfl 1 (by decide +kernel) (hts (.fieldLink RX10 11 "ShipOffice" "men" "[LShipOffice$Man;") iw_X10_mergeGroups_7) (fun _ h9 => h9) (o_rd hb_10) dX10_mergeGroups_41 ?_
          refine lv_iload hx hb dX10_mergeGroups_44 (lv_at hl 0 rfl) ?_
          refine va_aldq hx hb hK hP q_11 3 hq_11 rfl (vp_in_iff.mpr (by omega)) dX10_mergeGroups_46 ?_
          obtain ⟨b_17, hb_17⟩ := oInv.el (i := 2) (x := y_4) hIS_5 t_6 rfl hb_10 (by omega) (by omega)
          refine W.eq (g2 := F0 m 47 ls [.ref b_17]) (congrArg (fun z => F0 m 47 ls [va_rf z]) hb_17) ?_
          have tb_17 : oty S_5 b_17 6 := oInv.rd hIS_5 tb_10.2 hb_17 rfl rfl
          refine lv_iload_n hx hb dX10_mergeGroups_47 rfl (lv_at hl 2 rfl) ?_
          obtain ⟨q_18, hq_18⟩ := og (cq := cq) tb_17.1 (oE_6 tb_17.2)
          refine va_put (D := (dC, dI)) (ci := 6) (v := .int x_1) (ty := .int) (C := RX6) (T := TX6) (N := 6) hx hb hts in_wsX10_mergeGroups_X6 tyX6 tyX6_ok nmX6 hown hK hP hD hS q_18 hq_18 rfl 5 (by decide +kernel) (hts (.fieldLink RX10 311 "ShipOffice$Man" "leastAlike" "I") iw_X10_mergeGroups_8) (fun _ h9 => h9) rfl (by decide +kernel) rfl rfl (Nat.le_of_ble_eq_true rfl) dX10_mergeGroups_48 (fun H locs hP1 hD1 hS => ?_)
          obtain ⟨S_19, eS_19⟩ : ∃ zq, zq = setI S_5 b_17 5 x_1 := ⟨_, rfl⟩
          have hP : va_P (dC, dI) vwCl (oW cq S_19) H := by rw [eS_19]; exact cP (oset tb_17.1 hq_18 hD rfl (he_6_5 tb_17.2) neI) hP1
          have hD : va_D A (oW cq S_19) := by rw [eS_19]; exact cD (oset tb_17.1 hq_18 hD rfl (he_6_5 tb_17.2) neI) hD1
          clear hP1 hD1
          have hIS_19 : oInv S_19 := by rw [eS_19]; exact oInv.I0 (k := 6) (lo := -2147483648) (hi := 2147483647) hIS_5 tb_17.2 (by decide +kernel) rfl rfl rfl (iv_all _)
          have XS_19 : oX [605] S_5 S_19 := by rw [eS_19]; exact oX.I (k := 6) (key := 605) tb_17.2 rfl (List.mem_singleton.mpr rfl)
          have X_20 : oX [605] Z S_19 := oX.st YS_5 XS_19 (by decide +kernel)
          have g_21 : (oI S_19 o 2).toInt = (oI S_5 o 2).toInt := by rw [eS_19, setI_oth (ty_ne t_6 tb_17 (by decide +kernel))]
          obtain ⟨x_22, ex_22⟩ : ∃ zq : Int32, y_4 + 1 = zq := ⟨_, rfl⟩
          have hx_22 : x_22.toInt = y_4.toInt + 1 := (iv_to ex_22).symm.trans (ad_i rfl (by decide +kernel) (by omega) (by omega))
          refine lv_iinc (v := x_22) (lv' := [(5, .int x_22), (4, .int x_2), (3, .int x_1), (0, .ref o), (1, .int x1), (2, .int x2)]) hx hb dX10_mergeGroups_51 hl (k := 0) rfl ex_22 (by decide +kernel) rfl (fun ls hl => ?_)
          clear ex_22
          refine lv_goto (tgt := 16) hx hb dX10_mergeGroups_54 (by decide +kernel) ?_
          exact ih (n - 1) (by omega) x_22 S_19 _ _ ls (by omega) (by omega) hIS_19 (oX.st (oX.st oX.rf XS_5 (by decide +kernel)) XS_19 (by decide +kernel)) hP hD hS (lv_sub hl [0, 1, 2, 3, 4, 5] rfl)
  have kc_23 : (0 : Int32).toInt = 0 := by decide
  exact cut_3 41 0 Z _ _ ls (by omega) (by decide +kernel) gI oX.rf hP hD hS (lv_sub hl [0, 1, 2, 3, 4, 5] rfl)
set_option maxHeartbeats 4000000 in
set_option maxRecDepth 100000 in
theorem c_X10_joinGroups (l : Launch) (dC : Nat → ClassId) (dI : Nat → Nat → Nat) (sz : Nat) (cq : Nat → ClassId) (Z : oS) (gI : oInv Z) (o : Nat) (to : oty Z o 10) (a1 : Nat) (ta1 : oty Z a1 6) : Met l yX10_joinGroups wsX10_joinGroups ({ frames := 2, cells := 0, slots := 0, locals := 46 }) (va_Pc [.ref o, .ref a1] (pcW (dC, dI) (oT cq) (oW cq Z) sz)) (va_Qv (fun (u : oS) => oInv u ∧ oX [605] Z u) (fun u t => va_P (dC, dI) vwCl (oW cq u) t.heap ∧ va_K (dC, dI) vwCl (oT cq) t ∧ va_D (va_A (oW cq Z) sz) (oW cq u)) (va_A (oW cq Z) sz)) 0 0 (va_A (oW cq Z) sz) := by
  refine Met.ofW (cc := cX10_joinGroups) (maxL := 3) (ret := none) (by decide +kernel) rfl ?_
  intro p e s m args below meth c s₁ B hml hv
  obtain ⟨rfl, hsz, hP, hK, hD0⟩ := hv
  have hx := B.exec
  have hb := B.bytes
  have hr := B.returns
  have hts := atoms_spec (ws := wsX10_joinGroups) B.pre
  have hown : s.vm.findClass RX10 = some m.cls := findClass_of_methodNamed B.named
  have hlocks := B.notSynchronized
  subst hsz
  have hD := hD0.self (sz := s.heap.size)
  generalize hAe : va_A (oW cq Z) s.heap.size = A at hD ⊢
  have hA : ∀ q : Nat, s.heap.size ≤ q → A q := fun q h => by rw [← hAe]; exact Or.inr h
  have hS : va_S A s.heap s.heap [] := va_S.rf
  have hP : va_P (dC, dI) vwCl (oW cq Z) s.heap := hP
  have hl := lv_entry ([.ref o, .ref a1]) (n := 3) (Nat.le_of_ble_eq_true rfl)
  rw [lg_entry_eq]
  generalize (lg_sl ([.ref o, .ref a1]) ++ List.replicate (3 - (lg_sl ([.ref o, .ref a1])).length) Slot.unset).toArray = ls at hl ⊢
  have hl : lv_has ls 3 [(0, .ref o), (1, .ref a1)] := hl
  refine lv_iconst (v := 0) hx hb dX10_joinGroups_0 (by decide +kernel) ?_
  refine lv_istore_n (lv' := [(2, .int 0), (0, .ref o), (1, .ref a1)]) hx hb dX10_joinGroups_1 rfl hl (by decide +kernel) rfl (fun ls hl => ?_)
  have cut_1 : ∀ (n : Nat) (y_2 : Int32) (S_3 : oS) (H : Heap) (locs : List Loc) (ls : Array Slot), 40 - y_2.toInt ≤ (n : Int) → (0 ≤ y_2.toInt ∧ y_2.toInt ≤ 40) → oInv S_3 → oX [605] Z S_3 → va_P (dC, dI) vwCl (oW cq S_3) H → va_D A (oW cq S_3) → va_S A s.heap H locs → lv_has ls 3 [(2, .int y_2), (0, .ref o), (1, .ref a1)] → W p l e (headSpec wsX10_joinGroups { frames := 2, cells := 0, slots := 0, locals := 46 }).room s m #[Value.ref o, Value.ref a1] below meth c H locs 0 0 (MQ below (va_Qv (fun (u : oS) => oInv u ∧ oX [605] Z u) (fun u t => va_P (dC, dI) vwCl (oW cq u) t.heap ∧ va_K (dC, dI) vwCl (oT cq) t ∧ va_D A (oW cq u)) A) #[Value.ref o, Value.ref a1] s 0 0 A) (F0 m 2 ls []) := by
    intro n
    induction n using Nat.strongRecOn with
    | ind n ih =>
      intro y_2 S_3 H locs ls hm hy_2 hIS_3 XS_3 hP hD hS hl
      have YS_3 : oX [605] Z S_3 := oX.st oX.rf XS_3 (fun _ q => q)
      refine lv_iload_n hx hb dX10_joinGroups_2 rfl (lv_at hl 0 rfl) ?_
      refine lv_aload_n hx hb dX10_joinGroups_3 rfl (lv_at hl 1 rfl) ?_
      have t_4 : oty S_3 o 10 := (oX.ty XS_3 to)
      obtain ⟨q_5, hq_5⟩ := og (cq := cq) t_4.1 (oE_10 t_4.2)
      refine va_get (D := (dC, dI)) (ci := 10) (v := .int (oI S_3 o 2)) (C := RX10) (T := TX10) (N := 16) hx hb hts in_wsX10_joinGroups_X10 hown hK hP q_5 hq_5 rfl 2 (by decide +kernel) (hts (.fieldLink RX10 86 "ShipOffice" "manCount" "I") iw_X10_joinGroups_1) (fun _ h9 => h9) rfl dX10_joinGroups_4 ?_
      refine lv_topi (fun x_6 ex_6 => ?_)
      have hx_6 : 0 ≤ x_6.toInt ∧ x_6.toInt ≤ 40 := iv_of ex_6 (oInv.iv hIS_3 t_4.2 rfl rfl)
      have gx_6 : x_6.toInt = (oI S_3 o 2).toInt := iv_to ex_6
      clear ex_6
      refine lv_icmp_ge (tgt := 46) hx hb dX10_joinGroups_7 (by decide +kernel) (fun c_7 => ?_) (fun c_7 => ?_)
      · have dc_7 := c_le (a := x_6.toInt) (b := y_2.toInt) rfl rfl c_7
        exact W.vret hx hb hr (fun t ht hW => ⟨⟨S_3, rfl, ⟨hIS_3, YS_3⟩, ⟨by rw [ht]; exact hP, va_K.moved hW.alike hK, hD⟩⟩, hS.F ht⟩) hS.2.2 dX10_joinGroups_46
      · have dc_7 := c_nle (a := x_6.toInt) (b := y_2.toInt) rfl rfl c_7
        refine lv_aload_n hx hb dX10_joinGroups_10 rfl (lv_at hl 2 rfl) ?_
        refine lv_aload_n hx hb dX10_joinGroups_11 rfl (lv_at hl 1 rfl) ?_
        obtain ⟨b_8, hb_8⟩ := oInv.nn (i := 1) hIS_3 t_4 rfl
        refine va_get (D := (dC, dI)) (ci := 10) (v := .ref b_8) (C := RX10) (T := TX10) (N := 16) hx hb hts in_wsX10_joinGroups_X10 hown hK hP q_5 hq_5 rfl 1 (by decide +kernel) (hts (.fieldLink RX10 11 "ShipOffice" "men" "[LShipOffice$Man;") iw_X10_joinGroups_2) (fun _ h9 => h9) (o_rd hb_8) dX10_joinGroups_12 ?_
        have tb_8 : oty S_3 b_8 14 := oInv.rd hIS_3 t_4.2 hb_8 rfl rfl
        refine lv_iload_n hx hb dX10_joinGroups_15 rfl (lv_at hl 0 rfl) ?_
        obtain ⟨q_9, hq_9⟩ := og (cq := cq) tb_8.1 (oE_14 tb_8.2)
        refine va_aldq hx hb hK hP q_9 3 hq_9 rfl (vp_in_iff.mpr (by omega)) dX10_joinGroups_16 ?_
        obtain ⟨b_10, hb_10⟩ := oInv.el (i := 2) (x := y_2) hIS_3 t_4 rfl hb_8 (by omega) (by omega)
        refine W.eq (g2 := F0 m 17 ls [.ref b_10, .ref a1]) (congrArg (fun z => F0 m 17 ls [va_rf z, .ref a1]) hb_10) ?_
        have tb_10 : oty S_3 b_10 6 := oInv.rd hIS_3 tb_8.2 hb_10 rfl rfl
        have t_11 : oty S_3 a1 6 := (oX.ty XS_3 ta1)
        have hFc : ∀ q, va_A [] H.size q → A q := pu_free hS hA
        obtain ⟨q_12, hq_12⟩ := og (cq := cq) t_11.1 (oE_6 t_11.2)
        refine va_calli (va_runV (As := [.ref b_10]) (rest := []) ⟨hx, hb, hml, hown, hts⟩ (c_X6_isAlike l dC dI H.size cq S_3 hIS_3 a1 t_11 b_10 tb_10) (cwV 1 hts gX10_joinGroups_X6_isAlike rfl rfl rfl (by decide +kernel) ⟨(Nat.le_of_ble_eq_true rfl), (Nat.le_of_ble_eq_true rfl)⟩) (pr_V (r := (RX6, TX6, 6)) hP hK hD q_12 6 rfl hq_12) rfl rfl hl.1 rfl (lv_room (Nat.le_of_ble_eq_true rfl)) dX10_joinGroups_17 ⟨(Nat.le_of_ble_eq_true rfl), (Nat.le_of_ble_eq_true rfl)⟩) hS (fun q _ h => hFc q h) hFc (fun r_14 u t H locs ht hvm w_13 hB hz1 hk1 hS => ?_)
        have hP := pu_keep hP hk1
        clear hk1 hz1 hvm hB ht hFc
        have hb_15 := w_13
        refine lv_if_eq (tgt := 40) hx hb dX10_joinGroups_20 (by decide +kernel) (fun c_16 => ?_) (fun c_16 => ?_)
        · have dc_16 := c_eq (a := r_14.toInt) (b := 0) rfl (by decide +kernel) c_16
          obtain ⟨x_17, ex_17⟩ : ∃ zq : Int32, y_2 + 1 = zq := ⟨_, rfl⟩
          have hx_17 : x_17.toInt = y_2.toInt + 1 := (iv_to ex_17).symm.trans (ad_i rfl (by decide +kernel) (by omega) (by omega))
          refine lv_iinc (v := x_17) (lv' := [(2, .int x_17), (0, .ref o), (1, .ref a1)]) hx hb dX10_joinGroups_40 hl (k := 0) rfl ex_17 (by decide +kernel) rfl (fun ls hl => ?_)
          clear ex_17
          refine lv_goto (tgt := 2) hx hb dX10_joinGroups_43 (by decide +kernel) ?_
          exact ih (n - 1) (by omega) x_17 S_3 _ _ ls (by omega) (by omega) hIS_3 (oX.st oX.rf XS_3 (by decide +kernel)) hP hD hS (lv_sub hl [0, 1, 2] rfl)
        · have dc_16 := c_ne (a := r_14.toInt) (b := 0) rfl (by decide +kernel) c_16
          refine lv_aload_n hx hb dX10_joinGroups_23 rfl (lv_at hl 1 rfl) ?_
          refine lv_aload_n hx hb dX10_joinGroups_24 rfl (lv_at hl 2 rfl) ?_
          refine va_get (D := (dC, dI)) (ci := 6) (v := .int (oI S_3 a1 5)) (C := RX6) (T := TX6) (N := 6) hx hb hts in_wsX10_joinGroups_X6 hown hK hP q_12 hq_12 rfl 5 (by decide +kernel) (hts (.fieldLink RX10 311 "ShipOffice$Man" "leastAlike" "I") iw_X10_joinGroups_3) (fun _ h9 => h9) rfl dX10_joinGroups_25 ?_
          refine lv_topi (fun x_18 ex_18 => ?_)
          clear ex_18
          refine lv_aload_n hx hb dX10_joinGroups_28 rfl (lv_at hl 1 rfl) ?_
          refine va_get (D := (dC, dI)) (ci := 10) (v := .ref b_8) (C := RX10) (T := TX10) (N := 16) hx hb hts in_wsX10_joinGroups_X10 hown hK hP q_5 hq_5 rfl 1 (by decide +kernel) (hts (.fieldLink RX10 11 "ShipOffice" "men" "[LShipOffice$Man;") iw_X10_joinGroups_2) (fun _ h9 => h9) (o_rd hb_8) dX10_joinGroups_29 ?_
          refine lv_iload_n hx hb dX10_joinGroups_32 rfl (lv_at hl 0 rfl) ?_
          refine va_aldq hx hb hK hP q_9 3 hq_9 rfl (vp_in_iff.mpr (by omega)) dX10_joinGroups_33 ?_
          obtain ⟨b_19, hb_19⟩ := oInv.el (i := 2) (x := y_2) hIS_3 t_4 rfl hb_8 (by omega) (by omega)
          refine W.eq (g2 := F0 m 34 ls [.ref b_19, .int x_18, .ref o]) (congrArg (fun z => F0 m 34 ls [va_rf z, .int x_18, .ref o]) hb_19) ?_
          have tb_19 : oty S_3 b_19 6 := oInv.rd hIS_3 tb_8.2 hb_19 rfl rfl
          obtain ⟨q_20, hq_20⟩ := og (cq := cq) tb_19.1 (oE_6 tb_19.2)
          refine va_get (D := (dC, dI)) (ci := 6) (v := .int (oI S_3 b_19 5)) (C := RX6) (T := TX6) (N := 6) hx hb hts in_wsX10_joinGroups_X6 hown hK hP q_20 hq_20 rfl 5 (by decide +kernel) (hts (.fieldLink RX10 311 "ShipOffice$Man" "leastAlike" "I") iw_X10_joinGroups_3) (fun _ h9 => h9) rfl dX10_joinGroups_34 ?_
          refine lv_topi (fun x_21 ex_21 => ?_)
          clear ex_21
          have hFc := o_free hD hS hA
          refine va_callv (va_runV (As := [.int x_18, .int x_21]) (rest := []) ⟨hx, hb, hml, hown, hts⟩ (c_X10_mergeGroups l dC dI H.size cq S_3 hIS_3 o t_4 x_18 x_21) (cwV 2 hts gX10_joinGroups_X10_mergeGroups rfl rfl rfl (by decide +kernel) ⟨(Nat.le_of_ble_eq_true rfl), (Nat.le_of_ble_eq_true rfl)⟩) (pr_V (r := (RX10, TX10, 16)) hP hK hD q_5 10 rfl hq_5) rfl rfl hl.1 rfl (lv_room (Nat.le_of_ble_eq_true rfl)) dX10_joinGroups_37 ⟨(Nat.le_of_ble_eq_true rfl), (Nat.le_of_ble_eq_true rfl)⟩) hS (fun q _ h => hFc q h) hFc (fun u t H locs ht hvm w_22 hB hz1 hk1 hS => ?_)
          obtain ⟨S_24, rfl⟩ : ∃ z, z = u := ⟨_, rfl⟩
          obtain ⟨hP1, hK1, hD1⟩ := hB
          rw [ht] at hP1
          have hP : va_P (dC, dI) vwCl (oW cq S_24) H := hP1
          have hD : va_D A (oW cq S_24) := hD1.weaken (fun _ _ _ h => hFc _ h)
          clear hP1 hK1 hD1 hk1 hz1 hvm ht hFc
          obtain ⟨hIS_24, XS_24⟩ := w_22
          have X_25 : oX [605] Z S_24 := oX.st YS_3 XS_24 (by decide +kernel)
          obtain ⟨x_26, ex_26⟩ : ∃ zq : Int32, y_2 + 1 = zq := ⟨_, rfl⟩
          have hx_26 : x_26.toInt = y_2.toInt + 1 := (iv_to ex_26).symm.trans (ad_i rfl (by decide +kernel) (by omega) (by omega))
          refine lv_iinc (v := x_26) (lv' := [(2, .int x_26), (0, .ref o), (1, .ref a1)]) hx hb dX10_joinGroups_40 hl (k := 0) rfl ex_26 (by decide +kernel) rfl (fun ls hl => ?_)
          clear ex_26
          refine lv_goto (tgt := 2) hx hb dX10_joinGroups_43 (by decide +kernel) ?_
          exact ih (n - 1) (by omega) x_26 S_24 _ _ ls (by omega) (by omega) hIS_24 (oX.st (oX.st oX.rf XS_3 (by decide +kernel)) XS_24 (by decide +kernel)) hP hD hS (lv_sub hl [0, 1, 2] rfl)
  have kc_27 : (0 : Int32).toInt = 0 := by decide
  exact cut_1 41 0 Z _ _ ls (by omega) (by decide +kernel) gI oX.rf hP hD hS (lv_sub hl [0, 1, 2] rfl)
set_option maxHeartbeats 4000000 in
set_option maxRecDepth 100000 in
theorem c_X10_worthFor (l : Launch) (dC : Nat → ClassId) (dI : Nat → Nat → Nat) (sz : Nat) (cq : Nat → ClassId) (Z : oS) (gI : oInv Z) (o : Nat) (to : oty Z o 10) (x1 : Int32) (hx1 : 0 ≤ x1.toInt ∧ x1.toInt ≤ 4) (a2 : Nat) (ta2 : oty Z a2 1) (x3 : Int32) (x4 : Int32) (x5 : Int32) (x6 : Int32) : Met l yX10_worthFor wsX10_worthFor ({ frames := 3, cells := 0, slots := 0, locals := 79 }) (va_Pc [.ref o, .int x1, .ref a2, .int x3, .int x4, .int x5, .int x6] (pcW (dC, dI) (oT cq) (oW cq Z) sz)) (va_Qi (fun (r : Int32) (u : oS) => oInv u ∧ oX [2108, 5001] Z u) (fun u t => va_P (dC, dI) vwCl (oW cq u) t.heap ∧ va_K (dC, dI) vwCl (oT cq) t ∧ va_D (va_A (oW cq Z) sz) (oW cq u)) (va_A (oW cq Z) sz)) 0 0 (va_A (oW cq Z) sz) := by
  refine Met.ofW (cc := cX10_worthFor) (maxL := 8) (ret := (some .int)) (by decide +kernel) rfl ?_
  intro p e s m args below meth c s₁ B hml hv
  obtain ⟨rfl, hsz, hP, hK, hD0⟩ := hv
  have hx := B.exec
  have hb := B.bytes
  have hr := B.returns
  have hts := atoms_spec (ws := wsX10_worthFor) B.pre
  have hown : s.vm.findClass RX10 = some m.cls := findClass_of_methodNamed B.named
  have hlocks := B.notSynchronized
  subst hsz
  have hD := hD0.self (sz := s.heap.size)
  generalize hAe : va_A (oW cq Z) s.heap.size = A at hD ⊢
  have hA : ∀ q : Nat, s.heap.size ≤ q → A q := fun q h => by rw [← hAe]; exact Or.inr h
  have hS : va_S A s.heap s.heap [] := va_S.rf
  have hP : va_P (dC, dI) vwCl (oW cq Z) s.heap := hP
  have hl := lv_entry ([.ref o, .int x1, .ref a2, .int x3, .int x4, .int x5, .int x6]) (n := 8) (Nat.le_of_ble_eq_true rfl)
  rw [lg_entry_eq]
  generalize (lg_sl ([.ref o, .int x1, .ref a2, .int x3, .int x4, .int x5, .int x6]) ++ List.replicate (8 - (lg_sl ([.ref o, .int x1, .ref a2, .int x3, .int x4, .int x5, .int x6])).length) Slot.unset).toArray = ls at hl ⊢
  have hl : lv_has ls 8 [(0, .ref o), (1, .int x1), (2, .ref a2), (3, .int x3), (4, .int x4), (5, .int x5), (6, .int x6)] := hl
  refine lv_aload_n hx hb dX10_worthFor_0 rfl (lv_at hl 0 rfl) ?_
  obtain ⟨q_1, hq_1⟩ := og (cq := cq) to.1 (oE_10 to.2)
  obtain ⟨b_2, hb_2⟩ := oInv.nn (i := 8) gI to rfl
  refine va_get (D := (dC, dI)) (ci := 10) (v := .ref b_2) (C := RX10) (T := TX10) (N := 16) hx hb hts in_wsX10_worthFor_X10 hown hK hP q_1 hq_1 rfl 8 (by decide +kernel) (hts (.fieldLink RX10 30 "ShipOffice" "law" "LShipOffice$Law;") iw_X10_worthFor_1) (fun _ h9 => h9) (o_rd hb_2) dX10_worthFor_1 ?_
  have tb_2 : oty Z b_2 5 := oInv.rd gI to.2 hb_2 rfl rfl
  refine lv_iload_n hx hb dX10_worthFor_4 rfl (lv_at hl 1 rfl) ?_
  refine lv_iload_n hx hb dX10_worthFor_5 rfl (lv_at hl 3 rfl) ?_
  have hFc : ∀ q, va_A [] s.heap.size q → A q := pu_free hS hA
  obtain ⟨q_3, hq_3⟩ := og (cq := cq) tb_2.1 (oE_5 tb_2.2)
  refine va_callq (va_runV (As := [.int x1, .int x3]) (rest := []) ⟨hx, hb, hml, hown, hts⟩ (c_X5_inForce l dC dI s.heap.size cq Z gI b_2 tb_2 x1 (by omega) x3) (cwV 2 hts gX10_worthFor_X5_inForce rfl rfl rfl (by decide +kernel) ⟨(Nat.le_of_ble_eq_true rfl), (Nat.le_of_ble_eq_true rfl)⟩) (pr_V (r := (RX5, TX5, 3)) hP hK hD q_3 5 rfl hq_3) rfl rfl hl.1 rfl (lv_room (Nat.le_of_ble_eq_true rfl)) dX10_worthFor_6 ⟨(Nat.le_of_ble_eq_true rfl), (Nat.le_of_ble_eq_true rfl)⟩) hS (fun q _ h => hFc q h) hFc (fun r_5 u t H locs ht hvm w_4 hB hz1 hk1 hS => ?_)
  have hP := pu_keep hP hk1
  clear hk1 hz1 hvm hB ht hFc
  have hk_6 := w_4
  obtain ⟨b_7, rfl, tb_7⟩ := hk_6
  refine W.eq (g2 := F0 m 9 ls [.ref b_7]) rfl ?_
  refine lv_astore (lv' := [(7, .ref b_7), (0, .ref o), (1, .int x1), (2, .ref a2), (3, .int x3), (4, .int x4), (5, .int x5), (6, .int x6)]) hx hb dX10_worthFor_9 hl (by decide +kernel) rfl (fun ls hl => ?_)
  refine lv_aload_n hx hb dX10_worthFor_11 rfl (lv_at hl 1 rfl) ?_
  obtain ⟨b_8, hb_8⟩ := oInv.nn (i := 12) gI to rfl
  refine va_get (D := (dC, dI)) (ci := 10) (v := .ref b_8) (C := RX10) (T := TX10) (N := 16) hx hb hts in_wsX10_worthFor_X10 hown hK hP q_1 hq_1 rfl 12 (by decide +kernel) (hts (.fieldLink RX10 59 "ShipOffice" "letters" "[I") iw_X10_worthFor_2) (fun _ h9 => h9) (o_rd hb_8) dX10_worthFor_12 ?_
  have tb_8 : oty Z b_8 108 := oInv.rd gI to.2 hb_8 rfl rfl
  refine lv_iconst (v := 0) hx hb dX10_worthFor_15 (by decide +kernel) ?_
  refine lv_aload_n hx hb dX10_worthFor_16 rfl (lv_at hl 3 rfl) ?_
  obtain ⟨q_9, hq_9⟩ := og (cq := cq) ta2.1 (oE_1 ta2.2)
  refine va_get (D := (dC, dI)) (ci := 1) (v := .int (oI Z a2 4)) (C := RX1) (T := TX1) (N := 18) hx hb hts in_wsX10_worthFor_X1 hown hK hP q_9 hq_9 rfl 4 (by decide +kernel) (hts (.fieldLink RX10 223 "ShipOffice$Agreement" "wage" "I") iw_X10_worthFor_3) (fun _ h9 => h9) rfl dX10_worthFor_17 ?_
  refine lv_topi (fun x_10 ex_10 => ?_)
  clear ex_10
  obtain ⟨q_11, hq_11⟩ := og (cq := cq) tb_8.1 (oE_a1 (n := 8) tb_8.2 (by decide +kernel))
  refine va_iast hx hb hK hP hD hS q_11 0 hq_11 rfl (by unfold vp_in; decide) dX10_worthFor_20 (fun H locs hP1 hD1 hS => ?_)
  obtain ⟨S_12, eS_12⟩ : ∃ zq, zq = setI Z b_8 (0 : Int32).toNatClampNeg x_10 := ⟨_, rfl⟩
  have hP : va_P (dC, dI) vwCl (oW cq S_12) H := by rw [eS_12]; exact cP (oset tb_8.1 hq_11 hD rfl (he_a1 (n := 8) tb_8.2 (by decide +kernel)) neI) hP1
  have hD : va_D A (oW cq S_12) := by rw [eS_12]; exact cD (oset tb_8.1 hq_11 hD rfl (he_a1 (n := 8) tb_8.2 (by decide +kernel)) neI) hD1
  clear hP1 hD1
  have hIS_12 : oInv S_12 := by rw [eS_12]; exact oInv.A (k := 108) gI tb_8.2 (by decide +kernel)
  have XS_12 : oX [2108] Z S_12 := by rw [eS_12]; exact oX.I (k := 108) (key := 2108) tb_8.2 rfl (List.mem_singleton.mpr rfl)
  have X_13 : oX [2108, 5001] Z S_12 := oX.st oX.rf XS_12 (by decide +kernel)
  refine lv_aload_n hx hb dX10_worthFor_21 rfl (lv_at hl 1 rfl) ?_
  have t_14 : oty S_12 o 10 := (oX.ty XS_12 to)
  obtain ⟨q_15, hq_15⟩ := og (cq := cq) t_14.1 (oE_10 t_14.2)
  obtain ⟨b_16, hb_16⟩ := oInv.nn (i := 12) hIS_12 t_14 rfl
  refine va_get (D := (dC, dI)) (ci := 10) (v := .ref b_16) (C := RX10) (T := TX10) (N := 16) hx hb hts in_wsX10_worthFor_X10 hown hK hP q_15 hq_15 rfl 12 (by decide +kernel) (hts (.fieldLink RX10 59 "ShipOffice" "letters" "[I") iw_X10_worthFor_2) (fun _ h9 => h9) (o_rd hb_16) dX10_worthFor_22 ?_
  have tb_16 : oty S_12 b_16 108 := oInv.rd hIS_12 t_14.2 hb_16 rfl rfl
  refine lv_iconst (v := 1) hx hb dX10_worthFor_25 (by decide +kernel) ?_
  refine lv_aload_n hx hb dX10_worthFor_26 rfl (lv_at hl 3 rfl) ?_
  have t_17 : oty S_12 a2 1 := (oX.ty XS_12 ta2)
  obtain ⟨q_18, hq_18⟩ := og (cq := cq) t_17.1 (oE_1 t_17.2)
  refine va_get (D := (dC, dI)) (ci := 1) (v := .int (oI S_12 a2 5)) (C := RX1) (T := TX1) (N := 18) hx hb hts in_wsX10_worthFor_X1 hown hK hP q_18 hq_18 rfl 5 (by decide +kernel) (hts (.fieldLink RX10 226 "ShipOffice$Agreement" "rank" "I") iw_X10_worthFor_4) (fun _ h9 => h9) rfl dX10_worthFor_27 ?_
  refine lv_topi (fun x_19 ex_19 => ?_)
  clear ex_19
  obtain ⟨q_20, hq_20⟩ := og (cq := cq) tb_16.1 (oE_a1 (n := 8) tb_16.2 (by decide +kernel))
  refine va_iast hx hb hK hP hD hS q_20 0 hq_20 rfl (by unfold vp_in; decide) dX10_worthFor_30 (fun H locs hP1 hD1 hS => ?_)
  obtain ⟨S_21, eS_21⟩ : ∃ zq, zq = setI S_12 b_16 (1 : Int32).toNatClampNeg x_19 := ⟨_, rfl⟩
  have hP : va_P (dC, dI) vwCl (oW cq S_21) H := by rw [eS_21]; exact cP (oset tb_16.1 hq_20 hD rfl (he_a1 (n := 8) tb_16.2 (by decide +kernel)) neI) hP1
  have hD : va_D A (oW cq S_21) := by rw [eS_21]; exact cD (oset tb_16.1 hq_20 hD rfl (he_a1 (n := 8) tb_16.2 (by decide +kernel)) neI) hD1
  clear hP1 hD1
  have hIS_21 : oInv S_21 := by rw [eS_21]; exact oInv.A (k := 108) hIS_12 tb_16.2 (by decide +kernel)
  have XS_21 : oX [2108] S_12 S_21 := by rw [eS_21]; exact oX.I (k := 108) (key := 2108) tb_16.2 rfl (List.mem_singleton.mpr rfl)
  have X_22 : oX [2108, 5001] Z S_21 := oX.st X_13 XS_21 (by decide +kernel)
  refine lv_aload_n hx hb dX10_worthFor_31 rfl (lv_at hl 1 rfl) ?_
  have t_23 : oty S_21 o 10 := (oX.ty XS_21 t_14)
  obtain ⟨q_24, hq_24⟩ := og (cq := cq) t_23.1 (oE_10 t_23.2)
  obtain ⟨b_25, hb_25⟩ := oInv.nn (i := 12) hIS_21 t_23 rfl
  refine va_get (D := (dC, dI)) (ci := 10) (v := .ref b_25) (C := RX10) (T := TX10) (N := 16) hx hb hts in_wsX10_worthFor_X10 hown hK hP q_24 hq_24 rfl 12 (by decide +kernel) (hts (.fieldLink RX10 59 "ShipOffice" "letters" "[I") iw_X10_worthFor_2) (fun _ h9 => h9) (o_rd hb_25) dX10_worthFor_32 ?_
  have tb_25 : oty S_21 b_25 108 := oInv.rd hIS_21 t_23.2 hb_25 rfl rfl
  refine lv_iconst (v := 2) hx hb dX10_worthFor_35 (by decide +kernel) ?_
  refine lv_aload_n hx hb dX10_worthFor_36 rfl (lv_at hl 3 rfl) ?_
  have t_26 : oty S_21 a2 1 := (oX.ty XS_21 t_17)
  obtain ⟨q_27, hq_27⟩ := og (cq := cq) t_26.1 (oE_1 t_26.2)
  obtain ⟨b_28, hb_28⟩ := oInv.nn (i := 0) hIS_21 t_26 rfl
  refine va_get (D := (dC, dI)) (ci := 1) (v := .ref b_28) (C := RX1) (T := TX1) (N := 18) hx hb hts in_wsX10_worthFor_X1 hown hK hP q_27 hq_27 rfl 0 (by decide +kernel) (hts (.fieldLink RX10 299 "ShipOffice$Agreement" "man" "LShipOffice$Man;") iw_X10_worthFor_5) (fun _ h9 => h9) (o_rd hb_28) dX10_worthFor_37 ?_
  have tb_28 : oty S_21 b_28 6 := oInv.rd hIS_21 t_26.2 hb_28 rfl rfl
  refine lv_iload_n hx hb dX10_worthFor_40 rfl (lv_at hl 4 rfl) ?_
  have hFc : ∀ q, va_A [] H.size q → A q := pu_free hS hA
  obtain ⟨q_29, hq_29⟩ := og (cq := cq) tb_28.1 (oE_6 tb_28.2)
  refine va_calli (va_runV (As := [.int x3]) (rest := [.int 2, .ref b_25]) ⟨hx, hb, hml, hown, hts⟩ (c_X6_yearsOn l dC dI H.size cq S_21 hIS_21 b_28 tb_28 x3) (cwV 1 hts gX10_worthFor_X6_yearsOn rfl rfl rfl (by decide +kernel) ⟨(Nat.le_of_ble_eq_true rfl), (Nat.le_of_ble_eq_true rfl)⟩) (pr_V (r := (RX6, TX6, 6)) hP hK hD q_29 6 rfl hq_29) rfl rfl hl.1 rfl (lv_room (Nat.le_of_ble_eq_true rfl)) dX10_worthFor_41 ⟨(Nat.le_of_ble_eq_true rfl), (Nat.le_of_ble_eq_true rfl)⟩) hS (fun q _ h => hFc q h) hFc (fun r_31 u t H locs ht hvm w_30 hB hz1 hk1 hS => ?_)
  have hP := pu_keep hP hk1
  clear hk1 hz1 hvm hB ht hFc
  obtain ⟨q_32, hq_32⟩ := og (cq := cq) tb_25.1 (oE_a1 (n := 8) tb_25.2 (by decide +kernel))
  refine va_iast hx hb hK hP hD hS q_32 0 hq_32 rfl (by unfold vp_in; decide) dX10_worthFor_44 (fun H locs hP1 hD1 hS => ?_)
  obtain ⟨S_33, eS_33⟩ : ∃ zq, zq = setI S_21 b_25 (2 : Int32).toNatClampNeg r_31 := ⟨_, rfl⟩
  have hP : va_P (dC, dI) vwCl (oW cq S_33) H := by rw [eS_33]; exact cP (oset tb_25.1 hq_32 hD rfl (he_a1 (n := 8) tb_25.2 (by decide +kernel)) neI) hP1
  have hD : va_D A (oW cq S_33) := by rw [eS_33]; exact cD (oset tb_25.1 hq_32 hD rfl (he_a1 (n := 8) tb_25.2 (by decide +kernel)) neI) hD1
  clear hP1 hD1
  have hIS_33 : oInv S_33 := by rw [eS_33]; exact oInv.A (k := 108) hIS_21 tb_25.2 (by decide +kernel)
  have XS_33 : oX [2108] S_21 S_33 := by rw [eS_33]; exact oX.I (k := 108) (key := 2108) tb_25.2 rfl (List.mem_singleton.mpr rfl)
  have X_34 : oX [2108, 5001] Z S_33 := oX.st X_22 XS_33 (by decide +kernel)
  refine lv_aload_n hx hb dX10_worthFor_45 rfl (lv_at hl 1 rfl) ?_
  have t_35 : oty S_33 o 10 := (oX.ty XS_33 t_23)
  obtain ⟨q_36, hq_36⟩ := og (cq := cq) t_35.1 (oE_10 t_35.2)
  obtain ⟨b_37, hb_37⟩ := oInv.nn (i := 12) hIS_33 t_35 rfl
  refine va_get (D := (dC, dI)) (ci := 10) (v := .ref b_37) (C := RX10) (T := TX10) (N := 16) hx hb hts in_wsX10_worthFor_X10 hown hK hP q_36 hq_36 rfl 12 (by decide +kernel) (hts (.fieldLink RX10 59 "ShipOffice" "letters" "[I") iw_X10_worthFor_2) (fun _ h9 => h9) (o_rd hb_37) dX10_worthFor_46 ?_
  have tb_37 : oty S_33 b_37 108 := oInv.rd hIS_33 t_35.2 hb_37 rfl rfl
  refine lv_iconst (v := 3) hx hb dX10_worthFor_49 (by decide +kernel) ?_
  refine lv_aload hx hb dX10_worthFor_50 (lv_at hl 0 rfl) ?_
  refine lv_iconst (v := 3) hx hb dX10_worthFor_52 (by decide +kernel) ?_
  have t_38 : oty S_33 b_7 0 := (oX.ty XS_33 (oX.ty XS_21 (oX.ty XS_12 tb_7)))
  have hFc : ∀ q, va_A [] H.size q → A q := pu_free hS hA
  obtain ⟨q_39, hq_39⟩ := og (cq := cq) t_38.1 (oE_0 t_38.2)
  refine va_calli (va_runV (As := [.int 3]) (rest := [.int 3, .ref b_37]) ⟨hx, hb, hml, hown, hts⟩ (c_X0_uses l dC dI H.size cq S_33 hIS_33 b_7 t_38 3) (cwV 1 hts gX10_worthFor_X0_uses rfl rfl rfl (by decide +kernel) ⟨(Nat.le_of_ble_eq_true rfl), (Nat.le_of_ble_eq_true rfl)⟩) (pr_V (r := (RX0, TX0, 5)) hP hK hD q_39 0 rfl hq_39) rfl rfl hl.1 rfl (lv_room (Nat.le_of_ble_eq_true rfl)) dX10_worthFor_53 ⟨(Nat.le_of_ble_eq_true rfl), (Nat.le_of_ble_eq_true rfl)⟩) hS (fun q _ h => hFc q h) hFc (fun r_41 u t H locs ht hvm w_40 hB hz1 hk1 hS => ?_)
  have hP := pu_keep hP hk1
  clear hk1 hz1 hvm hB ht hFc
  have hb_42 := w_40
  refine lv_if_eq (tgt := 74) hx hb dX10_worthFor_56 (by decide +kernel) (fun c_43 => ?_) (fun c_43 => ?_)
  · have dc_43 := c_eq (a := r_41.toInt) (b := 0) rfl (by decide +kernel) c_43
    refine lv_iconst (v := 0) hx hb dX10_worthFor_74 (by decide +kernel) ?_
    obtain ⟨q_44, hq_44⟩ := og (cq := cq) tb_37.1 (oE_a1 (n := 8) tb_37.2 (by decide +kernel))
    refine va_iast hx hb hK hP hD hS q_44 0 hq_44 rfl (by unfold vp_in; decide) dX10_worthFor_75 (fun H locs hP1 hD1 hS => ?_)
    obtain ⟨S_45, eS_45⟩ : ∃ zq, zq = setI S_33 b_37 (3 : Int32).toNatClampNeg 0 := ⟨_, rfl⟩
    have hP : va_P (dC, dI) vwCl (oW cq S_45) H := by rw [eS_45]; exact cP (oset tb_37.1 hq_44 hD rfl (he_a1 (n := 8) tb_37.2 (by decide +kernel)) neI) hP1
    have hD : va_D A (oW cq S_45) := by rw [eS_45]; exact cD (oset tb_37.1 hq_44 hD rfl (he_a1 (n := 8) tb_37.2 (by decide +kernel)) neI) hD1
    clear hP1 hD1
    have hIS_45 : oInv S_45 := by rw [eS_45]; exact oInv.A (k := 108) hIS_33 tb_37.2 (by decide +kernel)
    have XS_45 : oX [2108] S_33 S_45 := by rw [eS_45]; exact oX.I (k := 108) (key := 2108) tb_37.2 rfl (List.mem_singleton.mpr rfl)
    have X_46 : oX [2108, 5001] Z S_45 := oX.st X_34 XS_45 (by decide +kernel)
    refine lv_aload_n hx hb dX10_worthFor_76 rfl (lv_at hl 1 rfl) ?_
    have t_47 : oty S_45 o 10 := (oX.ty XS_45 t_35)
    obtain ⟨q_48, hq_48⟩ := og (cq := cq) t_47.1 (oE_10 t_47.2)
    obtain ⟨b_49, hb_49⟩ := oInv.nn (i := 12) hIS_45 t_47 rfl
    refine va_get (D := (dC, dI)) (ci := 10) (v := .ref b_49) (C := RX10) (T := TX10) (N := 16) hx hb hts in_wsX10_worthFor_X10 hown hK hP q_48 hq_48 rfl 12 (by decide +kernel) (hts (.fieldLink RX10 59 "ShipOffice" "letters" "[I") iw_X10_worthFor_2) (fun _ h9 => h9) (o_rd hb_49) dX10_worthFor_77 ?_
    have tb_49 : oty S_45 b_49 108 := oInv.rd hIS_45 t_47.2 hb_49 rfl rfl
    refine lv_iconst (v := 4) hx hb dX10_worthFor_80 (by decide +kernel) ?_
    refine lv_aload hx hb dX10_worthFor_81 (lv_at hl 0 rfl) ?_
    refine lv_iconst (v := 4) hx hb dX10_worthFor_83 (by decide +kernel) ?_
    have t_50 : oty S_45 b_7 0 := (oX.ty XS_45 t_38)
    have hFc : ∀ q, va_A [] H.size q → A q := pu_free hS hA
    obtain ⟨q_51, hq_51⟩ := og (cq := cq) t_50.1 (oE_0 t_50.2)
    refine va_calli (va_runV (As := [.int 4]) (rest := [.int 4, .ref b_49]) ⟨hx, hb, hml, hown, hts⟩ (c_X0_uses l dC dI H.size cq S_45 hIS_45 b_7 t_50 4) (cwV 1 hts gX10_worthFor_X0_uses rfl rfl rfl (by decide +kernel) ⟨(Nat.le_of_ble_eq_true rfl), (Nat.le_of_ble_eq_true rfl)⟩) (pr_V (r := (RX0, TX0, 5)) hP hK hD q_51 0 rfl hq_51) rfl rfl hl.1 rfl (lv_room (Nat.le_of_ble_eq_true rfl)) dX10_worthFor_84 ⟨(Nat.le_of_ble_eq_true rfl), (Nat.le_of_ble_eq_true rfl)⟩) hS (fun q _ h => hFc q h) hFc (fun r_53 u t H locs ht hvm w_52 hB hz1 hk1 hS => ?_)
    have hP := pu_keep hP hk1
    clear hk1 hz1 hvm hB ht hFc
    have hb_54 := w_52
    refine lv_if_eq (tgt := 104) hx hb dX10_worthFor_87 (by decide +kernel) (fun c_55 => ?_) (fun c_55 => ?_)
    · have dc_55 := c_eq (a := r_53.toInt) (b := 0) rfl (by decide +kernel) c_55
      refine lv_iconst (v := 0) hx hb dX10_worthFor_104 (by decide +kernel) ?_
      obtain ⟨q_56, hq_56⟩ := og (cq := cq) tb_49.1 (oE_a1 (n := 8) tb_49.2 (by decide +kernel))
      refine va_iast hx hb hK hP hD hS q_56 0 hq_56 rfl (by unfold vp_in; decide) dX10_worthFor_105 (fun H locs hP1 hD1 hS => ?_)
      obtain ⟨S_57, eS_57⟩ : ∃ zq, zq = setI S_45 b_49 (4 : Int32).toNatClampNeg 0 := ⟨_, rfl⟩
      have hP : va_P (dC, dI) vwCl (oW cq S_57) H := by rw [eS_57]; exact cP (oset tb_49.1 hq_56 hD rfl (he_a1 (n := 8) tb_49.2 (by decide +kernel)) neI) hP1
      have hD : va_D A (oW cq S_57) := by rw [eS_57]; exact cD (oset tb_49.1 hq_56 hD rfl (he_a1 (n := 8) tb_49.2 (by decide +kernel)) neI) hD1
      clear hP1 hD1
      have hIS_57 : oInv S_57 := by rw [eS_57]; exact oInv.A (k := 108) hIS_45 tb_49.2 (by decide +kernel)
      have XS_57 : oX [2108] S_45 S_57 := by rw [eS_57]; exact oX.I (k := 108) (key := 2108) tb_49.2 rfl (List.mem_singleton.mpr rfl)
      have X_58 : oX [2108, 5001] Z S_57 := oX.st X_46 XS_57 (by decide +kernel)
      refine lv_aload_n hx hb dX10_worthFor_106 rfl (lv_at hl 1 rfl) ?_
      have t_59 : oty S_57 o 10 := (oX.ty XS_57 t_47)
      obtain ⟨q_60, hq_60⟩ := og (cq := cq) t_59.1 (oE_10 t_59.2)
      obtain ⟨b_61, hb_61⟩ := oInv.nn (i := 12) hIS_57 t_59 rfl
      refine va_get (D := (dC, dI)) (ci := 10) (v := .ref b_61) (C := RX10) (T := TX10) (N := 16) hx hb hts in_wsX10_worthFor_X10 hown hK hP q_60 hq_60 rfl 12 (by decide +kernel) (hts (.fieldLink RX10 59 "ShipOffice" "letters" "[I") iw_X10_worthFor_2) (fun _ h9 => h9) (o_rd hb_61) dX10_worthFor_107 ?_
      have tb_61 : oty S_57 b_61 108 := oInv.rd hIS_57 t_59.2 hb_61 rfl rfl
      refine lv_iconst (v := 5) hx hb dX10_worthFor_110 (by decide +kernel) ?_
      refine lv_iload hx hb dX10_worthFor_111 (lv_at hl 6 rfl) ?_
      obtain ⟨q_62, hq_62⟩ := og (cq := cq) tb_61.1 (oE_a1 (n := 8) tb_61.2 (by decide +kernel))
      refine va_iast hx hb hK hP hD hS q_62 0 hq_62 rfl (by unfold vp_in; decide) dX10_worthFor_113 (fun H locs hP1 hD1 hS => ?_)
      obtain ⟨S_63, eS_63⟩ : ∃ zq, zq = setI S_57 b_61 (5 : Int32).toNatClampNeg x5 := ⟨_, rfl⟩
      have hP : va_P (dC, dI) vwCl (oW cq S_63) H := by rw [eS_63]; exact cP (oset tb_61.1 hq_62 hD rfl (he_a1 (n := 8) tb_61.2 (by decide +kernel)) neI) hP1
      have hD : va_D A (oW cq S_63) := by rw [eS_63]; exact cD (oset tb_61.1 hq_62 hD rfl (he_a1 (n := 8) tb_61.2 (by decide +kernel)) neI) hD1
      clear hP1 hD1
      have hIS_63 : oInv S_63 := by rw [eS_63]; exact oInv.A (k := 108) hIS_57 tb_61.2 (by decide +kernel)
      have XS_63 : oX [2108] S_57 S_63 := by rw [eS_63]; exact oX.I (k := 108) (key := 2108) tb_61.2 rfl (List.mem_singleton.mpr rfl)
      have X_64 : oX [2108, 5001] Z S_63 := oX.st X_58 XS_63 (by decide +kernel)
      refine lv_aload_n hx hb dX10_worthFor_114 rfl (lv_at hl 1 rfl) ?_
      have t_65 : oty S_63 o 10 := (oX.ty XS_63 t_59)
      obtain ⟨q_66, hq_66⟩ := og (cq := cq) t_65.1 (oE_10 t_65.2)
      obtain ⟨b_67, hb_67⟩ := oInv.nn (i := 12) hIS_63 t_65 rfl
      refine va_get (D := (dC, dI)) (ci := 10) (v := .ref b_67) (C := RX10) (T := TX10) (N := 16) hx hb hts in_wsX10_worthFor_X10 hown hK hP q_66 hq_66 rfl 12 (by decide +kernel) (hts (.fieldLink RX10 59 "ShipOffice" "letters" "[I") iw_X10_worthFor_2) (fun _ h9 => h9) (o_rd hb_67) dX10_worthFor_115 ?_
      have tb_67 : oty S_63 b_67 108 := oInv.rd hIS_63 t_65.2 hb_67 rfl rfl
      refine lv_bipush (v := 6) hx hb dX10_worthFor_118 (by decide +kernel) ?_
      refine lv_aload_n hx hb dX10_worthFor_120 rfl (lv_at hl 3 rfl) ?_
      have t_68 : oty S_63 a2 1 := (oX.ty XS_63 (oX.ty XS_57 (oX.ty XS_45 (oX.ty XS_33 t_26))))
      obtain ⟨q_69, hq_69⟩ := og (cq := cq) t_68.1 (oE_1 t_68.2)
      obtain ⟨b_70, hb_70⟩ := oInv.nn (i := 1) hIS_63 t_68 rfl
      refine va_get (D := (dC, dI)) (ci := 1) (v := .ref b_70) (C := RX1) (T := TX1) (N := 18) hx hb hts in_wsX10_worthFor_X1 hown hK hP q_69 hq_69 rfl 1 (by decide +kernel) (hts (.fieldLink RX10 118 "ShipOffice$Agreement" "voyage" "LShipOffice$Voyage;") iw_X10_worthFor_6) (fun _ h9 => h9) (o_rd hb_70) dX10_worthFor_121 ?_
      have tb_70 : oty S_63 b_70 9 := oInv.rd hIS_63 t_68.2 hb_70 rfl rfl
      refine lv_iload_n hx hb dX10_worthFor_124 rfl (lv_at hl 4 rfl) ?_
      refine lv_iload hx hb dX10_worthFor_125 (lv_at hl 5 rfl) ?_
      have hFc : ∀ q, va_A [] H.size q → A q := pu_free hS hA
      obtain ⟨q_71, hq_71⟩ := og (cq := cq) tb_70.1 (oE_9 tb_70.2)
      refine va_calli (va_runV (As := [.int x3, .int x4]) (rest := [.int 6, .ref b_67]) ⟨hx, hb, hml, hown, hts⟩ (c_X9_daysUnheard l dC dI H.size cq S_63 hIS_63 b_70 tb_70 x3 x4) (cwV 2 hts gX10_worthFor_X9_daysUnheard rfl rfl rfl (by decide +kernel) ⟨(Nat.le_of_ble_eq_true rfl), (Nat.le_of_ble_eq_true rfl)⟩) (pr_V (r := (RX9, TX9, 10)) hP hK hD q_71 9 rfl hq_71) rfl rfl hl.1 rfl (lv_room (Nat.le_of_ble_eq_true rfl)) dX10_worthFor_127 ⟨(Nat.le_of_ble_eq_true rfl), (Nat.le_of_ble_eq_true rfl)⟩) hS (fun q _ h => hFc q h) hFc (fun r_73 u t H locs ht hvm w_72 hB hz1 hk1 hS => ?_)
      have hP := pu_keep hP hk1
      clear hk1 hz1 hvm hB ht hFc
      obtain ⟨q_74, hq_74⟩ := og (cq := cq) tb_67.1 (oE_a1 (n := 8) tb_67.2 (by decide +kernel))
      refine va_iast hx hb hK hP hD hS q_74 0 hq_74 rfl (by unfold vp_in; decide) dX10_worthFor_130 (fun H locs hP1 hD1 hS => ?_)
      obtain ⟨S_75, eS_75⟩ : ∃ zq, zq = setI S_63 b_67 (6 : Int32).toNatClampNeg r_73 := ⟨_, rfl⟩
      have hP : va_P (dC, dI) vwCl (oW cq S_75) H := by rw [eS_75]; exact cP (oset tb_67.1 hq_74 hD rfl (he_a1 (n := 8) tb_67.2 (by decide +kernel)) neI) hP1
      have hD : va_D A (oW cq S_75) := by rw [eS_75]; exact cD (oset tb_67.1 hq_74 hD rfl (he_a1 (n := 8) tb_67.2 (by decide +kernel)) neI) hD1
      clear hP1 hD1
      have hIS_75 : oInv S_75 := by rw [eS_75]; exact oInv.A (k := 108) hIS_63 tb_67.2 (by decide +kernel)
      have XS_75 : oX [2108] S_63 S_75 := by rw [eS_75]; exact oX.I (k := 108) (key := 2108) tb_67.2 rfl (List.mem_singleton.mpr rfl)
      have X_76 : oX [2108, 5001] Z S_75 := oX.st X_64 XS_75 (by decide +kernel)
      refine lv_aload_n hx hb dX10_worthFor_131 rfl (lv_at hl 1 rfl) ?_
      have t_77 : oty S_75 o 10 := (oX.ty XS_75 t_65)
      obtain ⟨q_78, hq_78⟩ := og (cq := cq) t_77.1 (oE_10 t_77.2)
      obtain ⟨b_79, hb_79⟩ := oInv.nn (i := 12) hIS_75 t_77 rfl
      refine va_get (D := (dC, dI)) (ci := 10) (v := .ref b_79) (C := RX10) (T := TX10) (N := 16) hx hb hts in_wsX10_worthFor_X10 hown hK hP q_78 hq_78 rfl 12 (by decide +kernel) (hts (.fieldLink RX10 59 "ShipOffice" "letters" "[I") iw_X10_worthFor_2) (fun _ h9 => h9) (o_rd hb_79) dX10_worthFor_132 ?_
      have tb_79 : oty S_75 b_79 108 := oInv.rd hIS_75 t_77.2 hb_79 rfl rfl
      refine lv_bipush (v := 7) hx hb dX10_worthFor_135 (by decide +kernel) ?_
      refine lv_iload hx hb dX10_worthFor_137 (lv_at hl 7 rfl) ?_
      obtain ⟨q_80, hq_80⟩ := og (cq := cq) tb_79.1 (oE_a1 (n := 8) tb_79.2 (by decide +kernel))
      refine va_iast hx hb hK hP hD hS q_80 0 hq_80 rfl (by unfold vp_in; decide) dX10_worthFor_139 (fun H locs hP1 hD1 hS => ?_)
      obtain ⟨S_81, eS_81⟩ : ∃ zq, zq = setI S_75 b_79 (7 : Int32).toNatClampNeg x6 := ⟨_, rfl⟩
      have hP : va_P (dC, dI) vwCl (oW cq S_81) H := by rw [eS_81]; exact cP (oset tb_79.1 hq_80 hD rfl (he_a1 (n := 8) tb_79.2 (by decide +kernel)) neI) hP1
      have hD : va_D A (oW cq S_81) := by rw [eS_81]; exact cD (oset tb_79.1 hq_80 hD rfl (he_a1 (n := 8) tb_79.2 (by decide +kernel)) neI) hD1
      clear hP1 hD1
      have hIS_81 : oInv S_81 := by rw [eS_81]; exact oInv.A (k := 108) hIS_75 tb_79.2 (by decide +kernel)
      have XS_81 : oX [2108] S_75 S_81 := by rw [eS_81]; exact oX.I (k := 108) (key := 2108) tb_79.2 rfl (List.mem_singleton.mpr rfl)
      have X_82 : oX [2108, 5001] Z S_81 := oX.st X_76 XS_81 (by decide +kernel)
      refine lv_aload hx hb dX10_worthFor_140 (lv_at hl 0 rfl) ?_
      refine lv_aload_n hx hb dX10_worthFor_142 rfl (lv_at hl 1 rfl) ?_
      have t_83 : oty S_81 o 10 := (oX.ty XS_81 t_77)
      obtain ⟨q_84, hq_84⟩ := og (cq := cq) t_83.1 (oE_10 t_83.2)
      obtain ⟨b_85, hb_85⟩ := oInv.nn (i := 12) hIS_81 t_83 rfl
      refine va_get (D := (dC, dI)) (ci := 10) (v := .ref b_85) (C := RX10) (T := TX10) (N := 16) hx hb hts in_wsX10_worthFor_X10 hown hK hP q_84 hq_84 rfl 12 (by decide +kernel) (hts (.fieldLink RX10 59 "ShipOffice" "letters" "[I") iw_X10_worthFor_2) (fun _ h9 => h9) (o_rd hb_85) dX10_worthFor_143 ?_
      have tb_85 : oty S_81 b_85 108 := oInv.rd hIS_81 t_83.2 hb_85 rfl rfl
      have t_86 : oty S_81 b_7 0 := (oX.ty XS_81 (oX.ty XS_75 (oX.ty XS_63 (oX.ty XS_57 t_50))))
      have hFc := o_free hD hS hA
      obtain ⟨q_87, hq_87⟩ := og (cq := cq) t_86.1 (oE_0 t_86.2)
      refine va_calli (va_runV (As := [.ref b_85]) (rest := []) ⟨hx, hb, hml, hown, hts⟩ (c_X0_worth l dC dI H.size cq S_81 hIS_81 b_7 t_86 b_85 tb_85) (cwV 1 hts gX10_worthFor_X0_worth rfl rfl rfl (by decide +kernel) ⟨(Nat.le_of_ble_eq_true rfl), (Nat.le_of_ble_eq_true rfl)⟩) (pr_V (r := (RX0, TX0, 5)) hP hK hD q_87 0 rfl hq_87) rfl rfl hl.1 rfl (lv_room (Nat.le_of_ble_eq_true rfl)) dX10_worthFor_146 ⟨(Nat.le_of_ble_eq_true rfl), (Nat.le_of_ble_eq_true rfl)⟩) hS (fun q _ h => hFc q h) hFc (fun r_89 u t H locs ht hvm w_88 hB hz1 hk1 hS => ?_)
      obtain ⟨S_90, rfl⟩ : ∃ z, z = u := ⟨_, rfl⟩
      obtain ⟨hP1, hK1, hD1⟩ := hB
      rw [ht] at hP1
      have hP : va_P (dC, dI) vwCl (oW cq S_90) H := hP1
      have hD : va_D A (oW cq S_90) := hD1.weaken (fun _ _ _ h => hFc _ h)
      clear hP1 hK1 hD1 hk1 hz1 hvm ht hFc
      obtain ⟨hIS_90, XS_90⟩ := w_88
      have X_91 : oX [2108, 5001] Z S_90 := oX.st X_82 XS_90 (by decide +kernel)
      exact W.iret (v := r_89) hx hb hr (fun t ht hW => ⟨⟨r_89, S_90, rfl, ⟨hIS_90, X_91⟩, ⟨by rw [ht]; exact hP, va_K.moved hW.alike hK, hD⟩⟩, hS.F ht⟩) hS.2.2 dX10_worthFor_149
    · have dc_55 := c_ne (a := r_53.toInt) (b := 0) rfl (by decide +kernel) c_55
      refine lv_aload_n hx hb dX10_worthFor_90 rfl (lv_at hl 1 rfl) ?_
      refine lv_aload_n hx hb dX10_worthFor_91 rfl (lv_at hl 3 rfl) ?_
      have t_92 : oty S_45 a2 1 := (oX.ty XS_45 (oX.ty XS_33 t_26))
      obtain ⟨q_93, hq_93⟩ := og (cq := cq) t_92.1 (oE_1 t_92.2)
      obtain ⟨b_94, hb_94⟩ := oInv.nn (i := 1) hIS_45 t_92 rfl
      refine va_get (D := (dC, dI)) (ci := 1) (v := .ref b_94) (C := RX1) (T := TX1) (N := 18) hx hb hts in_wsX10_worthFor_X1 hown hK hP q_93 hq_93 rfl 1 (by decide +kernel) (hts (.fieldLink RX10 118 "ShipOffice$Agreement" "voyage" "LShipOffice$Voyage;") iw_X10_worthFor_6) (fun _ h9 => h9) (o_rd hb_94) dX10_worthFor_92 ?_
      have tb_94 : oty S_45 b_94 9 := oInv.rd hIS_45 t_92.2 hb_94 rfl rfl
      refine lv_iload_n hx hb dX10_worthFor_95 rfl (lv_at hl 4 rfl) ?_
      refine lv_iload hx hb dX10_worthFor_96 (lv_at hl 5 rfl) ?_
      have hFc : ∀ q, va_A [] H.size q → A q := pu_free hS hA
      refine va_calli (va_runV (As := [.ref b_94, .int x3, .int x4]) (rest := [.int 4, .ref b_49]) ⟨hx, hb, hml, hown, hts⟩ (c_X10_menAboard l dC dI H.size cq S_45 hIS_45 o t_47 b_94 tb_94 x3 x4) (cwV 3 hts gX10_worthFor_X10_menAboard rfl rfl rfl (by decide +kernel) ⟨(Nat.le_of_ble_eq_true rfl), (Nat.le_of_ble_eq_true rfl)⟩) (pr_V (r := (RX10, TX10, 16)) hP hK hD q_48 10 rfl hq_48) rfl rfl hl.1 rfl (lv_room (Nat.le_of_ble_eq_true rfl)) dX10_worthFor_98 ⟨(Nat.le_of_ble_eq_true rfl), (Nat.le_of_ble_eq_true rfl)⟩) hS (fun q _ h => hFc q h) hFc (fun r_96 u t H locs ht hvm w_95 hB hz1 hk1 hS => ?_)
      have hP := pu_keep hP hk1
      clear hk1 hz1 hvm hB ht hFc
      refine lv_goto (tgt := 105) hx hb dX10_worthFor_101 (by decide +kernel) ?_
      obtain ⟨q_97, hq_97⟩ := og (cq := cq) tb_49.1 (oE_a1 (n := 8) tb_49.2 (by decide +kernel))
      refine va_iast hx hb hK hP hD hS q_97 0 hq_97 rfl (by unfold vp_in; decide) dX10_worthFor_105 (fun H locs hP1 hD1 hS => ?_)
      obtain ⟨S_98, eS_98⟩ : ∃ zq, zq = setI S_45 b_49 (4 : Int32).toNatClampNeg r_96 := ⟨_, rfl⟩
      have hP : va_P (dC, dI) vwCl (oW cq S_98) H := by rw [eS_98]; exact cP (oset tb_49.1 hq_97 hD rfl (he_a1 (n := 8) tb_49.2 (by decide +kernel)) neI) hP1
      have hD : va_D A (oW cq S_98) := by rw [eS_98]; exact cD (oset tb_49.1 hq_97 hD rfl (he_a1 (n := 8) tb_49.2 (by decide +kernel)) neI) hD1
      clear hP1 hD1
      have hIS_98 : oInv S_98 := by rw [eS_98]; exact oInv.A (k := 108) hIS_45 tb_49.2 (by decide +kernel)
      have XS_98 : oX [2108] S_45 S_98 := by rw [eS_98]; exact oX.I (k := 108) (key := 2108) tb_49.2 rfl (List.mem_singleton.mpr rfl)
      have X_99 : oX [2108, 5001] Z S_98 := oX.st X_46 XS_98 (by decide +kernel)
      refine lv_aload_n hx hb dX10_worthFor_106 rfl (lv_at hl 1 rfl) ?_
      have t_100 : oty S_98 o 10 := (oX.ty XS_98 t_47)
      obtain ⟨q_101, hq_101⟩ := og (cq := cq) t_100.1 (oE_10 t_100.2)
      obtain ⟨b_102, hb_102⟩ := oInv.nn (i := 12) hIS_98 t_100 rfl
      refine va_get (D := (dC, dI)) (ci := 10) (v := .ref b_102) (C := RX10) (T := TX10) (N := 16) hx hb hts in_wsX10_worthFor_X10 hown hK hP q_101 hq_101 rfl 12 (by decide +kernel) (hts (.fieldLink RX10 59 "ShipOffice" "letters" "[I") iw_X10_worthFor_2) (fun _ h9 => h9) (o_rd hb_102) dX10_worthFor_107 ?_
      have tb_102 : oty S_98 b_102 108 := oInv.rd hIS_98 t_100.2 hb_102 rfl rfl
      refine lv_iconst (v := 5) hx hb dX10_worthFor_110 (by decide +kernel) ?_
      refine lv_iload hx hb dX10_worthFor_111 (lv_at hl 6 rfl) ?_
      obtain ⟨q_103, hq_103⟩ := og (cq := cq) tb_102.1 (oE_a1 (n := 8) tb_102.2 (by decide +kernel))
      refine va_iast hx hb hK hP hD hS q_103 0 hq_103 rfl (by unfold vp_in; decide) dX10_worthFor_113 (fun H locs hP1 hD1 hS => ?_)
      obtain ⟨S_104, eS_104⟩ : ∃ zq, zq = setI S_98 b_102 (5 : Int32).toNatClampNeg x5 := ⟨_, rfl⟩
      have hP : va_P (dC, dI) vwCl (oW cq S_104) H := by rw [eS_104]; exact cP (oset tb_102.1 hq_103 hD rfl (he_a1 (n := 8) tb_102.2 (by decide +kernel)) neI) hP1
      have hD : va_D A (oW cq S_104) := by rw [eS_104]; exact cD (oset tb_102.1 hq_103 hD rfl (he_a1 (n := 8) tb_102.2 (by decide +kernel)) neI) hD1
      clear hP1 hD1
      have hIS_104 : oInv S_104 := by rw [eS_104]; exact oInv.A (k := 108) hIS_98 tb_102.2 (by decide +kernel)
      have XS_104 : oX [2108] S_98 S_104 := by rw [eS_104]; exact oX.I (k := 108) (key := 2108) tb_102.2 rfl (List.mem_singleton.mpr rfl)
      have X_105 : oX [2108, 5001] Z S_104 := oX.st X_99 XS_104 (by decide +kernel)
      refine lv_aload_n hx hb dX10_worthFor_114 rfl (lv_at hl 1 rfl) ?_
      have t_106 : oty S_104 o 10 := (oX.ty XS_104 t_100)
      obtain ⟨q_107, hq_107⟩ := og (cq := cq) t_106.1 (oE_10 t_106.2)
      obtain ⟨b_108, hb_108⟩ := oInv.nn (i := 12) hIS_104 t_106 rfl
      refine va_get (D := (dC, dI)) (ci := 10) (v := .ref b_108) (C := RX10) (T := TX10) (N := 16) hx hb hts in_wsX10_worthFor_X10 hown hK hP q_107 hq_107 rfl 12 (by decide +kernel) (hts (.fieldLink RX10 59 "ShipOffice" "letters" "[I") iw_X10_worthFor_2) (fun _ h9 => h9) (o_rd hb_108) dX10_worthFor_115 ?_
      have tb_108 : oty S_104 b_108 108 := oInv.rd hIS_104 t_106.2 hb_108 rfl rfl
      refine lv_bipush (v := 6) hx hb dX10_worthFor_118 (by decide +kernel) ?_
      refine lv_aload_n hx hb dX10_worthFor_120 rfl (lv_at hl 3 rfl) ?_
      have t_109 : oty S_104 a2 1 := (oX.ty XS_104 (oX.ty XS_98 t_92))
      obtain ⟨q_110, hq_110⟩ := og (cq := cq) t_109.1 (oE_1 t_109.2)
      obtain ⟨b_111, hb_111⟩ := oInv.nn (i := 1) hIS_104 t_109 rfl
      refine va_get (D := (dC, dI)) (ci := 1) (v := .ref b_111) (C := RX1) (T := TX1) (N := 18) hx hb hts in_wsX10_worthFor_X1 hown hK hP q_110 hq_110 rfl 1 (by decide +kernel) (hts (.fieldLink RX10 118 "ShipOffice$Agreement" "voyage" "LShipOffice$Voyage;") iw_X10_worthFor_6) (fun _ h9 => h9) (o_rd hb_111) dX10_worthFor_121 ?_
      have tb_111 : oty S_104 b_111 9 := oInv.rd hIS_104 t_109.2 hb_111 rfl rfl
      refine lv_iload_n hx hb dX10_worthFor_124 rfl (lv_at hl 4 rfl) ?_
      refine lv_iload hx hb dX10_worthFor_125 (lv_at hl 5 rfl) ?_
      have hFc : ∀ q, va_A [] H.size q → A q := pu_free hS hA
      obtain ⟨q_112, hq_112⟩ := og (cq := cq) tb_111.1 (oE_9 tb_111.2)
      refine va_calli (va_runV (As := [.int x3, .int x4]) (rest := [.int 6, .ref b_108]) ⟨hx, hb, hml, hown, hts⟩ (c_X9_daysUnheard l dC dI H.size cq S_104 hIS_104 b_111 tb_111 x3 x4) (cwV 2 hts gX10_worthFor_X9_daysUnheard rfl rfl rfl (by decide +kernel) ⟨(Nat.le_of_ble_eq_true rfl), (Nat.le_of_ble_eq_true rfl)⟩) (pr_V (r := (RX9, TX9, 10)) hP hK hD q_112 9 rfl hq_112) rfl rfl hl.1 rfl (lv_room (Nat.le_of_ble_eq_true rfl)) dX10_worthFor_127 ⟨(Nat.le_of_ble_eq_true rfl), (Nat.le_of_ble_eq_true rfl)⟩) hS (fun q _ h => hFc q h) hFc (fun r_114 u t H locs ht hvm w_113 hB hz1 hk1 hS => ?_)
      have hP := pu_keep hP hk1
      clear hk1 hz1 hvm hB ht hFc
      obtain ⟨q_115, hq_115⟩ := og (cq := cq) tb_108.1 (oE_a1 (n := 8) tb_108.2 (by decide +kernel))
      refine va_iast hx hb hK hP hD hS q_115 0 hq_115 rfl (by unfold vp_in; decide) dX10_worthFor_130 (fun H locs hP1 hD1 hS => ?_)
      obtain ⟨S_116, eS_116⟩ : ∃ zq, zq = setI S_104 b_108 (6 : Int32).toNatClampNeg r_114 := ⟨_, rfl⟩
      have hP : va_P (dC, dI) vwCl (oW cq S_116) H := by rw [eS_116]; exact cP (oset tb_108.1 hq_115 hD rfl (he_a1 (n := 8) tb_108.2 (by decide +kernel)) neI) hP1
      have hD : va_D A (oW cq S_116) := by rw [eS_116]; exact cD (oset tb_108.1 hq_115 hD rfl (he_a1 (n := 8) tb_108.2 (by decide +kernel)) neI) hD1
      clear hP1 hD1
      have hIS_116 : oInv S_116 := by rw [eS_116]; exact oInv.A (k := 108) hIS_104 tb_108.2 (by decide +kernel)
      have XS_116 : oX [2108] S_104 S_116 := by rw [eS_116]; exact oX.I (k := 108) (key := 2108) tb_108.2 rfl (List.mem_singleton.mpr rfl)
      have X_117 : oX [2108, 5001] Z S_116 := oX.st X_105 XS_116 (by decide +kernel)
      refine lv_aload_n hx hb dX10_worthFor_131 rfl (lv_at hl 1 rfl) ?_
      have t_118 : oty S_116 o 10 := (oX.ty XS_116 t_106)
      obtain ⟨q_119, hq_119⟩ := og (cq := cq) t_118.1 (oE_10 t_118.2)
      obtain ⟨b_120, hb_120⟩ := oInv.nn (i := 12) hIS_116 t_118 rfl
      refine va_get (D := (dC, dI)) (ci := 10) (v := .ref b_120) (C := RX10) (T := TX10) (N := 16) hx hb hts in_wsX10_worthFor_X10 hown hK hP q_119 hq_119 rfl 12 (by decide +kernel) (hts (.fieldLink RX10 59 "ShipOffice" "letters" "[I") iw_X10_worthFor_2) (fun _ h9 => h9) (o_rd hb_120) dX10_worthFor_132 ?_
      have tb_120 : oty S_116 b_120 108 := oInv.rd hIS_116 t_118.2 hb_120 rfl rfl
      refine lv_bipush (v := 7) hx hb dX10_worthFor_135 (by decide +kernel) ?_
      refine lv_iload hx hb dX10_worthFor_137 (lv_at hl 7 rfl) ?_
      obtain ⟨q_121, hq_121⟩ := og (cq := cq) tb_120.1 (oE_a1 (n := 8) tb_120.2 (by decide +kernel))
      refine va_iast hx hb hK hP hD hS q_121 0 hq_121 rfl (by unfold vp_in; decide) dX10_worthFor_139 (fun H locs hP1 hD1 hS => ?_)
      obtain ⟨S_122, eS_122⟩ : ∃ zq, zq = setI S_116 b_120 (7 : Int32).toNatClampNeg x6 := ⟨_, rfl⟩
      have hP : va_P (dC, dI) vwCl (oW cq S_122) H := by rw [eS_122]; exact cP (oset tb_120.1 hq_121 hD rfl (he_a1 (n := 8) tb_120.2 (by decide +kernel)) neI) hP1
      have hD : va_D A (oW cq S_122) := by rw [eS_122]; exact cD (oset tb_120.1 hq_121 hD rfl (he_a1 (n := 8) tb_120.2 (by decide +kernel)) neI) hD1
      clear hP1 hD1
      have hIS_122 : oInv S_122 := by rw [eS_122]; exact oInv.A (k := 108) hIS_116 tb_120.2 (by decide +kernel)
      have XS_122 : oX [2108] S_116 S_122 := by rw [eS_122]; exact oX.I (k := 108) (key := 2108) tb_120.2 rfl (List.mem_singleton.mpr rfl)
      have X_123 : oX [2108, 5001] Z S_122 := oX.st X_117 XS_122 (by decide +kernel)
      refine lv_aload hx hb dX10_worthFor_140 (lv_at hl 0 rfl) ?_
      refine lv_aload_n hx hb dX10_worthFor_142 rfl (lv_at hl 1 rfl) ?_
      have t_124 : oty S_122 o 10 := (oX.ty XS_122 t_118)
      obtain ⟨q_125, hq_125⟩ := og (cq := cq) t_124.1 (oE_10 t_124.2)
      obtain ⟨b_126, hb_126⟩ := oInv.nn (i := 12) hIS_122 t_124 rfl
      refine va_get (D := (dC, dI)) (ci := 10) (v := .ref b_126) (C := RX10) (T := TX10) (N := 16) hx hb hts in_wsX10_worthFor_X10 hown hK hP q_125 hq_125 rfl 12 (by decide +kernel) (hts (.fieldLink RX10 59 "ShipOffice" "letters" "[I") iw_X10_worthFor_2) (fun _ h9 => h9) (o_rd hb_126) dX10_worthFor_143 ?_
      have tb_126 : oty S_122 b_126 108 := oInv.rd hIS_122 t_124.2 hb_126 rfl rfl
      have t_127 : oty S_122 b_7 0 := (oX.ty XS_122 (oX.ty XS_116 (oX.ty XS_104 (oX.ty XS_98 t_50))))
      have hFc := o_free hD hS hA
      obtain ⟨q_128, hq_128⟩ := og (cq := cq) t_127.1 (oE_0 t_127.2)
      refine va_calli (va_runV (As := [.ref b_126]) (rest := []) ⟨hx, hb, hml, hown, hts⟩ (c_X0_worth l dC dI H.size cq S_122 hIS_122 b_7 t_127 b_126 tb_126) (cwV 1 hts gX10_worthFor_X0_worth rfl rfl rfl (by decide +kernel) ⟨(Nat.le_of_ble_eq_true rfl), (Nat.le_of_ble_eq_true rfl)⟩) (pr_V (r := (RX0, TX0, 5)) hP hK hD q_128 0 rfl hq_128) rfl rfl hl.1 rfl (lv_room (Nat.le_of_ble_eq_true rfl)) dX10_worthFor_146 ⟨(Nat.le_of_ble_eq_true rfl), (Nat.le_of_ble_eq_true rfl)⟩) hS (fun q _ h => hFc q h) hFc (fun r_130 u t H locs ht hvm w_129 hB hz1 hk1 hS => ?_)
      obtain ⟨S_131, rfl⟩ : ∃ z, z = u := ⟨_, rfl⟩
      obtain ⟨hP1, hK1, hD1⟩ := hB
      rw [ht] at hP1
      have hP : va_P (dC, dI) vwCl (oW cq S_131) H := hP1
      have hD : va_D A (oW cq S_131) := hD1.weaken (fun _ _ _ h => hFc _ h)
      clear hP1 hK1 hD1 hk1 hz1 hvm ht hFc
      obtain ⟨hIS_131, XS_131⟩ := w_129
      have X_132 : oX [2108, 5001] Z S_131 := oX.st X_123 XS_131 (by decide +kernel)
      exact W.iret (v := r_130) hx hb hr (fun t ht hW => ⟨⟨r_130, S_131, rfl, ⟨hIS_131, X_132⟩, ⟨by rw [ht]; exact hP, va_K.moved hW.alike hK, hD⟩⟩, hS.F ht⟩) hS.2.2 dX10_worthFor_149
  · have dc_43 := c_ne (a := r_41.toInt) (b := 0) rfl (by decide +kernel) c_43
    refine lv_aload_n hx hb dX10_worthFor_59 rfl (lv_at hl 3 rfl) ?_
    refine lv_iconst (v := 2) hx hb dX10_worthFor_60 (by decide +kernel) ?_
    refine lv_iload_n hx hb dX10_worthFor_61 rfl (lv_at hl 4 rfl) ?_
    refine lv_iload hx hb dX10_worthFor_62 (lv_at hl 5 rfl) ?_
    refine lv_aload_n hx hb dX10_worthFor_64 rfl (lv_at hl 1 rfl) ?_
    obtain ⟨b_133, hb_133⟩ := oInv.nn (i := 8) hIS_33 t_35 rfl
    refine va_get (D := (dC, dI)) (ci := 10) (v := .ref b_133) (C := RX10) (T := TX10) (N := 16) hx hb hts in_wsX10_worthFor_X10 hown hK hP q_36 hq_36 rfl 8 (by decide +kernel) (hts (.fieldLink RX10 30 "ShipOffice" "law" "LShipOffice$Law;") iw_X10_worthFor_1) (fun _ h9 => h9) (o_rd hb_133) dX10_worthFor_65 ?_
    have tb_133 : oty S_33 b_133 5 := oInv.rd hIS_33 t_35.2 hb_133 rfl rfl
    have t_134 : oty S_33 a2 1 := (oX.ty XS_33 t_26)
    have hFc : ∀ q, va_A [] H.size q → A q := pu_free hS hA
    obtain ⟨q_135, hq_135⟩ := og (cq := cq) t_134.1 (oE_1 t_134.2)
    refine va_calli (va_runV (As := [.int 2, .int x3, .int x4, .ref b_133]) (rest := [.int 3, .ref b_37]) ⟨hx, hb, hml, hown, hts⟩ (c_X1_daysIn l dC dI H.size cq S_33 hIS_33 a2 t_134 2 x3 x4 b_133 tb_133) (cwV 4 hts gX10_worthFor_X1_daysIn rfl rfl rfl (by decide +kernel) ⟨(Nat.le_of_ble_eq_true rfl), (Nat.le_of_ble_eq_true rfl)⟩) (pr_V (r := (RX1, TX1, 18)) hP hK hD q_135 1 rfl hq_135) rfl rfl hl.1 rfl (lv_room (Nat.le_of_ble_eq_true rfl)) dX10_worthFor_68 ⟨(Nat.le_of_ble_eq_true rfl), (Nat.le_of_ble_eq_true rfl)⟩) hS (fun q _ h => hFc q h) hFc (fun r_137 u t H locs ht hvm w_136 hB hz1 hk1 hS => ?_)
    have hP := pu_keep hP hk1
    clear hk1 hz1 hvm hB ht hFc
    refine lv_goto (tgt := 75) hx hb dX10_worthFor_71 (by decide +kernel) ?_
    obtain ⟨q_138, hq_138⟩ := og (cq := cq) tb_37.1 (oE_a1 (n := 8) tb_37.2 (by decide +kernel))
    refine va_iast hx hb hK hP hD hS q_138 0 hq_138 rfl (by unfold vp_in; decide) dX10_worthFor_75 (fun H locs hP1 hD1 hS => ?_)
    obtain ⟨S_139, eS_139⟩ : ∃ zq, zq = setI S_33 b_37 (3 : Int32).toNatClampNeg r_137 := ⟨_, rfl⟩
    have hP : va_P (dC, dI) vwCl (oW cq S_139) H := by rw [eS_139]; exact cP (oset tb_37.1 hq_138 hD rfl (he_a1 (n := 8) tb_37.2 (by decide +kernel)) neI) hP1
    have hD : va_D A (oW cq S_139) := by rw [eS_139]; exact cD (oset tb_37.1 hq_138 hD rfl (he_a1 (n := 8) tb_37.2 (by decide +kernel)) neI) hD1
    clear hP1 hD1
    have hIS_139 : oInv S_139 := by rw [eS_139]; exact oInv.A (k := 108) hIS_33 tb_37.2 (by decide +kernel)
    have XS_139 : oX [2108] S_33 S_139 := by rw [eS_139]; exact oX.I (k := 108) (key := 2108) tb_37.2 rfl (List.mem_singleton.mpr rfl)
    have X_140 : oX [2108, 5001] Z S_139 := oX.st X_34 XS_139 (by decide +kernel)
    refine lv_aload_n hx hb dX10_worthFor_76 rfl (lv_at hl 1 rfl) ?_
    have t_141 : oty S_139 o 10 := (oX.ty XS_139 t_35)
    obtain ⟨q_142, hq_142⟩ := og (cq := cq) t_141.1 (oE_10 t_141.2)
    obtain ⟨b_143, hb_143⟩ := oInv.nn (i := 12) hIS_139 t_141 rfl
    refine va_get (D := (dC, dI)) (ci := 10) (v := .ref b_143) (C := RX10) (T := TX10) (N := 16) hx hb hts in_wsX10_worthFor_X10 hown hK hP q_142 hq_142 rfl 12 (by decide +kernel) (hts (.fieldLink RX10 59 "ShipOffice" "letters" "[I") iw_X10_worthFor_2) (fun _ h9 => h9) (o_rd hb_143) dX10_worthFor_77 ?_
    have tb_143 : oty S_139 b_143 108 := oInv.rd hIS_139 t_141.2 hb_143 rfl rfl
    refine lv_iconst (v := 4) hx hb dX10_worthFor_80 (by decide +kernel) ?_
    refine lv_aload hx hb dX10_worthFor_81 (lv_at hl 0 rfl) ?_
    refine lv_iconst (v := 4) hx hb dX10_worthFor_83 (by decide +kernel) ?_
    have t_144 : oty S_139 b_7 0 := (oX.ty XS_139 t_38)
    have hFc : ∀ q, va_A [] H.size q → A q := pu_free hS hA
    obtain ⟨q_145, hq_145⟩ := og (cq := cq) t_144.1 (oE_0 t_144.2)
    refine va_calli (va_runV (As := [.int 4]) (rest := [.int 4, .ref b_143]) ⟨hx, hb, hml, hown, hts⟩ (c_X0_uses l dC dI H.size cq S_139 hIS_139 b_7 t_144 4) (cwV 1 hts gX10_worthFor_X0_uses rfl rfl rfl (by decide +kernel) ⟨(Nat.le_of_ble_eq_true rfl), (Nat.le_of_ble_eq_true rfl)⟩) (pr_V (r := (RX0, TX0, 5)) hP hK hD q_145 0 rfl hq_145) rfl rfl hl.1 rfl (lv_room (Nat.le_of_ble_eq_true rfl)) dX10_worthFor_84 ⟨(Nat.le_of_ble_eq_true rfl), (Nat.le_of_ble_eq_true rfl)⟩) hS (fun q _ h => hFc q h) hFc (fun r_147 u t H locs ht hvm w_146 hB hz1 hk1 hS => ?_)
    have hP := pu_keep hP hk1
    clear hk1 hz1 hvm hB ht hFc
    have hb_148 := w_146
    refine lv_if_eq (tgt := 104) hx hb dX10_worthFor_87 (by decide +kernel) (fun c_149 => ?_) (fun c_149 => ?_)
    · have dc_149 := c_eq (a := r_147.toInt) (b := 0) rfl (by decide +kernel) c_149
      refine lv_iconst (v := 0) hx hb dX10_worthFor_104 (by decide +kernel) ?_
      obtain ⟨q_150, hq_150⟩ := og (cq := cq) tb_143.1 (oE_a1 (n := 8) tb_143.2 (by decide +kernel))
      refine va_iast hx hb hK hP hD hS q_150 0 hq_150 rfl (by unfold vp_in; decide) dX10_worthFor_105 (fun H locs hP1 hD1 hS => ?_)
      obtain ⟨S_151, eS_151⟩ : ∃ zq, zq = setI S_139 b_143 (4 : Int32).toNatClampNeg 0 := ⟨_, rfl⟩
      have hP : va_P (dC, dI) vwCl (oW cq S_151) H := by rw [eS_151]; exact cP (oset tb_143.1 hq_150 hD rfl (he_a1 (n := 8) tb_143.2 (by decide +kernel)) neI) hP1
      have hD : va_D A (oW cq S_151) := by rw [eS_151]; exact cD (oset tb_143.1 hq_150 hD rfl (he_a1 (n := 8) tb_143.2 (by decide +kernel)) neI) hD1
      clear hP1 hD1
      have hIS_151 : oInv S_151 := by rw [eS_151]; exact oInv.A (k := 108) hIS_139 tb_143.2 (by decide +kernel)
      have XS_151 : oX [2108] S_139 S_151 := by rw [eS_151]; exact oX.I (k := 108) (key := 2108) tb_143.2 rfl (List.mem_singleton.mpr rfl)
      have X_152 : oX [2108, 5001] Z S_151 := oX.st X_140 XS_151 (by decide +kernel)
      refine lv_aload_n hx hb dX10_worthFor_106 rfl (lv_at hl 1 rfl) ?_
      have t_153 : oty S_151 o 10 := (oX.ty XS_151 t_141)
      obtain ⟨q_154, hq_154⟩ := og (cq := cq) t_153.1 (oE_10 t_153.2)
      obtain ⟨b_155, hb_155⟩ := oInv.nn (i := 12) hIS_151 t_153 rfl
      refine va_get (D := (dC, dI)) (ci := 10) (v := .ref b_155) (C := RX10) (T := TX10) (N := 16) hx hb hts in_wsX10_worthFor_X10 hown hK hP q_154 hq_154 rfl 12 (by decide +kernel) (hts (.fieldLink RX10 59 "ShipOffice" "letters" "[I") iw_X10_worthFor_2) (fun _ h9 => h9) (o_rd hb_155) dX10_worthFor_107 ?_
      have tb_155 : oty S_151 b_155 108 := oInv.rd hIS_151 t_153.2 hb_155 rfl rfl
      refine lv_iconst (v := 5) hx hb dX10_worthFor_110 (by decide +kernel) ?_
      refine lv_iload hx hb dX10_worthFor_111 (lv_at hl 6 rfl) ?_
      obtain ⟨q_156, hq_156⟩ := og (cq := cq) tb_155.1 (oE_a1 (n := 8) tb_155.2 (by decide +kernel))
      refine va_iast hx hb hK hP hD hS q_156 0 hq_156 rfl (by unfold vp_in; decide) dX10_worthFor_113 (fun H locs hP1 hD1 hS => ?_)
      obtain ⟨S_157, eS_157⟩ : ∃ zq, zq = setI S_151 b_155 (5 : Int32).toNatClampNeg x5 := ⟨_, rfl⟩
      have hP : va_P (dC, dI) vwCl (oW cq S_157) H := by rw [eS_157]; exact cP (oset tb_155.1 hq_156 hD rfl (he_a1 (n := 8) tb_155.2 (by decide +kernel)) neI) hP1
      have hD : va_D A (oW cq S_157) := by rw [eS_157]; exact cD (oset tb_155.1 hq_156 hD rfl (he_a1 (n := 8) tb_155.2 (by decide +kernel)) neI) hD1
      clear hP1 hD1
      have hIS_157 : oInv S_157 := by rw [eS_157]; exact oInv.A (k := 108) hIS_151 tb_155.2 (by decide +kernel)
      have XS_157 : oX [2108] S_151 S_157 := by rw [eS_157]; exact oX.I (k := 108) (key := 2108) tb_155.2 rfl (List.mem_singleton.mpr rfl)
      have X_158 : oX [2108, 5001] Z S_157 := oX.st X_152 XS_157 (by decide +kernel)
      refine lv_aload_n hx hb dX10_worthFor_114 rfl (lv_at hl 1 rfl) ?_
      have t_159 : oty S_157 o 10 := (oX.ty XS_157 t_153)
      obtain ⟨q_160, hq_160⟩ := og (cq := cq) t_159.1 (oE_10 t_159.2)
      obtain ⟨b_161, hb_161⟩ := oInv.nn (i := 12) hIS_157 t_159 rfl
      refine va_get (D := (dC, dI)) (ci := 10) (v := .ref b_161) (C := RX10) (T := TX10) (N := 16) hx hb hts in_wsX10_worthFor_X10 hown hK hP q_160 hq_160 rfl 12 (by decide +kernel) (hts (.fieldLink RX10 59 "ShipOffice" "letters" "[I") iw_X10_worthFor_2) (fun _ h9 => h9) (o_rd hb_161) dX10_worthFor_115 ?_
      have tb_161 : oty S_157 b_161 108 := oInv.rd hIS_157 t_159.2 hb_161 rfl rfl
      refine lv_bipush (v := 6) hx hb dX10_worthFor_118 (by decide +kernel) ?_
      refine lv_aload_n hx hb dX10_worthFor_120 rfl (lv_at hl 3 rfl) ?_
      have t_162 : oty S_157 a2 1 := (oX.ty XS_157 (oX.ty XS_151 (oX.ty XS_139 t_134)))
      obtain ⟨q_163, hq_163⟩ := og (cq := cq) t_162.1 (oE_1 t_162.2)
      obtain ⟨b_164, hb_164⟩ := oInv.nn (i := 1) hIS_157 t_162 rfl
      refine va_get (D := (dC, dI)) (ci := 1) (v := .ref b_164) (C := RX1) (T := TX1) (N := 18) hx hb hts in_wsX10_worthFor_X1 hown hK hP q_163 hq_163 rfl 1 (by decide +kernel) (hts (.fieldLink RX10 118 "ShipOffice$Agreement" "voyage" "LShipOffice$Voyage;") iw_X10_worthFor_6) (fun _ h9 => h9) (o_rd hb_164) dX10_worthFor_121 ?_
      have tb_164 : oty S_157 b_164 9 := oInv.rd hIS_157 t_162.2 hb_164 rfl rfl
      refine lv_iload_n hx hb dX10_worthFor_124 rfl (lv_at hl 4 rfl) ?_
      refine lv_iload hx hb dX10_worthFor_125 (lv_at hl 5 rfl) ?_
      have hFc : ∀ q, va_A [] H.size q → A q := pu_free hS hA
      obtain ⟨q_165, hq_165⟩ := og (cq := cq) tb_164.1 (oE_9 tb_164.2)
      refine va_calli (va_runV (As := [.int x3, .int x4]) (rest := [.int 6, .ref b_161]) ⟨hx, hb, hml, hown, hts⟩ (c_X9_daysUnheard l dC dI H.size cq S_157 hIS_157 b_164 tb_164 x3 x4) (cwV 2 hts gX10_worthFor_X9_daysUnheard rfl rfl rfl (by decide +kernel) ⟨(Nat.le_of_ble_eq_true rfl), (Nat.le_of_ble_eq_true rfl)⟩) (pr_V (r := (RX9, TX9, 10)) hP hK hD q_165 9 rfl hq_165) rfl rfl hl.1 rfl (lv_room (Nat.le_of_ble_eq_true rfl)) dX10_worthFor_127 ⟨(Nat.le_of_ble_eq_true rfl), (Nat.le_of_ble_eq_true rfl)⟩) hS (fun q _ h => hFc q h) hFc (fun r_167 u t H locs ht hvm w_166 hB hz1 hk1 hS => ?_)
      have hP := pu_keep hP hk1
      clear hk1 hz1 hvm hB ht hFc
      obtain ⟨q_168, hq_168⟩ := og (cq := cq) tb_161.1 (oE_a1 (n := 8) tb_161.2 (by decide +kernel))
      refine va_iast hx hb hK hP hD hS q_168 0 hq_168 rfl (by unfold vp_in; decide) dX10_worthFor_130 (fun H locs hP1 hD1 hS => ?_)
      obtain ⟨S_169, eS_169⟩ : ∃ zq, zq = setI S_157 b_161 (6 : Int32).toNatClampNeg r_167 := ⟨_, rfl⟩
      have hP : va_P (dC, dI) vwCl (oW cq S_169) H := by rw [eS_169]; exact cP (oset tb_161.1 hq_168 hD rfl (he_a1 (n := 8) tb_161.2 (by decide +kernel)) neI) hP1
      have hD : va_D A (oW cq S_169) := by rw [eS_169]; exact cD (oset tb_161.1 hq_168 hD rfl (he_a1 (n := 8) tb_161.2 (by decide +kernel)) neI) hD1
      clear hP1 hD1
      have hIS_169 : oInv S_169 := by rw [eS_169]; exact oInv.A (k := 108) hIS_157 tb_161.2 (by decide +kernel)
      have XS_169 : oX [2108] S_157 S_169 := by rw [eS_169]; exact oX.I (k := 108) (key := 2108) tb_161.2 rfl (List.mem_singleton.mpr rfl)
      have X_170 : oX [2108, 5001] Z S_169 := oX.st X_158 XS_169 (by decide +kernel)
      refine lv_aload_n hx hb dX10_worthFor_131 rfl (lv_at hl 1 rfl) ?_
      have t_171 : oty S_169 o 10 := (oX.ty XS_169 t_159)
      obtain ⟨q_172, hq_172⟩ := og (cq := cq) t_171.1 (oE_10 t_171.2)
      obtain ⟨b_173, hb_173⟩ := oInv.nn (i := 12) hIS_169 t_171 rfl
      refine va_get (D := (dC, dI)) (ci := 10) (v := .ref b_173) (C := RX10) (T := TX10) (N := 16) hx hb hts in_wsX10_worthFor_X10 hown hK hP q_172 hq_172 rfl 12 (by decide +kernel) (hts (.fieldLink RX10 59 "ShipOffice" "letters" "[I") iw_X10_worthFor_2) (fun _ h9 => h9) (o_rd hb_173) dX10_worthFor_132 ?_
      have tb_173 : oty S_169 b_173 108 := oInv.rd hIS_169 t_171.2 hb_173 rfl rfl
      refine lv_bipush (v := 7) hx hb dX10_worthFor_135 (by decide +kernel) ?_
      refine lv_iload hx hb dX10_worthFor_137 (lv_at hl 7 rfl) ?_
      obtain ⟨q_174, hq_174⟩ := og (cq := cq) tb_173.1 (oE_a1 (n := 8) tb_173.2 (by decide +kernel))
      refine va_iast hx hb hK hP hD hS q_174 0 hq_174 rfl (by unfold vp_in; decide) dX10_worthFor_139 (fun H locs hP1 hD1 hS => ?_)
      obtain ⟨S_175, eS_175⟩ : ∃ zq, zq = setI S_169 b_173 (7 : Int32).toNatClampNeg x6 := ⟨_, rfl⟩
      have hP : va_P (dC, dI) vwCl (oW cq S_175) H := by rw [eS_175]; exact cP (oset tb_173.1 hq_174 hD rfl (he_a1 (n := 8) tb_173.2 (by decide +kernel)) neI) hP1
      have hD : va_D A (oW cq S_175) := by rw [eS_175]; exact cD (oset tb_173.1 hq_174 hD rfl (he_a1 (n := 8) tb_173.2 (by decide +kernel)) neI) hD1
      clear hP1 hD1
      have hIS_175 : oInv S_175 := by rw [eS_175]; exact oInv.A (k := 108) hIS_169 tb_173.2 (by decide +kernel)
      have XS_175 : oX [2108] S_169 S_175 := by rw [eS_175]; exact oX.I (k := 108) (key := 2108) tb_173.2 rfl (List.mem_singleton.mpr rfl)
      have X_176 : oX [2108, 5001] Z S_175 := oX.st X_170 XS_175 (by decide +kernel)
      refine lv_aload hx hb dX10_worthFor_140 (lv_at hl 0 rfl) ?_
      refine lv_aload_n hx hb dX10_worthFor_142 rfl (lv_at hl 1 rfl) ?_
      have t_177 : oty S_175 o 10 := (oX.ty XS_175 t_171)
      obtain ⟨q_178, hq_178⟩ := og (cq := cq) t_177.1 (oE_10 t_177.2)
      obtain ⟨b_179, hb_179⟩ := oInv.nn (i := 12) hIS_175 t_177 rfl
      refine va_get (D := (dC, dI)) (ci := 10) (v := .ref b_179) (C := RX10) (T := TX10) (N := 16) hx hb hts in_wsX10_worthFor_X10 hown hK hP q_178 hq_178 rfl 12 (by decide +kernel) (hts (.fieldLink RX10 59 "ShipOffice" "letters" "[I") iw_X10_worthFor_2) (fun _ h9 => h9) (o_rd hb_179) dX10_worthFor_143 ?_
      have tb_179 : oty S_175 b_179 108 := oInv.rd hIS_175 t_177.2 hb_179 rfl rfl
      have t_180 : oty S_175 b_7 0 := (oX.ty XS_175 (oX.ty XS_169 (oX.ty XS_157 (oX.ty XS_151 t_144))))
      have hFc := o_free hD hS hA
      obtain ⟨q_181, hq_181⟩ := og (cq := cq) t_180.1 (oE_0 t_180.2)
      refine va_calli (va_runV (As := [.ref b_179]) (rest := []) ⟨hx, hb, hml, hown, hts⟩ (c_X0_worth l dC dI H.size cq S_175 hIS_175 b_7 t_180 b_179 tb_179) (cwV 1 hts gX10_worthFor_X0_worth rfl rfl rfl (by decide +kernel) ⟨(Nat.le_of_ble_eq_true rfl), (Nat.le_of_ble_eq_true rfl)⟩) (pr_V (r := (RX0, TX0, 5)) hP hK hD q_181 0 rfl hq_181) rfl rfl hl.1 rfl (lv_room (Nat.le_of_ble_eq_true rfl)) dX10_worthFor_146 ⟨(Nat.le_of_ble_eq_true rfl), (Nat.le_of_ble_eq_true rfl)⟩) hS (fun q _ h => hFc q h) hFc (fun r_183 u t H locs ht hvm w_182 hB hz1 hk1 hS => ?_)
      obtain ⟨S_184, rfl⟩ : ∃ z, z = u := ⟨_, rfl⟩
      obtain ⟨hP1, hK1, hD1⟩ := hB
      rw [ht] at hP1
      have hP : va_P (dC, dI) vwCl (oW cq S_184) H := hP1
      have hD : va_D A (oW cq S_184) := hD1.weaken (fun _ _ _ h => hFc _ h)
      clear hP1 hK1 hD1 hk1 hz1 hvm ht hFc
      obtain ⟨hIS_184, XS_184⟩ := w_182
      have X_185 : oX [2108, 5001] Z S_184 := oX.st X_176 XS_184 (by decide +kernel)
      exact W.iret (v := r_183) hx hb hr (fun t ht hW => ⟨⟨r_183, S_184, rfl, ⟨hIS_184, X_185⟩, ⟨by rw [ht]; exact hP, va_K.moved hW.alike hK, hD⟩⟩, hS.F ht⟩) hS.2.2 dX10_worthFor_149
    · have dc_149 := c_ne (a := r_147.toInt) (b := 0) rfl (by decide +kernel) c_149
      refine lv_aload_n hx hb dX10_worthFor_90 rfl (lv_at hl 1 rfl) ?_
      refine lv_aload_n hx hb dX10_worthFor_91 rfl (lv_at hl 3 rfl) ?_
      have t_186 : oty S_139 a2 1 := (oX.ty XS_139 t_134)
      obtain ⟨q_187, hq_187⟩ := og (cq := cq) t_186.1 (oE_1 t_186.2)
      obtain ⟨b_188, hb_188⟩ := oInv.nn (i := 1) hIS_139 t_186 rfl
      refine va_get (D := (dC, dI)) (ci := 1) (v := .ref b_188) (C := RX1) (T := TX1) (N := 18) hx hb hts in_wsX10_worthFor_X1 hown hK hP q_187 hq_187 rfl 1 (by decide +kernel) (hts (.fieldLink RX10 118 "ShipOffice$Agreement" "voyage" "LShipOffice$Voyage;") iw_X10_worthFor_6) (fun _ h9 => h9) (o_rd hb_188) dX10_worthFor_92 ?_
      have tb_188 : oty S_139 b_188 9 := oInv.rd hIS_139 t_186.2 hb_188 rfl rfl
      refine lv_iload_n hx hb dX10_worthFor_95 rfl (lv_at hl 4 rfl) ?_
      refine lv_iload hx hb dX10_worthFor_96 (lv_at hl 5 rfl) ?_
      have hFc : ∀ q, va_A [] H.size q → A q := pu_free hS hA
      refine va_calli (va_runV (As := [.ref b_188, .int x3, .int x4]) (rest := [.int 4, .ref b_143]) ⟨hx, hb, hml, hown, hts⟩ (c_X10_menAboard l dC dI H.size cq S_139 hIS_139 o t_141 b_188 tb_188 x3 x4) (cwV 3 hts gX10_worthFor_X10_menAboard rfl rfl rfl (by decide +kernel) ⟨(Nat.le_of_ble_eq_true rfl), (Nat.le_of_ble_eq_true rfl)⟩) (pr_V (r := (RX10, TX10, 16)) hP hK hD q_142 10 rfl hq_142) rfl rfl hl.1 rfl (lv_room (Nat.le_of_ble_eq_true rfl)) dX10_worthFor_98 ⟨(Nat.le_of_ble_eq_true rfl), (Nat.le_of_ble_eq_true rfl)⟩) hS (fun q _ h => hFc q h) hFc (fun r_190 u t H locs ht hvm w_189 hB hz1 hk1 hS => ?_)
      have hP := pu_keep hP hk1
      clear hk1 hz1 hvm hB ht hFc
      refine lv_goto (tgt := 105) hx hb dX10_worthFor_101 (by decide +kernel) ?_
      obtain ⟨q_191, hq_191⟩ := og (cq := cq) tb_143.1 (oE_a1 (n := 8) tb_143.2 (by decide +kernel))
      refine va_iast hx hb hK hP hD hS q_191 0 hq_191 rfl (by unfold vp_in; decide) dX10_worthFor_105 (fun H locs hP1 hD1 hS => ?_)
      obtain ⟨S_192, eS_192⟩ : ∃ zq, zq = setI S_139 b_143 (4 : Int32).toNatClampNeg r_190 := ⟨_, rfl⟩
      have hP : va_P (dC, dI) vwCl (oW cq S_192) H := by rw [eS_192]; exact cP (oset tb_143.1 hq_191 hD rfl (he_a1 (n := 8) tb_143.2 (by decide +kernel)) neI) hP1
      have hD : va_D A (oW cq S_192) := by rw [eS_192]; exact cD (oset tb_143.1 hq_191 hD rfl (he_a1 (n := 8) tb_143.2 (by decide +kernel)) neI) hD1
      clear hP1 hD1
      have hIS_192 : oInv S_192 := by rw [eS_192]; exact oInv.A (k := 108) hIS_139 tb_143.2 (by decide +kernel)
      have XS_192 : oX [2108] S_139 S_192 := by rw [eS_192]; exact oX.I (k := 108) (key := 2108) tb_143.2 rfl (List.mem_singleton.mpr rfl)
      have X_193 : oX [2108, 5001] Z S_192 := oX.st X_140 XS_192 (by decide +kernel)
      refine lv_aload_n hx hb dX10_worthFor_106 rfl (lv_at hl 1 rfl) ?_
      have t_194 : oty S_192 o 10 := (oX.ty XS_192 t_141)
      obtain ⟨q_195, hq_195⟩ := og (cq := cq) t_194.1 (oE_10 t_194.2)
      obtain ⟨b_196, hb_196⟩ := oInv.nn (i := 12) hIS_192 t_194 rfl
      refine va_get (D := (dC, dI)) (ci := 10) (v := .ref b_196) (C := RX10) (T := TX10) (N := 16) hx hb hts in_wsX10_worthFor_X10 hown hK hP q_195 hq_195 rfl 12 (by decide +kernel) (hts (.fieldLink RX10 59 "ShipOffice" "letters" "[I") iw_X10_worthFor_2) (fun _ h9 => h9) (o_rd hb_196) dX10_worthFor_107 ?_
      have tb_196 : oty S_192 b_196 108 := oInv.rd hIS_192 t_194.2 hb_196 rfl rfl
      refine lv_iconst (v := 5) hx hb dX10_worthFor_110 (by decide +kernel) ?_
      refine lv_iload hx hb dX10_worthFor_111 (lv_at hl 6 rfl) ?_
      obtain ⟨q_197, hq_197⟩ := og (cq := cq) tb_196.1 (oE_a1 (n := 8) tb_196.2 (by decide +kernel))
      refine va_iast hx hb hK hP hD hS q_197 0 hq_197 rfl (by unfold vp_in; decide) dX10_worthFor_113 (fun H locs hP1 hD1 hS => ?_)
      obtain ⟨S_198, eS_198⟩ : ∃ zq, zq = setI S_192 b_196 (5 : Int32).toNatClampNeg x5 := ⟨_, rfl⟩
      have hP : va_P (dC, dI) vwCl (oW cq S_198) H := by rw [eS_198]; exact cP (oset tb_196.1 hq_197 hD rfl (he_a1 (n := 8) tb_196.2 (by decide +kernel)) neI) hP1
      have hD : va_D A (oW cq S_198) := by rw [eS_198]; exact cD (oset tb_196.1 hq_197 hD rfl (he_a1 (n := 8) tb_196.2 (by decide +kernel)) neI) hD1
      clear hP1 hD1
      have hIS_198 : oInv S_198 := by rw [eS_198]; exact oInv.A (k := 108) hIS_192 tb_196.2 (by decide +kernel)
      have XS_198 : oX [2108] S_192 S_198 := by rw [eS_198]; exact oX.I (k := 108) (key := 2108) tb_196.2 rfl (List.mem_singleton.mpr rfl)
      have X_199 : oX [2108, 5001] Z S_198 := oX.st X_193 XS_198 (by decide +kernel)
      refine lv_aload_n hx hb dX10_worthFor_114 rfl (lv_at hl 1 rfl) ?_
      have t_200 : oty S_198 o 10 := (oX.ty XS_198 t_194)
      obtain ⟨q_201, hq_201⟩ := og (cq := cq) t_200.1 (oE_10 t_200.2)
      obtain ⟨b_202, hb_202⟩ := oInv.nn (i := 12) hIS_198 t_200 rfl
      refine va_get (D := (dC, dI)) (ci := 10) (v := .ref b_202) (C := RX10) (T := TX10) (N := 16) hx hb hts in_wsX10_worthFor_X10 hown hK hP q_201 hq_201 rfl 12 (by decide +kernel) (hts (.fieldLink RX10 59 "ShipOffice" "letters" "[I") iw_X10_worthFor_2) (fun _ h9 => h9) (o_rd hb_202) dX10_worthFor_115 ?_
      have tb_202 : oty S_198 b_202 108 := oInv.rd hIS_198 t_200.2 hb_202 rfl rfl
      refine lv_bipush (v := 6) hx hb dX10_worthFor_118 (by decide +kernel) ?_
      refine lv_aload_n hx hb dX10_worthFor_120 rfl (lv_at hl 3 rfl) ?_
      have t_203 : oty S_198 a2 1 := (oX.ty XS_198 (oX.ty XS_192 t_186))
      obtain ⟨q_204, hq_204⟩ := og (cq := cq) t_203.1 (oE_1 t_203.2)
      obtain ⟨b_205, hb_205⟩ := oInv.nn (i := 1) hIS_198 t_203 rfl
      refine va_get (D := (dC, dI)) (ci := 1) (v := .ref b_205) (C := RX1) (T := TX1) (N := 18) hx hb hts in_wsX10_worthFor_X1 hown hK hP q_204 hq_204 rfl 1 (by decide +kernel) (hts (.fieldLink RX10 118 "ShipOffice$Agreement" "voyage" "LShipOffice$Voyage;") iw_X10_worthFor_6) (fun _ h9 => h9) (o_rd hb_205) dX10_worthFor_121 ?_
      have tb_205 : oty S_198 b_205 9 := oInv.rd hIS_198 t_203.2 hb_205 rfl rfl
      refine lv_iload_n hx hb dX10_worthFor_124 rfl (lv_at hl 4 rfl) ?_
      refine lv_iload hx hb dX10_worthFor_125 (lv_at hl 5 rfl) ?_
      have hFc : ∀ q, va_A [] H.size q → A q := pu_free hS hA
      obtain ⟨q_206, hq_206⟩ := og (cq := cq) tb_205.1 (oE_9 tb_205.2)
      refine va_calli (va_runV (As := [.int x3, .int x4]) (rest := [.int 6, .ref b_202]) ⟨hx, hb, hml, hown, hts⟩ (c_X9_daysUnheard l dC dI H.size cq S_198 hIS_198 b_205 tb_205 x3 x4) (cwV 2 hts gX10_worthFor_X9_daysUnheard rfl rfl rfl (by decide +kernel) ⟨(Nat.le_of_ble_eq_true rfl), (Nat.le_of_ble_eq_true rfl)⟩) (pr_V (r := (RX9, TX9, 10)) hP hK hD q_206 9 rfl hq_206) rfl rfl hl.1 rfl (lv_room (Nat.le_of_ble_eq_true rfl)) dX10_worthFor_127 ⟨(Nat.le_of_ble_eq_true rfl), (Nat.le_of_ble_eq_true rfl)⟩) hS (fun q _ h => hFc q h) hFc (fun r_208 u t H locs ht hvm w_207 hB hz1 hk1 hS => ?_)
      have hP := pu_keep hP hk1
      clear hk1 hz1 hvm hB ht hFc
      obtain ⟨q_209, hq_209⟩ := og (cq := cq) tb_202.1 (oE_a1 (n := 8) tb_202.2 (by decide +kernel))
      refine va_iast hx hb hK hP hD hS q_209 0 hq_209 rfl (by unfold vp_in; decide) dX10_worthFor_130 (fun H locs hP1 hD1 hS => ?_)
      obtain ⟨S_210, eS_210⟩ : ∃ zq, zq = setI S_198 b_202 (6 : Int32).toNatClampNeg r_208 := ⟨_, rfl⟩
      have hP : va_P (dC, dI) vwCl (oW cq S_210) H := by rw [eS_210]; exact cP (oset tb_202.1 hq_209 hD rfl (he_a1 (n := 8) tb_202.2 (by decide +kernel)) neI) hP1
      have hD : va_D A (oW cq S_210) := by rw [eS_210]; exact cD (oset tb_202.1 hq_209 hD rfl (he_a1 (n := 8) tb_202.2 (by decide +kernel)) neI) hD1
      clear hP1 hD1
      have hIS_210 : oInv S_210 := by rw [eS_210]; exact oInv.A (k := 108) hIS_198 tb_202.2 (by decide +kernel)
      have XS_210 : oX [2108] S_198 S_210 := by rw [eS_210]; exact oX.I (k := 108) (key := 2108) tb_202.2 rfl (List.mem_singleton.mpr rfl)
      have X_211 : oX [2108, 5001] Z S_210 := oX.st X_199 XS_210 (by decide +kernel)
      refine lv_aload_n hx hb dX10_worthFor_131 rfl (lv_at hl 1 rfl) ?_
      have t_212 : oty S_210 o 10 := (oX.ty XS_210 t_200)
      obtain ⟨q_213, hq_213⟩ := og (cq := cq) t_212.1 (oE_10 t_212.2)
      obtain ⟨b_214, hb_214⟩ := oInv.nn (i := 12) hIS_210 t_212 rfl
      refine va_get (D := (dC, dI)) (ci := 10) (v := .ref b_214) (C := RX10) (T := TX10) (N := 16) hx hb hts in_wsX10_worthFor_X10 hown hK hP q_213 hq_213 rfl 12 (by decide +kernel) (hts (.fieldLink RX10 59 "ShipOffice" "letters" "[I") iw_X10_worthFor_2) (fun _ h9 => h9) (o_rd hb_214) dX10_worthFor_132 ?_
      have tb_214 : oty S_210 b_214 108 := oInv.rd hIS_210 t_212.2 hb_214 rfl rfl
      refine lv_bipush (v := 7) hx hb dX10_worthFor_135 (by decide +kernel) ?_
      refine lv_iload hx hb dX10_worthFor_137 (lv_at hl 7 rfl) ?_
      obtain ⟨q_215, hq_215⟩ := og (cq := cq) tb_214.1 (oE_a1 (n := 8) tb_214.2 (by decide +kernel))
      refine va_iast hx hb hK hP hD hS q_215 0 hq_215 rfl (by unfold vp_in; decide) dX10_worthFor_139 (fun H locs hP1 hD1 hS => ?_)
      obtain ⟨S_216, eS_216⟩ : ∃ zq, zq = setI S_210 b_214 (7 : Int32).toNatClampNeg x6 := ⟨_, rfl⟩
      have hP : va_P (dC, dI) vwCl (oW cq S_216) H := by rw [eS_216]; exact cP (oset tb_214.1 hq_215 hD rfl (he_a1 (n := 8) tb_214.2 (by decide +kernel)) neI) hP1
      have hD : va_D A (oW cq S_216) := by rw [eS_216]; exact cD (oset tb_214.1 hq_215 hD rfl (he_a1 (n := 8) tb_214.2 (by decide +kernel)) neI) hD1
      clear hP1 hD1
      have hIS_216 : oInv S_216 := by rw [eS_216]; exact oInv.A (k := 108) hIS_210 tb_214.2 (by decide +kernel)
      have XS_216 : oX [2108] S_210 S_216 := by rw [eS_216]; exact oX.I (k := 108) (key := 2108) tb_214.2 rfl (List.mem_singleton.mpr rfl)
      have X_217 : oX [2108, 5001] Z S_216 := oX.st X_211 XS_216 (by decide +kernel)
      refine lv_aload hx hb dX10_worthFor_140 (lv_at hl 0 rfl) ?_
      refine lv_aload_n hx hb dX10_worthFor_142 rfl (lv_at hl 1 rfl) ?_
      have t_218 : oty S_216 o 10 := (oX.ty XS_216 t_212)
      obtain ⟨q_219, hq_219⟩ := og (cq := cq) t_218.1 (oE_10 t_218.2)
      obtain ⟨b_220, hb_220⟩ := oInv.nn (i := 12) hIS_216 t_218 rfl
      refine va_get (D := (dC, dI)) (ci := 10) (v := .ref b_220) (C := RX10) (T := TX10) (N := 16) hx hb hts in_wsX10_worthFor_X10 hown hK hP q_219 hq_219 rfl 12 (by decide +kernel) (hts (.fieldLink RX10 59 "ShipOffice" "letters" "[I") iw_X10_worthFor_2) (fun _ h9 => h9) (o_rd hb_220) dX10_worthFor_143 ?_
      have tb_220 : oty S_216 b_220 108 := oInv.rd hIS_216 t_218.2 hb_220 rfl rfl
      have t_221 : oty S_216 b_7 0 := (oX.ty XS_216 (oX.ty XS_210 (oX.ty XS_198 (oX.ty XS_192 t_144))))
      have hFc := o_free hD hS hA
      obtain ⟨q_222, hq_222⟩ := og (cq := cq) t_221.1 (oE_0 t_221.2)
      refine va_calli (va_runV (As := [.ref b_220]) (rest := []) ⟨hx, hb, hml, hown, hts⟩ (c_X0_worth l dC dI H.size cq S_216 hIS_216 b_7 t_221 b_220 tb_220) (cwV 1 hts gX10_worthFor_X0_worth rfl rfl rfl (by decide +kernel) ⟨(Nat.le_of_ble_eq_true rfl), (Nat.le_of_ble_eq_true rfl)⟩) (pr_V (r := (RX0, TX0, 5)) hP hK hD q_222 0 rfl hq_222) rfl rfl hl.1 rfl (lv_room (Nat.le_of_ble_eq_true rfl)) dX10_worthFor_146 ⟨(Nat.le_of_ble_eq_true rfl), (Nat.le_of_ble_eq_true rfl)⟩) hS (fun q _ h => hFc q h) hFc (fun r_224 u t H locs ht hvm w_223 hB hz1 hk1 hS => ?_)
      obtain ⟨S_225, rfl⟩ : ∃ z, z = u := ⟨_, rfl⟩
      obtain ⟨hP1, hK1, hD1⟩ := hB
      rw [ht] at hP1
      have hP : va_P (dC, dI) vwCl (oW cq S_225) H := hP1
      have hD : va_D A (oW cq S_225) := hD1.weaken (fun _ _ _ h => hFc _ h)
      clear hP1 hK1 hD1 hk1 hz1 hvm ht hFc
      obtain ⟨hIS_225, XS_225⟩ := w_223
      have X_226 : oX [2108, 5001] Z S_225 := oX.st X_217 XS_225 (by decide +kernel)
      exact W.iret (v := r_224) hx hb hr (fun t ht hW => ⟨⟨r_224, S_225, rfl, ⟨hIS_225, X_226⟩, ⟨by rw [ht]; exact hP, va_K.moved hW.alike hK, hD⟩⟩, hS.F ht⟩) hS.2.2 dX10_worthFor_149
set_option maxHeartbeats 4000000 in
set_option maxRecDepth 100000 in
theorem c_X10_standing (l : Launch) (dC : Nat → ClassId) (dI : Nat → Nat → Nat) (sz : Nat) (cq : Nat → ClassId) (Z : oS) (gI : oInv Z) (o : Nat) (to : oty Z o 10) (a1 : Nat) (ta1 : oty Z a1 1) (a2 : Nat) (ta2 : oty Z a2 2) (x3 : Int32) : Met l yX10_standing wsX10_standing ({ frames := 4, cells := 0, slots := 0, locals := 106 }) (va_Pc [.ref o, .ref a1, .ref a2, .int x3] (pcW (dC, dI) (oT cq) (oW cq Z) sz)) (va_Qi (fun (r : Int32) (u : oS) => oInv u ∧ oX [2108, 5001] Z u) (fun u t => va_P (dC, dI) vwCl (oW cq u) t.heap ∧ va_K (dC, dI) vwCl (oT cq) t ∧ va_D (va_A (oW cq Z) sz) (oW cq u)) (va_A (oW cq Z) sz)) 0 0 (va_A (oW cq Z) sz) := by
  refine Met.ofW (cc := cX10_standing) (maxL := 5) (ret := (some .int)) (by decide +kernel) rfl ?_
  intro p e s m args below meth c s₁ B hml hv
  obtain ⟨rfl, hsz, hP, hK, hD0⟩ := hv
  have hx := B.exec
  have hb := B.bytes
  have hr := B.returns
  have hts := atoms_spec (ws := wsX10_standing) B.pre
  have hown : s.vm.findClass RX10 = some m.cls := findClass_of_methodNamed B.named
  have hlocks := B.notSynchronized
  subst hsz
  have hD := hD0.self (sz := s.heap.size)
  generalize hAe : va_A (oW cq Z) s.heap.size = A at hD ⊢
  have hA : ∀ q : Nat, s.heap.size ≤ q → A q := fun q h => by rw [← hAe]; exact Or.inr h
  have hS : va_S A s.heap s.heap [] := va_S.rf
  have hP : va_P (dC, dI) vwCl (oW cq Z) s.heap := hP
  have hl := lv_entry ([.ref o, .ref a1, .ref a2, .int x3]) (n := 5) (Nat.le_of_ble_eq_true rfl)
  rw [lg_entry_eq]
  generalize (lg_sl ([.ref o, .ref a1, .ref a2, .int x3]) ++ List.replicate (5 - (lg_sl ([.ref o, .ref a1, .ref a2, .int x3])).length) Slot.unset).toArray = ls at hl ⊢
  have hl : lv_has ls 5 [(0, .ref o), (1, .ref a1), (2, .ref a2), (3, .int x3)] := hl
  refine lv_aload_n hx hb dX10_standing_0 rfl (lv_at hl 0 rfl) ?_
  refine lv_iconst (v := 1) hx hb dX10_standing_1 (by decide +kernel) ?_
  refine lv_aload_n hx hb dX10_standing_2 rfl (lv_at hl 1 rfl) ?_
  refine lv_aload_n hx hb dX10_standing_3 rfl (lv_at hl 2 rfl) ?_
  obtain ⟨q_1, hq_1⟩ := og (cq := cq) ta2.1 (oE_2 ta2.2)
  refine va_get (D := (dC, dI)) (ci := 2) (v := .int (oI Z a2 0)) (C := RX2) (T := TX2) (N := 3) hx hb hts in_wsX10_standing_X2 hown hK hP q_1 hq_1 rfl 0 (by decide +kernel) (hts (.fieldLink RX10 277 "ShipOffice$Fine" "day" "I") iw_X10_standing_1) (fun _ h9 => h9) rfl dX10_standing_4 ?_
  refine lv_topi (fun x_2 ex_2 => ?_)
  clear ex_2
  refine lv_iload_n hx hb dX10_standing_7 rfl (lv_at hl 3 rfl) ?_
  refine lv_aload_n hx hb dX10_standing_8 rfl (lv_at hl 2 rfl) ?_
  refine va_get (D := (dC, dI)) (ci := 2) (v := .int (oI Z a2 1)) (C := RX2) (T := TX2) (N := 3) hx hb hts in_wsX10_standing_X2 hown hK hP q_1 hq_1 rfl 1 (by decide +kernel) (hts (.fieldLink RX10 418 "ShipOffice$Fine" "sum" "I") iw_X10_standing_2) (fun _ h9 => h9) rfl dX10_standing_9 ?_
  refine lv_topi (fun x_3 ex_3 => ?_)
  clear ex_3
  refine lv_aload_n hx hb dX10_standing_12 rfl (lv_at hl 2 rfl) ?_
  refine va_get (D := (dC, dI)) (ci := 2) (v := .int (oI Z a2 2)) (C := RX2) (T := TX2) (N := 3) hx hb hts in_wsX10_standing_X2 hown hK hP q_1 hq_1 rfl 2 (by decide +kernel) (hts (.fieldLink RX10 274 "ShipOffice$Fine" "isRead" "Z") iw_X10_standing_3) (fun _ h9 => h9) rfl dX10_standing_13 ?_
  refine lv_topi (fun x_4 ex_4 => ?_)
  clear ex_4
  refine lv_if_eq (tgt := 23) hx hb dX10_standing_16 (by decide +kernel) (fun c_5 => ?_) (fun c_5 => ?_)
  · have dc_5 := c_eq (a := x_4.toInt) (b := 0) rfl (by decide +kernel) c_5
    refine lv_iconst (v := 0) hx hb dX10_standing_23 (by decide +kernel) ?_
    have hFc := o_free hD hS hA
    obtain ⟨q_6, hq_6⟩ := og (cq := cq) to.1 (oE_10 to.2)
    refine va_calli (va_runV (As := [.int 1, .ref a1, .int x_2, .int x3, .int x_3, .int 0]) (rest := []) ⟨hx, hb, hml, hown, hts⟩ (c_X10_worthFor l dC dI s.heap.size cq Z gI o to 1 (by decide +kernel) a1 ta1 x_2 x3 x_3 0) (cwV 6 hts gX10_standing_X10_worthFor rfl rfl rfl (by decide +kernel) ⟨(Nat.le_of_ble_eq_true rfl), (Nat.le_of_ble_eq_true rfl)⟩) (pr_V (r := (RX10, TX10, 16)) hP hK hD q_6 10 rfl hq_6) rfl rfl hl.1 rfl (lv_room (Nat.le_of_ble_eq_true rfl)) dX10_standing_24 ⟨(Nat.le_of_ble_eq_true rfl), (Nat.le_of_ble_eq_true rfl)⟩) hS (fun q _ h => hFc q h) hFc (fun r_8 u t H locs ht hvm w_7 hB hz1 hk1 hS => ?_)
    obtain ⟨S_9, rfl⟩ : ∃ z, z = u := ⟨_, rfl⟩
    obtain ⟨hP1, hK1, hD1⟩ := hB
    rw [ht] at hP1
    have hP : va_P (dC, dI) vwCl (oW cq S_9) H := hP1
    have hD : va_D A (oW cq S_9) := hD1.weaken (fun _ _ _ h => hFc _ h)
    clear hP1 hK1 hD1 hk1 hz1 hvm ht hFc
    obtain ⟨hIS_9, XS_9⟩ := w_7
    have X_10 : oX [2108, 5001] Z S_9 := oX.st oX.rf XS_9 (by decide +kernel)
    refine lv_istore (lv' := [(4, .int r_8), (0, .ref o), (1, .ref a1), (2, .ref a2), (3, .int x3)]) hx hb dX10_standing_27 hl (by decide +kernel) rfl (fun ls hl => ?_)
    refine lv_iconst (v := 0) hx hb dX10_standing_29 (by decide +kernel) ?_
    refine lv_aload_n hx hb dX10_standing_30 rfl (lv_at hl 3 rfl) ?_
    have t_11 : oty S_9 a2 2 := (oX.ty XS_9 ta2)
    obtain ⟨q_12, hq_12⟩ := og (cq := cq) t_11.1 (oE_2 t_11.2)
    refine va_get (D := (dC, dI)) (ci := 2) (v := .int (oI S_9 a2 1)) (C := RX2) (T := TX2) (N := 3) hx hb hts in_wsX10_standing_X2 hown hK hP q_12 hq_12 rfl 1 (by decide +kernel) (hts (.fieldLink RX10 418 "ShipOffice$Fine" "sum" "I") iw_X10_standing_2) (fun _ h9 => h9) rfl dX10_standing_31 ?_
    refine lv_topi (fun x_13 ex_13 => ?_)
    clear ex_13
    refine lv_iload hx hb dX10_standing_34 (lv_at hl 0 rfl) ?_
    refine va_mmin hx hb (by rw [hml]; exact hl.1.symm) hown (hts (.methodLink RX10 378 Lib.Math.min.name) iw_X10_standing_4) (hts (.static Lib.Math.min.name) iw_X10_standing_5) (hts (.initialized "java/lang/Math") iw_X10_standing_6) (hts (.code Lib.Math.min.name Lib.Math.min.code 2 (some .int)) (by decide +kernel)) (Nat.le_of_ble_eq_true rfl) (Nat.le_of_ble_eq_true rfl) (Nat.le_of_ble_eq_true rfl) (Nat.le_of_ble_eq_true rfl) dX10_standing_36 ?_
    refine lv_topi (fun x_14 ex_14 => ?_)
    have hx_14 := mmin_i ex_14
    clear ex_14
    refine va_mmax hx hb (by rw [hml]; exact hl.1.symm) hown (hts (.methodLink RX10 383 Lib.Math.max.name) iw_X10_standing_7) (hts (.static Lib.Math.max.name) iw_X10_standing_8) (hts (.initialized "java/lang/Math") iw_X10_standing_6) (hts (.code Lib.Math.max.name Lib.Math.max.code 2 (some .int)) (by decide +kernel)) (Nat.le_of_ble_eq_true rfl) (Nat.le_of_ble_eq_true rfl) (Nat.le_of_ble_eq_true rfl) (Nat.le_of_ble_eq_true rfl) dX10_standing_39 ?_
    refine lv_topi (fun x_15 ex_15 => ?_)
    have hx_15 := mmax_i ex_15
    clear ex_15
    exact W.iret (v := x_15) hx hb hr (fun t ht hW => ⟨⟨x_15, S_9, rfl, ⟨hIS_9, X_10⟩, ⟨by rw [ht]; exact hP, va_K.moved hW.alike hK, hD⟩⟩, hS.F ht⟩) hS.2.2 dX10_standing_42
  · have dc_5 := c_ne (a := x_4.toInt) (b := 0) rfl (by decide +kernel) c_5
    refine lv_iconst (v := 1) hx hb dX10_standing_19 (by decide +kernel) ?_
    refine lv_goto (tgt := 24) hx hb dX10_standing_20 (by decide +kernel) ?_
    have hFc := o_free hD hS hA
    obtain ⟨q_16, hq_16⟩ := og (cq := cq) to.1 (oE_10 to.2)
    refine va_calli (va_runV (As := [.int 1, .ref a1, .int x_2, .int x3, .int x_3, .int 1]) (rest := []) ⟨hx, hb, hml, hown, hts⟩ (c_X10_worthFor l dC dI s.heap.size cq Z gI o to 1 (by decide +kernel) a1 ta1 x_2 x3 x_3 1) (cwV 6 hts gX10_standing_X10_worthFor rfl rfl rfl (by decide +kernel) ⟨(Nat.le_of_ble_eq_true rfl), (Nat.le_of_ble_eq_true rfl)⟩) (pr_V (r := (RX10, TX10, 16)) hP hK hD q_16 10 rfl hq_16) rfl rfl hl.1 rfl (lv_room (Nat.le_of_ble_eq_true rfl)) dX10_standing_24 ⟨(Nat.le_of_ble_eq_true rfl), (Nat.le_of_ble_eq_true rfl)⟩) hS (fun q _ h => hFc q h) hFc (fun r_18 u t H locs ht hvm w_17 hB hz1 hk1 hS => ?_)
    obtain ⟨S_19, rfl⟩ : ∃ z, z = u := ⟨_, rfl⟩
    obtain ⟨hP1, hK1, hD1⟩ := hB
    rw [ht] at hP1
    have hP : va_P (dC, dI) vwCl (oW cq S_19) H := hP1
    have hD : va_D A (oW cq S_19) := hD1.weaken (fun _ _ _ h => hFc _ h)
    clear hP1 hK1 hD1 hk1 hz1 hvm ht hFc
    obtain ⟨hIS_19, XS_19⟩ := w_17
    have X_20 : oX [2108, 5001] Z S_19 := oX.st oX.rf XS_19 (by decide +kernel)
    refine lv_istore (lv' := [(4, .int r_18), (0, .ref o), (1, .ref a1), (2, .ref a2), (3, .int x3)]) hx hb dX10_standing_27 hl (by decide +kernel) rfl (fun ls hl => ?_)
    refine lv_iconst (v := 0) hx hb dX10_standing_29 (by decide +kernel) ?_
    refine lv_aload_n hx hb dX10_standing_30 rfl (lv_at hl 3 rfl) ?_
    have t_21 : oty S_19 a2 2 := (oX.ty XS_19 ta2)
    obtain ⟨q_22, hq_22⟩ := og (cq := cq) t_21.1 (oE_2 t_21.2)
    refine va_get (D := (dC, dI)) (ci := 2) (v := .int (oI S_19 a2 1)) (C := RX2) (T := TX2) (N := 3) hx hb hts in_wsX10_standing_X2 hown hK hP q_22 hq_22 rfl 1 (by decide +kernel) (hts (.fieldLink RX10 418 "ShipOffice$Fine" "sum" "I") iw_X10_standing_2) (fun _ h9 => h9) rfl dX10_standing_31 ?_
    refine lv_topi (fun x_23 ex_23 => ?_)
    clear ex_23
    refine lv_iload hx hb dX10_standing_34 (lv_at hl 0 rfl) ?_
    refine va_mmin hx hb (by rw [hml]; exact hl.1.symm) hown (hts (.methodLink RX10 378 Lib.Math.min.name) iw_X10_standing_4) (hts (.static Lib.Math.min.name) iw_X10_standing_5) (hts (.initialized "java/lang/Math") iw_X10_standing_6) (hts (.code Lib.Math.min.name Lib.Math.min.code 2 (some .int)) (by decide +kernel)) (Nat.le_of_ble_eq_true rfl) (Nat.le_of_ble_eq_true rfl) (Nat.le_of_ble_eq_true rfl) (Nat.le_of_ble_eq_true rfl) dX10_standing_36 ?_
    refine lv_topi (fun x_24 ex_24 => ?_)
    have hx_24 := mmin_i ex_24
    clear ex_24
    refine va_mmax hx hb (by rw [hml]; exact hl.1.symm) hown (hts (.methodLink RX10 383 Lib.Math.max.name) iw_X10_standing_7) (hts (.static Lib.Math.max.name) iw_X10_standing_8) (hts (.initialized "java/lang/Math") iw_X10_standing_6) (hts (.code Lib.Math.max.name Lib.Math.max.code 2 (some .int)) (by decide +kernel)) (Nat.le_of_ble_eq_true rfl) (Nat.le_of_ble_eq_true rfl) (Nat.le_of_ble_eq_true rfl) (Nat.le_of_ble_eq_true rfl) dX10_standing_39 ?_
    refine lv_topi (fun x_25 ex_25 => ?_)
    have hx_25 := mmax_i ex_25
    clear ex_25
    exact W.iret (v := x_25) hx hb hr (fun t ht hW => ⟨⟨x_25, S_19, rfl, ⟨hIS_19, X_20⟩, ⟨by rw [ht]; exact hP, va_K.moved hW.alike hK, hD⟩⟩, hS.F ht⟩) hS.2.2 dX10_standing_42
set_option maxHeartbeats 4000000 in
set_option maxRecDepth 100000 in
theorem c_X10_owedOn (l : Launch) (dC : Nat → ClassId) (dI : Nat → Nat → Nat) (sz : Nat) (cq : Nat → ClassId) (Z : oS) (gI : oInv Z) (o : Nat) (to : oty Z o 10) (a1 : Nat) (ta1 : oty Z a1 1) (x2 : Int32) (hx2 : 0 ≤ x2.toInt ∧ x2.toInt ≤ 3000) (x3 : Int32) : Met l yX10_owedOn wsX10_owedOn ({ frames := 5, cells := 0, slots := 0, locals := 130 }) (va_Pc [.ref o, .ref a1, .int x2, .int x3] (pcW (dC, dI) (oT cq) (oW cq Z) sz)) (va_Qi (fun (r : Int32) (u : oS) => oInv u ∧ oX [2108, 5001] Z u) (fun u t => va_P (dC, dI) vwCl (oW cq u) t.heap ∧ va_K (dC, dI) vwCl (oT cq) t ∧ va_D (va_A (oW cq Z) sz) (oW cq u)) (va_A (oW cq Z) sz)) 0 0 (va_A (oW cq Z) sz) := by
  refine Met.ofW (cc := cX10_owedOn) (maxL := 9) (ret := (some .int)) (by decide +kernel) rfl ?_
  intro p e s m args below meth c s₁ B hml hv
  obtain ⟨rfl, hsz, hP, hK, hD0⟩ := hv
  have hx := B.exec
  have hb := B.bytes
  have hr := B.returns
  have hts := atoms_spec (ws := wsX10_owedOn) B.pre
  have hown : s.vm.findClass RX10 = some m.cls := findClass_of_methodNamed B.named
  have hlocks := B.notSynchronized
  subst hsz
  have hD := hD0.self (sz := s.heap.size)
  generalize hAe : va_A (oW cq Z) s.heap.size = A at hD ⊢
  have hA : ∀ q : Nat, s.heap.size ≤ q → A q := fun q h => by rw [← hAe]; exact Or.inr h
  have hS : va_S A s.heap s.heap [] := va_S.rf
  have hP : va_P (dC, dI) vwCl (oW cq Z) s.heap := hP
  have hl := lv_entry ([.ref o, .ref a1, .int x2, .int x3]) (n := 9) (Nat.le_of_ble_eq_true rfl)
  rw [lg_entry_eq]
  generalize (lg_sl ([.ref o, .ref a1, .int x2, .int x3]) ++ List.replicate (9 - (lg_sl ([.ref o, .ref a1, .int x2, .int x3])).length) Slot.unset).toArray = ls at hl ⊢
  have hl : lv_has ls 9 [(0, .ref o), (1, .ref a1), (2, .int x2), (3, .int x3)] := hl
  refine lv_iload_n hx hb dX10_owedOn_0 rfl (lv_at hl 2 rfl) ?_
  refine lv_aload_n hx hb dX10_owedOn_1 rfl (lv_at hl 1 rfl) ?_
  obtain ⟨q_1, hq_1⟩ := og (cq := cq) ta1.1 (oE_1 ta1.2)
  refine va_get (D := (dC, dI)) (ci := 1) (v := .int (oI Z a1 2)) (C := RX1) (T := TX1) (N := 18) hx hb hts in_wsX10_owedOn_X1 hown hK hP q_1 hq_1 rfl 2 (by decide +kernel) (hts (.fieldLink RX10 255 "ShipOffice$Agreement" "signedOn" "I") iw_X10_owedOn_1) (fun _ h9 => h9) rfl dX10_owedOn_2 ?_
  refine lv_topi (fun x_2 ex_2 => ?_)
  clear ex_2
  refine lv_icmp_ge (tgt := 10) hx hb dX10_owedOn_5 (by decide +kernel) (fun c_3 => ?_) (fun c_3 => ?_)
  · have dc_3 := c_le (a := x_2.toInt) (b := x2.toInt) rfl rfl c_3
    refine lv_aload_n hx hb dX10_owedOn_10 rfl (lv_at hl 1 rfl) ?_
    refine va_get (D := (dC, dI)) (ci := 1) (v := .int (oI Z a1 4)) (C := RX1) (T := TX1) (N := 18) hx hb hts in_wsX10_owedOn_X1 hown hK hP q_1 hq_1 rfl 4 (by decide +kernel) (hts (.fieldLink RX10 223 "ShipOffice$Agreement" "wage" "I") iw_X10_owedOn_2) (fun _ h9 => h9) rfl dX10_owedOn_11 ?_
    refine lv_topi (fun x_4 ex_4 => ?_)
    clear ex_4
    refine lv_aload_n hx hb dX10_owedOn_14 rfl (lv_at hl 1 rfl) ?_
    refine lv_iload_n hx hb dX10_owedOn_15 rfl (lv_at hl 2 rfl) ?_
    refine lv_iload_n hx hb dX10_owedOn_16 rfl (lv_at hl 3 rfl) ?_
    refine lv_aload_n hx hb dX10_owedOn_17 rfl (lv_at hl 0 rfl) ?_
    obtain ⟨q_5, hq_5⟩ := og (cq := cq) to.1 (oE_10 to.2)
    obtain ⟨b_6, hb_6⟩ := oInv.nn (i := 8) gI to rfl
    refine va_get (D := (dC, dI)) (ci := 10) (v := .ref b_6) (C := RX10) (T := TX10) (N := 16) hx hb hts in_wsX10_owedOn_X10 hown hK hP q_5 hq_5 rfl 8 (by decide +kernel) (hts (.fieldLink RX10 30 "ShipOffice" "law" "LShipOffice$Law;") iw_X10_owedOn_3) (fun _ h9 => h9) (o_rd hb_6) dX10_owedOn_18 ?_
    have tb_6 : oty Z b_6 5 := oInv.rd gI to.2 hb_6 rfl rfl
    have hFc : ∀ q, va_A [] s.heap.size q → A q := pu_free hS hA
    refine va_calli (va_runV (As := [.int x2, .int x3, .ref b_6]) (rest := [.int x_4]) ⟨hx, hb, hml, hown, hts⟩ (c_X1_earningDays l dC dI s.heap.size cq Z gI a1 ta1 x2 x3 b_6 tb_6) (cwV 3 hts gX10_owedOn_X1_earningDays rfl rfl rfl (by decide +kernel) ⟨(Nat.le_of_ble_eq_true rfl), (Nat.le_of_ble_eq_true rfl)⟩) (pr_V (r := (RX1, TX1, 18)) hP hK hD q_1 1 rfl hq_1) rfl rfl hl.1 rfl (lv_room (Nat.le_of_ble_eq_true rfl)) dX10_owedOn_21 ⟨(Nat.le_of_ble_eq_true rfl), (Nat.le_of_ble_eq_true rfl)⟩) hS (fun q _ h => hFc q h) hFc (fun r_8 u t H locs ht hvm w_7 hB hz1 hk1 hS => ?_)
    have hP := pu_keep hP hk1
    clear hk1 hz1 hvm hB ht hFc
    refine lv_imul hx hb dX10_owedOn_24 ?_
    refine lv_topi (fun x_9 ex_9 => ?_)
    clear ex_9
    refine lv_bipush (v := 30) hx hb dX10_owedOn_25 (by decide +kernel) ?_
    refine lv_idiv hx hb dX10_owedOn_27 (by decide +kernel) ?_
    refine lv_topi (fun x_10 ex_10 => ?_)
    clear ex_10
    refine lv_istore (lv' := [(4, .int x_10), (0, .ref o), (1, .ref a1), (2, .int x2), (3, .int x3)]) hx hb dX10_owedOn_28 hl (by decide +kernel) rfl (fun ls hl => ?_)
    refine lv_iload hx hb dX10_owedOn_30 (lv_at hl 0 rfl) ?_
    refine lv_aload_n hx hb dX10_owedOn_32 rfl (lv_at hl 2 rfl) ?_
    refine lv_iload_n hx hb dX10_owedOn_33 rfl (lv_at hl 3 rfl) ?_
    refine lv_iload_n hx hb dX10_owedOn_34 rfl (lv_at hl 4 rfl) ?_
    refine lv_aload_n hx hb dX10_owedOn_35 rfl (lv_at hl 1 rfl) ?_
    refine va_get (D := (dC, dI)) (ci := 10) (v := .ref b_6) (C := RX10) (T := TX10) (N := 16) hx hb hts in_wsX10_owedOn_X10 hown hK hP q_5 hq_5 rfl 8 (by decide +kernel) (hts (.fieldLink RX10 30 "ShipOffice" "law" "LShipOffice$Law;") iw_X10_owedOn_3) (fun _ h9 => h9) (o_rd hb_6) dX10_owedOn_36 ?_
    have hFc : ∀ q, va_A [] H.size q → A q := pu_free hS hA
    refine va_calli (va_runV (As := [.int x2, .int x3, .ref b_6]) (rest := [.int x_10]) ⟨hx, hb, hml, hown, hts⟩ (c_X1_notePaid l dC dI H.size cq Z gI a1 ta1 x2 x3 b_6 tb_6) (cwV 3 hts gX10_owedOn_X1_notePaid rfl rfl rfl (by decide +kernel) ⟨(Nat.le_of_ble_eq_true rfl), (Nat.le_of_ble_eq_true rfl)⟩) (pr_V (r := (RX1, TX1, 18)) hP hK hD q_1 1 rfl hq_1) rfl rfl hl.1 rfl (lv_room (Nat.le_of_ble_eq_true rfl)) dX10_owedOn_39 ⟨(Nat.le_of_ble_eq_true rfl), (Nat.le_of_ble_eq_true rfl)⟩) hS (fun q _ h => hFc q h) hFc (fun r_12 u t H locs ht hvm w_11 hB hz1 hk1 hS => ?_)
    have hP := pu_keep hP hk1
    clear hk1 hz1 hvm hB ht hFc
    refine lv_aload_n hx hb dX10_owedOn_42 rfl (lv_at hl 2 rfl) ?_
    refine lv_iload_n hx hb dX10_owedOn_43 rfl (lv_at hl 3 rfl) ?_
    refine lv_iload_n hx hb dX10_owedOn_44 rfl (lv_at hl 4 rfl) ?_
    refine lv_aload_n hx hb dX10_owedOn_45 rfl (lv_at hl 1 rfl) ?_
    refine va_get (D := (dC, dI)) (ci := 10) (v := .ref b_6) (C := RX10) (T := TX10) (N := 16) hx hb hts in_wsX10_owedOn_X10 hown hK hP q_5 hq_5 rfl 8 (by decide +kernel) (hts (.fieldLink RX10 30 "ShipOffice" "law" "LShipOffice$Law;") iw_X10_owedOn_3) (fun _ h9 => h9) (o_rd hb_6) dX10_owedOn_46 ?_
    have hFc : ∀ q, va_A [] H.size q → A q := pu_free hS hA
    refine va_calli (va_runV (As := [.int x2, .int x3, .ref b_6]) (rest := [.int r_12, .int x_10]) ⟨hx, hb, hml, hown, hts⟩ (c_X1_allotmentsPaid l dC dI H.size cq Z gI a1 ta1 x2 (by omega) x3 b_6 tb_6) (cwV 3 hts gX10_owedOn_X1_allotmentsPaid rfl rfl rfl (by decide +kernel) ⟨(Nat.le_of_ble_eq_true rfl), (Nat.le_of_ble_eq_true rfl)⟩) (pr_V (r := (RX1, TX1, 18)) hP hK hD q_1 1 rfl hq_1) rfl rfl hl.1 rfl (lv_room (Nat.le_of_ble_eq_true rfl)) dX10_owedOn_49 ⟨(Nat.le_of_ble_eq_true rfl), (Nat.le_of_ble_eq_true rfl)⟩) hS (fun q _ h => hFc q h) hFc (fun r_14 u t H locs ht hvm w_13 hB hz1 hk1 hS => ?_)
    have hP := pu_keep hP hk1
    clear hk1 hz1 hvm hB ht hFc
    refine lv_iadd hx hb dX10_owedOn_52 ?_
    refine lv_topi (fun x_15 ex_15 => ?_)
    clear ex_15
    refine lv_isub hx hb dX10_owedOn_53 ?_
    refine lv_topi (fun x_16 ex_16 => ?_)
    clear ex_16
    refine lv_istore (lv' := [(4, .int x_16), (0, .ref o), (1, .ref a1), (2, .int x2), (3, .int x3)]) hx hb dX10_owedOn_54 hl (by decide +kernel) rfl (fun ls hl => ?_)
    refine lv_iconst (v := 0) hx hb dX10_owedOn_56 (by decide +kernel) ?_
    refine lv_istore (lv' := [(5, .int 0), (4, .int x_16), (0, .ref o), (1, .ref a1), (2, .int x2), (3, .int x3)]) hx hb dX10_owedOn_57 hl (by decide +kernel) rfl (fun ls hl => ?_)
    have cut_17 : ∀ (n : Nat) (y_18 : Int32) (y_19 : Int32) (S_20 : oS) (H : Heap) (locs : List Loc) (ls : Array Slot), 6 - y_18.toInt ≤ (n : Int) → (0 ≤ y_18.toInt ∧ y_18.toInt ≤ 6) → oInv S_20 → oX [2108, 5001] Z S_20 → va_P (dC, dI) vwCl (oW cq S_20) H → va_D A (oW cq S_20) → va_S A s.heap H locs → lv_has ls 9 [(5, .int y_18), (4, .int y_19), (0, .ref o), (1, .ref a1), (2, .int x2), (3, .int x3)] → W p l e (headSpec wsX10_owedOn { frames := 5, cells := 0, slots := 0, locals := 130 }).room s m #[Value.ref o, Value.ref a1, Value.int x2, Value.int x3] below meth c H locs 0 0 (MQ below (va_Qi (fun (r : Int32) (u : oS) => oInv u ∧ oX [2108, 5001] Z u) (fun u t => va_P (dC, dI) vwCl (oW cq u) t.heap ∧ va_K (dC, dI) vwCl (oT cq) t ∧ va_D A (oW cq u)) A) #[Value.ref o, Value.ref a1, Value.int x2, Value.int x3] s 0 0 A) (F0 m 59 ls []) := by
      intro n
      induction n using Nat.strongRecOn with
      | ind n ih =>
        intro y_18 y_19 S_20 H locs ls hm hy_18 hIS_20 XS_20 hP hD hS hl
        have YS_20 : oX [2108, 5001] Z S_20 := oX.st oX.rf XS_20 (fun _ q => q)
        refine lv_iload hx hb dX10_owedOn_59 (lv_at hl 0 rfl) ?_
        refine lv_aload_n hx hb dX10_owedOn_61 rfl (lv_at hl 3 rfl) ?_
        have t_21 : oty S_20 a1 1 := (oX.ty XS_20 ta1)
        obtain ⟨q_22, hq_22⟩ := og (cq := cq) t_21.1 (oE_1 t_21.2)
        refine va_get (D := (dC, dI)) (ci := 1) (v := .int (oI S_20 a1 13)) (C := RX1) (T := TX1) (N := 18) hx hb hts in_wsX10_owedOn_X1 hown hK hP q_22 hq_22 rfl 13 (by decide +kernel) (hts (.fieldLink RX10 258 "ShipOffice$Agreement" "fineCount" "I") iw_X10_owedOn_4) (fun _ h9 => h9) rfl dX10_owedOn_62 ?_
        refine lv_topi (fun x_23 ex_23 => ?_)
        have hx_23 : 0 ≤ x_23.toInt ∧ x_23.toInt ≤ 6 := iv_of ex_23 (oInv.iv hIS_20 t_21.2 rfl rfl)
        have gx_23 : x_23.toInt = (oI S_20 a1 13).toInt := iv_to ex_23
        clear ex_23
        refine lv_icmp_ge (tgt := 106) hx hb dX10_owedOn_65 (by decide +kernel) (fun c_24 => ?_) (fun c_24 => ?_)
        · have dc_24 := c_le (a := x_23.toInt) (b := y_18.toInt) rfl rfl c_24
          refine lv_iload hx hb dX10_owedOn_106 (lv_at hl 1 rfl) ?_
          refine lv_aload_n hx hb dX10_owedOn_108 rfl (lv_at hl 3 rfl) ?_
          refine lv_iload_n hx hb dX10_owedOn_109 rfl (lv_at hl 5 rfl) ?_
          have hFc : ∀ q, va_A [] H.size q → A q := pu_free hS hA
          refine va_calli (va_runV (As := [.int x3]) (rest := [.int y_19]) ⟨hx, hb, hml, hown, hts⟩ (c_X1_shortPence l dC dI H.size cq S_20 hIS_20 a1 t_21 x3) (cwV 1 hts gX10_owedOn_X1_shortPence rfl rfl rfl (by decide +kernel) ⟨(Nat.le_of_ble_eq_true rfl), (Nat.le_of_ble_eq_true rfl)⟩) (pr_V (r := (RX1, TX1, 18)) hP hK hD q_22 1 rfl hq_22) rfl rfl hl.1 rfl (lv_room (Nat.le_of_ble_eq_true rfl)) dX10_owedOn_110 ⟨(Nat.le_of_ble_eq_true rfl), (Nat.le_of_ble_eq_true rfl)⟩) hS (fun q _ h => hFc q h) hFc (fun r_26 u t H locs ht hvm w_25 hB hz1 hk1 hS => ?_)
          have hP := pu_keep hP hk1
          clear hk1 hz1 hvm hB ht hFc
          refine lv_iadd hx hb dX10_owedOn_113 ?_
          refine lv_topi (fun x_27 ex_27 => ?_)
          clear ex_27
          refine lv_istore (lv' := [(4, .int x_27), (5, .int y_18), (0, .ref o), (1, .ref a1), (2, .int x2), (3, .int x3)]) hx hb dX10_owedOn_114 hl (by decide +kernel) rfl (fun ls hl => ?_)
          refine lv_aload_n hx hb dX10_owedOn_116 rfl (lv_at hl 3 rfl) ?_
          refine lv_iload_n hx hb dX10_owedOn_117 rfl (lv_at hl 4 rfl) ?_
          refine lv_iload_n hx hb dX10_owedOn_118 rfl (lv_at hl 5 rfl) ?_
          refine lv_aload_n hx hb dX10_owedOn_119 rfl (lv_at hl 2 rfl) ?_
          have t_28 : oty S_20 o 10 := (oX.ty XS_20 to)
          obtain ⟨q_29, hq_29⟩ := og (cq := cq) t_28.1 (oE_10 t_28.2)
          obtain ⟨b_30, hb_30⟩ := oInv.nn (i := 8) hIS_20 t_28 rfl
          refine va_get (D := (dC, dI)) (ci := 10) (v := .ref b_30) (C := RX10) (T := TX10) (N := 16) hx hb hts in_wsX10_owedOn_X10 hown hK hP q_29 hq_29 rfl 8 (by decide +kernel) (hts (.fieldLink RX10 30 "ShipOffice" "law" "LShipOffice$Law;") iw_X10_owedOn_3) (fun _ h9 => h9) (o_rd hb_30) dX10_owedOn_120 ?_
          have tb_30 : oty S_20 b_30 5 := oInv.rd hIS_20 t_28.2 hb_30 rfl rfl
          have hFc : ∀ q, va_A [] H.size q → A q := pu_free hS hA
          refine va_callq (va_runV (As := [.int x2, .int x3, .ref b_30]) (rest := []) ⟨hx, hb, hml, hown, hts⟩ (c_X1_leavingOn l dC dI H.size cq S_20 hIS_20 a1 t_21 x2 x3 b_30 tb_30) (cwV 3 hts gX10_owedOn_X1_leavingOn rfl rfl rfl (by decide +kernel) ⟨(Nat.le_of_ble_eq_true rfl), (Nat.le_of_ble_eq_true rfl)⟩) (pr_V (r := (RX1, TX1, 18)) hP hK hD q_22 1 rfl hq_22) rfl rfl hl.1 rfl (lv_room (Nat.le_of_ble_eq_true rfl)) dX10_owedOn_123 ⟨(Nat.le_of_ble_eq_true rfl), (Nat.le_of_ble_eq_true rfl)⟩) hS (fun q _ h => hFc q h) hFc (fun r_32 u t H locs ht hvm w_31 hB hz1 hk1 hS => ?_)
          have hP := pu_keep hP hk1
          clear hk1 hz1 hvm hB ht hFc
          have hk_33 := w_31
          rcases r_32 with _ | b_34
          · refine W.eq (g2 := F0 m 126 ls [.null]) rfl ?_
            refine lv_astoreN (lv' := [(5, .null), (4, .int x_27), (0, .ref o), (1, .ref a1), (2, .int x2), (3, .int x3)]) hx hb dX10_owedOn_126 hl (by decide +kernel) rfl (fun ls hl => ?_)
            refine lv_iload hx hb dX10_owedOn_128 (lv_at hl 1 rfl) ?_
            refine lv_if_le (tgt := 146) hx hb dX10_owedOn_130 (by decide +kernel) (fun c_35 => ?_) (fun c_35 => ?_)
            · have dc_35 := c_le (a := x_27.toInt) (b := 0) rfl (by decide +kernel) c_35
              refine lv_iload hx hb dX10_owedOn_146 (lv_at hl 1 rfl) ?_
              exact W.iret (v := x_27) hx hb hr (fun t ht hW => ⟨⟨x_27, S_20, rfl, ⟨hIS_20, YS_20⟩, ⟨by rw [ht]; exact hP, va_K.moved hW.alike hK, hD⟩⟩, hS.F ht⟩) hS.2.2 dX10_owedOn_148
            · have dc_35 := c_nle (a := x_27.toInt) (b := 0) rfl (by decide +kernel) c_35
              refine lv_aloadN hx hb dX10_owedOn_133 (lv_at hl 0 rfl) ?_
              refine lv_ifnullN (tgt := 146) hx hb dX10_owedOn_135 (by decide +kernel) ?_
              refine lv_iload hx hb dX10_owedOn_146 (lv_at hl 1 rfl) ?_
              exact W.iret (v := x_27) hx hb hr (fun t ht hW => ⟨⟨x_27, S_20, rfl, ⟨hIS_20, YS_20⟩, ⟨by rw [ht]; exact hP, va_K.moved hW.alike hK, hD⟩⟩, hS.F ht⟩) hS.2.2 dX10_owedOn_148
          · refine W.eq (g2 := F0 m 126 ls [.ref b_34]) rfl ?_
            have tb_34 : oty S_20 b_34 3 := hk_33 b_34 rfl
            refine lv_astore (lv' := [(5, .ref b_34), (4, .int x_27), (0, .ref o), (1, .ref a1), (2, .int x2), (3, .int x3)]) hx hb dX10_owedOn_126 hl (by decide +kernel) rfl (fun ls hl => ?_)
            refine lv_iload hx hb dX10_owedOn_128 (lv_at hl 1 rfl) ?_
            refine lv_if_le (tgt := 146) hx hb dX10_owedOn_130 (by decide +kernel) (fun c_36 => ?_) (fun c_36 => ?_)
            · have dc_36 := c_le (a := x_27.toInt) (b := 0) rfl (by decide +kernel) c_36
              refine lv_iload hx hb dX10_owedOn_146 (lv_at hl 1 rfl) ?_
              exact W.iret (v := x_27) hx hb hr (fun t ht hW => ⟨⟨x_27, S_20, rfl, ⟨hIS_20, YS_20⟩, ⟨by rw [ht]; exact hP, va_K.moved hW.alike hK, hD⟩⟩, hS.F ht⟩) hS.2.2 dX10_owedOn_148
            · have dc_36 := c_nle (a := x_27.toInt) (b := 0) rfl (by decide +kernel) c_36
              refine lv_aload hx hb dX10_owedOn_133 (lv_at hl 0 rfl) ?_
              refine lv_ifnull hx hb dX10_owedOn_135 ?_
              refine lv_aload hx hb dX10_owedOn_138 (lv_at hl 0 rfl) ?_
              obtain ⟨q_37, hq_37⟩ := og (cq := cq) tb_34.1 (oE_3 tb_34.2)
              refine va_get (D := (dC, dI)) (ci := 3) (v := .int (oI S_20 b_34 3)) (C := RX3) (T := TX3) (N := 6) hx hb hts in_wsX10_owedOn_X3 hown hK hP q_37 hq_37 rfl 3 (by decide +kernel) (hts (.fieldLink RX10 326 "ShipOffice$Happening" "way" "I") iw_X10_owedOn_5) (fun _ h9 => h9) rfl dX10_owedOn_140 ?_
              refine lv_topi (fun x_38 ex_38 => ?_)
              have gx_38 : x_38.toInt = (oI S_20 b_34 3).toInt := iv_to ex_38
              clear ex_38
              refine lv_if_eq (tgt := 149) hx hb dX10_owedOn_143 (by decide +kernel) (fun c_39 => ?_) (fun c_39 => ?_)
              · have dc_39 := c_eq (a := x_38.toInt) (b := 0) rfl (by decide +kernel) c_39
                refine lv_aload_n hx hb dX10_owedOn_149 rfl (lv_at hl 2 rfl) ?_
                refine lv_iconst (v := 2) hx hb dX10_owedOn_150 (by decide +kernel) ?_
                refine lv_aload_n hx hb dX10_owedOn_151 rfl (lv_at hl 3 rfl) ?_
                refine lv_iload_n hx hb dX10_owedOn_152 rfl (lv_at hl 4 rfl) ?_
                refine lv_iload_n hx hb dX10_owedOn_153 rfl (lv_at hl 5 rfl) ?_
                refine lv_iconst (v := 0) hx hb dX10_owedOn_154 (by decide +kernel) ?_
                refine lv_iconst (v := 0) hx hb dX10_owedOn_155 (by decide +kernel) ?_
                have hFc := o_free hD hS hA
                refine va_calli (va_runV (As := [.int 2, .ref a1, .int x2, .int x3, .int 0, .int 0]) (rest := []) ⟨hx, hb, hml, hown, hts⟩ (c_X10_worthFor l dC dI H.size cq S_20 hIS_20 o t_28 2 (by decide +kernel) a1 t_21 x2 x3 0 0) (cwV 6 hts gX10_owedOn_X10_worthFor rfl rfl rfl (by decide +kernel) ⟨(Nat.le_of_ble_eq_true rfl), (Nat.le_of_ble_eq_true rfl)⟩) (pr_V (r := (RX10, TX10, 16)) hP hK hD q_29 10 rfl hq_29) rfl rfl hl.1 rfl (lv_room (Nat.le_of_ble_eq_true rfl)) dX10_owedOn_156 ⟨(Nat.le_of_ble_eq_true rfl), (Nat.le_of_ble_eq_true rfl)⟩) hS (fun q _ h => hFc q h) hFc (fun r_41 u t H locs ht hvm w_40 hB hz1 hk1 hS => ?_)
                obtain ⟨S_42, rfl⟩ : ∃ z, z = u := ⟨_, rfl⟩
                obtain ⟨hP1, hK1, hD1⟩ := hB
                rw [ht] at hP1
                have hP : va_P (dC, dI) vwCl (oW cq S_42) H := hP1
                have hD : va_D A (oW cq S_42) := hD1.weaken (fun _ _ _ h => hFc _ h)
                clear hP1 hK1 hD1 hk1 hz1 hvm ht hFc
                obtain ⟨hIS_42, XS_42⟩ := w_40
                have X_43 : oX [2108, 5001] Z S_42 := oX.st YS_20 XS_42 (by decide +kernel)
                refine lv_istore (lv' := [(6, .int r_41), (5, .ref b_34), (4, .int x_27), (0, .ref o), (1, .ref a1), (2, .int x2), (3, .int x3)]) hx hb dX10_owedOn_159 hl (by decide +kernel) rfl (fun ls hl => ?_)
                refine lv_iconst (v := 0) hx hb dX10_owedOn_161 (by decide +kernel) ?_
                refine lv_bipush (v := 100) hx hb dX10_owedOn_162 (by decide +kernel) ?_
                refine lv_iload hx hb dX10_owedOn_164 (lv_at hl 0 rfl) ?_
                refine va_mmin hx hb (by rw [hml]; exact hl.1.symm) hown (hts (.methodLink RX10 378 Lib.Math.min.name) iw_X10_owedOn_6) (hts (.static Lib.Math.min.name) iw_X10_owedOn_7) (hts (.initialized "java/lang/Math") iw_X10_owedOn_8) (hts (.code Lib.Math.min.name Lib.Math.min.code 2 (some .int)) (by decide +kernel)) (Nat.le_of_ble_eq_true rfl) (Nat.le_of_ble_eq_true rfl) (Nat.le_of_ble_eq_true rfl) (Nat.le_of_ble_eq_true rfl) dX10_owedOn_166 ?_
                refine lv_topi (fun x_44 ex_44 => ?_)
                have hx_44 := mmin_i ex_44
                clear ex_44
                refine va_mmax hx hb (by rw [hml]; exact hl.1.symm) hown (hts (.methodLink RX10 383 Lib.Math.max.name) iw_X10_owedOn_9) (hts (.static Lib.Math.max.name) iw_X10_owedOn_10) (hts (.initialized "java/lang/Math") iw_X10_owedOn_8) (hts (.code Lib.Math.max.name Lib.Math.max.code 2 (some .int)) (by decide +kernel)) (Nat.le_of_ble_eq_true rfl) (Nat.le_of_ble_eq_true rfl) (Nat.le_of_ble_eq_true rfl) (Nat.le_of_ble_eq_true rfl) dX10_owedOn_169 ?_
                refine lv_topi (fun x_45 ex_45 => ?_)
                have hx_45 := mmax_i ex_45
                clear ex_45
                refine lv_i2l (v := (x_45 : Int32).toInt64) hx hb dX10_owedOn_172 rfl ?_
                refine lv_lstore (lv' := [(7, .long ((x_45 : Int32).toInt64)), (6, .int r_41), (5, .ref b_34), (4, .int x_27), (0, .ref o), (1, .ref a1), (2, .int x2), (3, .int x3)]) hx hb dX10_owedOn_173 hl (by decide +kernel) rfl (fun ls hl => ?_)
                refine lv_iload hx hb dX10_owedOn_175 (lv_at hl 3 rfl) ?_
                refine lv_iload hx hb dX10_owedOn_177 (lv_at hl 3 rfl) ?_
                refine lv_i2l (v := (x_27 : Int32).toInt64) hx hb dX10_owedOn_179 rfl ?_
                refine lv_lload hx hb dX10_owedOn_180 (lv_at hl 0 rfl) ?_
                refine lv_lmul hx hb dX10_owedOn_182 ?_
                refine lv_ldc2 (v := 100) hx hb hown (hts (.constantLong RX10 253 (100)) (by decide +kernel)) dX10_owedOn_183 ?_
                refine lv_ldiv hx hb dX10_owedOn_186 (by decide +kernel) ?_
                refine lv_l2i (v := ((((x_27 : Int32).toInt64) * ((x_45 : Int32).toInt64)) / 100 : Int64).toInt32) hx hb dX10_owedOn_187 rfl ?_
                refine lv_topi (fun x_46 ex_46 => ?_)
                clear ex_46
                refine lv_isub hx hb dX10_owedOn_188 ?_
                refine lv_topi (fun x_47 ex_47 => ?_)
                clear ex_47
                exact W.iret (v := x_47) hx hb hr (fun t ht hW => ⟨⟨x_47, S_42, rfl, ⟨hIS_42, X_43⟩, ⟨by rw [ht]; exact hP, va_K.moved hW.alike hK, hD⟩⟩, hS.F ht⟩) hS.2.2 dX10_owedOn_189
              · have dc_39 := c_ne (a := x_38.toInt) (b := 0) rfl (by decide +kernel) c_39
                refine lv_iload hx hb dX10_owedOn_146 (lv_at hl 1 rfl) ?_
                exact W.iret (v := x_27) hx hb hr (fun t ht hW => ⟨⟨x_27, S_20, rfl, ⟨hIS_20, YS_20⟩, ⟨by rw [ht]; exact hP, va_K.moved hW.alike hK, hD⟩⟩, hS.F ht⟩) hS.2.2 dX10_owedOn_148
        · have dc_24 := c_nle (a := x_23.toInt) (b := y_18.toInt) rfl rfl c_24
          refine lv_aload_n hx hb dX10_owedOn_68 rfl (lv_at hl 3 rfl) ?_
          obtain ⟨b_48, hb_48⟩ := oInv.nn (i := 12) hIS_20 t_21 rfl
          refine va_get (D := (dC, dI)) (ci := 1) (v := .ref b_48) (C := RX1) (T := TX1) (N := 18) hx hb hts in_wsX10_owedOn_X1 hown hK hP q_22 hq_22 rfl 12 (by decide +kernel) (hts (.fieldLink RX10 261 "ShipOffice$Agreement" "fines" "[LShipOffice$Fine;") iw_X10_owedOn_11) (fun _ h9 => h9) (o_rd hb_48) dX10_owedOn_69 ?_
          have tb_48 : oty S_20 b_48 17 := oInv.rd hIS_20 t_21.2 hb_48 rfl rfl
          refine lv_iload hx hb dX10_owedOn_72 (lv_at hl 0 rfl) ?_
          obtain ⟨q_49, hq_49⟩ := og (cq := cq) tb_48.1 (oE_17 tb_48.2)
          refine va_aldq hx hb hK hP q_49 6 hq_49 rfl (vp_in_iff.mpr (by omega)) dX10_owedOn_74 ?_
          obtain ⟨b_50, hb_50⟩ := oInv.el (i := 13) (x := y_18) hIS_20 t_21 rfl hb_48 (by omega) (by omega)
          refine W.eq (g2 := F0 m 75 ls [.ref b_50]) (congrArg (fun z => F0 m 75 ls [va_rf z]) hb_50) ?_
          have tb_50 : oty S_20 b_50 2 := oInv.rd hIS_20 tb_48.2 hb_50 rfl rfl
          obtain ⟨q_51, hq_51⟩ := og (cq := cq) tb_50.1 (oE_2 tb_50.2)
          refine va_get (D := (dC, dI)) (ci := 2) (v := .int (oI S_20 b_50 0)) (C := RX2) (T := TX2) (N := 3) hx hb hts in_wsX10_owedOn_X2 hown hK hP q_51 hq_51 rfl 0 (by decide +kernel) (hts (.fieldLink RX10 277 "ShipOffice$Fine" "day" "I") iw_X10_owedOn_12) (fun _ h9 => h9) rfl dX10_owedOn_75 ?_
          refine lv_topi (fun x_52 ex_52 => ?_)
          clear ex_52
          refine lv_iload_n hx hb dX10_owedOn_78 rfl (lv_at hl 4 rfl) ?_
          refine lv_icmp_gt (tgt := 100) hx hb dX10_owedOn_79 (by decide +kernel) (fun c_53 => ?_) (fun c_53 => ?_)
          · have dc_53 := c_lt (a := x2.toInt) (b := x_52.toInt) rfl rfl c_53
            obtain ⟨x_54, ex_54⟩ : ∃ zq : Int32, y_18 + 1 = zq := ⟨_, rfl⟩
            have hx_54 : x_54.toInt = y_18.toInt + 1 := (iv_to ex_54).symm.trans (ad_i rfl (by decide +kernel) (by omega) (by omega))
            refine lv_iinc (v := x_54) (lv' := [(5, .int x_54), (4, .int y_19), (0, .ref o), (1, .ref a1), (2, .int x2), (3, .int x3)]) hx hb dX10_owedOn_100 hl (k := 0) rfl ex_54 (by decide +kernel) rfl (fun ls hl => ?_)
            clear ex_54
            refine lv_goto (tgt := 59) hx hb dX10_owedOn_103 (by decide +kernel) ?_
            exact ih (n - 1) (by omega) x_54 y_19 S_20 _ _ ls (by omega) (by omega) hIS_20 (oX.st oX.rf XS_20 (by decide +kernel)) hP hD hS (lv_sub hl [0, 1, 2, 3, 4, 5] rfl)
          · have dc_53 := c_nlt (a := x2.toInt) (b := x_52.toInt) rfl rfl c_53
            refine lv_iload hx hb dX10_owedOn_82 (lv_at hl 1 rfl) ?_
            refine lv_aload_n hx hb dX10_owedOn_84 rfl (lv_at hl 2 rfl) ?_
            refine lv_aload_n hx hb dX10_owedOn_85 rfl (lv_at hl 3 rfl) ?_
            refine lv_aload_n hx hb dX10_owedOn_86 rfl (lv_at hl 3 rfl) ?_
            refine va_get (D := (dC, dI)) (ci := 1) (v := .ref b_48) (C := RX1) (T := TX1) (N := 18) hx hb hts in_wsX10_owedOn_X1 hown hK hP q_22 hq_22 rfl 12 (by decide +kernel) (hts (.fieldLink RX10 261 "ShipOffice$Agreement" "fines" "[LShipOffice$Fine;") iw_X10_owedOn_11) (fun _ h9 => h9) (o_rd hb_48) dX10_owedOn_87 ?_
            refine lv_iload hx hb dX10_owedOn_90 (lv_at hl 0 rfl) ?_
            refine va_aldq hx hb hK hP q_49 6 hq_49 rfl (vp_in_iff.mpr (by omega)) dX10_owedOn_92 ?_
            obtain ⟨b_55, hb_55⟩ := oInv.el (i := 13) (x := y_18) hIS_20 t_21 rfl hb_48 (by omega) (by omega)
            refine W.eq (g2 := F0 m 93 ls [.ref b_55, .ref a1, .ref o, .int y_19]) (congrArg (fun z => F0 m 93 ls [va_rf z, .ref a1, .ref o, .int y_19]) hb_55) ?_
            have tb_55 : oty S_20 b_55 2 := oInv.rd hIS_20 tb_48.2 hb_55 rfl rfl
            refine lv_iload_n hx hb dX10_owedOn_93 rfl (lv_at hl 5 rfl) ?_
            have t_56 : oty S_20 o 10 := (oX.ty XS_20 to)
            have hFc := o_free hD hS hA
            obtain ⟨q_57, hq_57⟩ := og (cq := cq) t_56.1 (oE_10 t_56.2)
            refine va_calli (va_runV (As := [.ref a1, .ref b_55, .int x3]) (rest := [.int y_19]) ⟨hx, hb, hml, hown, hts⟩ (c_X10_standing l dC dI H.size cq S_20 hIS_20 o t_56 a1 t_21 b_55 tb_55 x3) (cwV 3 hts gX10_owedOn_X10_standing rfl rfl rfl (by decide +kernel) ⟨(Nat.le_of_ble_eq_true rfl), (Nat.le_of_ble_eq_true rfl)⟩) (pr_V (r := (RX10, TX10, 16)) hP hK hD q_57 10 rfl hq_57) rfl rfl hl.1 rfl (lv_room (Nat.le_of_ble_eq_true rfl)) dX10_owedOn_94 ⟨(Nat.le_of_ble_eq_true rfl), (Nat.le_of_ble_eq_true rfl)⟩) hS (fun q _ h => hFc q h) hFc (fun r_59 u t H locs ht hvm w_58 hB hz1 hk1 hS => ?_)
            obtain ⟨S_60, rfl⟩ : ∃ z, z = u := ⟨_, rfl⟩
            obtain ⟨hP1, hK1, hD1⟩ := hB
            rw [ht] at hP1
            have hP : va_P (dC, dI) vwCl (oW cq S_60) H := hP1
            have hD : va_D A (oW cq S_60) := hD1.weaken (fun _ _ _ h => hFc _ h)
            clear hP1 hK1 hD1 hk1 hz1 hvm ht hFc
            obtain ⟨hIS_60, XS_60⟩ := w_58
            have X_61 : oX [2108, 5001] Z S_60 := oX.st YS_20 XS_60 (by decide +kernel)
            refine lv_isub hx hb dX10_owedOn_97 ?_
            refine lv_topi (fun x_62 ex_62 => ?_)
            clear ex_62
            refine lv_istore (lv' := [(4, .int x_62), (5, .int y_18), (0, .ref o), (1, .ref a1), (2, .int x2), (3, .int x3)]) hx hb dX10_owedOn_98 hl (by decide +kernel) rfl (fun ls hl => ?_)
            obtain ⟨x_63, ex_63⟩ : ∃ zq : Int32, y_18 + 1 = zq := ⟨_, rfl⟩
            have hx_63 : x_63.toInt = y_18.toInt + 1 := (iv_to ex_63).symm.trans (ad_i rfl (by decide +kernel) (by omega) (by omega))
            refine lv_iinc (v := x_63) (lv' := [(5, .int x_63), (4, .int x_62), (0, .ref o), (1, .ref a1), (2, .int x2), (3, .int x3)]) hx hb dX10_owedOn_100 hl (k := 1) rfl ex_63 (by decide +kernel) rfl (fun ls hl => ?_)
            clear ex_63
            refine lv_goto (tgt := 59) hx hb dX10_owedOn_103 (by decide +kernel) ?_
            exact ih (n - 1) (by omega) x_63 x_62 S_60 _ _ ls (by omega) (by omega) hIS_60 (oX.st (oX.st oX.rf XS_20 (by decide +kernel)) XS_60 (by decide +kernel)) hP hD hS (lv_sub hl [0, 1, 2, 3, 4, 5] rfl)
    have kc_64 : (0 : Int32).toInt = 0 := by decide
    exact cut_17 7 0 x_16 Z _ _ ls (by omega) (by decide +kernel) gI oX.rf hP hD hS (lv_sub hl [0, 1, 2, 3, 4, 5] rfl)
  · have dc_3 := c_nle (a := x_2.toInt) (b := x2.toInt) rfl rfl c_3
    refine lv_iconst (v := 0) hx hb dX10_owedOn_8 (by decide +kernel) ?_
    exact W.iret (v := 0) hx hb hr (fun t ht hW => ⟨⟨0, Z, rfl, ⟨gI, oX.rf⟩, ⟨by rw [ht]; exact hP, va_K.moved hW.alike hK, hD⟩⟩, hS.F ht⟩) hS.2.2 dX10_owedOn_9
