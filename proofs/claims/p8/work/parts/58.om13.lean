def tyX2 : Nat → FieldType := fun k => match k with
  | 0 => .int
  | 1 => .int
  | _ => .boolean
theorem nmX2 : ∀ a, a < 3 → ∀ b, b < 3 → a ≠ b → (TX2 a).2.1 ≠ (TX2 b).2.1 := by decide +kernel
theorem tyX2_ok : ∀ k, k < 3 → parseFieldDescriptor (TX2 k).2.2.1 = some (tyX2 k) := by decide +kernel
def tyX9 : Nat → FieldType := fun k => match k with
  | 0 => .int
  | 1 => .int
  | 2 => .int
  | 3 => .int
  | 4 => .boolean
  | 5 => .int
  | 6 => .int
  | 7 => .int
  | 8 => .int
  | _ => .object "ShipOffice$Happening"
theorem nmX9 : ∀ a, a < 10 → ∀ b, b < 10 → a ≠ b → (TX9 a).2.1 ≠ (TX9 b).2.1 := by decide +kernel
theorem tyX9_ok : ∀ k, k < 10 → parseFieldDescriptor (TX9 k).2.2.1 = some (tyX9 k) := by decide +kernel
abbrev cX10_miles : ByteArray := prog_1_method_3_code
def yX10_miles : MethodName := ⟨RX10, "miles", "(III)I"⟩
abbrev cX10_ended : ByteArray := prog_1_method_6_code
def yX10_ended : MethodName := ⟨RX10, "ended", "(II)I"⟩
abbrev cX10_sailed : ByteArray := prog_1_method_7_code
def yX10_sailed : MethodName := ⟨RX10, "sailed", "(II)I"⟩
abbrev cX10_lost : ByteArray := prog_1_method_9_code
def yX10_lost : MethodName := ⟨RX10, "lost", "(II)I"⟩
abbrev cX10_feed : ByteArray := prog_1_method_13_code
def yX10_feed : MethodName := ⟨RX10, "feed", "(IJ)I"⟩
abbrev cX10_off : ByteArray := prog_1_method_16_code
def yX10_off : MethodName := ⟨RX10, "off", "(II)I"⟩
abbrev cX10_state : ByteArray := prog_1_method_17_code
def yX10_state : MethodName := ⟨RX10, "state", "(III)I"⟩
abbrev cX10_earns : ByteArray := prog_1_method_18_code
def yX10_earns : MethodName := ⟨RX10, "earns", "(III)I"⟩
abbrev cX10_advance : ByteArray := prog_1_method_19_code
def yX10_advance : MethodName := ⟨RX10, "advance", "(II)I"⟩
abbrev cX10_sold : ByteArray := prog_1_method_20_code
def yX10_sold : MethodName := ⟨RX10, "sold", "(II)I"⟩
abbrev cX10_allot : ByteArray := prog_1_method_21_code
def yX10_allot : MethodName := ⟨RX10, "allot", "(II)I"⟩
abbrev cX10_read : ByteArray := prog_1_method_23_code
def yX10_read : MethodName := ⟨RX10, "read", "(II)I"⟩
abbrev cX10_stands : ByteArray := prog_1_method_24_code
def yX10_stands : MethodName := ⟨RX10, "stands", "(III)I"⟩
abbrev cX10_rations : ByteArray := prog_1_method_25_code
def yX10_rations : MethodName := ⟨RX10, "rations", "(III)I"⟩
abbrev cX10_owed : ByteArray := prog_1_method_26_code
def yX10_owed : MethodName := ⟨RX10, "owed", "(III)I"⟩
abbrev cX10_agreementOf : ByteArray := prog_1_method_27_code
def yX10_agreementOf : MethodName := ⟨RX10, "agreementOf", "(II)I"⟩
abbrev cX10_aboard : ByteArray := prog_1_method_28_code
def yX10_aboard : MethodName := ⟨RX10, "aboard", "(III)I"⟩
abbrev cX10_group : ByteArray := prog_1_method_29_code
def yX10_group : MethodName := ⟨RX10, "group", "(I)I"⟩
abbrev cX10_borrowed : ByteArray := prog_1_method_30_code
def yX10_borrowed : MethodName := ⟨RX10, "borrowed", "(I)I"⟩
abbrev cX10_home : ByteArray := prog_1_method_31_code
def yX10_home : MethodName := ⟨RX10, "home", "(I)I"⟩
abbrev cX10_ask : ByteArray := prog_1_method_32_code
def yX10_ask : MethodName := ⟨RX10, "ask", "(III)I"⟩
abbrev cX10_crew : ByteArray := prog_1_method_33_code
def yX10_crew : MethodName := ⟨RX10, "crew", "(II)I"⟩
abbrev cX10_check : ByteArray := prog_1_method_35_code
def yX10_check : MethodName := ⟨RX10, "check", "(III)I"⟩
abbrev cX10_count : ByteArray := prog_1_method_36_code
def yX10_count : MethodName := ⟨RX10, "count", "(I)I"⟩
theorem gw_X1_addShort : wsX1_addShort.all goodWord = true := by decide +kernel
theorem gw_X4_begin : wsX4_begin.all goodWord = true := by decide +kernel
theorem gw_X4_offer : wsX4_offer.all goodWord = true := by decide +kernel
theorem gw_X4_leastSum : wsX4_leastSum.all goodWord = true := by decide +kernel
theorem gw_X4_hand : wsX4_hand.all goodWord = true := by decide +kernel
theorem gw_X7_join : wsX7_join.all goodWord = true := by decide +kernel
theorem gw_X7_way : wsX7_way.all goodWord = true := by decide +kernel
theorem gw_X8_add : wsX8_add.all goodWord = true := by decide +kernel
theorem gw_X10_isPort : wsX10_isPort.all goodWord = true := by decide +kernel
def wsX10_miles : List Cond := .code yX10_miles cX10_miles 4 (some .int) :: ([.fieldLink RX10 44 "ShipOffice" "sea" "LShipOffice$Sea;", .methodLink RX10 77 yX10_isPort, .static yX10_isPort, .initialized RX10, .code yX10_isPort cX10_isPort 1 (some .boolean), .methodLink RX10 69 yX10_refuse, .instanceMethod yX10_refuse, .selects RX10 yX10_refuse yX10_refuse, .code yX10_refuse cX10_refuse 2 (some .int), .fieldLink RX10 66 "ShipOffice" "refusals" "[I", .methodLink RX10 81 yX7_join, .instanceMethod yX7_join, .selects RX7 yX7_join yX7_join, .initialized RX7, .code yX7_join cX7_join 5 (some .int), .fieldLink RX7 9 "ShipOffice$Sea" "miles" "[I"] ++ wsX100 ++ wsX70)
theorem il_X10_miles_1 : ∀ w ∈ ([.fieldLink RX10 44 "ShipOffice" "sea" "LShipOffice$Sea;", .methodLink RX10 77 yX10_isPort, .static yX10_isPort, .initialized RX10, .code yX10_isPort cX10_isPort 1 (some .boolean), .methodLink RX10 69 yX10_refuse, .instanceMethod yX10_refuse, .selects RX10 yX10_refuse yX10_refuse, .code yX10_refuse cX10_refuse 2 (some .int), .fieldLink RX10 66 "ShipOffice" "refusals" "[I", .methodLink RX10 81 yX7_join, .instanceMethod yX7_join, .selects RX7 yX7_join yX7_join, .initialized RX7, .code yX7_join cX7_join 5 (some .int), .fieldLink RX7 9 "ShipOffice$Sea" "miles" "[I"] : List Cond), w ∈ wsX10_miles := fun w h => (List.mem_cons_of_mem _ (List.mem_append_left _ (List.mem_append_left _ h)))
theorem il_X10_miles_2 : ∀ w ∈ wsX100, w ∈ wsX10_miles := fun w h => (List.mem_cons_of_mem _ (List.mem_append_left _ (List.mem_append_right _ h)))
theorem il_X10_miles_3 : ∀ w ∈ wsX70, w ∈ wsX10_miles := fun w h => (List.mem_cons_of_mem _ (List.mem_append_right _ h))
theorem iw_X10_miles_1 : Cond.fieldLink RX10 44 "ShipOffice" "sea" "LShipOffice$Sea;" ∈ wsX10_miles := (mmI il_X10_miles_1 0 rfl)
theorem gw_X10_voyageAt : wsX10_voyageAt.all goodWord = true := by decide +kernel
def wsX10_ended_r1 : List Cond := [Cond.fieldLink RX10 107 "ShipOffice$Voyage" "isOver" "Z", Cond.fieldLink RX10 111 "ShipOffice$Voyage" "lostTold" "I", Cond.constant RX10 114 (1000000), Cond.fieldLink RX10 115 "ShipOffice" "agreementCount" "I", Cond.fieldLink RX10 23 "ShipOffice" "agreements" "[LShipOffice$Agreement;", Cond.fieldLink RX10 118 "ShipOffice$Agreement" "voyage" "LShipOffice$Voyage;", Cond.fieldLink RX10 73 "ShipOffice" "now" "I", Cond.fieldLink RX10 126 "ShipOffice$Agreement" "offDay" "I", Cond.methodLink RX10 103 yX10_voyageAt, Cond.instanceMethod yX10_voyageAt, Cond.selects RX10 yX10_voyageAt yX10_voyageAt, Cond.initialized RX10, Cond.code yX10_voyageAt cX10_voyageAt 2 (some (.object "ShipOffice$Voyage")), Cond.fieldLink RX10 99 "ShipOffice" "voyageCount" "I", Cond.fieldLink RX10 17 "ShipOffice" "voyages" "[LShipOffice$Voyage;", Cond.methodLink RX10 77 yX10_isPort, Cond.static yX10_isPort, Cond.code yX10_isPort cX10_isPort 1 (some .boolean), Cond.methodLink RX10 69 yX10_refuse, Cond.instanceMethod yX10_refuse, Cond.selects RX10 yX10_refuse yX10_refuse, Cond.code yX10_refuse cX10_refuse 2 (some .int), Cond.fieldLink RX10 66 "ShipOffice" "refusals" "[I", Cond.methodLink RX10 122 yX1_goesOn]
def wsX10_ended_r2 : List Cond := [Cond.instanceMethod yX1_goesOn, Cond.selects RX1 yX1_goesOn yX1_goesOn, Cond.initialized RX1, Cond.code yX1_goesOn cX1_goesOn 1 (some .boolean), Cond.fieldLink RX1 10 "ShipOffice$Agreement" "offDay" "I", Cond.constant RX1 9 (1000000), Cond.fieldLink RX1 44 "ShipOffice$Agreement" "isDead" "Z", Cond.fieldLink RX1 33 "ShipOffice$Agreement" "voyage" "LShipOffice$Voyage;", Cond.fieldLink RX1 48 "ShipOffice$Voyage" "lostTold" "I"]
def wsX10_ended : List Cond := .code yX10_ended cX10_ended 7 (some .int) :: ((wsX10_ended_r1 ++ wsX10_ended_r2) ++ wsX90 ++ wsX100 ++ wsX10)
theorem il_X10_ended_1 : ∀ w ∈ wsX10_ended_r1, w ∈ wsX10_ended := fun w h => (List.mem_cons_of_mem _ (List.mem_append_left _ (List.mem_append_left _ (List.mem_append_left _ (List.mem_append_left _ h)))))
theorem il_X10_ended_2 : ∀ w ∈ wsX10_ended_r2, w ∈ wsX10_ended := fun w h => (List.mem_cons_of_mem _ (List.mem_append_left _ (List.mem_append_left _ (List.mem_append_left _ (List.mem_append_right _ h)))))
theorem il_X10_ended_3 : ∀ w ∈ wsX90, w ∈ wsX10_ended := fun w h => (List.mem_cons_of_mem _ (List.mem_append_left _ (List.mem_append_left _ (List.mem_append_right _ h))))
theorem il_X10_ended_4 : ∀ w ∈ wsX100, w ∈ wsX10_ended := fun w h => (List.mem_cons_of_mem _ (List.mem_append_left _ (List.mem_append_right _ h)))
theorem il_X10_ended_5 : ∀ w ∈ wsX10, w ∈ wsX10_ended := fun w h => (List.mem_cons_of_mem _ (List.mem_append_right _ h))
theorem iw_X10_ended_1 : Cond.fieldLink RX10 107 "ShipOffice$Voyage" "isOver" "Z" ∈ wsX10_ended := (mmI il_X10_ended_1 0 rfl)
theorem iw_X10_ended_2 : Cond.fieldLink RX10 111 "ShipOffice$Voyage" "lostTold" "I" ∈ wsX10_ended := (mmI il_X10_ended_1 1 rfl)
theorem iw_X10_ended_3 : Cond.fieldLink RX10 115 "ShipOffice" "agreementCount" "I" ∈ wsX10_ended := (mmI il_X10_ended_1 3 rfl)
theorem iw_X10_ended_4 : Cond.fieldLink RX10 23 "ShipOffice" "agreements" "[LShipOffice$Agreement;" ∈ wsX10_ended := (mmI il_X10_ended_1 4 rfl)
theorem iw_X10_ended_5 : Cond.fieldLink RX10 118 "ShipOffice$Agreement" "voyage" "LShipOffice$Voyage;" ∈ wsX10_ended := (mmI il_X10_ended_1 5 rfl)
theorem iw_X10_ended_6 : Cond.fieldLink RX10 73 "ShipOffice" "now" "I" ∈ wsX10_ended := (mmI il_X10_ended_1 6 rfl)
theorem iw_X10_ended_7 : Cond.fieldLink RX10 126 "ShipOffice$Agreement" "offDay" "I" ∈ wsX10_ended := (mmI il_X10_ended_1 7 rfl)
theorem gw_X10_voyageRefusal : wsX10_voyageRefusal.all goodWord = true := by decide +kernel
def wsX10_sailed : List Cond := .code yX10_sailed cX10_sailed 5 (some .int) :: ([.fieldLink RX10 129 "ShipOffice$Voyage" "sailedTold" "I", .constant RX10 114 (1000000), .fieldLink RX10 136 "ShipOffice$Voyage" "sailedDay" "I", .fieldLink RX10 73 "ShipOffice" "now" "I", .fieldLink RX10 139 "ShipOffice" "happeningCount" "I", .methodLink RX10 103 yX10_voyageAt, .instanceMethod yX10_voyageAt, .selects RX10 yX10_voyageAt yX10_voyageAt, .initialized RX10, .code yX10_voyageAt cX10_voyageAt 2 (some (.object "ShipOffice$Voyage")), .fieldLink RX10 99 "ShipOffice" "voyageCount" "I", .fieldLink RX10 17 "ShipOffice" "voyages" "[LShipOffice$Voyage;", .methodLink RX10 69 yX10_refuse, .instanceMethod yX10_refuse, .selects RX10 yX10_refuse yX10_refuse, .code yX10_refuse cX10_refuse 2 (some .int), .fieldLink RX10 66 "ShipOffice" "refusals" "[I", .methodLink RX10 132 yX10_voyageRefusal, .instanceMethod yX10_voyageRefusal, .selects RX10 yX10_voyageRefusal yX10_voyageRefusal, .code yX10_voyageRefusal cX10_voyageRefusal 4 (some .int), .fieldLink RX10 107 "ShipOffice$Voyage" "isOver" "Z", .fieldLink RX10 365 "ShipOffice$Voyage" "openedOn" "I"] ++ wsX90 ++ wsX100)
theorem il_X10_sailed_1 : ∀ w ∈ ([.fieldLink RX10 129 "ShipOffice$Voyage" "sailedTold" "I", .constant RX10 114 (1000000), .fieldLink RX10 136 "ShipOffice$Voyage" "sailedDay" "I", .fieldLink RX10 73 "ShipOffice" "now" "I", .fieldLink RX10 139 "ShipOffice" "happeningCount" "I", .methodLink RX10 103 yX10_voyageAt, .instanceMethod yX10_voyageAt, .selects RX10 yX10_voyageAt yX10_voyageAt, .initialized RX10, .code yX10_voyageAt cX10_voyageAt 2 (some (.object "ShipOffice$Voyage")), .fieldLink RX10 99 "ShipOffice" "voyageCount" "I", .fieldLink RX10 17 "ShipOffice" "voyages" "[LShipOffice$Voyage;", .methodLink RX10 69 yX10_refuse, .instanceMethod yX10_refuse, .selects RX10 yX10_refuse yX10_refuse, .code yX10_refuse cX10_refuse 2 (some .int), .fieldLink RX10 66 "ShipOffice" "refusals" "[I", .methodLink RX10 132 yX10_voyageRefusal, .instanceMethod yX10_voyageRefusal, .selects RX10 yX10_voyageRefusal yX10_voyageRefusal, .code yX10_voyageRefusal cX10_voyageRefusal 4 (some .int), .fieldLink RX10 107 "ShipOffice$Voyage" "isOver" "Z", .fieldLink RX10 365 "ShipOffice$Voyage" "openedOn" "I"] : List Cond), w ∈ wsX10_sailed := fun w h => (List.mem_cons_of_mem _ (List.mem_append_left _ (List.mem_append_left _ h)))
theorem il_X10_sailed_2 : ∀ w ∈ wsX90, w ∈ wsX10_sailed := fun w h => (List.mem_cons_of_mem _ (List.mem_append_left _ (List.mem_append_right _ h)))
theorem il_X10_sailed_3 : ∀ w ∈ wsX100, w ∈ wsX10_sailed := fun w h => (List.mem_cons_of_mem _ (List.mem_append_right _ h))
theorem iw_X10_sailed_1 : Cond.fieldLink RX10 129 "ShipOffice$Voyage" "sailedTold" "I" ∈ wsX10_sailed := (mmI il_X10_sailed_1 0 rfl)
theorem iw_X10_sailed_2 : Cond.fieldLink RX10 136 "ShipOffice$Voyage" "sailedDay" "I" ∈ wsX10_sailed := (mmI il_X10_sailed_1 2 rfl)
theorem iw_X10_sailed_3 : Cond.fieldLink RX10 73 "ShipOffice" "now" "I" ∈ wsX10_sailed := (mmI il_X10_sailed_1 3 rfl)
theorem iw_X10_sailed_4 : Cond.fieldLink RX10 139 "ShipOffice" "happeningCount" "I" ∈ wsX10_sailed := (mmI il_X10_sailed_1 4 rfl)
def wsX10_lost : List Cond := .code yX10_lost cX10_lost 5 (some .int) :: ([.fieldLink RX10 111 "ShipOffice$Voyage" "lostTold" "I", .constant RX10 114 (1000000), .fieldLink RX10 151 "ShipOffice$Voyage" "lostDay" "I", .fieldLink RX10 73 "ShipOffice" "now" "I", .fieldLink RX10 139 "ShipOffice" "happeningCount" "I", .methodLink RX10 103 yX10_voyageAt, .instanceMethod yX10_voyageAt, .selects RX10 yX10_voyageAt yX10_voyageAt, .initialized RX10, .code yX10_voyageAt cX10_voyageAt 2 (some (.object "ShipOffice$Voyage")), .fieldLink RX10 99 "ShipOffice" "voyageCount" "I", .fieldLink RX10 17 "ShipOffice" "voyages" "[LShipOffice$Voyage;", .methodLink RX10 69 yX10_refuse, .instanceMethod yX10_refuse, .selects RX10 yX10_refuse yX10_refuse, .code yX10_refuse cX10_refuse 2 (some .int), .fieldLink RX10 66 "ShipOffice" "refusals" "[I", .methodLink RX10 132 yX10_voyageRefusal, .instanceMethod yX10_voyageRefusal, .selects RX10 yX10_voyageRefusal yX10_voyageRefusal, .code yX10_voyageRefusal cX10_voyageRefusal 4 (some .int), .fieldLink RX10 107 "ShipOffice$Voyage" "isOver" "Z", .fieldLink RX10 365 "ShipOffice$Voyage" "openedOn" "I"] ++ wsX90 ++ wsX100)
theorem il_X10_lost_1 : ∀ w ∈ ([.fieldLink RX10 111 "ShipOffice$Voyage" "lostTold" "I", .constant RX10 114 (1000000), .fieldLink RX10 151 "ShipOffice$Voyage" "lostDay" "I", .fieldLink RX10 73 "ShipOffice" "now" "I", .fieldLink RX10 139 "ShipOffice" "happeningCount" "I", .methodLink RX10 103 yX10_voyageAt, .instanceMethod yX10_voyageAt, .selects RX10 yX10_voyageAt yX10_voyageAt, .initialized RX10, .code yX10_voyageAt cX10_voyageAt 2 (some (.object "ShipOffice$Voyage")), .fieldLink RX10 99 "ShipOffice" "voyageCount" "I", .fieldLink RX10 17 "ShipOffice" "voyages" "[LShipOffice$Voyage;", .methodLink RX10 69 yX10_refuse, .instanceMethod yX10_refuse, .selects RX10 yX10_refuse yX10_refuse, .code yX10_refuse cX10_refuse 2 (some .int), .fieldLink RX10 66 "ShipOffice" "refusals" "[I", .methodLink RX10 132 yX10_voyageRefusal, .instanceMethod yX10_voyageRefusal, .selects RX10 yX10_voyageRefusal yX10_voyageRefusal, .code yX10_voyageRefusal cX10_voyageRefusal 4 (some .int), .fieldLink RX10 107 "ShipOffice$Voyage" "isOver" "Z", .fieldLink RX10 365 "ShipOffice$Voyage" "openedOn" "I"] : List Cond), w ∈ wsX10_lost := fun w h => (List.mem_cons_of_mem _ (List.mem_append_left _ (List.mem_append_left _ h)))
theorem il_X10_lost_2 : ∀ w ∈ wsX90, w ∈ wsX10_lost := fun w h => (List.mem_cons_of_mem _ (List.mem_append_left _ (List.mem_append_right _ h)))
theorem il_X10_lost_3 : ∀ w ∈ wsX100, w ∈ wsX10_lost := fun w h => (List.mem_cons_of_mem _ (List.mem_append_right _ h))
theorem iw_X10_lost_1 : Cond.fieldLink RX10 111 "ShipOffice$Voyage" "lostTold" "I" ∈ wsX10_lost := (mmI il_X10_lost_1 0 rfl)
theorem iw_X10_lost_2 : Cond.fieldLink RX10 151 "ShipOffice$Voyage" "lostDay" "I" ∈ wsX10_lost := (mmI il_X10_lost_1 2 rfl)
theorem iw_X10_lost_3 : Cond.fieldLink RX10 73 "ShipOffice" "now" "I" ∈ wsX10_lost := (mmI il_X10_lost_1 3 rfl)
theorem iw_X10_lost_4 : Cond.fieldLink RX10 139 "ShipOffice" "happeningCount" "I" ∈ wsX10_lost := (mmI il_X10_lost_1 4 rfl)
theorem gw_X10_agreementAt : wsX10_agreementAt.all goodWord = true := by decide +kernel
def wsX10_feed : List Cond := .code yX10_feed cX10_feed 5 (some .int) :: ([.fieldLink RX10 37 "ShipOffice" "tape" "LShipOffice$Tape;", .fieldLink RX10 169 "ShipOffice$Tape" "size" "I", .constantLong RX10 172 (255), .methodLink RX10 69 yX10_refuse, .instanceMethod yX10_refuse, .selects RX10 yX10_refuse yX10_refuse, .initialized RX10, .code yX10_refuse cX10_refuse 2 (some .int), .fieldLink RX10 66 "ShipOffice" "refusals" "[I", .methodLink RX10 174 yX8_add, .instanceMethod yX8_add, .selects RX8 yX8_add yX8_add, .initialized RX8, .code yX8_add cX8_add 2 none, .fieldLink RX8 18 "ShipOffice$Tape" "size" "I", .fieldLink RX8 9 "ShipOffice$Tape" "bytes" "[I"] ++ wsX100 ++ wsX80)
theorem il_X10_feed_1 : ∀ w ∈ ([.fieldLink RX10 37 "ShipOffice" "tape" "LShipOffice$Tape;", .fieldLink RX10 169 "ShipOffice$Tape" "size" "I", .constantLong RX10 172 (255), .methodLink RX10 69 yX10_refuse, .instanceMethod yX10_refuse, .selects RX10 yX10_refuse yX10_refuse, .initialized RX10, .code yX10_refuse cX10_refuse 2 (some .int), .fieldLink RX10 66 "ShipOffice" "refusals" "[I", .methodLink RX10 174 yX8_add, .instanceMethod yX8_add, .selects RX8 yX8_add yX8_add, .initialized RX8, .code yX8_add cX8_add 2 none, .fieldLink RX8 18 "ShipOffice$Tape" "size" "I", .fieldLink RX8 9 "ShipOffice$Tape" "bytes" "[I"] : List Cond), w ∈ wsX10_feed := fun w h => (List.mem_cons_of_mem _ (List.mem_append_left _ (List.mem_append_left _ h)))
theorem il_X10_feed_2 : ∀ w ∈ wsX100, w ∈ wsX10_feed := fun w h => (List.mem_cons_of_mem _ (List.mem_append_left _ (List.mem_append_right _ h)))
theorem il_X10_feed_3 : ∀ w ∈ wsX80, w ∈ wsX10_feed := fun w h => (List.mem_cons_of_mem _ (List.mem_append_right _ h))
theorem iw_X10_feed_1 : Cond.fieldLink RX10 37 "ShipOffice" "tape" "LShipOffice$Tape;" ∈ wsX10_feed := (mmI il_X10_feed_1 0 rfl)
theorem iw_X10_feed_2 : Cond.fieldLink RX10 169 "ShipOffice$Tape" "size" "I" ∈ wsX10_feed := (mmI il_X10_feed_1 1 rfl)
theorem gw_X10_manAt : wsX10_manAt.all goodWord = true := by decide +kernel
theorem gw_X10_isFree : wsX10_isFree.all goodWord = true := by decide +kernel
def wsX10_off_r1 : List Cond := [Cond.fieldLink RX10 73 "ShipOffice" "now" "I", Cond.fieldLink RX10 126 "ShipOffice$Agreement" "offDay" "I", Cond.methodLink RX10 154 yX10_agreementAt, Cond.instanceMethod yX10_agreementAt, Cond.selects RX10 yX10_agreementAt yX10_agreementAt, Cond.initialized RX10, Cond.code yX10_agreementAt cX10_agreementAt 2 (some (.object "ShipOffice$Agreement")), Cond.fieldLink RX10 115 "ShipOffice" "agreementCount" "I", Cond.fieldLink RX10 23 "ShipOffice" "agreements" "[LShipOffice$Agreement;", Cond.methodLink RX10 77 yX10_isPort, Cond.static yX10_isPort, Cond.code yX10_isPort cX10_isPort 1 (some .boolean), Cond.methodLink RX10 69 yX10_refuse, Cond.instanceMethod yX10_refuse, Cond.selects RX10 yX10_refuse yX10_refuse, Cond.code yX10_refuse cX10_refuse 2 (some .int), Cond.fieldLink RX10 66 "ShipOffice" "refusals" "[I", Cond.methodLink RX10 122 yX1_goesOn, Cond.instanceMethod yX1_goesOn, Cond.selects RX1 yX1_goesOn yX1_goesOn, Cond.initialized RX1, Cond.code yX1_goesOn cX1_goesOn 1 (some .boolean), Cond.fieldLink RX1 10 "ShipOffice$Agreement" "offDay" "I", Cond.constant RX1 9 (1000000)]
def wsX10_off_r2 : List Cond := [Cond.fieldLink RX1 44 "ShipOffice$Agreement" "isDead" "Z", Cond.fieldLink RX1 33 "ShipOffice$Agreement" "voyage" "LShipOffice$Voyage;", Cond.fieldLink RX1 48 "ShipOffice$Voyage" "lostTold" "I"]
def wsX10_off : List Cond := .code yX10_off cX10_off 4 (some .int) :: ((wsX10_off_r1 ++ wsX10_off_r2) ++ wsX100 ++ wsX10 ++ wsX90)
theorem il_X10_off_1 : ∀ w ∈ wsX10_off_r1, w ∈ wsX10_off := fun w h => (List.mem_cons_of_mem _ (List.mem_append_left _ (List.mem_append_left _ (List.mem_append_left _ (List.mem_append_left _ h)))))
theorem il_X10_off_2 : ∀ w ∈ wsX10_off_r2, w ∈ wsX10_off := fun w h => (List.mem_cons_of_mem _ (List.mem_append_left _ (List.mem_append_left _ (List.mem_append_left _ (List.mem_append_right _ h)))))
theorem il_X10_off_3 : ∀ w ∈ wsX100, w ∈ wsX10_off := fun w h => (List.mem_cons_of_mem _ (List.mem_append_left _ (List.mem_append_left _ (List.mem_append_right _ h))))
theorem il_X10_off_4 : ∀ w ∈ wsX10, w ∈ wsX10_off := fun w h => (List.mem_cons_of_mem _ (List.mem_append_left _ (List.mem_append_right _ h)))
theorem il_X10_off_5 : ∀ w ∈ wsX90, w ∈ wsX10_off := fun w h => (List.mem_cons_of_mem _ (List.mem_append_right _ h))
theorem iw_X10_off_1 : Cond.fieldLink RX10 73 "ShipOffice" "now" "I" ∈ wsX10_off := (mmI il_X10_off_1 0 rfl)
theorem iw_X10_off_2 : Cond.fieldLink RX10 126 "ShipOffice$Agreement" "offDay" "I" ∈ wsX10_off := (mmI il_X10_off_1 1 rfl)
theorem gw_X10_askRefusal : wsX10_askRefusal.all goodWord = true := by decide +kernel
def wsX10_state_r1 : List Cond := [Cond.fieldLink RX10 30 "ShipOffice" "law" "LShipOffice$Law;", Cond.methodLink RX10 154 yX10_agreementAt, Cond.instanceMethod yX10_agreementAt, Cond.selects RX10 yX10_agreementAt yX10_agreementAt, Cond.initialized RX10, Cond.code yX10_agreementAt cX10_agreementAt 2 (some (.object "ShipOffice$Agreement")), Cond.fieldLink RX10 115 "ShipOffice" "agreementCount" "I", Cond.fieldLink RX10 23 "ShipOffice" "agreements" "[LShipOffice$Agreement;", Cond.methodLink RX10 69 yX10_refuse, Cond.instanceMethod yX10_refuse, Cond.selects RX10 yX10_refuse yX10_refuse, Cond.code yX10_refuse cX10_refuse 2 (some .int), Cond.fieldLink RX10 66 "ShipOffice" "refusals" "[I", Cond.methodLink RX10 229 yX10_askRefusal, Cond.instanceMethod yX10_askRefusal, Cond.selects RX10 yX10_askRefusal yX10_askRefusal, Cond.code yX10_askRefusal cX10_askRefusal 3 (some .int), Cond.fieldLink RX10 73 "ShipOffice" "now" "I", Cond.methodLink RX10 233 yX1_stateOn, Cond.instanceMethod yX1_stateOn, Cond.selects RX1 yX1_stateOn yX1_stateOn, Cond.initialized RX1, Cond.code yX1_stateOn cX1_stateOn 5 (some .int), Cond.fieldLink RX1 37 "ShipOffice$Agreement" "signedOn" "I"]
def wsX10_state_r2 : List Cond := [Cond.fieldLink RX1 33 "ShipOffice$Agreement" "voyage" "LShipOffice$Voyage;", Cond.fieldLink RX1 44 "ShipOffice$Agreement" "isDead" "Z", Cond.fieldLink RX1 10 "ShipOffice$Agreement" "offDay" "I", Cond.fieldLink RX1 64 "ShipOffice$Happening" "kind" "I", Cond.fieldLink RX1 82 "ShipOffice$Act" "plainWorth" "I", Cond.methodLink RX1 53 yX9_lostBy, Cond.instanceMethod yX9_lostBy, Cond.selects RX9 yX9_lostBy yX9_lostBy, Cond.initialized RX9, Cond.code yX9_lostBy cX9_lostBy 3 (some .boolean), Cond.fieldLink RX9 22 "ShipOffice$Voyage" "lostTold" "I", Cond.fieldLink RX9 19 "ShipOffice$Voyage" "lostDay" "I", Cond.methodLink RX1 57 yX1_diedBy, Cond.instanceMethod yX1_diedBy, Cond.selects RX1 yX1_diedBy yX1_diedBy, Cond.code yX1_diedBy cX1_diedBy 4 (some .boolean), Cond.fieldLink RX1 87 "ShipOffice$Agreement" "tidings" "LShipOffice$Happening;", Cond.fieldLink RX1 91 "ShipOffice$Happening" "told" "I", Cond.fieldLink RX1 94 "ShipOffice$Happening" "day" "I", Cond.fieldLink RX1 97 "ShipOffice$Happening" "before" "LShipOffice$Happening;", Cond.methodLink RX1 60 yX1_lastMove, Cond.instanceMethod yX1_lastMove, Cond.selects RX1 yX1_lastMove yX1_lastMove, Cond.code yX1_lastMove cX1_lastMove 6 (some (.object "ShipOffice$Happening"))]
def wsX10_state_r3 : List Cond := [Cond.methodLink RX1 69 yX9_sailedBy, Cond.instanceMethod yX9_sailedBy, Cond.selects RX9 yX9_sailedBy yX9_sailedBy, Cond.code yX9_sailedBy cX9_sailedBy 3 (some .boolean), Cond.fieldLink RX9 16 "ShipOffice$Voyage" "sailedTold" "I", Cond.fieldLink RX9 10 "ShipOffice$Voyage" "sailedDay" "I", Cond.methodLink RX1 72 yX9_lastHeard, Cond.instanceMethod yX9_lastHeard, Cond.selects RX9 yX9_lastHeard yX9_lastHeard, Cond.code yX9_lastHeard cX9_lastHeard 5 (some .int), Cond.fieldLink RX9 41 "ShipOffice$Voyage" "heardOf" "LShipOffice$Happening;", Cond.fieldLink RX9 45 "ShipOffice$Happening" "told" "I", Cond.fieldLink RX9 50 "ShipOffice$Happening" "day" "I", Cond.fieldLink RX9 53 "ShipOffice$Happening" "before" "LShipOffice$Happening;", Cond.methodLink RX1 76 yX5_inForce, Cond.instanceMethod yX5_inForce, Cond.selects RX5 yX5_inForce yX5_inForce, Cond.initialized RX5, Cond.code yX5_inForce cX5_inForce 6 (some (.object "ShipOffice$Act")), Cond.fieldLink RX5 17 "ShipOffice$Law" "customs" "[LShipOffice$Act;", Cond.fieldLink RX5 23 "ShipOffice$Law" "actCount" "I", Cond.fieldLink RX5 11 "ShipOffice$Law" "acts" "[LShipOffice$Act;", Cond.fieldLink RX5 27 "ShipOffice$Act" "purpose" "I", Cond.fieldLink RX5 30 "ShipOffice$Act" "day" "I"]
def wsX10_state : List Cond := .code yX10_state cX10_state 6 (some .int) :: ((wsX10_state_r1 ++ (wsX10_state_r2 ++ wsX10_state_r3)) ++ wsX100 ++ wsX10 ++ wsX30 ++ wsX00 ++ wsX90 ++ wsX50)
theorem il_X10_state_1 : ∀ w ∈ wsX10_state_r1, w ∈ wsX10_state := fun w h => (List.mem_cons_of_mem _ (List.mem_append_left _ (List.mem_append_left _ (List.mem_append_left _ (List.mem_append_left _ (List.mem_append_left _ (List.mem_append_left _ (List.mem_append_left _ h))))))))
theorem il_X10_state_2 : ∀ w ∈ wsX10_state_r2, w ∈ wsX10_state := fun w h => (List.mem_cons_of_mem _ (List.mem_append_left _ (List.mem_append_left _ (List.mem_append_left _ (List.mem_append_left _ (List.mem_append_left _ (List.mem_append_left _ (List.mem_append_right _ (List.mem_append_left _ h)))))))))
theorem il_X10_state_3 : ∀ w ∈ wsX10_state_r3, w ∈ wsX10_state := fun w h => (List.mem_cons_of_mem _ (List.mem_append_left _ (List.mem_append_left _ (List.mem_append_left _ (List.mem_append_left _ (List.mem_append_left _ (List.mem_append_left _ (List.mem_append_right _ (List.mem_append_right _ h)))))))))
theorem il_X10_state_4 : ∀ w ∈ wsX100, w ∈ wsX10_state := fun w h => (List.mem_cons_of_mem _ (List.mem_append_left _ (List.mem_append_left _ (List.mem_append_left _ (List.mem_append_left _ (List.mem_append_left _ (List.mem_append_right _ h)))))))
theorem il_X10_state_5 : ∀ w ∈ wsX10, w ∈ wsX10_state := fun w h => (List.mem_cons_of_mem _ (List.mem_append_left _ (List.mem_append_left _ (List.mem_append_left _ (List.mem_append_left _ (List.mem_append_right _ h))))))
theorem il_X10_state_6 : ∀ w ∈ wsX30, w ∈ wsX10_state := fun w h => (List.mem_cons_of_mem _ (List.mem_append_left _ (List.mem_append_left _ (List.mem_append_left _ (List.mem_append_right _ h)))))
theorem il_X10_state_7 : ∀ w ∈ wsX00, w ∈ wsX10_state := fun w h => (List.mem_cons_of_mem _ (List.mem_append_left _ (List.mem_append_left _ (List.mem_append_right _ h))))
theorem il_X10_state_8 : ∀ w ∈ wsX90, w ∈ wsX10_state := fun w h => (List.mem_cons_of_mem _ (List.mem_append_left _ (List.mem_append_right _ h)))
theorem il_X10_state_9 : ∀ w ∈ wsX50, w ∈ wsX10_state := fun w h => (List.mem_cons_of_mem _ (List.mem_append_right _ h))
theorem iw_X10_state_1 : Cond.fieldLink RX10 30 "ShipOffice" "law" "LShipOffice$Law;" ∈ wsX10_state := (mmI il_X10_state_1 0 rfl)
def wsX10_earns_r1 : List Cond := [Cond.fieldLink RX10 30 "ShipOffice" "law" "LShipOffice$Law;", Cond.methodLink RX10 154 yX10_agreementAt, Cond.instanceMethod yX10_agreementAt, Cond.selects RX10 yX10_agreementAt yX10_agreementAt, Cond.initialized RX10, Cond.code yX10_agreementAt cX10_agreementAt 2 (some (.object "ShipOffice$Agreement")), Cond.fieldLink RX10 115 "ShipOffice" "agreementCount" "I", Cond.fieldLink RX10 23 "ShipOffice" "agreements" "[LShipOffice$Agreement;", Cond.methodLink RX10 69 yX10_refuse, Cond.instanceMethod yX10_refuse, Cond.selects RX10 yX10_refuse yX10_refuse, Cond.code yX10_refuse cX10_refuse 2 (some .int), Cond.fieldLink RX10 66 "ShipOffice" "refusals" "[I", Cond.methodLink RX10 229 yX10_askRefusal, Cond.instanceMethod yX10_askRefusal, Cond.selects RX10 yX10_askRefusal yX10_askRefusal, Cond.code yX10_askRefusal cX10_askRefusal 3 (some .int), Cond.fieldLink RX10 73 "ShipOffice" "now" "I", Cond.methodLink RX10 237 yX1_earningDays, Cond.instanceMethod yX1_earningDays, Cond.selects RX1 yX1_earningDays yX1_earningDays, Cond.initialized RX1, Cond.code yX1_earningDays cX1_earningDays 5 (some .int), Cond.fieldLink RX1 33 "ShipOffice$Agreement" "voyage" "LShipOffice$Voyage;"]
def wsX10_earns_r2 : List Cond := [Cond.methodLink RX1 100 yX1_stateOn, Cond.instanceMethod yX1_stateOn, Cond.selects RX1 yX1_stateOn yX1_stateOn, Cond.code yX1_stateOn cX1_stateOn 5 (some .int), Cond.fieldLink RX1 37 "ShipOffice$Agreement" "signedOn" "I", Cond.fieldLink RX1 44 "ShipOffice$Agreement" "isDead" "Z", Cond.fieldLink RX1 10 "ShipOffice$Agreement" "offDay" "I", Cond.fieldLink RX1 64 "ShipOffice$Happening" "kind" "I", Cond.fieldLink RX1 82 "ShipOffice$Act" "plainWorth" "I", Cond.methodLink RX1 53 yX9_lostBy, Cond.instanceMethod yX9_lostBy, Cond.selects RX9 yX9_lostBy yX9_lostBy, Cond.initialized RX9, Cond.code yX9_lostBy cX9_lostBy 3 (some .boolean), Cond.fieldLink RX9 22 "ShipOffice$Voyage" "lostTold" "I", Cond.fieldLink RX9 19 "ShipOffice$Voyage" "lostDay" "I", Cond.methodLink RX1 57 yX1_diedBy, Cond.instanceMethod yX1_diedBy, Cond.selects RX1 yX1_diedBy yX1_diedBy, Cond.code yX1_diedBy cX1_diedBy 4 (some .boolean), Cond.fieldLink RX1 87 "ShipOffice$Agreement" "tidings" "LShipOffice$Happening;", Cond.fieldLink RX1 91 "ShipOffice$Happening" "told" "I", Cond.fieldLink RX1 94 "ShipOffice$Happening" "day" "I", Cond.fieldLink RX1 97 "ShipOffice$Happening" "before" "LShipOffice$Happening;"]
def wsX10_earns_r3 : List Cond := [Cond.methodLink RX1 60 yX1_lastMove, Cond.instanceMethod yX1_lastMove, Cond.selects RX1 yX1_lastMove yX1_lastMove, Cond.code yX1_lastMove cX1_lastMove 6 (some (.object "ShipOffice$Happening")), Cond.methodLink RX1 69 yX9_sailedBy, Cond.instanceMethod yX9_sailedBy, Cond.selects RX9 yX9_sailedBy yX9_sailedBy, Cond.code yX9_sailedBy cX9_sailedBy 3 (some .boolean), Cond.fieldLink RX9 16 "ShipOffice$Voyage" "sailedTold" "I", Cond.fieldLink RX9 10 "ShipOffice$Voyage" "sailedDay" "I", Cond.methodLink RX1 72 yX9_lastHeard, Cond.instanceMethod yX9_lastHeard, Cond.selects RX9 yX9_lastHeard yX9_lastHeard, Cond.code yX9_lastHeard cX9_lastHeard 5 (some .int), Cond.fieldLink RX9 41 "ShipOffice$Voyage" "heardOf" "LShipOffice$Happening;", Cond.fieldLink RX9 45 "ShipOffice$Happening" "told" "I", Cond.fieldLink RX9 50 "ShipOffice$Happening" "day" "I", Cond.fieldLink RX9 53 "ShipOffice$Happening" "before" "LShipOffice$Happening;", Cond.methodLink RX1 76 yX5_inForce, Cond.instanceMethod yX5_inForce, Cond.selects RX5 yX5_inForce yX5_inForce, Cond.initialized RX5, Cond.code yX5_inForce cX5_inForce 6 (some (.object "ShipOffice$Act")), Cond.fieldLink RX5 17 "ShipOffice$Law" "customs" "[LShipOffice$Act;"]
def wsX10_earns_r4 : List Cond := [Cond.fieldLink RX5 23 "ShipOffice$Law" "actCount" "I", Cond.fieldLink RX5 11 "ShipOffice$Law" "acts" "[LShipOffice$Act;", Cond.fieldLink RX5 27 "ShipOffice$Act" "purpose" "I", Cond.fieldLink RX5 30 "ShipOffice$Act" "day" "I", Cond.methodLink RX1 104 yX1_daysIn, Cond.instanceMethod yX1_daysIn, Cond.selects RX1 yX1_daysIn yX1_daysIn, Cond.code yX1_daysIn cX1_daysIn 10 (some .int), Cond.methodLink RX1 111 Lib.Math.min.name, Cond.static Lib.Math.min.name, Cond.initialized "java/lang/Math", Cond.code Lib.Math.min.name Lib.Math.min.code 2 (some .int), Cond.methodLink RX1 108 yX1_nextChange, Cond.instanceMethod yX1_nextChange, Cond.selects RX1 yX1_nextChange yX1_nextChange, Cond.code yX1_nextChange cX1_nextChange 6 (some .int), Cond.constant RX1 9 (1000000), Cond.methodLink RX1 116 yX1_nearer, Cond.static yX1_nearer, Cond.code yX1_nearer cX1_nearer 3 (some .int), Cond.methodLink RX1 120 yX9_nextTold, Cond.instanceMethod yX9_nextTold, Cond.selects RX9 yX9_nextTold yX9_nextTold, Cond.code yX9_nextTold cX9_nextTold 5 (some .int)]
def wsX10_earns_r5 : List Cond := [Cond.constant RX9 9 (1000000), Cond.methodLink RX1 123 yX5_nextPresume, Cond.instanceMethod yX5_nextPresume, Cond.selects RX5 yX5_nextPresume yX5_nextPresume, Cond.code yX5_nextPresume cX5_nextPresume 4 (some .int), Cond.constant RX5 33 (1000000)]
def wsX10_earns : List Cond := .code yX10_earns cX10_earns 6 (some .int) :: ((wsX10_earns_r1 ++ (wsX10_earns_r2 ++ (wsX10_earns_r3 ++ (wsX10_earns_r4 ++ wsX10_earns_r5)))) ++ wsX100 ++ wsX10 ++ wsX30 ++ wsX00 ++ wsX90 ++ wsX50)
theorem il_X10_earns_1 : ∀ w ∈ wsX10_earns_r1, w ∈ wsX10_earns := fun w h => (List.mem_cons_of_mem _ (List.mem_append_left _ (List.mem_append_left _ (List.mem_append_left _ (List.mem_append_left _ (List.mem_append_left _ (List.mem_append_left _ (List.mem_append_left _ h))))))))
theorem il_X10_earns_2 : ∀ w ∈ wsX10_earns_r2, w ∈ wsX10_earns := fun w h => (List.mem_cons_of_mem _ (List.mem_append_left _ (List.mem_append_left _ (List.mem_append_left _ (List.mem_append_left _ (List.mem_append_left _ (List.mem_append_left _ (List.mem_append_right _ (List.mem_append_left _ h)))))))))
theorem il_X10_earns_3 : ∀ w ∈ wsX10_earns_r3, w ∈ wsX10_earns := fun w h => (List.mem_cons_of_mem _ (List.mem_append_left _ (List.mem_append_left _ (List.mem_append_left _ (List.mem_append_left _ (List.mem_append_left _ (List.mem_append_left _ (List.mem_append_right _ (List.mem_append_right _ (List.mem_append_left _ h))))))))))
theorem il_X10_earns_4 : ∀ w ∈ wsX10_earns_r4, w ∈ wsX10_earns := fun w h => (List.mem_cons_of_mem _ (List.mem_append_left _ (List.mem_append_left _ (List.mem_append_left _ (List.mem_append_left _ (List.mem_append_left _ (List.mem_append_left _ (List.mem_append_right _ (List.mem_append_right _ (List.mem_append_right _ (List.mem_append_left _ h)))))))))))
theorem il_X10_earns_5 : ∀ w ∈ wsX10_earns_r5, w ∈ wsX10_earns := fun w h => (List.mem_cons_of_mem _ (List.mem_append_left _ (List.mem_append_left _ (List.mem_append_left _ (List.mem_append_left _ (List.mem_append_left _ (List.mem_append_left _ (List.mem_append_right _ (List.mem_append_right _ (List.mem_append_right _ (List.mem_append_right _ h)))))))))))
theorem il_X10_earns_6 : ∀ w ∈ wsX100, w ∈ wsX10_earns := fun w h => (List.mem_cons_of_mem _ (List.mem_append_left _ (List.mem_append_left _ (List.mem_append_left _ (List.mem_append_left _ (List.mem_append_left _ (List.mem_append_right _ h)))))))
theorem il_X10_earns_7 : ∀ w ∈ wsX10, w ∈ wsX10_earns := fun w h => (List.mem_cons_of_mem _ (List.mem_append_left _ (List.mem_append_left _ (List.mem_append_left _ (List.mem_append_left _ (List.mem_append_right _ h))))))
theorem il_X10_earns_8 : ∀ w ∈ wsX30, w ∈ wsX10_earns := fun w h => (List.mem_cons_of_mem _ (List.mem_append_left _ (List.mem_append_left _ (List.mem_append_left _ (List.mem_append_right _ h)))))
theorem il_X10_earns_9 : ∀ w ∈ wsX00, w ∈ wsX10_earns := fun w h => (List.mem_cons_of_mem _ (List.mem_append_left _ (List.mem_append_left _ (List.mem_append_right _ h))))
theorem il_X10_earns_10 : ∀ w ∈ wsX90, w ∈ wsX10_earns := fun w h => (List.mem_cons_of_mem _ (List.mem_append_left _ (List.mem_append_right _ h)))
theorem il_X10_earns_11 : ∀ w ∈ wsX50, w ∈ wsX10_earns := fun w h => (List.mem_cons_of_mem _ (List.mem_append_right _ h))
theorem iw_X10_earns_1 : Cond.fieldLink RX10 30 "ShipOffice" "law" "LShipOffice$Law;" ∈ wsX10_earns := (mmI il_X10_earns_1 0 rfl)
def wsX10_advance_r1 : List Cond := [Cond.fieldLink RX10 240 "ShipOffice$Agreement" "note" "I", Cond.fieldLink RX10 73 "ShipOffice" "now" "I", Cond.fieldLink RX10 30 "ShipOffice" "law" "LShipOffice$Law;", Cond.constant RX10 85 (99999), Cond.methodLink RX10 154 yX10_agreementAt, Cond.instanceMethod yX10_agreementAt, Cond.selects RX10 yX10_agreementAt yX10_agreementAt, Cond.initialized RX10, Cond.code yX10_agreementAt cX10_agreementAt 2 (some (.object "ShipOffice$Agreement")), Cond.fieldLink RX10 115 "ShipOffice" "agreementCount" "I", Cond.fieldLink RX10 23 "ShipOffice" "agreements" "[LShipOffice$Agreement;", Cond.methodLink RX10 69 yX10_refuse, Cond.instanceMethod yX10_refuse, Cond.selects RX10 yX10_refuse yX10_refuse, Cond.code yX10_refuse cX10_refuse 2 (some .int), Cond.fieldLink RX10 66 "ShipOffice" "refusals" "[I", Cond.methodLink RX10 233 yX1_stateOn, Cond.instanceMethod yX1_stateOn, Cond.selects RX1 yX1_stateOn yX1_stateOn, Cond.initialized RX1, Cond.code yX1_stateOn cX1_stateOn 5 (some .int), Cond.fieldLink RX1 37 "ShipOffice$Agreement" "signedOn" "I", Cond.fieldLink RX1 33 "ShipOffice$Agreement" "voyage" "LShipOffice$Voyage;", Cond.fieldLink RX1 44 "ShipOffice$Agreement" "isDead" "Z"]
def wsX10_advance_r2 : List Cond := [Cond.fieldLink RX1 10 "ShipOffice$Agreement" "offDay" "I", Cond.fieldLink RX1 64 "ShipOffice$Happening" "kind" "I", Cond.fieldLink RX1 82 "ShipOffice$Act" "plainWorth" "I", Cond.methodLink RX1 53 yX9_lostBy, Cond.instanceMethod yX9_lostBy, Cond.selects RX9 yX9_lostBy yX9_lostBy, Cond.initialized RX9, Cond.code yX9_lostBy cX9_lostBy 3 (some .boolean), Cond.fieldLink RX9 22 "ShipOffice$Voyage" "lostTold" "I", Cond.fieldLink RX9 19 "ShipOffice$Voyage" "lostDay" "I", Cond.methodLink RX1 57 yX1_diedBy, Cond.instanceMethod yX1_diedBy, Cond.selects RX1 yX1_diedBy yX1_diedBy, Cond.code yX1_diedBy cX1_diedBy 4 (some .boolean), Cond.fieldLink RX1 87 "ShipOffice$Agreement" "tidings" "LShipOffice$Happening;", Cond.fieldLink RX1 91 "ShipOffice$Happening" "told" "I", Cond.fieldLink RX1 94 "ShipOffice$Happening" "day" "I", Cond.fieldLink RX1 97 "ShipOffice$Happening" "before" "LShipOffice$Happening;", Cond.methodLink RX1 60 yX1_lastMove, Cond.instanceMethod yX1_lastMove, Cond.selects RX1 yX1_lastMove yX1_lastMove, Cond.code yX1_lastMove cX1_lastMove 6 (some (.object "ShipOffice$Happening")), Cond.methodLink RX1 69 yX9_sailedBy, Cond.instanceMethod yX9_sailedBy]
def wsX10_advance_r3 : List Cond := [Cond.selects RX9 yX9_sailedBy yX9_sailedBy, Cond.code yX9_sailedBy cX9_sailedBy 3 (some .boolean), Cond.fieldLink RX9 16 "ShipOffice$Voyage" "sailedTold" "I", Cond.fieldLink RX9 10 "ShipOffice$Voyage" "sailedDay" "I", Cond.methodLink RX1 72 yX9_lastHeard, Cond.instanceMethod yX9_lastHeard, Cond.selects RX9 yX9_lastHeard yX9_lastHeard, Cond.code yX9_lastHeard cX9_lastHeard 5 (some .int), Cond.fieldLink RX9 41 "ShipOffice$Voyage" "heardOf" "LShipOffice$Happening;", Cond.fieldLink RX9 45 "ShipOffice$Happening" "told" "I", Cond.fieldLink RX9 50 "ShipOffice$Happening" "day" "I", Cond.fieldLink RX9 53 "ShipOffice$Happening" "before" "LShipOffice$Happening;", Cond.methodLink RX1 76 yX5_inForce, Cond.instanceMethod yX5_inForce, Cond.selects RX5 yX5_inForce yX5_inForce, Cond.initialized RX5, Cond.code yX5_inForce cX5_inForce 6 (some (.object "ShipOffice$Act")), Cond.fieldLink RX5 17 "ShipOffice$Law" "customs" "[LShipOffice$Act;", Cond.fieldLink RX5 23 "ShipOffice$Law" "actCount" "I", Cond.fieldLink RX5 11 "ShipOffice$Law" "acts" "[LShipOffice$Act;", Cond.fieldLink RX5 27 "ShipOffice$Act" "purpose" "I", Cond.fieldLink RX5 30 "ShipOffice$Act" "day" "I"]
def wsX10_advance : List Cond := .code yX10_advance cX10_advance 4 (some .int) :: ((wsX10_advance_r1 ++ (wsX10_advance_r2 ++ wsX10_advance_r3)) ++ wsX10 ++ wsX100 ++ wsX30 ++ wsX00 ++ wsX90 ++ wsX50)
theorem il_X10_advance_1 : ∀ w ∈ wsX10_advance_r1, w ∈ wsX10_advance := fun w h => (List.mem_cons_of_mem _ (List.mem_append_left _ (List.mem_append_left _ (List.mem_append_left _ (List.mem_append_left _ (List.mem_append_left _ (List.mem_append_left _ (List.mem_append_left _ h))))))))
theorem il_X10_advance_2 : ∀ w ∈ wsX10_advance_r2, w ∈ wsX10_advance := fun w h => (List.mem_cons_of_mem _ (List.mem_append_left _ (List.mem_append_left _ (List.mem_append_left _ (List.mem_append_left _ (List.mem_append_left _ (List.mem_append_left _ (List.mem_append_right _ (List.mem_append_left _ h)))))))))
theorem il_X10_advance_3 : ∀ w ∈ wsX10_advance_r3, w ∈ wsX10_advance := fun w h => (List.mem_cons_of_mem _ (List.mem_append_left _ (List.mem_append_left _ (List.mem_append_left _ (List.mem_append_left _ (List.mem_append_left _ (List.mem_append_left _ (List.mem_append_right _ (List.mem_append_right _ h)))))))))
theorem il_X10_advance_4 : ∀ w ∈ wsX10, w ∈ wsX10_advance := fun w h => (List.mem_cons_of_mem _ (List.mem_append_left _ (List.mem_append_left _ (List.mem_append_left _ (List.mem_append_left _ (List.mem_append_left _ (List.mem_append_right _ h)))))))
theorem il_X10_advance_5 : ∀ w ∈ wsX100, w ∈ wsX10_advance := fun w h => (List.mem_cons_of_mem _ (List.mem_append_left _ (List.mem_append_left _ (List.mem_append_left _ (List.mem_append_left _ (List.mem_append_right _ h))))))
theorem il_X10_advance_6 : ∀ w ∈ wsX30, w ∈ wsX10_advance := fun w h => (List.mem_cons_of_mem _ (List.mem_append_left _ (List.mem_append_left _ (List.mem_append_left _ (List.mem_append_right _ h)))))
theorem il_X10_advance_7 : ∀ w ∈ wsX00, w ∈ wsX10_advance := fun w h => (List.mem_cons_of_mem _ (List.mem_append_left _ (List.mem_append_left _ (List.mem_append_right _ h))))
theorem il_X10_advance_8 : ∀ w ∈ wsX90, w ∈ wsX10_advance := fun w h => (List.mem_cons_of_mem _ (List.mem_append_left _ (List.mem_append_right _ h)))
theorem il_X10_advance_9 : ∀ w ∈ wsX50, w ∈ wsX10_advance := fun w h => (List.mem_cons_of_mem _ (List.mem_append_right _ h))
theorem iw_X10_advance_1 : Cond.fieldLink RX10 240 "ShipOffice$Agreement" "note" "I" ∈ wsX10_advance := (mmI il_X10_advance_1 0 rfl)
theorem iw_X10_advance_2 : Cond.fieldLink RX10 73 "ShipOffice" "now" "I" ∈ wsX10_advance := (mmI il_X10_advance_1 1 rfl)
theorem iw_X10_advance_3 : Cond.fieldLink RX10 30 "ShipOffice" "law" "LShipOffice$Law;" ∈ wsX10_advance := (mmI il_X10_advance_1 2 rfl)
def wsX10_sold : List Cond := .code yX10_sold cX10_sold 4 (some .int) :: ([.fieldLink RX10 240 "ShipOffice$Agreement" "note" "I", .fieldLink RX10 243 "ShipOffice$Agreement" "given" "I", .methodLink RX10 154 yX10_agreementAt, .instanceMethod yX10_agreementAt, .selects RX10 yX10_agreementAt yX10_agreementAt, .initialized RX10, .code yX10_agreementAt cX10_agreementAt 2 (some (.object "ShipOffice$Agreement")), .fieldLink RX10 115 "ShipOffice" "agreementCount" "I", .fieldLink RX10 23 "ShipOffice" "agreements" "[LShipOffice$Agreement;", .methodLink RX10 69 yX10_refuse, .instanceMethod yX10_refuse, .selects RX10 yX10_refuse yX10_refuse, .code yX10_refuse cX10_refuse 2 (some .int), .fieldLink RX10 66 "ShipOffice" "refusals" "[I"] ++ wsX10 ++ wsX100)
theorem il_X10_sold_1 : ∀ w ∈ ([.fieldLink RX10 240 "ShipOffice$Agreement" "note" "I", .fieldLink RX10 243 "ShipOffice$Agreement" "given" "I", .methodLink RX10 154 yX10_agreementAt, .instanceMethod yX10_agreementAt, .selects RX10 yX10_agreementAt yX10_agreementAt, .initialized RX10, .code yX10_agreementAt cX10_agreementAt 2 (some (.object "ShipOffice$Agreement")), .fieldLink RX10 115 "ShipOffice" "agreementCount" "I", .fieldLink RX10 23 "ShipOffice" "agreements" "[LShipOffice$Agreement;", .methodLink RX10 69 yX10_refuse, .instanceMethod yX10_refuse, .selects RX10 yX10_refuse yX10_refuse, .code yX10_refuse cX10_refuse 2 (some .int), .fieldLink RX10 66 "ShipOffice" "refusals" "[I"] : List Cond), w ∈ wsX10_sold := fun w h => (List.mem_cons_of_mem _ (List.mem_append_left _ (List.mem_append_left _ h)))
theorem il_X10_sold_3 : ∀ w ∈ wsX100, w ∈ wsX10_sold := fun w h => (List.mem_cons_of_mem _ (List.mem_append_right _ h))
theorem iw_X10_sold_1 : Cond.fieldLink RX10 240 "ShipOffice$Agreement" "note" "I" ∈ wsX10_sold := (mmI il_X10_sold_1 0 rfl)
theorem iw_X10_sold_2 : Cond.fieldLink RX10 243 "ShipOffice$Agreement" "given" "I" ∈ wsX10_sold := (mmI il_X10_sold_1 1 rfl)
def wsX10_allot_r1 : List Cond := [Cond.fieldLink RX10 246 "ShipOffice$Agreement" "allotment" "I", Cond.fieldLink RX10 73 "ShipOffice" "now" "I", Cond.fieldLink RX10 223 "ShipOffice$Agreement" "wage" "I", Cond.constantLong RX10 253 (100), Cond.methodLink RX10 154 yX10_agreementAt, Cond.instanceMethod yX10_agreementAt, Cond.selects RX10 yX10_agreementAt yX10_agreementAt, Cond.initialized RX10, Cond.code yX10_agreementAt cX10_agreementAt 2 (some (.object "ShipOffice$Agreement")), Cond.fieldLink RX10 115 "ShipOffice" "agreementCount" "I", Cond.fieldLink RX10 23 "ShipOffice" "agreements" "[LShipOffice$Agreement;", Cond.methodLink RX10 69 yX10_refuse, Cond.instanceMethod yX10_refuse, Cond.selects RX10 yX10_refuse yX10_refuse, Cond.code yX10_refuse cX10_refuse 2 (some .int), Cond.fieldLink RX10 66 "ShipOffice" "refusals" "[I", Cond.methodLink RX10 122 yX1_goesOn, Cond.instanceMethod yX1_goesOn, Cond.selects RX1 yX1_goesOn yX1_goesOn, Cond.initialized RX1, Cond.code yX1_goesOn cX1_goesOn 1 (some .boolean), Cond.fieldLink RX1 10 "ShipOffice$Agreement" "offDay" "I", Cond.constant RX1 9 (1000000), Cond.fieldLink RX1 44 "ShipOffice$Agreement" "isDead" "Z"]
def wsX10_allot_r2 : List Cond := [Cond.fieldLink RX1 33 "ShipOffice$Agreement" "voyage" "LShipOffice$Voyage;", Cond.fieldLink RX1 48 "ShipOffice$Voyage" "lostTold" "I", Cond.methodLink RX10 249 yX10_worthFor, Cond.instanceMethod yX10_worthFor, Cond.selects RX10 yX10_worthFor yX10_worthFor, Cond.code yX10_worthFor cX10_worthFor 8 (some .int), Cond.fieldLink RX10 30 "ShipOffice" "law" "LShipOffice$Law;", Cond.fieldLink RX10 59 "ShipOffice" "letters" "[I", Cond.fieldLink RX10 226 "ShipOffice$Agreement" "rank" "I", Cond.fieldLink RX10 299 "ShipOffice$Agreement" "man" "LShipOffice$Man;", Cond.fieldLink RX10 118 "ShipOffice$Agreement" "voyage" "LShipOffice$Voyage;", Cond.methodLink RX10 400 yX5_inForce, Cond.instanceMethod yX5_inForce, Cond.selects RX5 yX5_inForce yX5_inForce, Cond.initialized RX5, Cond.code yX5_inForce cX5_inForce 6 (some (.object "ShipOffice$Act")), Cond.fieldLink RX5 17 "ShipOffice$Law" "customs" "[LShipOffice$Act;", Cond.fieldLink RX5 23 "ShipOffice$Law" "actCount" "I", Cond.fieldLink RX5 11 "ShipOffice$Law" "acts" "[LShipOffice$Act;", Cond.fieldLink RX5 27 "ShipOffice$Act" "purpose" "I", Cond.fieldLink RX5 30 "ShipOffice$Act" "day" "I", Cond.methodLink RX10 397 yX6_yearsOn, Cond.instanceMethod yX6_yearsOn, Cond.selects RX6 yX6_yearsOn yX6_yearsOn]
def wsX10_allot_r3 : List Cond := [Cond.initialized RX6, Cond.code yX6_yearsOn cX6_yearsOn 2 (some .int), Cond.fieldLink RX6 25 "ShipOffice$Man" "born" "I", Cond.methodLink RX10 408 yX0_uses, Cond.instanceMethod yX0_uses, Cond.selects RX0 yX0_uses yX0_uses, Cond.initialized RX0, Cond.code yX0_uses cX0_uses 6 (some .boolean), Cond.fieldLink RX0 16 "ShipOffice$Act" "code" "[I", Cond.methodLink RX10 411 yX1_daysIn, Cond.instanceMethod yX1_daysIn, Cond.selects RX1 yX1_daysIn yX1_daysIn, Cond.code yX1_daysIn cX1_daysIn 10 (some .int), Cond.fieldLink RX1 37 "ShipOffice$Agreement" "signedOn" "I", Cond.methodLink RX1 111 Lib.Math.min.name, Cond.static Lib.Math.min.name, Cond.initialized "java/lang/Math", Cond.code Lib.Math.min.name Lib.Math.min.code 2 (some .int), Cond.methodLink RX1 100 yX1_stateOn, Cond.instanceMethod yX1_stateOn, Cond.selects RX1 yX1_stateOn yX1_stateOn, Cond.code yX1_stateOn cX1_stateOn 5 (some .int), Cond.fieldLink RX1 64 "ShipOffice$Happening" "kind" "I", Cond.fieldLink RX1 82 "ShipOffice$Act" "plainWorth" "I"]
def wsX10_allot_r4 : List Cond := [Cond.methodLink RX1 53 yX9_lostBy, Cond.instanceMethod yX9_lostBy, Cond.selects RX9 yX9_lostBy yX9_lostBy, Cond.initialized RX9, Cond.code yX9_lostBy cX9_lostBy 3 (some .boolean), Cond.fieldLink RX9 22 "ShipOffice$Voyage" "lostTold" "I", Cond.fieldLink RX9 19 "ShipOffice$Voyage" "lostDay" "I", Cond.methodLink RX1 57 yX1_diedBy, Cond.instanceMethod yX1_diedBy, Cond.selects RX1 yX1_diedBy yX1_diedBy, Cond.code yX1_diedBy cX1_diedBy 4 (some .boolean), Cond.fieldLink RX1 87 "ShipOffice$Agreement" "tidings" "LShipOffice$Happening;", Cond.fieldLink RX1 91 "ShipOffice$Happening" "told" "I", Cond.fieldLink RX1 94 "ShipOffice$Happening" "day" "I", Cond.fieldLink RX1 97 "ShipOffice$Happening" "before" "LShipOffice$Happening;", Cond.methodLink RX1 60 yX1_lastMove, Cond.instanceMethod yX1_lastMove, Cond.selects RX1 yX1_lastMove yX1_lastMove, Cond.code yX1_lastMove cX1_lastMove 6 (some (.object "ShipOffice$Happening")), Cond.methodLink RX1 69 yX9_sailedBy, Cond.instanceMethod yX9_sailedBy, Cond.selects RX9 yX9_sailedBy yX9_sailedBy, Cond.code yX9_sailedBy cX9_sailedBy 3 (some .boolean), Cond.fieldLink RX9 16 "ShipOffice$Voyage" "sailedTold" "I"]
def wsX10_allot_r5 : List Cond := [Cond.fieldLink RX9 10 "ShipOffice$Voyage" "sailedDay" "I", Cond.methodLink RX1 72 yX9_lastHeard, Cond.instanceMethod yX9_lastHeard, Cond.selects RX9 yX9_lastHeard yX9_lastHeard, Cond.code yX9_lastHeard cX9_lastHeard 5 (some .int), Cond.fieldLink RX9 41 "ShipOffice$Voyage" "heardOf" "LShipOffice$Happening;", Cond.fieldLink RX9 45 "ShipOffice$Happening" "told" "I", Cond.fieldLink RX9 50 "ShipOffice$Happening" "day" "I", Cond.fieldLink RX9 53 "ShipOffice$Happening" "before" "LShipOffice$Happening;", Cond.methodLink RX1 76 yX5_inForce, Cond.methodLink RX1 108 yX1_nextChange, Cond.instanceMethod yX1_nextChange, Cond.selects RX1 yX1_nextChange yX1_nextChange, Cond.code yX1_nextChange cX1_nextChange 6 (some .int), Cond.methodLink RX1 116 yX1_nearer, Cond.static yX1_nearer, Cond.code yX1_nearer cX1_nearer 3 (some .int), Cond.methodLink RX1 120 yX9_nextTold, Cond.instanceMethod yX9_nextTold, Cond.selects RX9 yX9_nextTold yX9_nextTold, Cond.code yX9_nextTold cX9_nextTold 5 (some .int), Cond.constant RX9 9 (1000000), Cond.methodLink RX1 123 yX5_nextPresume, Cond.instanceMethod yX5_nextPresume]
def wsX10_allot_r6 : List Cond := [Cond.selects RX5 yX5_nextPresume yX5_nextPresume, Cond.code yX5_nextPresume cX5_nextPresume 4 (some .int), Cond.constant RX5 33 (1000000), Cond.methodLink RX10 307 yX10_menAboard, Cond.instanceMethod yX10_menAboard, Cond.selects RX10 yX10_menAboard yX10_menAboard, Cond.code yX10_menAboard cX10_menAboard 6 (some .int), Cond.methodLink RX10 233 yX1_stateOn, Cond.methodLink RX10 415 yX9_daysUnheard, Cond.instanceMethod yX9_daysUnheard, Cond.selects RX9 yX9_daysUnheard yX9_daysUnheard, Cond.code yX9_daysUnheard cX9_daysUnheard 4 (some .int), Cond.methodLink RX9 56 yX9_lastHeard, Cond.methodLink RX10 404 yX0_worth, Cond.instanceMethod yX0_worth, Cond.selects RX0 yX0_worth yX0_worth, Cond.code yX0_worth cX0_worth 8 (some .int), Cond.fieldLink RX0 20 "ShipOffice$Act" "stack" "[I", Cond.methodLink RX0 36 yX0_joined, Cond.static yX0_joined, Cond.code yX0_joined cX0_joined 5 (some .int), Cond.methodLink RX0 40 yX0_held, Cond.static yX0_held, Cond.code yX0_held cX0_held 2 (some .int)]
def wsX10_allot_r7 : List Cond := [Cond.constantLong RX0 44 (1000000000), Cond.constant RX0 46 (1000000000), Cond.constantLong RX0 47 (-1000000000), Cond.constant RX0 49 (-1000000000)]
def wsX10_allot : List Cond := .code yX10_allot cX10_allot 6 (some .int) :: ((wsX10_allot_r1 ++ (wsX10_allot_r2 ++ (wsX10_allot_r3 ++ (wsX10_allot_r4 ++ (wsX10_allot_r5 ++ (wsX10_allot_r6 ++ wsX10_allot_r7)))))) ++ wsX10 ++ wsX100 ++ wsX90 ++ wsX50 ++ wsX00 ++ wsX60 ++ wsX30)
theorem il_X10_allot_1 : ∀ w ∈ wsX10_allot_r1, w ∈ wsX10_allot := fun w h => (List.mem_cons_of_mem _ (List.mem_append_left _ (List.mem_append_left _ (List.mem_append_left _ (List.mem_append_left _ (List.mem_append_left _ (List.mem_append_left _ (List.mem_append_left _ (List.mem_append_left _ h)))))))))
theorem il_X10_allot_2 : ∀ w ∈ wsX10_allot_r2, w ∈ wsX10_allot := fun w h => (List.mem_cons_of_mem _ (List.mem_append_left _ (List.mem_append_left _ (List.mem_append_left _ (List.mem_append_left _ (List.mem_append_left _ (List.mem_append_left _ (List.mem_append_left _ (List.mem_append_right _ (List.mem_append_left _ h))))))))))
theorem il_X10_allot_3 : ∀ w ∈ wsX10_allot_r3, w ∈ wsX10_allot := fun w h => (List.mem_cons_of_mem _ (List.mem_append_left _ (List.mem_append_left _ (List.mem_append_left _ (List.mem_append_left _ (List.mem_append_left _ (List.mem_append_left _ (List.mem_append_left _ (List.mem_append_right _ (List.mem_append_right _ (List.mem_append_left _ h)))))))))))
theorem il_X10_allot_4 : ∀ w ∈ wsX10_allot_r4, w ∈ wsX10_allot := fun w h => (List.mem_cons_of_mem _ (List.mem_append_left _ (List.mem_append_left _ (List.mem_append_left _ (List.mem_append_left _ (List.mem_append_left _ (List.mem_append_left _ (List.mem_append_left _ (List.mem_append_right _ (List.mem_append_right _ (List.mem_append_right _ (List.mem_append_left _ h))))))))))))
theorem il_X10_allot_5 : ∀ w ∈ wsX10_allot_r5, w ∈ wsX10_allot := fun w h => (List.mem_cons_of_mem _ (List.mem_append_left _ (List.mem_append_left _ (List.mem_append_left _ (List.mem_append_left _ (List.mem_append_left _ (List.mem_append_left _ (List.mem_append_left _ (List.mem_append_right _ (List.mem_append_right _ (List.mem_append_right _ (List.mem_append_right _ (List.mem_append_left _ h)))))))))))))
theorem il_X10_allot_6 : ∀ w ∈ wsX10_allot_r6, w ∈ wsX10_allot := fun w h => (List.mem_cons_of_mem _ (List.mem_append_left _ (List.mem_append_left _ (List.mem_append_left _ (List.mem_append_left _ (List.mem_append_left _ (List.mem_append_left _ (List.mem_append_left _ (List.mem_append_right _ (List.mem_append_right _ (List.mem_append_right _ (List.mem_append_right _ (List.mem_append_right _ (List.mem_append_left _ h))))))))))))))
theorem il_X10_allot_7 : ∀ w ∈ wsX10_allot_r7, w ∈ wsX10_allot := fun w h => (List.mem_cons_of_mem _ (List.mem_append_left _ (List.mem_append_left _ (List.mem_append_left _ (List.mem_append_left _ (List.mem_append_left _ (List.mem_append_left _ (List.mem_append_left _ (List.mem_append_right _ (List.mem_append_right _ (List.mem_append_right _ (List.mem_append_right _ (List.mem_append_right _ (List.mem_append_right _ h))))))))))))))
theorem il_X10_allot_8 : ∀ w ∈ wsX10, w ∈ wsX10_allot := fun w h => (List.mem_cons_of_mem _ (List.mem_append_left _ (List.mem_append_left _ (List.mem_append_left _ (List.mem_append_left _ (List.mem_append_left _ (List.mem_append_left _ (List.mem_append_right _ h))))))))
theorem il_X10_allot_9 : ∀ w ∈ wsX100, w ∈ wsX10_allot := fun w h => (List.mem_cons_of_mem _ (List.mem_append_left _ (List.mem_append_left _ (List.mem_append_left _ (List.mem_append_left _ (List.mem_append_left _ (List.mem_append_right _ h)))))))
theorem il_X10_allot_10 : ∀ w ∈ wsX90, w ∈ wsX10_allot := fun w h => (List.mem_cons_of_mem _ (List.mem_append_left _ (List.mem_append_left _ (List.mem_append_left _ (List.mem_append_left _ (List.mem_append_right _ h))))))
theorem il_X10_allot_11 : ∀ w ∈ wsX50, w ∈ wsX10_allot := fun w h => (List.mem_cons_of_mem _ (List.mem_append_left _ (List.mem_append_left _ (List.mem_append_left _ (List.mem_append_right _ h)))))
theorem il_X10_allot_12 : ∀ w ∈ wsX00, w ∈ wsX10_allot := fun w h => (List.mem_cons_of_mem _ (List.mem_append_left _ (List.mem_append_left _ (List.mem_append_right _ h))))
theorem il_X10_allot_13 : ∀ w ∈ wsX60, w ∈ wsX10_allot := fun w h => (List.mem_cons_of_mem _ (List.mem_append_left _ (List.mem_append_right _ h)))
theorem il_X10_allot_14 : ∀ w ∈ wsX30, w ∈ wsX10_allot := fun w h => (List.mem_cons_of_mem _ (List.mem_append_right _ h))
theorem iw_X10_allot_1 : Cond.fieldLink RX10 246 "ShipOffice$Agreement" "allotment" "I" ∈ wsX10_allot := (mmI il_X10_allot_1 0 rfl)
theorem iw_X10_allot_2 : Cond.fieldLink RX10 73 "ShipOffice" "now" "I" ∈ wsX10_allot := (mmI il_X10_allot_1 1 rfl)
theorem iw_X10_allot_3 : Cond.fieldLink RX10 223 "ShipOffice$Agreement" "wage" "I" ∈ wsX10_allot := (mmI il_X10_allot_1 2 rfl)
theorem gw_X10_fineAt : wsX10_fineAt.all goodWord = true := by decide +kernel
def wsX10_read : List Cond := .code yX10_read cX10_read 4 (some .int) :: ([.fieldLink RX10 274 "ShipOffice$Fine" "isRead" "Z", .fieldLink RX10 277 "ShipOffice$Fine" "day" "I", .fieldLink RX10 73 "ShipOffice" "now" "I", .methodLink RX10 154 yX10_agreementAt, .instanceMethod yX10_agreementAt, .selects RX10 yX10_agreementAt yX10_agreementAt, .initialized RX10, .code yX10_agreementAt cX10_agreementAt 2 (some (.object "ShipOffice$Agreement")), .fieldLink RX10 115 "ShipOffice" "agreementCount" "I", .fieldLink RX10 23 "ShipOffice" "agreements" "[LShipOffice$Agreement;", .methodLink RX10 270 yX10_fineAt, .static yX10_fineAt, .code yX10_fineAt cX10_fineAt 2 (some (.object "ShipOffice$Fine")), .fieldLink RX10 258 "ShipOffice$Agreement" "fineCount" "I", .fieldLink RX10 261 "ShipOffice$Agreement" "fines" "[LShipOffice$Fine;", .methodLink RX10 69 yX10_refuse, .instanceMethod yX10_refuse, .selects RX10 yX10_refuse yX10_refuse, .code yX10_refuse cX10_refuse 2 (some .int), .fieldLink RX10 66 "ShipOffice" "refusals" "[I"] ++ wsX20 ++ wsX100 ++ wsX10)
theorem il_X10_read_1 : ∀ w ∈ ([.fieldLink RX10 274 "ShipOffice$Fine" "isRead" "Z", .fieldLink RX10 277 "ShipOffice$Fine" "day" "I", .fieldLink RX10 73 "ShipOffice" "now" "I", .methodLink RX10 154 yX10_agreementAt, .instanceMethod yX10_agreementAt, .selects RX10 yX10_agreementAt yX10_agreementAt, .initialized RX10, .code yX10_agreementAt cX10_agreementAt 2 (some (.object "ShipOffice$Agreement")), .fieldLink RX10 115 "ShipOffice" "agreementCount" "I", .fieldLink RX10 23 "ShipOffice" "agreements" "[LShipOffice$Agreement;", .methodLink RX10 270 yX10_fineAt, .static yX10_fineAt, .code yX10_fineAt cX10_fineAt 2 (some (.object "ShipOffice$Fine")), .fieldLink RX10 258 "ShipOffice$Agreement" "fineCount" "I", .fieldLink RX10 261 "ShipOffice$Agreement" "fines" "[LShipOffice$Fine;", .methodLink RX10 69 yX10_refuse, .instanceMethod yX10_refuse, .selects RX10 yX10_refuse yX10_refuse, .code yX10_refuse cX10_refuse 2 (some .int), .fieldLink RX10 66 "ShipOffice" "refusals" "[I"] : List Cond), w ∈ wsX10_read := fun w h => (List.mem_cons_of_mem _ (List.mem_append_left _ (List.mem_append_left _ (List.mem_append_left _ h))))
theorem il_X10_read_3 : ∀ w ∈ wsX100, w ∈ wsX10_read := fun w h => (List.mem_cons_of_mem _ (List.mem_append_left _ (List.mem_append_right _ h)))
theorem il_X10_read_4 : ∀ w ∈ wsX10, w ∈ wsX10_read := fun w h => (List.mem_cons_of_mem _ (List.mem_append_right _ h))
theorem iw_X10_read_1 : Cond.fieldLink RX10 274 "ShipOffice$Fine" "isRead" "Z" ∈ wsX10_read := (mmI il_X10_read_1 0 rfl)
theorem iw_X10_read_2 : Cond.fieldLink RX10 277 "ShipOffice$Fine" "day" "I" ∈ wsX10_read := (mmI il_X10_read_1 1 rfl)
theorem iw_X10_read_3 : Cond.fieldLink RX10 73 "ShipOffice" "now" "I" ∈ wsX10_read := (mmI il_X10_read_1 2 rfl)
def wsX10_stands_r1 : List Cond := [Cond.fieldLink RX10 73 "ShipOffice" "now" "I", Cond.methodLink RX10 154 yX10_agreementAt, Cond.instanceMethod yX10_agreementAt, Cond.selects RX10 yX10_agreementAt yX10_agreementAt, Cond.initialized RX10, Cond.code yX10_agreementAt cX10_agreementAt 2 (some (.object "ShipOffice$Agreement")), Cond.fieldLink RX10 115 "ShipOffice" "agreementCount" "I", Cond.fieldLink RX10 23 "ShipOffice" "agreements" "[LShipOffice$Agreement;", Cond.methodLink RX10 270 yX10_fineAt, Cond.static yX10_fineAt, Cond.code yX10_fineAt cX10_fineAt 2 (some (.object "ShipOffice$Fine")), Cond.fieldLink RX10 258 "ShipOffice$Agreement" "fineCount" "I", Cond.fieldLink RX10 261 "ShipOffice$Agreement" "fines" "[LShipOffice$Fine;", Cond.methodLink RX10 69 yX10_refuse, Cond.instanceMethod yX10_refuse, Cond.selects RX10 yX10_refuse yX10_refuse, Cond.code yX10_refuse cX10_refuse 2 (some .int), Cond.fieldLink RX10 66 "ShipOffice" "refusals" "[I", Cond.methodLink RX10 280 yX10_standing, Cond.instanceMethod yX10_standing, Cond.selects RX10 yX10_standing yX10_standing, Cond.code yX10_standing cX10_standing 5 (some .int), Cond.fieldLink RX10 277 "ShipOffice$Fine" "day" "I", Cond.fieldLink RX10 418 "ShipOffice$Fine" "sum" "I"]
def wsX10_stands_r2 : List Cond := [Cond.fieldLink RX10 274 "ShipOffice$Fine" "isRead" "Z", Cond.methodLink RX10 378 Lib.Math.min.name, Cond.static Lib.Math.min.name, Cond.initialized "java/lang/Math", Cond.code Lib.Math.min.name Lib.Math.min.code 2 (some .int), Cond.methodLink RX10 383 Lib.Math.max.name, Cond.static Lib.Math.max.name, Cond.code Lib.Math.max.name Lib.Math.max.code 2 (some .int), Cond.methodLink RX10 249 yX10_worthFor, Cond.instanceMethod yX10_worthFor, Cond.selects RX10 yX10_worthFor yX10_worthFor, Cond.code yX10_worthFor cX10_worthFor 8 (some .int), Cond.fieldLink RX10 30 "ShipOffice" "law" "LShipOffice$Law;", Cond.fieldLink RX10 59 "ShipOffice" "letters" "[I", Cond.fieldLink RX10 223 "ShipOffice$Agreement" "wage" "I", Cond.fieldLink RX10 226 "ShipOffice$Agreement" "rank" "I", Cond.fieldLink RX10 299 "ShipOffice$Agreement" "man" "LShipOffice$Man;", Cond.fieldLink RX10 118 "ShipOffice$Agreement" "voyage" "LShipOffice$Voyage;", Cond.methodLink RX10 400 yX5_inForce, Cond.instanceMethod yX5_inForce, Cond.selects RX5 yX5_inForce yX5_inForce, Cond.initialized RX5, Cond.code yX5_inForce cX5_inForce 6 (some (.object "ShipOffice$Act")), Cond.fieldLink RX5 17 "ShipOffice$Law" "customs" "[LShipOffice$Act;"]
def wsX10_stands_r3 : List Cond := [Cond.fieldLink RX5 23 "ShipOffice$Law" "actCount" "I", Cond.fieldLink RX5 11 "ShipOffice$Law" "acts" "[LShipOffice$Act;", Cond.fieldLink RX5 27 "ShipOffice$Act" "purpose" "I", Cond.fieldLink RX5 30 "ShipOffice$Act" "day" "I", Cond.methodLink RX10 397 yX6_yearsOn, Cond.instanceMethod yX6_yearsOn, Cond.selects RX6 yX6_yearsOn yX6_yearsOn, Cond.initialized RX6, Cond.code yX6_yearsOn cX6_yearsOn 2 (some .int), Cond.fieldLink RX6 25 "ShipOffice$Man" "born" "I", Cond.methodLink RX10 408 yX0_uses, Cond.instanceMethod yX0_uses, Cond.selects RX0 yX0_uses yX0_uses, Cond.initialized RX0, Cond.code yX0_uses cX0_uses 6 (some .boolean), Cond.fieldLink RX0 16 "ShipOffice$Act" "code" "[I", Cond.methodLink RX10 411 yX1_daysIn, Cond.instanceMethod yX1_daysIn, Cond.selects RX1 yX1_daysIn yX1_daysIn, Cond.initialized RX1, Cond.code yX1_daysIn cX1_daysIn 10 (some .int), Cond.fieldLink RX1 37 "ShipOffice$Agreement" "signedOn" "I", Cond.methodLink RX1 111 Lib.Math.min.name, Cond.methodLink RX1 100 yX1_stateOn]
def wsX10_stands_r4 : List Cond := [Cond.instanceMethod yX1_stateOn, Cond.selects RX1 yX1_stateOn yX1_stateOn, Cond.code yX1_stateOn cX1_stateOn 5 (some .int), Cond.fieldLink RX1 33 "ShipOffice$Agreement" "voyage" "LShipOffice$Voyage;", Cond.fieldLink RX1 44 "ShipOffice$Agreement" "isDead" "Z", Cond.fieldLink RX1 10 "ShipOffice$Agreement" "offDay" "I", Cond.fieldLink RX1 64 "ShipOffice$Happening" "kind" "I", Cond.fieldLink RX1 82 "ShipOffice$Act" "plainWorth" "I", Cond.methodLink RX1 53 yX9_lostBy, Cond.instanceMethod yX9_lostBy, Cond.selects RX9 yX9_lostBy yX9_lostBy, Cond.initialized RX9, Cond.code yX9_lostBy cX9_lostBy 3 (some .boolean), Cond.fieldLink RX9 22 "ShipOffice$Voyage" "lostTold" "I", Cond.fieldLink RX9 19 "ShipOffice$Voyage" "lostDay" "I", Cond.methodLink RX1 57 yX1_diedBy, Cond.instanceMethod yX1_diedBy, Cond.selects RX1 yX1_diedBy yX1_diedBy, Cond.code yX1_diedBy cX1_diedBy 4 (some .boolean), Cond.fieldLink RX1 87 "ShipOffice$Agreement" "tidings" "LShipOffice$Happening;", Cond.fieldLink RX1 91 "ShipOffice$Happening" "told" "I", Cond.fieldLink RX1 94 "ShipOffice$Happening" "day" "I", Cond.fieldLink RX1 97 "ShipOffice$Happening" "before" "LShipOffice$Happening;", Cond.methodLink RX1 60 yX1_lastMove]
def wsX10_stands_r5 : List Cond := [Cond.instanceMethod yX1_lastMove, Cond.selects RX1 yX1_lastMove yX1_lastMove, Cond.code yX1_lastMove cX1_lastMove 6 (some (.object "ShipOffice$Happening")), Cond.methodLink RX1 69 yX9_sailedBy, Cond.instanceMethod yX9_sailedBy, Cond.selects RX9 yX9_sailedBy yX9_sailedBy, Cond.code yX9_sailedBy cX9_sailedBy 3 (some .boolean), Cond.fieldLink RX9 16 "ShipOffice$Voyage" "sailedTold" "I", Cond.fieldLink RX9 10 "ShipOffice$Voyage" "sailedDay" "I", Cond.methodLink RX1 72 yX9_lastHeard, Cond.instanceMethod yX9_lastHeard, Cond.selects RX9 yX9_lastHeard yX9_lastHeard, Cond.code yX9_lastHeard cX9_lastHeard 5 (some .int), Cond.fieldLink RX9 41 "ShipOffice$Voyage" "heardOf" "LShipOffice$Happening;", Cond.fieldLink RX9 45 "ShipOffice$Happening" "told" "I", Cond.fieldLink RX9 50 "ShipOffice$Happening" "day" "I", Cond.fieldLink RX9 53 "ShipOffice$Happening" "before" "LShipOffice$Happening;", Cond.methodLink RX1 76 yX5_inForce, Cond.methodLink RX1 108 yX1_nextChange, Cond.instanceMethod yX1_nextChange, Cond.selects RX1 yX1_nextChange yX1_nextChange, Cond.code yX1_nextChange cX1_nextChange 6 (some .int), Cond.constant RX1 9 (1000000), Cond.methodLink RX1 116 yX1_nearer]
def wsX10_stands_r6 : List Cond := [Cond.static yX1_nearer, Cond.code yX1_nearer cX1_nearer 3 (some .int), Cond.methodLink RX1 120 yX9_nextTold, Cond.instanceMethod yX9_nextTold, Cond.selects RX9 yX9_nextTold yX9_nextTold, Cond.code yX9_nextTold cX9_nextTold 5 (some .int), Cond.constant RX9 9 (1000000), Cond.methodLink RX1 123 yX5_nextPresume, Cond.instanceMethod yX5_nextPresume, Cond.selects RX5 yX5_nextPresume yX5_nextPresume, Cond.code yX5_nextPresume cX5_nextPresume 4 (some .int), Cond.constant RX5 33 (1000000), Cond.methodLink RX10 307 yX10_menAboard, Cond.instanceMethod yX10_menAboard, Cond.selects RX10 yX10_menAboard yX10_menAboard, Cond.code yX10_menAboard cX10_menAboard 6 (some .int), Cond.methodLink RX10 233 yX1_stateOn, Cond.methodLink RX10 415 yX9_daysUnheard, Cond.instanceMethod yX9_daysUnheard, Cond.selects RX9 yX9_daysUnheard yX9_daysUnheard, Cond.code yX9_daysUnheard cX9_daysUnheard 4 (some .int), Cond.methodLink RX9 56 yX9_lastHeard, Cond.methodLink RX10 404 yX0_worth, Cond.instanceMethod yX0_worth]
def wsX10_stands_r7 : List Cond := [Cond.selects RX0 yX0_worth yX0_worth, Cond.code yX0_worth cX0_worth 8 (some .int), Cond.fieldLink RX0 20 "ShipOffice$Act" "stack" "[I", Cond.methodLink RX0 36 yX0_joined, Cond.static yX0_joined, Cond.code yX0_joined cX0_joined 5 (some .int), Cond.methodLink RX0 40 yX0_held, Cond.static yX0_held, Cond.code yX0_held cX0_held 2 (some .int), Cond.constantLong RX0 44 (1000000000), Cond.constant RX0 46 (1000000000), Cond.constantLong RX0 47 (-1000000000), Cond.constant RX0 49 (-1000000000)]
def wsX10_stands : List Cond := .code yX10_stands cX10_stands 6 (some .int) :: ((wsX10_stands_r1 ++ (wsX10_stands_r2 ++ (wsX10_stands_r3 ++ (wsX10_stands_r4 ++ (wsX10_stands_r5 ++ (wsX10_stands_r6 ++ wsX10_stands_r7)))))) ++ wsX100 ++ wsX10 ++ wsX20 ++ wsX50 ++ wsX00 ++ wsX60 ++ wsX30 ++ wsX90)
theorem il_X10_stands_1 : ∀ w ∈ wsX10_stands_r1, w ∈ wsX10_stands := fun w h => (List.mem_cons_of_mem _ (List.mem_append_left _ (List.mem_append_left _ (List.mem_append_left _ (List.mem_append_left _ (List.mem_append_left _ (List.mem_append_left _ (List.mem_append_left _ (List.mem_append_left _ (List.mem_append_left _ h))))))))))
theorem il_X10_stands_2 : ∀ w ∈ wsX10_stands_r2, w ∈ wsX10_stands := fun w h => (List.mem_cons_of_mem _ (List.mem_append_left _ (List.mem_append_left _ (List.mem_append_left _ (List.mem_append_left _ (List.mem_append_left _ (List.mem_append_left _ (List.mem_append_left _ (List.mem_append_left _ (List.mem_append_right _ (List.mem_append_left _ h)))))))))))
theorem il_X10_stands_3 : ∀ w ∈ wsX10_stands_r3, w ∈ wsX10_stands := fun w h => (List.mem_cons_of_mem _ (List.mem_append_left _ (List.mem_append_left _ (List.mem_append_left _ (List.mem_append_left _ (List.mem_append_left _ (List.mem_append_left _ (List.mem_append_left _ (List.mem_append_left _ (List.mem_append_right _ (List.mem_append_right _ (List.mem_append_left _ h))))))))))))
theorem il_X10_stands_4 : ∀ w ∈ wsX10_stands_r4, w ∈ wsX10_stands := fun w h => (List.mem_cons_of_mem _ (List.mem_append_left _ (List.mem_append_left _ (List.mem_append_left _ (List.mem_append_left _ (List.mem_append_left _ (List.mem_append_left _ (List.mem_append_left _ (List.mem_append_left _ (List.mem_append_right _ (List.mem_append_right _ (List.mem_append_right _ (List.mem_append_left _ h)))))))))))))
theorem il_X10_stands_5 : ∀ w ∈ wsX10_stands_r5, w ∈ wsX10_stands := fun w h => (List.mem_cons_of_mem _ (List.mem_append_left _ (List.mem_append_left _ (List.mem_append_left _ (List.mem_append_left _ (List.mem_append_left _ (List.mem_append_left _ (List.mem_append_left _ (List.mem_append_left _ (List.mem_append_right _ (List.mem_append_right _ (List.mem_append_right _ (List.mem_append_right _ (List.mem_append_left _ h))))))))))))))
theorem il_X10_stands_6 : ∀ w ∈ wsX10_stands_r6, w ∈ wsX10_stands := fun w h => (List.mem_cons_of_mem _ (List.mem_append_left _ (List.mem_append_left _ (List.mem_append_left _ (List.mem_append_left _ (List.mem_append_left _ (List.mem_append_left _ (List.mem_append_left _ (List.mem_append_left _ (List.mem_append_right _ (List.mem_append_right _ (List.mem_append_right _ (List.mem_append_right _ (List.mem_append_right _ (List.mem_append_left _ h)))))))))))))))
theorem il_X10_stands_7 : ∀ w ∈ wsX10_stands_r7, w ∈ wsX10_stands := fun w h => (List.mem_cons_of_mem _ (List.mem_append_left _ (List.mem_append_left _ (List.mem_append_left _ (List.mem_append_left _ (List.mem_append_left _ (List.mem_append_left _ (List.mem_append_left _ (List.mem_append_left _ (List.mem_append_right _ (List.mem_append_right _ (List.mem_append_right _ (List.mem_append_right _ (List.mem_append_right _ (List.mem_append_right _ h)))))))))))))))
theorem il_X10_stands_8 : ∀ w ∈ wsX100, w ∈ wsX10_stands := fun w h => (List.mem_cons_of_mem _ (List.mem_append_left _ (List.mem_append_left _ (List.mem_append_left _ (List.mem_append_left _ (List.mem_append_left _ (List.mem_append_left _ (List.mem_append_left _ (List.mem_append_right _ h)))))))))
theorem il_X10_stands_9 : ∀ w ∈ wsX10, w ∈ wsX10_stands := fun w h => (List.mem_cons_of_mem _ (List.mem_append_left _ (List.mem_append_left _ (List.mem_append_left _ (List.mem_append_left _ (List.mem_append_left _ (List.mem_append_left _ (List.mem_append_right _ h))))))))
theorem il_X10_stands_10 : ∀ w ∈ wsX20, w ∈ wsX10_stands := fun w h => (List.mem_cons_of_mem _ (List.mem_append_left _ (List.mem_append_left _ (List.mem_append_left _ (List.mem_append_left _ (List.mem_append_left _ (List.mem_append_right _ h)))))))
theorem il_X10_stands_11 : ∀ w ∈ wsX50, w ∈ wsX10_stands := fun w h => (List.mem_cons_of_mem _ (List.mem_append_left _ (List.mem_append_left _ (List.mem_append_left _ (List.mem_append_left _ (List.mem_append_right _ h))))))
theorem il_X10_stands_12 : ∀ w ∈ wsX00, w ∈ wsX10_stands := fun w h => (List.mem_cons_of_mem _ (List.mem_append_left _ (List.mem_append_left _ (List.mem_append_left _ (List.mem_append_right _ h)))))
theorem il_X10_stands_13 : ∀ w ∈ wsX60, w ∈ wsX10_stands := fun w h => (List.mem_cons_of_mem _ (List.mem_append_left _ (List.mem_append_left _ (List.mem_append_right _ h))))
theorem il_X10_stands_14 : ∀ w ∈ wsX30, w ∈ wsX10_stands := fun w h => (List.mem_cons_of_mem _ (List.mem_append_left _ (List.mem_append_right _ h)))
theorem il_X10_stands_15 : ∀ w ∈ wsX90, w ∈ wsX10_stands := fun w h => (List.mem_cons_of_mem _ (List.mem_append_right _ h))
theorem iw_X10_stands_1 : Cond.fieldLink RX10 73 "ShipOffice" "now" "I" ∈ wsX10_stands := (mmI il_X10_stands_1 0 rfl)
def wsX10_rations : List Cond := .code yX10_rations cX10_rations 5 (some .int) :: ([.fieldLink RX10 284 "ShipOffice$Agreement" "shortDays" "I", .fieldLink RX10 287 "ShipOffice$Agreement" "shortCount" "I", .fieldLink RX10 73 "ShipOffice" "now" "I", .methodLink RX10 154 yX10_agreementAt, .instanceMethod yX10_agreementAt, .selects RX10 yX10_agreementAt yX10_agreementAt, .initialized RX10, .code yX10_agreementAt cX10_agreementAt 2 (some (.object "ShipOffice$Agreement")), .fieldLink RX10 115 "ShipOffice" "agreementCount" "I", .fieldLink RX10 23 "ShipOffice" "agreements" "[LShipOffice$Agreement;", .methodLink RX10 69 yX10_refuse, .instanceMethod yX10_refuse, .selects RX10 yX10_refuse yX10_refuse, .code yX10_refuse cX10_refuse 2 (some .int), .fieldLink RX10 66 "ShipOffice" "refusals" "[I", .methodLink RX10 290 yX1_addShort, .instanceMethod yX1_addShort, .selects RX1 yX1_addShort yX1_addShort, .initialized RX1, .code yX1_addShort cX1_addShort 4 none, .fieldLink RX1 136 "ShipOffice$Agreement" "shortCount" "I", .fieldLink RX1 22 "ShipOffice$Agreement" "shortTold" "[I", .fieldLink RX1 26 "ShipOffice$Agreement" "shortSum" "[I", .fieldLink RX1 139 "ShipOffice$Agreement" "shortDays" "I"] ++ wsX10 ++ wsX100)
theorem il_X10_rations_1 : ∀ w ∈ ([.fieldLink RX10 284 "ShipOffice$Agreement" "shortDays" "I", .fieldLink RX10 287 "ShipOffice$Agreement" "shortCount" "I", .fieldLink RX10 73 "ShipOffice" "now" "I", .methodLink RX10 154 yX10_agreementAt, .instanceMethod yX10_agreementAt, .selects RX10 yX10_agreementAt yX10_agreementAt, .initialized RX10, .code yX10_agreementAt cX10_agreementAt 2 (some (.object "ShipOffice$Agreement")), .fieldLink RX10 115 "ShipOffice" "agreementCount" "I", .fieldLink RX10 23 "ShipOffice" "agreements" "[LShipOffice$Agreement;", .methodLink RX10 69 yX10_refuse, .instanceMethod yX10_refuse, .selects RX10 yX10_refuse yX10_refuse, .code yX10_refuse cX10_refuse 2 (some .int), .fieldLink RX10 66 "ShipOffice" "refusals" "[I", .methodLink RX10 290 yX1_addShort, .instanceMethod yX1_addShort, .selects RX1 yX1_addShort yX1_addShort, .initialized RX1, .code yX1_addShort cX1_addShort 4 none, .fieldLink RX1 136 "ShipOffice$Agreement" "shortCount" "I", .fieldLink RX1 22 "ShipOffice$Agreement" "shortTold" "[I", .fieldLink RX1 26 "ShipOffice$Agreement" "shortSum" "[I", .fieldLink RX1 139 "ShipOffice$Agreement" "shortDays" "I"] : List Cond), w ∈ wsX10_rations := fun w h => (List.mem_cons_of_mem _ (List.mem_append_left _ (List.mem_append_left _ h)))
theorem il_X10_rations_2 : ∀ w ∈ wsX10, w ∈ wsX10_rations := fun w h => (List.mem_cons_of_mem _ (List.mem_append_left _ (List.mem_append_right _ h)))
theorem il_X10_rations_3 : ∀ w ∈ wsX100, w ∈ wsX10_rations := fun w h => (List.mem_cons_of_mem _ (List.mem_append_right _ h))
theorem iw_X10_rations_1 : Cond.fieldLink RX10 284 "ShipOffice$Agreement" "shortDays" "I" ∈ wsX10_rations := (mmI il_X10_rations_1 0 rfl)
theorem iw_X10_rations_2 : Cond.fieldLink RX10 287 "ShipOffice$Agreement" "shortCount" "I" ∈ wsX10_rations := (mmI il_X10_rations_1 1 rfl)
theorem iw_X10_rations_3 : Cond.fieldLink RX10 73 "ShipOffice" "now" "I" ∈ wsX10_rations := (mmI il_X10_rations_1 2 rfl)
theorem gw_X10_owedOn : wsX10_owedOn.all goodWord = true := by decide +kernel
def wsX10_owed_r1 : List Cond := [Cond.constant RX10 294 (1000000000), Cond.methodLink RX10 154 yX10_agreementAt, Cond.instanceMethod yX10_agreementAt, Cond.selects RX10 yX10_agreementAt yX10_agreementAt, Cond.initialized RX10, Cond.code yX10_agreementAt cX10_agreementAt 2 (some (.object "ShipOffice$Agreement")), Cond.fieldLink RX10 115 "ShipOffice" "agreementCount" "I", Cond.fieldLink RX10 23 "ShipOffice" "agreements" "[LShipOffice$Agreement;", Cond.methodLink RX10 69 yX10_refuse, Cond.instanceMethod yX10_refuse, Cond.selects RX10 yX10_refuse yX10_refuse, Cond.code yX10_refuse cX10_refuse 2 (some .int), Cond.fieldLink RX10 66 "ShipOffice" "refusals" "[I", Cond.methodLink RX10 229 yX10_askRefusal, Cond.instanceMethod yX10_askRefusal, Cond.selects RX10 yX10_askRefusal yX10_askRefusal, Cond.code yX10_askRefusal cX10_askRefusal 3 (some .int), Cond.fieldLink RX10 73 "ShipOffice" "now" "I", Cond.methodLink RX10 295 yX10_owedOn, Cond.instanceMethod yX10_owedOn, Cond.selects RX10 yX10_owedOn yX10_owedOn, Cond.code yX10_owedOn cX10_owedOn 9 (some .int), Cond.fieldLink RX10 255 "ShipOffice$Agreement" "signedOn" "I", Cond.fieldLink RX10 223 "ShipOffice$Agreement" "wage" "I"]
def wsX10_owed_r2 : List Cond := [Cond.fieldLink RX10 30 "ShipOffice" "law" "LShipOffice$Law;", Cond.fieldLink RX10 258 "ShipOffice$Agreement" "fineCount" "I", Cond.fieldLink RX10 261 "ShipOffice$Agreement" "fines" "[LShipOffice$Fine;", Cond.fieldLink RX10 277 "ShipOffice$Fine" "day" "I", Cond.fieldLink RX10 326 "ShipOffice$Happening" "way" "I", Cond.methodLink RX10 378 Lib.Math.min.name, Cond.static Lib.Math.min.name, Cond.initialized "java/lang/Math", Cond.code Lib.Math.min.name Lib.Math.min.code 2 (some .int), Cond.methodLink RX10 383 Lib.Math.max.name, Cond.static Lib.Math.max.name, Cond.code Lib.Math.max.name Lib.Math.max.code 2 (some .int), Cond.constantLong RX10 253 (100), Cond.methodLink RX10 237 yX1_earningDays, Cond.instanceMethod yX1_earningDays, Cond.selects RX1 yX1_earningDays yX1_earningDays, Cond.initialized RX1, Cond.code yX1_earningDays cX1_earningDays 5 (some .int), Cond.fieldLink RX1 33 "ShipOffice$Agreement" "voyage" "LShipOffice$Voyage;", Cond.methodLink RX1 100 yX1_stateOn, Cond.instanceMethod yX1_stateOn, Cond.selects RX1 yX1_stateOn yX1_stateOn, Cond.code yX1_stateOn cX1_stateOn 5 (some .int), Cond.fieldLink RX1 37 "ShipOffice$Agreement" "signedOn" "I"]
def wsX10_owed_r3 : List Cond := [Cond.fieldLink RX1 44 "ShipOffice$Agreement" "isDead" "Z", Cond.fieldLink RX1 10 "ShipOffice$Agreement" "offDay" "I", Cond.fieldLink RX1 64 "ShipOffice$Happening" "kind" "I", Cond.fieldLink RX1 82 "ShipOffice$Act" "plainWorth" "I", Cond.methodLink RX1 53 yX9_lostBy, Cond.instanceMethod yX9_lostBy, Cond.selects RX9 yX9_lostBy yX9_lostBy, Cond.initialized RX9, Cond.code yX9_lostBy cX9_lostBy 3 (some .boolean), Cond.fieldLink RX9 22 "ShipOffice$Voyage" "lostTold" "I", Cond.fieldLink RX9 19 "ShipOffice$Voyage" "lostDay" "I", Cond.methodLink RX1 57 yX1_diedBy, Cond.instanceMethod yX1_diedBy, Cond.selects RX1 yX1_diedBy yX1_diedBy, Cond.code yX1_diedBy cX1_diedBy 4 (some .boolean), Cond.fieldLink RX1 87 "ShipOffice$Agreement" "tidings" "LShipOffice$Happening;", Cond.fieldLink RX1 91 "ShipOffice$Happening" "told" "I", Cond.fieldLink RX1 94 "ShipOffice$Happening" "day" "I", Cond.fieldLink RX1 97 "ShipOffice$Happening" "before" "LShipOffice$Happening;", Cond.methodLink RX1 60 yX1_lastMove, Cond.instanceMethod yX1_lastMove, Cond.selects RX1 yX1_lastMove yX1_lastMove, Cond.code yX1_lastMove cX1_lastMove 6 (some (.object "ShipOffice$Happening")), Cond.methodLink RX1 69 yX9_sailedBy]
def wsX10_owed_r4 : List Cond := [Cond.instanceMethod yX9_sailedBy, Cond.selects RX9 yX9_sailedBy yX9_sailedBy, Cond.code yX9_sailedBy cX9_sailedBy 3 (some .boolean), Cond.fieldLink RX9 16 "ShipOffice$Voyage" "sailedTold" "I", Cond.fieldLink RX9 10 "ShipOffice$Voyage" "sailedDay" "I", Cond.methodLink RX1 72 yX9_lastHeard, Cond.instanceMethod yX9_lastHeard, Cond.selects RX9 yX9_lastHeard yX9_lastHeard, Cond.code yX9_lastHeard cX9_lastHeard 5 (some .int), Cond.fieldLink RX9 41 "ShipOffice$Voyage" "heardOf" "LShipOffice$Happening;", Cond.fieldLink RX9 45 "ShipOffice$Happening" "told" "I", Cond.fieldLink RX9 50 "ShipOffice$Happening" "day" "I", Cond.fieldLink RX9 53 "ShipOffice$Happening" "before" "LShipOffice$Happening;", Cond.methodLink RX1 76 yX5_inForce, Cond.instanceMethod yX5_inForce, Cond.selects RX5 yX5_inForce yX5_inForce, Cond.initialized RX5, Cond.code yX5_inForce cX5_inForce 6 (some (.object "ShipOffice$Act")), Cond.fieldLink RX5 17 "ShipOffice$Law" "customs" "[LShipOffice$Act;", Cond.fieldLink RX5 23 "ShipOffice$Law" "actCount" "I", Cond.fieldLink RX5 11 "ShipOffice$Law" "acts" "[LShipOffice$Act;", Cond.fieldLink RX5 27 "ShipOffice$Act" "purpose" "I", Cond.fieldLink RX5 30 "ShipOffice$Act" "day" "I", Cond.methodLink RX1 104 yX1_daysIn]
def wsX10_owed_r5 : List Cond := [Cond.instanceMethod yX1_daysIn, Cond.selects RX1 yX1_daysIn yX1_daysIn, Cond.code yX1_daysIn cX1_daysIn 10 (some .int), Cond.methodLink RX1 111 Lib.Math.min.name, Cond.methodLink RX1 108 yX1_nextChange, Cond.instanceMethod yX1_nextChange, Cond.selects RX1 yX1_nextChange yX1_nextChange, Cond.code yX1_nextChange cX1_nextChange 6 (some .int), Cond.constant RX1 9 (1000000), Cond.methodLink RX1 116 yX1_nearer, Cond.static yX1_nearer, Cond.code yX1_nearer cX1_nearer 3 (some .int), Cond.methodLink RX1 120 yX9_nextTold, Cond.instanceMethod yX9_nextTold, Cond.selects RX9 yX9_nextTold yX9_nextTold, Cond.code yX9_nextTold cX9_nextTold 5 (some .int), Cond.constant RX9 9 (1000000), Cond.methodLink RX1 123 yX5_nextPresume, Cond.instanceMethod yX5_nextPresume, Cond.selects RX5 yX5_nextPresume yX5_nextPresume, Cond.code yX5_nextPresume cX5_nextPresume 4 (some .int), Cond.constant RX5 33 (1000000), Cond.methodLink RX10 421 yX1_notePaid, Cond.instanceMethod yX1_notePaid]
def wsX10_owed_r6 : List Cond := [Cond.selects RX1 yX1_notePaid yX1_notePaid, Cond.code yX1_notePaid cX1_notePaid 4 (some .int), Cond.fieldLink RX1 127 "ShipOffice$Agreement" "note" "I", Cond.fieldLink RX1 130 "ShipOffice$Voyage" "sailedDay" "I", Cond.methodLink RX10 424 yX1_allotmentsPaid, Cond.instanceMethod yX1_allotmentsPaid, Cond.selects RX1 yX1_allotmentsPaid yX1_allotmentsPaid, Cond.code yX1_allotmentsPaid cX1_allotmentsPaid 6 (some .int), Cond.fieldLink RX1 133 "ShipOffice$Agreement" "allotment" "I", Cond.methodLink RX10 280 yX10_standing, Cond.instanceMethod yX10_standing, Cond.selects RX10 yX10_standing yX10_standing, Cond.code yX10_standing cX10_standing 5 (some .int), Cond.fieldLink RX10 418 "ShipOffice$Fine" "sum" "I", Cond.fieldLink RX10 274 "ShipOffice$Fine" "isRead" "Z", Cond.methodLink RX10 249 yX10_worthFor, Cond.instanceMethod yX10_worthFor, Cond.selects RX10 yX10_worthFor yX10_worthFor, Cond.code yX10_worthFor cX10_worthFor 8 (some .int), Cond.fieldLink RX10 59 "ShipOffice" "letters" "[I", Cond.fieldLink RX10 226 "ShipOffice$Agreement" "rank" "I", Cond.fieldLink RX10 299 "ShipOffice$Agreement" "man" "LShipOffice$Man;", Cond.fieldLink RX10 118 "ShipOffice$Agreement" "voyage" "LShipOffice$Voyage;", Cond.methodLink RX10 400 yX5_inForce]
def wsX10_owed_r7 : List Cond := [Cond.methodLink RX10 397 yX6_yearsOn, Cond.instanceMethod yX6_yearsOn, Cond.selects RX6 yX6_yearsOn yX6_yearsOn, Cond.initialized RX6, Cond.code yX6_yearsOn cX6_yearsOn 2 (some .int), Cond.fieldLink RX6 25 "ShipOffice$Man" "born" "I", Cond.methodLink RX10 408 yX0_uses, Cond.instanceMethod yX0_uses, Cond.selects RX0 yX0_uses yX0_uses, Cond.initialized RX0, Cond.code yX0_uses cX0_uses 6 (some .boolean), Cond.fieldLink RX0 16 "ShipOffice$Act" "code" "[I", Cond.methodLink RX10 411 yX1_daysIn, Cond.methodLink RX10 307 yX10_menAboard, Cond.instanceMethod yX10_menAboard, Cond.selects RX10 yX10_menAboard yX10_menAboard, Cond.code yX10_menAboard cX10_menAboard 6 (some .int), Cond.methodLink RX10 233 yX1_stateOn, Cond.methodLink RX10 415 yX9_daysUnheard, Cond.instanceMethod yX9_daysUnheard, Cond.selects RX9 yX9_daysUnheard yX9_daysUnheard, Cond.code yX9_daysUnheard cX9_daysUnheard 4 (some .int), Cond.methodLink RX9 56 yX9_lastHeard, Cond.methodLink RX10 404 yX0_worth]
def wsX10_owed_r8 : List Cond := [Cond.instanceMethod yX0_worth, Cond.selects RX0 yX0_worth yX0_worth, Cond.code yX0_worth cX0_worth 8 (some .int), Cond.fieldLink RX0 20 "ShipOffice$Act" "stack" "[I", Cond.methodLink RX0 36 yX0_joined, Cond.static yX0_joined, Cond.code yX0_joined cX0_joined 5 (some .int), Cond.methodLink RX0 40 yX0_held, Cond.static yX0_held, Cond.code yX0_held cX0_held 2 (some .int), Cond.constantLong RX0 44 (1000000000), Cond.constant RX0 46 (1000000000), Cond.constantLong RX0 47 (-1000000000), Cond.constant RX0 49 (-1000000000), Cond.methodLink RX10 427 yX1_shortPence, Cond.instanceMethod yX1_shortPence, Cond.selects RX1 yX1_shortPence yX1_shortPence, Cond.code yX1_shortPence cX1_shortPence 4 (some .int), Cond.fieldLink RX1 136 "ShipOffice$Agreement" "shortCount" "I", Cond.fieldLink RX1 22 "ShipOffice$Agreement" "shortTold" "[I", Cond.fieldLink RX1 26 "ShipOffice$Agreement" "shortSum" "[I", Cond.methodLink RX10 322 yX1_leavingOn, Cond.instanceMethod yX1_leavingOn, Cond.selects RX1 yX1_leavingOn yX1_leavingOn]
def wsX10_owed_r9 : List Cond := [Cond.code yX1_leavingOn cX1_leavingOn 4 (some (.object "ShipOffice$Happening"))]
def wsX10_owed : List Cond := .code yX10_owed cX10_owed 6 (some .int) :: ((wsX10_owed_r1 ++ (wsX10_owed_r2 ++ (wsX10_owed_r3 ++ (wsX10_owed_r4 ++ (wsX10_owed_r5 ++ (wsX10_owed_r6 ++ (wsX10_owed_r7 ++ (wsX10_owed_r8 ++ wsX10_owed_r9)))))))) ++ wsX100 ++ wsX10 ++ wsX20 ++ wsX30 ++ wsX00 ++ wsX90 ++ wsX50 ++ wsX60)
theorem il_X10_owed_1 : ∀ w ∈ wsX10_owed_r1, w ∈ wsX10_owed := fun w h => (List.mem_cons_of_mem _ (List.mem_append_left _ (List.mem_append_left _ (List.mem_append_left _ (List.mem_append_left _ (List.mem_append_left _ (List.mem_append_left _ (List.mem_append_left _ (List.mem_append_left _ (List.mem_append_left _ h))))))))))
theorem il_X10_owed_2 : ∀ w ∈ wsX10_owed_r2, w ∈ wsX10_owed := fun w h => (List.mem_cons_of_mem _ (List.mem_append_left _ (List.mem_append_left _ (List.mem_append_left _ (List.mem_append_left _ (List.mem_append_left _ (List.mem_append_left _ (List.mem_append_left _ (List.mem_append_left _ (List.mem_append_right _ (List.mem_append_left _ h)))))))))))
theorem il_X10_owed_3 : ∀ w ∈ wsX10_owed_r3, w ∈ wsX10_owed := fun w h => (List.mem_cons_of_mem _ (List.mem_append_left _ (List.mem_append_left _ (List.mem_append_left _ (List.mem_append_left _ (List.mem_append_left _ (List.mem_append_left _ (List.mem_append_left _ (List.mem_append_left _ (List.mem_append_right _ (List.mem_append_right _ (List.mem_append_left _ h))))))))))))
theorem il_X10_owed_4 : ∀ w ∈ wsX10_owed_r4, w ∈ wsX10_owed := fun w h => (List.mem_cons_of_mem _ (List.mem_append_left _ (List.mem_append_left _ (List.mem_append_left _ (List.mem_append_left _ (List.mem_append_left _ (List.mem_append_left _ (List.mem_append_left _ (List.mem_append_left _ (List.mem_append_right _ (List.mem_append_right _ (List.mem_append_right _ (List.mem_append_left _ h)))))))))))))
theorem il_X10_owed_5 : ∀ w ∈ wsX10_owed_r5, w ∈ wsX10_owed := fun w h => (List.mem_cons_of_mem _ (List.mem_append_left _ (List.mem_append_left _ (List.mem_append_left _ (List.mem_append_left _ (List.mem_append_left _ (List.mem_append_left _ (List.mem_append_left _ (List.mem_append_left _ (List.mem_append_right _ (List.mem_append_right _ (List.mem_append_right _ (List.mem_append_right _ (List.mem_append_left _ h))))))))))))))
theorem il_X10_owed_6 : ∀ w ∈ wsX10_owed_r6, w ∈ wsX10_owed := fun w h => (List.mem_cons_of_mem _ (List.mem_append_left _ (List.mem_append_left _ (List.mem_append_left _ (List.mem_append_left _ (List.mem_append_left _ (List.mem_append_left _ (List.mem_append_left _ (List.mem_append_left _ (List.mem_append_right _ (List.mem_append_right _ (List.mem_append_right _ (List.mem_append_right _ (List.mem_append_right _ (List.mem_append_left _ h)))))))))))))))
theorem il_X10_owed_7 : ∀ w ∈ wsX10_owed_r7, w ∈ wsX10_owed := fun w h => (List.mem_cons_of_mem _ (List.mem_append_left _ (List.mem_append_left _ (List.mem_append_left _ (List.mem_append_left _ (List.mem_append_left _ (List.mem_append_left _ (List.mem_append_left _ (List.mem_append_left _ (List.mem_append_right _ (List.mem_append_right _ (List.mem_append_right _ (List.mem_append_right _ (List.mem_append_right _ (List.mem_append_right _ (List.mem_append_left _ h))))))))))))))))
theorem il_X10_owed_8 : ∀ w ∈ wsX10_owed_r8, w ∈ wsX10_owed := fun w h => (List.mem_cons_of_mem _ (List.mem_append_left _ (List.mem_append_left _ (List.mem_append_left _ (List.mem_append_left _ (List.mem_append_left _ (List.mem_append_left _ (List.mem_append_left _ (List.mem_append_left _ (List.mem_append_right _ (List.mem_append_right _ (List.mem_append_right _ (List.mem_append_right _ (List.mem_append_right _ (List.mem_append_right _ (List.mem_append_right _ (List.mem_append_left _ h)))))))))))))))))
theorem il_X10_owed_9 : ∀ w ∈ wsX10_owed_r9, w ∈ wsX10_owed := fun w h => (List.mem_cons_of_mem _ (List.mem_append_left _ (List.mem_append_left _ (List.mem_append_left _ (List.mem_append_left _ (List.mem_append_left _ (List.mem_append_left _ (List.mem_append_left _ (List.mem_append_left _ (List.mem_append_right _ (List.mem_append_right _ (List.mem_append_right _ (List.mem_append_right _ (List.mem_append_right _ (List.mem_append_right _ (List.mem_append_right _ (List.mem_append_right _ h)))))))))))))))))
theorem il_X10_owed_10 : ∀ w ∈ wsX100, w ∈ wsX10_owed := fun w h => (List.mem_cons_of_mem _ (List.mem_append_left _ (List.mem_append_left _ (List.mem_append_left _ (List.mem_append_left _ (List.mem_append_left _ (List.mem_append_left _ (List.mem_append_left _ (List.mem_append_right _ h)))))))))
theorem il_X10_owed_11 : ∀ w ∈ wsX10, w ∈ wsX10_owed := fun w h => (List.mem_cons_of_mem _ (List.mem_append_left _ (List.mem_append_left _ (List.mem_append_left _ (List.mem_append_left _ (List.mem_append_left _ (List.mem_append_left _ (List.mem_append_right _ h))))))))
theorem il_X10_owed_12 : ∀ w ∈ wsX20, w ∈ wsX10_owed := fun w h => (List.mem_cons_of_mem _ (List.mem_append_left _ (List.mem_append_left _ (List.mem_append_left _ (List.mem_append_left _ (List.mem_append_left _ (List.mem_append_right _ h)))))))
theorem il_X10_owed_13 : ∀ w ∈ wsX30, w ∈ wsX10_owed := fun w h => (List.mem_cons_of_mem _ (List.mem_append_left _ (List.mem_append_left _ (List.mem_append_left _ (List.mem_append_left _ (List.mem_append_right _ h))))))
theorem il_X10_owed_14 : ∀ w ∈ wsX00, w ∈ wsX10_owed := fun w h => (List.mem_cons_of_mem _ (List.mem_append_left _ (List.mem_append_left _ (List.mem_append_left _ (List.mem_append_right _ h)))))
theorem il_X10_owed_15 : ∀ w ∈ wsX90, w ∈ wsX10_owed := fun w h => (List.mem_cons_of_mem _ (List.mem_append_left _ (List.mem_append_left _ (List.mem_append_right _ h))))
theorem il_X10_owed_16 : ∀ w ∈ wsX50, w ∈ wsX10_owed := fun w h => (List.mem_cons_of_mem _ (List.mem_append_left _ (List.mem_append_right _ h)))
theorem il_X10_owed_17 : ∀ w ∈ wsX60, w ∈ wsX10_owed := fun w h => (List.mem_cons_of_mem _ (List.mem_append_right _ h))
def wsX10_agreementOf_r1 : List Cond := [Cond.fieldLink RX10 299 "ShipOffice$Agreement" "man" "LShipOffice$Man;", Cond.fieldLink RX10 303 "ShipOffice$Man" "number" "I", Cond.fieldLink RX10 118 "ShipOffice$Agreement" "voyage" "LShipOffice$Voyage;", Cond.fieldLink RX10 306 "ShipOffice$Voyage" "number" "I", Cond.fieldLink RX10 223 "ShipOffice$Agreement" "wage" "I", Cond.fieldLink RX10 226 "ShipOffice$Agreement" "rank" "I", Cond.fieldLink RX10 255 "ShipOffice$Agreement" "signedOn" "I", Cond.fieldLink RX10 126 "ShipOffice$Agreement" "offDay" "I", Cond.constant RX10 114 (1000000), Cond.fieldLink RX10 240 "ShipOffice$Agreement" "note" "I", Cond.fieldLink RX10 243 "ShipOffice$Agreement" "given" "I", Cond.fieldLink RX10 246 "ShipOffice$Agreement" "allotment" "I", Cond.methodLink RX10 154 yX10_agreementAt, Cond.instanceMethod yX10_agreementAt, Cond.selects RX10 yX10_agreementAt yX10_agreementAt, Cond.initialized RX10, Cond.code yX10_agreementAt cX10_agreementAt 2 (some (.object "ShipOffice$Agreement")), Cond.fieldLink RX10 115 "ShipOffice" "agreementCount" "I", Cond.fieldLink RX10 23 "ShipOffice" "agreements" "[LShipOffice$Agreement;", Cond.methodLink RX10 69 yX10_refuse, Cond.instanceMethod yX10_refuse, Cond.selects RX10 yX10_refuse yX10_refuse, Cond.code yX10_refuse cX10_refuse 2 (some .int), Cond.fieldLink RX10 66 "ShipOffice" "refusals" "[I"]
def wsX10_agreementOf_r2 : List Cond := [Cond.methodLink RX10 122 yX1_goesOn, Cond.instanceMethod yX1_goesOn, Cond.selects RX1 yX1_goesOn yX1_goesOn, Cond.initialized RX1, Cond.code yX1_goesOn cX1_goesOn 1 (some .boolean), Cond.fieldLink RX1 10 "ShipOffice$Agreement" "offDay" "I", Cond.constant RX1 9 (1000000), Cond.fieldLink RX1 44 "ShipOffice$Agreement" "isDead" "Z", Cond.fieldLink RX1 33 "ShipOffice$Agreement" "voyage" "LShipOffice$Voyage;", Cond.fieldLink RX1 48 "ShipOffice$Voyage" "lostTold" "I"]
def wsX10_agreementOf : List Cond := .code yX10_agreementOf cX10_agreementOf 4 (some .int) :: ((wsX10_agreementOf_r1 ++ wsX10_agreementOf_r2) ++ wsX10 ++ wsX60 ++ wsX90 ++ wsX100)
theorem il_X10_agreementOf_1 : ∀ w ∈ wsX10_agreementOf_r1, w ∈ wsX10_agreementOf := fun w h => (List.mem_cons_of_mem _ (List.mem_append_left _ (List.mem_append_left _ (List.mem_append_left _ (List.mem_append_left _ (List.mem_append_left _ h))))))
theorem il_X10_agreementOf_2 : ∀ w ∈ wsX10_agreementOf_r2, w ∈ wsX10_agreementOf := fun w h => (List.mem_cons_of_mem _ (List.mem_append_left _ (List.mem_append_left _ (List.mem_append_left _ (List.mem_append_left _ (List.mem_append_right _ h))))))
theorem il_X10_agreementOf_3 : ∀ w ∈ wsX10, w ∈ wsX10_agreementOf := fun w h => (List.mem_cons_of_mem _ (List.mem_append_left _ (List.mem_append_left _ (List.mem_append_left _ (List.mem_append_right _ h)))))
theorem il_X10_agreementOf_5 : ∀ w ∈ wsX90, w ∈ wsX10_agreementOf := fun w h => (List.mem_cons_of_mem _ (List.mem_append_left _ (List.mem_append_right _ h)))
theorem il_X10_agreementOf_6 : ∀ w ∈ wsX100, w ∈ wsX10_agreementOf := fun w h => (List.mem_cons_of_mem _ (List.mem_append_right _ h))
theorem iw_X10_agreementOf_1 : Cond.fieldLink RX10 299 "ShipOffice$Agreement" "man" "LShipOffice$Man;" ∈ wsX10_agreementOf := (mmI il_X10_agreementOf_1 0 rfl)
theorem iw_X10_agreementOf_2 : Cond.fieldLink RX10 303 "ShipOffice$Man" "number" "I" ∈ wsX10_agreementOf := (mmI il_X10_agreementOf_1 1 rfl)
theorem iw_X10_agreementOf_3 : Cond.fieldLink RX10 118 "ShipOffice$Agreement" "voyage" "LShipOffice$Voyage;" ∈ wsX10_agreementOf := (mmI il_X10_agreementOf_1 2 rfl)
theorem iw_X10_agreementOf_4 : Cond.fieldLink RX10 306 "ShipOffice$Voyage" "number" "I" ∈ wsX10_agreementOf := (mmI il_X10_agreementOf_1 3 rfl)
theorem iw_X10_agreementOf_5 : Cond.fieldLink RX10 223 "ShipOffice$Agreement" "wage" "I" ∈ wsX10_agreementOf := (mmI il_X10_agreementOf_1 4 rfl)
theorem iw_X10_agreementOf_6 : Cond.fieldLink RX10 226 "ShipOffice$Agreement" "rank" "I" ∈ wsX10_agreementOf := (mmI il_X10_agreementOf_1 5 rfl)
theorem iw_X10_agreementOf_7 : Cond.fieldLink RX10 255 "ShipOffice$Agreement" "signedOn" "I" ∈ wsX10_agreementOf := (mmI il_X10_agreementOf_1 6 rfl)
theorem iw_X10_agreementOf_8 : Cond.fieldLink RX10 126 "ShipOffice$Agreement" "offDay" "I" ∈ wsX10_agreementOf := (mmI il_X10_agreementOf_1 7 rfl)
theorem iw_X10_agreementOf_9 : Cond.fieldLink RX10 240 "ShipOffice$Agreement" "note" "I" ∈ wsX10_agreementOf := (mmI il_X10_agreementOf_1 9 rfl)
theorem iw_X10_agreementOf_10 : Cond.fieldLink RX10 243 "ShipOffice$Agreement" "given" "I" ∈ wsX10_agreementOf := (mmI il_X10_agreementOf_1 10 rfl)
theorem iw_X10_agreementOf_11 : Cond.fieldLink RX10 246 "ShipOffice$Agreement" "allotment" "I" ∈ wsX10_agreementOf := (mmI il_X10_agreementOf_1 11 rfl)
def wsX10_aboard_r1 : List Cond := [Cond.methodLink RX10 103 yX10_voyageAt, Cond.instanceMethod yX10_voyageAt, Cond.selects RX10 yX10_voyageAt yX10_voyageAt, Cond.initialized RX10, Cond.code yX10_voyageAt cX10_voyageAt 2 (some (.object "ShipOffice$Voyage")), Cond.fieldLink RX10 99 "ShipOffice" "voyageCount" "I", Cond.fieldLink RX10 17 "ShipOffice" "voyages" "[LShipOffice$Voyage;", Cond.methodLink RX10 69 yX10_refuse, Cond.instanceMethod yX10_refuse, Cond.selects RX10 yX10_refuse yX10_refuse, Cond.code yX10_refuse cX10_refuse 2 (some .int), Cond.fieldLink RX10 66 "ShipOffice" "refusals" "[I", Cond.methodLink RX10 229 yX10_askRefusal, Cond.instanceMethod yX10_askRefusal, Cond.selects RX10 yX10_askRefusal yX10_askRefusal, Cond.code yX10_askRefusal cX10_askRefusal 3 (some .int), Cond.fieldLink RX10 73 "ShipOffice" "now" "I", Cond.methodLink RX10 307 yX10_menAboard, Cond.instanceMethod yX10_menAboard, Cond.selects RX10 yX10_menAboard yX10_menAboard, Cond.code yX10_menAboard cX10_menAboard 6 (some .int), Cond.fieldLink RX10 115 "ShipOffice" "agreementCount" "I", Cond.fieldLink RX10 23 "ShipOffice" "agreements" "[LShipOffice$Agreement;", Cond.fieldLink RX10 118 "ShipOffice$Agreement" "voyage" "LShipOffice$Voyage;"]
def wsX10_aboard_r2 : List Cond := [Cond.fieldLink RX10 30 "ShipOffice" "law" "LShipOffice$Law;", Cond.methodLink RX10 233 yX1_stateOn, Cond.instanceMethod yX1_stateOn, Cond.selects RX1 yX1_stateOn yX1_stateOn, Cond.initialized RX1, Cond.code yX1_stateOn cX1_stateOn 5 (some .int), Cond.fieldLink RX1 37 "ShipOffice$Agreement" "signedOn" "I", Cond.fieldLink RX1 33 "ShipOffice$Agreement" "voyage" "LShipOffice$Voyage;", Cond.fieldLink RX1 44 "ShipOffice$Agreement" "isDead" "Z", Cond.fieldLink RX1 10 "ShipOffice$Agreement" "offDay" "I", Cond.fieldLink RX1 64 "ShipOffice$Happening" "kind" "I", Cond.fieldLink RX1 82 "ShipOffice$Act" "plainWorth" "I", Cond.methodLink RX1 53 yX9_lostBy, Cond.instanceMethod yX9_lostBy, Cond.selects RX9 yX9_lostBy yX9_lostBy, Cond.initialized RX9, Cond.code yX9_lostBy cX9_lostBy 3 (some .boolean), Cond.fieldLink RX9 22 "ShipOffice$Voyage" "lostTold" "I", Cond.fieldLink RX9 19 "ShipOffice$Voyage" "lostDay" "I", Cond.methodLink RX1 57 yX1_diedBy, Cond.instanceMethod yX1_diedBy, Cond.selects RX1 yX1_diedBy yX1_diedBy, Cond.code yX1_diedBy cX1_diedBy 4 (some .boolean), Cond.fieldLink RX1 87 "ShipOffice$Agreement" "tidings" "LShipOffice$Happening;"]
def wsX10_aboard_r3 : List Cond := [Cond.fieldLink RX1 91 "ShipOffice$Happening" "told" "I", Cond.fieldLink RX1 94 "ShipOffice$Happening" "day" "I", Cond.fieldLink RX1 97 "ShipOffice$Happening" "before" "LShipOffice$Happening;", Cond.methodLink RX1 60 yX1_lastMove, Cond.instanceMethod yX1_lastMove, Cond.selects RX1 yX1_lastMove yX1_lastMove, Cond.code yX1_lastMove cX1_lastMove 6 (some (.object "ShipOffice$Happening")), Cond.methodLink RX1 69 yX9_sailedBy, Cond.instanceMethod yX9_sailedBy, Cond.selects RX9 yX9_sailedBy yX9_sailedBy, Cond.code yX9_sailedBy cX9_sailedBy 3 (some .boolean), Cond.fieldLink RX9 16 "ShipOffice$Voyage" "sailedTold" "I", Cond.fieldLink RX9 10 "ShipOffice$Voyage" "sailedDay" "I", Cond.methodLink RX1 72 yX9_lastHeard, Cond.instanceMethod yX9_lastHeard, Cond.selects RX9 yX9_lastHeard yX9_lastHeard, Cond.code yX9_lastHeard cX9_lastHeard 5 (some .int), Cond.fieldLink RX9 41 "ShipOffice$Voyage" "heardOf" "LShipOffice$Happening;", Cond.fieldLink RX9 45 "ShipOffice$Happening" "told" "I", Cond.fieldLink RX9 50 "ShipOffice$Happening" "day" "I", Cond.fieldLink RX9 53 "ShipOffice$Happening" "before" "LShipOffice$Happening;", Cond.methodLink RX1 76 yX5_inForce, Cond.instanceMethod yX5_inForce, Cond.selects RX5 yX5_inForce yX5_inForce]
def wsX10_aboard_r4 : List Cond := [Cond.initialized RX5, Cond.code yX5_inForce cX5_inForce 6 (some (.object "ShipOffice$Act")), Cond.fieldLink RX5 17 "ShipOffice$Law" "customs" "[LShipOffice$Act;", Cond.fieldLink RX5 23 "ShipOffice$Law" "actCount" "I", Cond.fieldLink RX5 11 "ShipOffice$Law" "acts" "[LShipOffice$Act;", Cond.fieldLink RX5 27 "ShipOffice$Act" "purpose" "I", Cond.fieldLink RX5 30 "ShipOffice$Act" "day" "I"]
def wsX10_aboard : List Cond := .code yX10_aboard cX10_aboard 6 (some .int) :: ((wsX10_aboard_r1 ++ (wsX10_aboard_r2 ++ (wsX10_aboard_r3 ++ wsX10_aboard_r4))) ++ wsX100 ++ wsX10 ++ wsX30 ++ wsX00 ++ wsX90 ++ wsX50)
theorem il_X10_aboard_1 : ∀ w ∈ wsX10_aboard_r1, w ∈ wsX10_aboard := fun w h => (List.mem_cons_of_mem _ (List.mem_append_left _ (List.mem_append_left _ (List.mem_append_left _ (List.mem_append_left _ (List.mem_append_left _ (List.mem_append_left _ (List.mem_append_left _ h))))))))
theorem il_X10_aboard_2 : ∀ w ∈ wsX10_aboard_r2, w ∈ wsX10_aboard := fun w h => (List.mem_cons_of_mem _ (List.mem_append_left _ (List.mem_append_left _ (List.mem_append_left _ (List.mem_append_left _ (List.mem_append_left _ (List.mem_append_left _ (List.mem_append_right _ (List.mem_append_left _ h)))))))))
theorem il_X10_aboard_3 : ∀ w ∈ wsX10_aboard_r3, w ∈ wsX10_aboard := fun w h => (List.mem_cons_of_mem _ (List.mem_append_left _ (List.mem_append_left _ (List.mem_append_left _ (List.mem_append_left _ (List.mem_append_left _ (List.mem_append_left _ (List.mem_append_right _ (List.mem_append_right _ (List.mem_append_left _ h))))))))))
theorem il_X10_aboard_4 : ∀ w ∈ wsX10_aboard_r4, w ∈ wsX10_aboard := fun w h => (List.mem_cons_of_mem _ (List.mem_append_left _ (List.mem_append_left _ (List.mem_append_left _ (List.mem_append_left _ (List.mem_append_left _ (List.mem_append_left _ (List.mem_append_right _ (List.mem_append_right _ (List.mem_append_right _ h))))))))))
theorem il_X10_aboard_5 : ∀ w ∈ wsX100, w ∈ wsX10_aboard := fun w h => (List.mem_cons_of_mem _ (List.mem_append_left _ (List.mem_append_left _ (List.mem_append_left _ (List.mem_append_left _ (List.mem_append_left _ (List.mem_append_right _ h)))))))
theorem il_X10_aboard_6 : ∀ w ∈ wsX10, w ∈ wsX10_aboard := fun w h => (List.mem_cons_of_mem _ (List.mem_append_left _ (List.mem_append_left _ (List.mem_append_left _ (List.mem_append_left _ (List.mem_append_right _ h))))))
theorem il_X10_aboard_7 : ∀ w ∈ wsX30, w ∈ wsX10_aboard := fun w h => (List.mem_cons_of_mem _ (List.mem_append_left _ (List.mem_append_left _ (List.mem_append_left _ (List.mem_append_right _ h)))))
theorem il_X10_aboard_8 : ∀ w ∈ wsX00, w ∈ wsX10_aboard := fun w h => (List.mem_cons_of_mem _ (List.mem_append_left _ (List.mem_append_left _ (List.mem_append_right _ h))))
theorem il_X10_aboard_9 : ∀ w ∈ wsX90, w ∈ wsX10_aboard := fun w h => (List.mem_cons_of_mem _ (List.mem_append_left _ (List.mem_append_right _ h)))
theorem il_X10_aboard_10 : ∀ w ∈ wsX50, w ∈ wsX10_aboard := fun w h => (List.mem_cons_of_mem _ (List.mem_append_right _ h))
def wsX10_group : List Cond := .code yX10_group cX10_group 3 (some .int) :: ([.fieldLink RX10 311 "ShipOffice$Man" "leastAlike" "I", .methodLink RX10 205 yX10_manAt, .instanceMethod yX10_manAt, .selects RX10 yX10_manAt yX10_manAt, .initialized RX10, .code yX10_manAt cX10_manAt 2 (some (.object "ShipOffice$Man")), .fieldLink RX10 86 "ShipOffice" "manCount" "I", .fieldLink RX10 11 "ShipOffice" "men" "[LShipOffice$Man;", .methodLink RX10 69 yX10_refuse, .instanceMethod yX10_refuse, .selects RX10 yX10_refuse yX10_refuse, .code yX10_refuse cX10_refuse 2 (some .int), .fieldLink RX10 66 "ShipOffice" "refusals" "[I"] ++ wsX60 ++ wsX100)
theorem il_X10_group_1 : ∀ w ∈ ([.fieldLink RX10 311 "ShipOffice$Man" "leastAlike" "I", .methodLink RX10 205 yX10_manAt, .instanceMethod yX10_manAt, .selects RX10 yX10_manAt yX10_manAt, .initialized RX10, .code yX10_manAt cX10_manAt 2 (some (.object "ShipOffice$Man")), .fieldLink RX10 86 "ShipOffice" "manCount" "I", .fieldLink RX10 11 "ShipOffice" "men" "[LShipOffice$Man;", .methodLink RX10 69 yX10_refuse, .instanceMethod yX10_refuse, .selects RX10 yX10_refuse yX10_refuse, .code yX10_refuse cX10_refuse 2 (some .int), .fieldLink RX10 66 "ShipOffice" "refusals" "[I"] : List Cond), w ∈ wsX10_group := fun w h => (List.mem_cons_of_mem _ (List.mem_append_left _ (List.mem_append_left _ h)))
theorem il_X10_group_3 : ∀ w ∈ wsX100, w ∈ wsX10_group := fun w h => (List.mem_cons_of_mem _ (List.mem_append_right _ h))
theorem iw_X10_group_1 : Cond.fieldLink RX10 311 "ShipOffice$Man" "leastAlike" "I" ∈ wsX10_group := (mmI il_X10_group_1 0 rfl)
theorem gw_X10_isShownTwice : wsX10_isShownTwice.all goodWord = true := by decide +kernel
def wsX10_borrowed_r1 : List Cond := [Cond.fieldLink RX10 314 "ShipOffice$Agreement" "paper" "LShipOffice$Agreement;", Cond.fieldLink RX10 299 "ShipOffice$Agreement" "man" "LShipOffice$Man;", Cond.fieldLink RX10 311 "ShipOffice$Man" "leastAlike" "I", Cond.methodLink RX10 154 yX10_agreementAt, Cond.instanceMethod yX10_agreementAt, Cond.selects RX10 yX10_agreementAt yX10_agreementAt, Cond.initialized RX10, Cond.code yX10_agreementAt cX10_agreementAt 2 (some (.object "ShipOffice$Agreement")), Cond.fieldLink RX10 115 "ShipOffice" "agreementCount" "I", Cond.fieldLink RX10 23 "ShipOffice" "agreements" "[LShipOffice$Agreement;", Cond.methodLink RX10 69 yX10_refuse, Cond.instanceMethod yX10_refuse, Cond.selects RX10 yX10_refuse yX10_refuse, Cond.code yX10_refuse cX10_refuse 2 (some .int), Cond.fieldLink RX10 66 "ShipOffice" "refusals" "[I", Cond.methodLink RX10 318 yX10_isShownTwice, Cond.instanceMethod yX10_isShownTwice, Cond.selects RX10 yX10_isShownTwice yX10_isShownTwice, Cond.code yX10_isShownTwice cX10_isShownTwice 4 (some .boolean), Cond.fieldLink RX10 255 "ShipOffice$Agreement" "signedOn" "I", Cond.methodLink RX10 389 yX10_lastDay, Cond.instanceMethod yX10_lastDay, Cond.selects RX10 yX10_lastDay yX10_lastDay, Cond.code yX10_lastDay cX10_lastDay 2 (some .int)]
def wsX10_borrowed_r2 : List Cond := [Cond.fieldLink RX10 126 "ShipOffice$Agreement" "offDay" "I", Cond.constant RX10 114 (1000000), Cond.fieldLink RX10 73 "ShipOffice" "now" "I"]
def wsX10_borrowed : List Cond := .code yX10_borrowed cX10_borrowed 3 (some .int) :: ((wsX10_borrowed_r1 ++ wsX10_borrowed_r2) ++ wsX10 ++ wsX60 ++ wsX100)
theorem il_X10_borrowed_1 : ∀ w ∈ wsX10_borrowed_r1, w ∈ wsX10_borrowed := fun w h => (List.mem_cons_of_mem _ (List.mem_append_left _ (List.mem_append_left _ (List.mem_append_left _ (List.mem_append_left _ h)))))
theorem il_X10_borrowed_2 : ∀ w ∈ wsX10_borrowed_r2, w ∈ wsX10_borrowed := fun w h => (List.mem_cons_of_mem _ (List.mem_append_left _ (List.mem_append_left _ (List.mem_append_left _ (List.mem_append_right _ h)))))
theorem il_X10_borrowed_3 : ∀ w ∈ wsX10, w ∈ wsX10_borrowed := fun w h => (List.mem_cons_of_mem _ (List.mem_append_left _ (List.mem_append_left _ (List.mem_append_right _ h))))
theorem il_X10_borrowed_5 : ∀ w ∈ wsX100, w ∈ wsX10_borrowed := fun w h => (List.mem_cons_of_mem _ (List.mem_append_right _ h))
theorem iw_X10_borrowed_1 : Cond.fieldLink RX10 314 "ShipOffice$Agreement" "paper" "LShipOffice$Agreement;" ∈ wsX10_borrowed := (mmI il_X10_borrowed_1 0 rfl)
theorem iw_X10_borrowed_2 : Cond.fieldLink RX10 299 "ShipOffice$Agreement" "man" "LShipOffice$Man;" ∈ wsX10_borrowed := (mmI il_X10_borrowed_1 1 rfl)
theorem iw_X10_borrowed_3 : Cond.fieldLink RX10 311 "ShipOffice$Man" "leastAlike" "I" ∈ wsX10_borrowed := (mmI il_X10_borrowed_1 2 rfl)
def wsX10_home_r1 : List Cond := [Cond.fieldLink RX10 115 "ShipOffice" "agreementCount" "I", Cond.fieldLink RX10 23 "ShipOffice" "agreements" "[LShipOffice$Agreement;", Cond.fieldLink RX10 299 "ShipOffice$Agreement" "man" "LShipOffice$Man;", Cond.fieldLink RX10 73 "ShipOffice" "now" "I", Cond.fieldLink RX10 30 "ShipOffice" "law" "LShipOffice$Law;", Cond.fieldLink RX10 326 "ShipOffice$Happening" "way" "I", Cond.fieldLink RX10 44 "ShipOffice" "sea" "LShipOffice$Sea;", Cond.fieldLink RX10 329 "ShipOffice$Happening" "port" "I", Cond.fieldLink RX10 118 "ShipOffice$Agreement" "voyage" "LShipOffice$Voyage;", Cond.fieldLink RX10 332 "ShipOffice$Voyage" "port" "I", Cond.methodLink RX10 205 yX10_manAt, Cond.instanceMethod yX10_manAt, Cond.selects RX10 yX10_manAt yX10_manAt, Cond.initialized RX10, Cond.code yX10_manAt cX10_manAt 2 (some (.object "ShipOffice$Man")), Cond.fieldLink RX10 86 "ShipOffice" "manCount" "I", Cond.fieldLink RX10 11 "ShipOffice" "men" "[LShipOffice$Man;", Cond.methodLink RX10 69 yX10_refuse, Cond.instanceMethod yX10_refuse, Cond.selects RX10 yX10_refuse yX10_refuse, Cond.code yX10_refuse cX10_refuse 2 (some .int), Cond.fieldLink RX10 66 "ShipOffice" "refusals" "[I", Cond.methodLink RX10 322 yX1_leavingOn, Cond.instanceMethod yX1_leavingOn]
def wsX10_home_r2 : List Cond := [Cond.selects RX1 yX1_leavingOn yX1_leavingOn, Cond.initialized RX1, Cond.code yX1_leavingOn cX1_leavingOn 4 (some (.object "ShipOffice$Happening")), Cond.methodLink RX1 100 yX1_stateOn, Cond.instanceMethod yX1_stateOn, Cond.selects RX1 yX1_stateOn yX1_stateOn, Cond.code yX1_stateOn cX1_stateOn 5 (some .int), Cond.fieldLink RX1 37 "ShipOffice$Agreement" "signedOn" "I", Cond.fieldLink RX1 33 "ShipOffice$Agreement" "voyage" "LShipOffice$Voyage;", Cond.fieldLink RX1 44 "ShipOffice$Agreement" "isDead" "Z", Cond.fieldLink RX1 10 "ShipOffice$Agreement" "offDay" "I", Cond.fieldLink RX1 64 "ShipOffice$Happening" "kind" "I", Cond.fieldLink RX1 82 "ShipOffice$Act" "plainWorth" "I", Cond.methodLink RX1 53 yX9_lostBy, Cond.instanceMethod yX9_lostBy, Cond.selects RX9 yX9_lostBy yX9_lostBy, Cond.initialized RX9, Cond.code yX9_lostBy cX9_lostBy 3 (some .boolean), Cond.fieldLink RX9 22 "ShipOffice$Voyage" "lostTold" "I", Cond.fieldLink RX9 19 "ShipOffice$Voyage" "lostDay" "I", Cond.methodLink RX1 57 yX1_diedBy, Cond.instanceMethod yX1_diedBy, Cond.selects RX1 yX1_diedBy yX1_diedBy, Cond.code yX1_diedBy cX1_diedBy 4 (some .boolean)]
def wsX10_home_r3 : List Cond := [Cond.fieldLink RX1 87 "ShipOffice$Agreement" "tidings" "LShipOffice$Happening;", Cond.fieldLink RX1 91 "ShipOffice$Happening" "told" "I", Cond.fieldLink RX1 94 "ShipOffice$Happening" "day" "I", Cond.fieldLink RX1 97 "ShipOffice$Happening" "before" "LShipOffice$Happening;", Cond.methodLink RX1 60 yX1_lastMove, Cond.instanceMethod yX1_lastMove, Cond.selects RX1 yX1_lastMove yX1_lastMove, Cond.code yX1_lastMove cX1_lastMove 6 (some (.object "ShipOffice$Happening")), Cond.methodLink RX1 69 yX9_sailedBy, Cond.instanceMethod yX9_sailedBy, Cond.selects RX9 yX9_sailedBy yX9_sailedBy, Cond.code yX9_sailedBy cX9_sailedBy 3 (some .boolean), Cond.fieldLink RX9 16 "ShipOffice$Voyage" "sailedTold" "I", Cond.fieldLink RX9 10 "ShipOffice$Voyage" "sailedDay" "I", Cond.methodLink RX1 72 yX9_lastHeard, Cond.instanceMethod yX9_lastHeard, Cond.selects RX9 yX9_lastHeard yX9_lastHeard, Cond.code yX9_lastHeard cX9_lastHeard 5 (some .int), Cond.fieldLink RX9 41 "ShipOffice$Voyage" "heardOf" "LShipOffice$Happening;", Cond.fieldLink RX9 45 "ShipOffice$Happening" "told" "I", Cond.fieldLink RX9 50 "ShipOffice$Happening" "day" "I", Cond.fieldLink RX9 53 "ShipOffice$Happening" "before" "LShipOffice$Happening;", Cond.methodLink RX1 76 yX5_inForce, Cond.instanceMethod yX5_inForce]
def wsX10_home_r4 : List Cond := [Cond.selects RX5 yX5_inForce yX5_inForce, Cond.initialized RX5, Cond.code yX5_inForce cX5_inForce 6 (some (.object "ShipOffice$Act")), Cond.fieldLink RX5 17 "ShipOffice$Law" "customs" "[LShipOffice$Act;", Cond.fieldLink RX5 23 "ShipOffice$Law" "actCount" "I", Cond.fieldLink RX5 11 "ShipOffice$Law" "acts" "[LShipOffice$Act;", Cond.fieldLink RX5 27 "ShipOffice$Act" "purpose" "I", Cond.fieldLink RX5 30 "ShipOffice$Act" "day" "I", Cond.methodLink RX10 333 yX7_way, Cond.instanceMethod yX7_way, Cond.selects RX7 yX7_way yX7_way, Cond.initialized RX7, Cond.code yX7_way cX7_way 4 (some .int), Cond.fieldLink RX7 15 "ShipOffice$Sea" "least" "[I", Cond.constant RX7 18 (1000000), Cond.methodLink RX7 19 yJ7_fill_53178, Cond.static yJ7_fill_53178, Cond.initialized RJ7, Cond.code yJ7_fill_53178 cJ7_fill_53178 4 none, Cond.methodLink RX7 25 yX7_shorten, Cond.instanceMethod yX7_shorten, Cond.selects RX7 yX7_shorten yX7_shorten, Cond.code yX7_shorten cX7_shorten 4 none, Cond.fieldLink RX7 9 "ShipOffice$Sea" "miles" "[I"]
def wsX10_home : List Cond := .code yX10_home cX10_home 6 (some .int) :: ((wsX10_home_r1 ++ (wsX10_home_r2 ++ (wsX10_home_r3 ++ wsX10_home_r4))) ++ wsX100 ++ wsX10 ++ wsX30 ++ wsX90 ++ wsX00 ++ wsX50 ++ wsX70)
theorem il_X10_home_1 : ∀ w ∈ wsX10_home_r1, w ∈ wsX10_home := fun w h => (List.mem_cons_of_mem _ (List.mem_append_left _ (List.mem_append_left _ (List.mem_append_left _ (List.mem_append_left _ (List.mem_append_left _ (List.mem_append_left _ (List.mem_append_left _ (List.mem_append_left _ h)))))))))
theorem il_X10_home_2 : ∀ w ∈ wsX10_home_r2, w ∈ wsX10_home := fun w h => (List.mem_cons_of_mem _ (List.mem_append_left _ (List.mem_append_left _ (List.mem_append_left _ (List.mem_append_left _ (List.mem_append_left _ (List.mem_append_left _ (List.mem_append_left _ (List.mem_append_right _ (List.mem_append_left _ h))))))))))
theorem il_X10_home_3 : ∀ w ∈ wsX10_home_r3, w ∈ wsX10_home := fun w h => (List.mem_cons_of_mem _ (List.mem_append_left _ (List.mem_append_left _ (List.mem_append_left _ (List.mem_append_left _ (List.mem_append_left _ (List.mem_append_left _ (List.mem_append_left _ (List.mem_append_right _ (List.mem_append_right _ (List.mem_append_left _ h)))))))))))
theorem il_X10_home_4 : ∀ w ∈ wsX10_home_r4, w ∈ wsX10_home := fun w h => (List.mem_cons_of_mem _ (List.mem_append_left _ (List.mem_append_left _ (List.mem_append_left _ (List.mem_append_left _ (List.mem_append_left _ (List.mem_append_left _ (List.mem_append_left _ (List.mem_append_right _ (List.mem_append_right _ (List.mem_append_right _ h)))))))))))
theorem il_X10_home_5 : ∀ w ∈ wsX100, w ∈ wsX10_home := fun w h => (List.mem_cons_of_mem _ (List.mem_append_left _ (List.mem_append_left _ (List.mem_append_left _ (List.mem_append_left _ (List.mem_append_left _ (List.mem_append_left _ (List.mem_append_right _ h))))))))
theorem il_X10_home_6 : ∀ w ∈ wsX10, w ∈ wsX10_home := fun w h => (List.mem_cons_of_mem _ (List.mem_append_left _ (List.mem_append_left _ (List.mem_append_left _ (List.mem_append_left _ (List.mem_append_left _ (List.mem_append_right _ h)))))))
theorem il_X10_home_7 : ∀ w ∈ wsX30, w ∈ wsX10_home := fun w h => (List.mem_cons_of_mem _ (List.mem_append_left _ (List.mem_append_left _ (List.mem_append_left _ (List.mem_append_left _ (List.mem_append_right _ h))))))
theorem il_X10_home_8 : ∀ w ∈ wsX90, w ∈ wsX10_home := fun w h => (List.mem_cons_of_mem _ (List.mem_append_left _ (List.mem_append_left _ (List.mem_append_left _ (List.mem_append_right _ h)))))
theorem il_X10_home_9 : ∀ w ∈ wsX00, w ∈ wsX10_home := fun w h => (List.mem_cons_of_mem _ (List.mem_append_left _ (List.mem_append_left _ (List.mem_append_right _ h))))
theorem il_X10_home_10 : ∀ w ∈ wsX50, w ∈ wsX10_home := fun w h => (List.mem_cons_of_mem _ (List.mem_append_left _ (List.mem_append_right _ h)))
theorem il_X10_home_11 : ∀ w ∈ wsX70, w ∈ wsX10_home := fun w h => (List.mem_cons_of_mem _ (List.mem_append_right _ h))
theorem iw_X10_home_1 : Cond.fieldLink RX10 115 "ShipOffice" "agreementCount" "I" ∈ wsX10_home := (mmI il_X10_home_1 0 rfl)
theorem iw_X10_home_2 : Cond.fieldLink RX10 23 "ShipOffice" "agreements" "[LShipOffice$Agreement;" ∈ wsX10_home := (mmI il_X10_home_1 1 rfl)
theorem iw_X10_home_3 : Cond.fieldLink RX10 299 "ShipOffice$Agreement" "man" "LShipOffice$Man;" ∈ wsX10_home := (mmI il_X10_home_1 2 rfl)
theorem iw_X10_home_4 : Cond.fieldLink RX10 73 "ShipOffice" "now" "I" ∈ wsX10_home := (mmI il_X10_home_1 3 rfl)
theorem iw_X10_home_5 : Cond.fieldLink RX10 30 "ShipOffice" "law" "LShipOffice$Law;" ∈ wsX10_home := (mmI il_X10_home_1 4 rfl)
theorem iw_X10_home_6 : Cond.fieldLink RX10 326 "ShipOffice$Happening" "way" "I" ∈ wsX10_home := (mmI il_X10_home_1 5 rfl)
theorem iw_X10_home_7 : Cond.fieldLink RX10 44 "ShipOffice" "sea" "LShipOffice$Sea;" ∈ wsX10_home := (mmI il_X10_home_1 6 rfl)
theorem iw_X10_home_8 : Cond.fieldLink RX10 329 "ShipOffice$Happening" "port" "I" ∈ wsX10_home := (mmI il_X10_home_1 7 rfl)
theorem iw_X10_home_9 : Cond.fieldLink RX10 118 "ShipOffice$Agreement" "voyage" "LShipOffice$Voyage;" ∈ wsX10_home := (mmI il_X10_home_1 8 rfl)
theorem iw_X10_home_10 : Cond.fieldLink RX10 332 "ShipOffice$Voyage" "port" "I" ∈ wsX10_home := (mmI il_X10_home_1 9 rfl)
def wsX10_ask : List Cond := .code yX10_ask cX10_ask 6 (some .int) :: ([.fieldLink RX10 335 "ShipOffice$Man" "wages" "[I", .methodLink RX10 205 yX10_manAt, .instanceMethod yX10_manAt, .selects RX10 yX10_manAt yX10_manAt, .initialized RX10, .code yX10_manAt cX10_manAt 2 (some (.object "ShipOffice$Man")), .fieldLink RX10 86 "ShipOffice" "manCount" "I", .fieldLink RX10 11 "ShipOffice" "men" "[LShipOffice$Man;", .methodLink RX10 69 yX10_refuse, .instanceMethod yX10_refuse, .selects RX10 yX10_refuse yX10_refuse, .code yX10_refuse cX10_refuse 2 (some .int), .fieldLink RX10 66 "ShipOffice" "refusals" "[I"] ++ wsX60 ++ wsX100)
theorem il_X10_ask_1 : ∀ w ∈ ([.fieldLink RX10 335 "ShipOffice$Man" "wages" "[I", .methodLink RX10 205 yX10_manAt, .instanceMethod yX10_manAt, .selects RX10 yX10_manAt yX10_manAt, .initialized RX10, .code yX10_manAt cX10_manAt 2 (some (.object "ShipOffice$Man")), .fieldLink RX10 86 "ShipOffice" "manCount" "I", .fieldLink RX10 11 "ShipOffice" "men" "[LShipOffice$Man;", .methodLink RX10 69 yX10_refuse, .instanceMethod yX10_refuse, .selects RX10 yX10_refuse yX10_refuse, .code yX10_refuse cX10_refuse 2 (some .int), .fieldLink RX10 66 "ShipOffice" "refusals" "[I"] : List Cond), w ∈ wsX10_ask := fun w h => (List.mem_cons_of_mem _ (List.mem_append_left _ (List.mem_append_left _ h)))
theorem il_X10_ask_3 : ∀ w ∈ wsX100, w ∈ wsX10_ask := fun w h => (List.mem_cons_of_mem _ (List.mem_append_right _ h))
theorem iw_X10_ask_1 : Cond.fieldLink RX10 335 "ShipOffice$Man" "wages" "[I" ∈ wsX10_ask := (mmI il_X10_ask_1 0 rfl)
def wsX10_crew_r1 : List Cond := [Cond.fieldLink RX10 51 "ShipOffice" "hiring" "LShipOffice$Hiring;", Cond.fieldLink RX10 86 "ShipOffice" "manCount" "I", Cond.fieldLink RX10 11 "ShipOffice" "men" "[LShipOffice$Man;", Cond.methodLink RX10 69 yX10_refuse, Cond.instanceMethod yX10_refuse, Cond.selects RX10 yX10_refuse yX10_refuse, Cond.initialized RX10, Cond.code yX10_refuse cX10_refuse 2 (some .int), Cond.fieldLink RX10 66 "ShipOffice" "refusals" "[I", Cond.methodLink RX10 338 yX4_begin, Cond.instanceMethod yX4_begin, Cond.selects RX4 yX4_begin yX4_begin, Cond.initialized RX4, Cond.code yX4_begin cX4_begin 3 none, Cond.fieldLink RX4 11 "ShipOffice$Hiring" "best" "[J", Cond.constantLong RX4 22 (1152921504606846976), Cond.fieldLink RX4 30 "ShipOffice$Hiring" "offerCount" "I", Cond.fieldLink RX4 34 "ShipOffice$Hiring" "goal" "I", Cond.fieldLink RX4 37 "ShipOffice$Hiring" "places" "I", Cond.fieldLink RX4 19 "ShipOffice$Hiring" "firstPlace" "[I", Cond.methodLink RX4 24 yJ7_fill_d0a16, Cond.static yJ7_fill_d0a16, Cond.initialized RJ7, Cond.code yJ7_fill_d0a16 cJ7_fill_d0a16 5 none]
def wsX10_crew_r2 : List Cond := [Cond.methodLink RX4 40 yX4_handsOf, Cond.static yX4_handsOf, Cond.code yX4_handsOf cX4_handsOf 2 (some .int), Cond.fieldLink RX4 44 "ShipOffice$Hiring" "STEP" "[I", Cond.methodLink RX10 341 yX6_asks, Cond.instanceMethod yX6_asks, Cond.selects RX6 yX6_asks yX6_asks, Cond.initialized RX6, Cond.code yX6_asks cX6_asks 5 (some .boolean), Cond.fieldLink RX6 9 "ShipOffice$Man" "wages" "[I", Cond.methodLink RX10 212 yX10_isFree, Cond.instanceMethod yX10_isFree, Cond.selects RX10 yX10_isFree yX10_isFree, Cond.code yX10_isFree cX10_isFree 3 (some .boolean), Cond.fieldLink RX10 115 "ShipOffice" "agreementCount" "I", Cond.fieldLink RX10 23 "ShipOffice" "agreements" "[LShipOffice$Agreement;", Cond.fieldLink RX10 299 "ShipOffice$Agreement" "man" "LShipOffice$Man;", Cond.methodLink RX10 122 yX1_goesOn, Cond.instanceMethod yX1_goesOn, Cond.selects RX1 yX1_goesOn yX1_goesOn, Cond.initialized RX1, Cond.code yX1_goesOn cX1_goesOn 1 (some .boolean), Cond.fieldLink RX1 10 "ShipOffice$Agreement" "offDay" "I", Cond.constant RX1 9 (1000000)]
def wsX10_crew_r3 : List Cond := [Cond.fieldLink RX1 44 "ShipOffice$Agreement" "isDead" "Z", Cond.fieldLink RX1 33 "ShipOffice$Agreement" "voyage" "LShipOffice$Voyage;", Cond.fieldLink RX1 48 "ShipOffice$Voyage" "lostTold" "I", Cond.methodLink RX10 344 yX4_offer, Cond.instanceMethod yX4_offer, Cond.selects RX4 yX4_offer yX4_offer, Cond.code yX4_offer cX4_offer 3 none, Cond.fieldLink RX4 15 "ShipOffice$Hiring" "offers" "[I", Cond.fieldLink RX4 51 "ShipOffice$Man" "number" "I", Cond.methodLink RX4 47 yX4_placeIn, Cond.instanceMethod yX4_placeIn, Cond.selects RX4 yX4_placeIn yX4_placeIn, Cond.code yX4_placeIn cX4_placeIn 10 none, Cond.fieldLink RX4 56 "ShipOffice$Man" "wages" "[I", Cond.methodLink RX4 63 Lib.MathLoose.min_long.x, Cond.static Lib.MathLoose.min_long.x, Cond.initialized "java/lang/Math", Cond.code Lib.MathLoose.min_long.x Lib.MathLoose.min_long.code 4 (some .long), Cond.methodLink RX4 59 yX4_handShift, Cond.static yX4_handShift, Cond.code yX4_handShift cX4_handShift 1 (some .int), Cond.methodLink RX10 347 yX4_leastSum, Cond.instanceMethod yX4_leastSum, Cond.selects RX4 yX4_leastSum yX4_leastSum]
def wsX10_crew_r4 : List Cond := [Cond.code yX4_leastSum cX4_leastSum 1 (some .int), Cond.methodLink RX10 350 yX4_hand, Cond.instanceMethod yX4_hand, Cond.selects RX4 yX4_hand yX4_hand, Cond.code yX4_hand cX4_hand 3 (some .int), Cond.constantLong RX4 69 (15)]
def wsX10_crew : List Cond := .code yX10_crew cX10_crew 4 (some .int) :: ((wsX10_crew_r1 ++ (wsX10_crew_r2 ++ (wsX10_crew_r3 ++ wsX10_crew_r4))) ++ wsX100 ++ wsX40 ++ wsX60 ++ wsX10 ++ wsX90)
theorem il_X10_crew_1 : ∀ w ∈ wsX10_crew_r1, w ∈ wsX10_crew := fun w h => (List.mem_cons_of_mem _ (List.mem_append_left _ (List.mem_append_left _ (List.mem_append_left _ (List.mem_append_left _ (List.mem_append_left _ (List.mem_append_left _ h)))))))
theorem il_X10_crew_2 : ∀ w ∈ wsX10_crew_r2, w ∈ wsX10_crew := fun w h => (List.mem_cons_of_mem _ (List.mem_append_left _ (List.mem_append_left _ (List.mem_append_left _ (List.mem_append_left _ (List.mem_append_left _ (List.mem_append_right _ (List.mem_append_left _ h))))))))
theorem il_X10_crew_3 : ∀ w ∈ wsX10_crew_r3, w ∈ wsX10_crew := fun w h => (List.mem_cons_of_mem _ (List.mem_append_left _ (List.mem_append_left _ (List.mem_append_left _ (List.mem_append_left _ (List.mem_append_left _ (List.mem_append_right _ (List.mem_append_right _ (List.mem_append_left _ h)))))))))
theorem il_X10_crew_4 : ∀ w ∈ wsX10_crew_r4, w ∈ wsX10_crew := fun w h => (List.mem_cons_of_mem _ (List.mem_append_left _ (List.mem_append_left _ (List.mem_append_left _ (List.mem_append_left _ (List.mem_append_left _ (List.mem_append_right _ (List.mem_append_right _ (List.mem_append_right _ h)))))))))
theorem il_X10_crew_5 : ∀ w ∈ wsX100, w ∈ wsX10_crew := fun w h => (List.mem_cons_of_mem _ (List.mem_append_left _ (List.mem_append_left _ (List.mem_append_left _ (List.mem_append_left _ (List.mem_append_right _ h))))))
theorem il_X10_crew_6 : ∀ w ∈ wsX40, w ∈ wsX10_crew := fun w h => (List.mem_cons_of_mem _ (List.mem_append_left _ (List.mem_append_left _ (List.mem_append_left _ (List.mem_append_right _ h)))))
theorem il_X10_crew_7 : ∀ w ∈ wsX60, w ∈ wsX10_crew := fun w h => (List.mem_cons_of_mem _ (List.mem_append_left _ (List.mem_append_left _ (List.mem_append_right _ h))))
theorem il_X10_crew_8 : ∀ w ∈ wsX10, w ∈ wsX10_crew := fun w h => (List.mem_cons_of_mem _ (List.mem_append_left _ (List.mem_append_right _ h)))
theorem il_X10_crew_9 : ∀ w ∈ wsX90, w ∈ wsX10_crew := fun w h => (List.mem_cons_of_mem _ (List.mem_append_right _ h))
theorem iw_X10_crew_1 : Cond.fieldLink RX10 51 "ShipOffice" "hiring" "LShipOffice$Hiring;" ∈ wsX10_crew := (mmI il_X10_crew_1 0 rfl)
theorem iw_X10_crew_2 : Cond.fieldLink RX10 86 "ShipOffice" "manCount" "I" ∈ wsX10_crew := (mmI il_X10_crew_1 1 rfl)
theorem iw_X10_crew_3 : Cond.fieldLink RX10 11 "ShipOffice" "men" "[LShipOffice$Man;" ∈ wsX10_crew := (mmI il_X10_crew_1 2 rfl)
def wsX10_check_r1 : List Cond := [Cond.fieldLink RX10 353 "ShipOffice" "rowCount" "I", Cond.fieldLink RX10 115 "ShipOffice" "agreementCount" "I", Cond.fieldLink RX10 23 "ShipOffice" "agreements" "[LShipOffice$Agreement;", Cond.fieldLink RX10 118 "ShipOffice$Agreement" "voyage" "LShipOffice$Voyage;", Cond.fieldLink RX10 63 "ShipOffice" "row" "[I", Cond.methodLink RX10 103 yX10_voyageAt, Cond.instanceMethod yX10_voyageAt, Cond.selects RX10 yX10_voyageAt yX10_voyageAt, Cond.initialized RX10, Cond.code yX10_voyageAt cX10_voyageAt 2 (some (.object "ShipOffice$Voyage")), Cond.fieldLink RX10 99 "ShipOffice" "voyageCount" "I", Cond.fieldLink RX10 17 "ShipOffice" "voyages" "[LShipOffice$Voyage;", Cond.methodLink RX10 69 yX10_refuse, Cond.instanceMethod yX10_refuse, Cond.selects RX10 yX10_refuse yX10_refuse, Cond.code yX10_refuse cX10_refuse 2 (some .int), Cond.fieldLink RX10 66 "ShipOffice" "refusals" "[I", Cond.methodLink RX10 229 yX10_askRefusal, Cond.instanceMethod yX10_askRefusal, Cond.selects RX10 yX10_askRefusal yX10_askRefusal, Cond.code yX10_askRefusal cX10_askRefusal 3 (some .int), Cond.fieldLink RX10 73 "ShipOffice" "now" "I", Cond.methodLink RX10 295 yX10_owedOn, Cond.instanceMethod yX10_owedOn]
def wsX10_check_r2 : List Cond := [Cond.selects RX10 yX10_owedOn yX10_owedOn, Cond.code yX10_owedOn cX10_owedOn 9 (some .int), Cond.fieldLink RX10 255 "ShipOffice$Agreement" "signedOn" "I", Cond.fieldLink RX10 223 "ShipOffice$Agreement" "wage" "I", Cond.fieldLink RX10 30 "ShipOffice" "law" "LShipOffice$Law;", Cond.fieldLink RX10 258 "ShipOffice$Agreement" "fineCount" "I", Cond.fieldLink RX10 261 "ShipOffice$Agreement" "fines" "[LShipOffice$Fine;", Cond.fieldLink RX10 277 "ShipOffice$Fine" "day" "I", Cond.fieldLink RX10 326 "ShipOffice$Happening" "way" "I", Cond.methodLink RX10 378 Lib.Math.min.name, Cond.static Lib.Math.min.name, Cond.initialized "java/lang/Math", Cond.code Lib.Math.min.name Lib.Math.min.code 2 (some .int), Cond.methodLink RX10 383 Lib.Math.max.name, Cond.static Lib.Math.max.name, Cond.code Lib.Math.max.name Lib.Math.max.code 2 (some .int), Cond.constantLong RX10 253 (100), Cond.methodLink RX10 237 yX1_earningDays, Cond.instanceMethod yX1_earningDays, Cond.selects RX1 yX1_earningDays yX1_earningDays, Cond.initialized RX1, Cond.code yX1_earningDays cX1_earningDays 5 (some .int), Cond.fieldLink RX1 33 "ShipOffice$Agreement" "voyage" "LShipOffice$Voyage;", Cond.methodLink RX1 100 yX1_stateOn]
def wsX10_check_r3 : List Cond := [Cond.instanceMethod yX1_stateOn, Cond.selects RX1 yX1_stateOn yX1_stateOn, Cond.code yX1_stateOn cX1_stateOn 5 (some .int), Cond.fieldLink RX1 37 "ShipOffice$Agreement" "signedOn" "I", Cond.fieldLink RX1 44 "ShipOffice$Agreement" "isDead" "Z", Cond.fieldLink RX1 10 "ShipOffice$Agreement" "offDay" "I", Cond.fieldLink RX1 64 "ShipOffice$Happening" "kind" "I", Cond.fieldLink RX1 82 "ShipOffice$Act" "plainWorth" "I", Cond.methodLink RX1 53 yX9_lostBy, Cond.instanceMethod yX9_lostBy, Cond.selects RX9 yX9_lostBy yX9_lostBy, Cond.initialized RX9, Cond.code yX9_lostBy cX9_lostBy 3 (some .boolean), Cond.fieldLink RX9 22 "ShipOffice$Voyage" "lostTold" "I", Cond.fieldLink RX9 19 "ShipOffice$Voyage" "lostDay" "I", Cond.methodLink RX1 57 yX1_diedBy, Cond.instanceMethod yX1_diedBy, Cond.selects RX1 yX1_diedBy yX1_diedBy, Cond.code yX1_diedBy cX1_diedBy 4 (some .boolean), Cond.fieldLink RX1 87 "ShipOffice$Agreement" "tidings" "LShipOffice$Happening;", Cond.fieldLink RX1 91 "ShipOffice$Happening" "told" "I", Cond.fieldLink RX1 94 "ShipOffice$Happening" "day" "I", Cond.fieldLink RX1 97 "ShipOffice$Happening" "before" "LShipOffice$Happening;", Cond.methodLink RX1 60 yX1_lastMove]
def wsX10_check_r4 : List Cond := [Cond.instanceMethod yX1_lastMove, Cond.selects RX1 yX1_lastMove yX1_lastMove, Cond.code yX1_lastMove cX1_lastMove 6 (some (.object "ShipOffice$Happening")), Cond.methodLink RX1 69 yX9_sailedBy, Cond.instanceMethod yX9_sailedBy, Cond.selects RX9 yX9_sailedBy yX9_sailedBy, Cond.code yX9_sailedBy cX9_sailedBy 3 (some .boolean), Cond.fieldLink RX9 16 "ShipOffice$Voyage" "sailedTold" "I", Cond.fieldLink RX9 10 "ShipOffice$Voyage" "sailedDay" "I", Cond.methodLink RX1 72 yX9_lastHeard, Cond.instanceMethod yX9_lastHeard, Cond.selects RX9 yX9_lastHeard yX9_lastHeard, Cond.code yX9_lastHeard cX9_lastHeard 5 (some .int), Cond.fieldLink RX9 41 "ShipOffice$Voyage" "heardOf" "LShipOffice$Happening;", Cond.fieldLink RX9 45 "ShipOffice$Happening" "told" "I", Cond.fieldLink RX9 50 "ShipOffice$Happening" "day" "I", Cond.fieldLink RX9 53 "ShipOffice$Happening" "before" "LShipOffice$Happening;", Cond.methodLink RX1 76 yX5_inForce, Cond.instanceMethod yX5_inForce, Cond.selects RX5 yX5_inForce yX5_inForce, Cond.initialized RX5, Cond.code yX5_inForce cX5_inForce 6 (some (.object "ShipOffice$Act")), Cond.fieldLink RX5 17 "ShipOffice$Law" "customs" "[LShipOffice$Act;", Cond.fieldLink RX5 23 "ShipOffice$Law" "actCount" "I"]
def wsX10_check_r5 : List Cond := [Cond.fieldLink RX5 11 "ShipOffice$Law" "acts" "[LShipOffice$Act;", Cond.fieldLink RX5 27 "ShipOffice$Act" "purpose" "I", Cond.fieldLink RX5 30 "ShipOffice$Act" "day" "I", Cond.methodLink RX1 104 yX1_daysIn, Cond.instanceMethod yX1_daysIn, Cond.selects RX1 yX1_daysIn yX1_daysIn, Cond.code yX1_daysIn cX1_daysIn 10 (some .int), Cond.methodLink RX1 111 Lib.Math.min.name, Cond.methodLink RX1 108 yX1_nextChange, Cond.instanceMethod yX1_nextChange, Cond.selects RX1 yX1_nextChange yX1_nextChange, Cond.code yX1_nextChange cX1_nextChange 6 (some .int), Cond.constant RX1 9 (1000000), Cond.methodLink RX1 116 yX1_nearer, Cond.static yX1_nearer, Cond.code yX1_nearer cX1_nearer 3 (some .int), Cond.methodLink RX1 120 yX9_nextTold, Cond.instanceMethod yX9_nextTold, Cond.selects RX9 yX9_nextTold yX9_nextTold, Cond.code yX9_nextTold cX9_nextTold 5 (some .int), Cond.constant RX9 9 (1000000), Cond.methodLink RX1 123 yX5_nextPresume, Cond.instanceMethod yX5_nextPresume, Cond.selects RX5 yX5_nextPresume yX5_nextPresume]
def wsX10_check_r6 : List Cond := [Cond.code yX5_nextPresume cX5_nextPresume 4 (some .int), Cond.constant RX5 33 (1000000), Cond.methodLink RX10 421 yX1_notePaid, Cond.instanceMethod yX1_notePaid, Cond.selects RX1 yX1_notePaid yX1_notePaid, Cond.code yX1_notePaid cX1_notePaid 4 (some .int), Cond.fieldLink RX1 127 "ShipOffice$Agreement" "note" "I", Cond.fieldLink RX1 130 "ShipOffice$Voyage" "sailedDay" "I", Cond.methodLink RX10 424 yX1_allotmentsPaid, Cond.instanceMethod yX1_allotmentsPaid, Cond.selects RX1 yX1_allotmentsPaid yX1_allotmentsPaid, Cond.code yX1_allotmentsPaid cX1_allotmentsPaid 6 (some .int), Cond.fieldLink RX1 133 "ShipOffice$Agreement" "allotment" "I", Cond.methodLink RX10 280 yX10_standing, Cond.instanceMethod yX10_standing, Cond.selects RX10 yX10_standing yX10_standing, Cond.code yX10_standing cX10_standing 5 (some .int), Cond.fieldLink RX10 418 "ShipOffice$Fine" "sum" "I", Cond.fieldLink RX10 274 "ShipOffice$Fine" "isRead" "Z", Cond.methodLink RX10 249 yX10_worthFor, Cond.instanceMethod yX10_worthFor, Cond.selects RX10 yX10_worthFor yX10_worthFor, Cond.code yX10_worthFor cX10_worthFor 8 (some .int), Cond.fieldLink RX10 59 "ShipOffice" "letters" "[I"]
def wsX10_check_r7 : List Cond := [Cond.fieldLink RX10 226 "ShipOffice$Agreement" "rank" "I", Cond.fieldLink RX10 299 "ShipOffice$Agreement" "man" "LShipOffice$Man;", Cond.methodLink RX10 400 yX5_inForce, Cond.methodLink RX10 397 yX6_yearsOn, Cond.instanceMethod yX6_yearsOn, Cond.selects RX6 yX6_yearsOn yX6_yearsOn, Cond.initialized RX6, Cond.code yX6_yearsOn cX6_yearsOn 2 (some .int), Cond.fieldLink RX6 25 "ShipOffice$Man" "born" "I", Cond.methodLink RX10 408 yX0_uses, Cond.instanceMethod yX0_uses, Cond.selects RX0 yX0_uses yX0_uses, Cond.initialized RX0, Cond.code yX0_uses cX0_uses 6 (some .boolean), Cond.fieldLink RX0 16 "ShipOffice$Act" "code" "[I", Cond.methodLink RX10 411 yX1_daysIn, Cond.methodLink RX10 307 yX10_menAboard, Cond.instanceMethod yX10_menAboard, Cond.selects RX10 yX10_menAboard yX10_menAboard, Cond.code yX10_menAboard cX10_menAboard 6 (some .int), Cond.methodLink RX10 233 yX1_stateOn, Cond.methodLink RX10 415 yX9_daysUnheard, Cond.instanceMethod yX9_daysUnheard, Cond.selects RX9 yX9_daysUnheard yX9_daysUnheard]
def wsX10_check_r8 : List Cond := [Cond.code yX9_daysUnheard cX9_daysUnheard 4 (some .int), Cond.methodLink RX9 56 yX9_lastHeard, Cond.methodLink RX10 404 yX0_worth, Cond.instanceMethod yX0_worth, Cond.selects RX0 yX0_worth yX0_worth, Cond.code yX0_worth cX0_worth 8 (some .int), Cond.fieldLink RX0 20 "ShipOffice$Act" "stack" "[I", Cond.methodLink RX0 36 yX0_joined, Cond.static yX0_joined, Cond.code yX0_joined cX0_joined 5 (some .int), Cond.methodLink RX0 40 yX0_held, Cond.static yX0_held, Cond.code yX0_held cX0_held 2 (some .int), Cond.constantLong RX0 44 (1000000000), Cond.constant RX0 46 (1000000000), Cond.constantLong RX0 47 (-1000000000), Cond.constant RX0 49 (-1000000000), Cond.methodLink RX10 427 yX1_shortPence, Cond.instanceMethod yX1_shortPence, Cond.selects RX1 yX1_shortPence yX1_shortPence, Cond.code yX1_shortPence cX1_shortPence 4 (some .int), Cond.fieldLink RX1 136 "ShipOffice$Agreement" "shortCount" "I", Cond.fieldLink RX1 22 "ShipOffice$Agreement" "shortTold" "[I", Cond.fieldLink RX1 26 "ShipOffice$Agreement" "shortSum" "[I"]
def wsX10_check_r9 : List Cond := [Cond.methodLink RX10 322 yX1_leavingOn, Cond.instanceMethod yX1_leavingOn, Cond.selects RX1 yX1_leavingOn yX1_leavingOn, Cond.code yX1_leavingOn cX1_leavingOn 4 (some (.object "ShipOffice$Happening"))]
def wsX10_check : List Cond := .code yX10_check cX10_check 9 (some .int) :: ((wsX10_check_r1 ++ (wsX10_check_r2 ++ (wsX10_check_r3 ++ (wsX10_check_r4 ++ (wsX10_check_r5 ++ (wsX10_check_r6 ++ (wsX10_check_r7 ++ (wsX10_check_r8 ++ wsX10_check_r9)))))))) ++ wsX100 ++ wsX10 ++ wsX20 ++ wsX30 ++ wsX00 ++ wsX90 ++ wsX50 ++ wsX60)
theorem il_X10_check_1 : ∀ w ∈ wsX10_check_r1, w ∈ wsX10_check := fun w h => (List.mem_cons_of_mem _ (List.mem_append_left _ (List.mem_append_left _ (List.mem_append_left _ (List.mem_append_left _ (List.mem_append_left _ (List.mem_append_left _ (List.mem_append_left _ (List.mem_append_left _ (List.mem_append_left _ h))))))))))
theorem il_X10_check_2 : ∀ w ∈ wsX10_check_r2, w ∈ wsX10_check := fun w h => (List.mem_cons_of_mem _ (List.mem_append_left _ (List.mem_append_left _ (List.mem_append_left _ (List.mem_append_left _ (List.mem_append_left _ (List.mem_append_left _ (List.mem_append_left _ (List.mem_append_left _ (List.mem_append_right _ (List.mem_append_left _ h)))))))))))
theorem il_X10_check_3 : ∀ w ∈ wsX10_check_r3, w ∈ wsX10_check := fun w h => (List.mem_cons_of_mem _ (List.mem_append_left _ (List.mem_append_left _ (List.mem_append_left _ (List.mem_append_left _ (List.mem_append_left _ (List.mem_append_left _ (List.mem_append_left _ (List.mem_append_left _ (List.mem_append_right _ (List.mem_append_right _ (List.mem_append_left _ h))))))))))))
theorem il_X10_check_4 : ∀ w ∈ wsX10_check_r4, w ∈ wsX10_check := fun w h => (List.mem_cons_of_mem _ (List.mem_append_left _ (List.mem_append_left _ (List.mem_append_left _ (List.mem_append_left _ (List.mem_append_left _ (List.mem_append_left _ (List.mem_append_left _ (List.mem_append_left _ (List.mem_append_right _ (List.mem_append_right _ (List.mem_append_right _ (List.mem_append_left _ h)))))))))))))
theorem il_X10_check_5 : ∀ w ∈ wsX10_check_r5, w ∈ wsX10_check := fun w h => (List.mem_cons_of_mem _ (List.mem_append_left _ (List.mem_append_left _ (List.mem_append_left _ (List.mem_append_left _ (List.mem_append_left _ (List.mem_append_left _ (List.mem_append_left _ (List.mem_append_left _ (List.mem_append_right _ (List.mem_append_right _ (List.mem_append_right _ (List.mem_append_right _ (List.mem_append_left _ h))))))))))))))
theorem il_X10_check_6 : ∀ w ∈ wsX10_check_r6, w ∈ wsX10_check := fun w h => (List.mem_cons_of_mem _ (List.mem_append_left _ (List.mem_append_left _ (List.mem_append_left _ (List.mem_append_left _ (List.mem_append_left _ (List.mem_append_left _ (List.mem_append_left _ (List.mem_append_left _ (List.mem_append_right _ (List.mem_append_right _ (List.mem_append_right _ (List.mem_append_right _ (List.mem_append_right _ (List.mem_append_left _ h)))))))))))))))
theorem il_X10_check_7 : ∀ w ∈ wsX10_check_r7, w ∈ wsX10_check := fun w h => (List.mem_cons_of_mem _ (List.mem_append_left _ (List.mem_append_left _ (List.mem_append_left _ (List.mem_append_left _ (List.mem_append_left _ (List.mem_append_left _ (List.mem_append_left _ (List.mem_append_left _ (List.mem_append_right _ (List.mem_append_right _ (List.mem_append_right _ (List.mem_append_right _ (List.mem_append_right _ (List.mem_append_right _ (List.mem_append_left _ h))))))))))))))))
theorem il_X10_check_8 : ∀ w ∈ wsX10_check_r8, w ∈ wsX10_check := fun w h => (List.mem_cons_of_mem _ (List.mem_append_left _ (List.mem_append_left _ (List.mem_append_left _ (List.mem_append_left _ (List.mem_append_left _ (List.mem_append_left _ (List.mem_append_left _ (List.mem_append_left _ (List.mem_append_right _ (List.mem_append_right _ (List.mem_append_right _ (List.mem_append_right _ (List.mem_append_right _ (List.mem_append_right _ (List.mem_append_right _ (List.mem_append_left _ h)))))))))))))))))
theorem il_X10_check_9 : ∀ w ∈ wsX10_check_r9, w ∈ wsX10_check := fun w h => (List.mem_cons_of_mem _ (List.mem_append_left _ (List.mem_append_left _ (List.mem_append_left _ (List.mem_append_left _ (List.mem_append_left _ (List.mem_append_left _ (List.mem_append_left _ (List.mem_append_left _ (List.mem_append_right _ (List.mem_append_right _ (List.mem_append_right _ (List.mem_append_right _ (List.mem_append_right _ (List.mem_append_right _ (List.mem_append_right _ (List.mem_append_right _ h)))))))))))))))))
theorem il_X10_check_10 : ∀ w ∈ wsX100, w ∈ wsX10_check := fun w h => (List.mem_cons_of_mem _ (List.mem_append_left _ (List.mem_append_left _ (List.mem_append_left _ (List.mem_append_left _ (List.mem_append_left _ (List.mem_append_left _ (List.mem_append_left _ (List.mem_append_right _ h)))))))))
theorem il_X10_check_11 : ∀ w ∈ wsX10, w ∈ wsX10_check := fun w h => (List.mem_cons_of_mem _ (List.mem_append_left _ (List.mem_append_left _ (List.mem_append_left _ (List.mem_append_left _ (List.mem_append_left _ (List.mem_append_left _ (List.mem_append_right _ h))))))))
theorem il_X10_check_12 : ∀ w ∈ wsX20, w ∈ wsX10_check := fun w h => (List.mem_cons_of_mem _ (List.mem_append_left _ (List.mem_append_left _ (List.mem_append_left _ (List.mem_append_left _ (List.mem_append_left _ (List.mem_append_right _ h)))))))
theorem il_X10_check_13 : ∀ w ∈ wsX30, w ∈ wsX10_check := fun w h => (List.mem_cons_of_mem _ (List.mem_append_left _ (List.mem_append_left _ (List.mem_append_left _ (List.mem_append_left _ (List.mem_append_right _ h))))))
theorem il_X10_check_14 : ∀ w ∈ wsX00, w ∈ wsX10_check := fun w h => (List.mem_cons_of_mem _ (List.mem_append_left _ (List.mem_append_left _ (List.mem_append_left _ (List.mem_append_right _ h)))))
theorem il_X10_check_15 : ∀ w ∈ wsX90, w ∈ wsX10_check := fun w h => (List.mem_cons_of_mem _ (List.mem_append_left _ (List.mem_append_left _ (List.mem_append_right _ h))))
theorem il_X10_check_16 : ∀ w ∈ wsX50, w ∈ wsX10_check := fun w h => (List.mem_cons_of_mem _ (List.mem_append_left _ (List.mem_append_right _ h)))
theorem il_X10_check_17 : ∀ w ∈ wsX60, w ∈ wsX10_check := fun w h => (List.mem_cons_of_mem _ (List.mem_append_right _ h))
theorem iw_X10_check_1 : Cond.fieldLink RX10 353 "ShipOffice" "rowCount" "I" ∈ wsX10_check := (mmI il_X10_check_1 0 rfl)
theorem iw_X10_check_2 : Cond.fieldLink RX10 115 "ShipOffice" "agreementCount" "I" ∈ wsX10_check := (mmI il_X10_check_1 1 rfl)
theorem iw_X10_check_3 : Cond.fieldLink RX10 23 "ShipOffice" "agreements" "[LShipOffice$Agreement;" ∈ wsX10_check := (mmI il_X10_check_1 2 rfl)
theorem iw_X10_check_4 : Cond.fieldLink RX10 118 "ShipOffice$Agreement" "voyage" "LShipOffice$Voyage;" ∈ wsX10_check := (mmI il_X10_check_1 3 rfl)
theorem iw_X10_check_5 : Cond.fieldLink RX10 63 "ShipOffice" "row" "[I" ∈ wsX10_check := (mmI il_X10_check_1 4 rfl)
theorem gw_X10_openVoyages : wsX10_openVoyages.all goodWord = true := by decide +kernel
theorem gw_X10_openAgreements : wsX10_openAgreements.all goodWord = true := by decide +kernel
theorem gw_X10_menWhoAsk : wsX10_menWhoAsk.all goodWord = true := by decide +kernel
def wsX10_count_r1 : List Cond := [Cond.fieldLink RX10 73 "ShipOffice" "now" "I", Cond.fieldLink RX10 86 "ShipOffice" "manCount" "I", Cond.fieldLink RX10 99 "ShipOffice" "voyageCount" "I", Cond.fieldLink RX10 115 "ShipOffice" "agreementCount" "I", Cond.fieldLink RX10 139 "ShipOffice" "happeningCount" "I", Cond.fieldLink RX10 30 "ShipOffice" "law" "LShipOffice$Law;", Cond.fieldLink RX10 178 "ShipOffice$Law" "actCount" "I", Cond.fieldLink RX10 37 "ShipOffice" "tape" "LShipOffice$Tape;", Cond.fieldLink RX10 169 "ShipOffice$Tape" "size" "I", Cond.fieldLink RX10 353 "ShipOffice" "rowCount" "I", Cond.fieldLink RX10 66 "ShipOffice" "refusals" "[I", Cond.methodLink RX10 356 yX10_openVoyages, Cond.instanceMethod yX10_openVoyages, Cond.selects RX10 yX10_openVoyages yX10_openVoyages, Cond.initialized RX10, Cond.code yX10_openVoyages cX10_openVoyages 3 (some .int), Cond.fieldLink RX10 17 "ShipOffice" "voyages" "[LShipOffice$Voyage;", Cond.fieldLink RX10 107 "ShipOffice$Voyage" "isOver" "Z", Cond.methodLink RX10 359 yX10_openAgreements, Cond.instanceMethod yX10_openAgreements, Cond.selects RX10 yX10_openAgreements yX10_openAgreements, Cond.code yX10_openAgreements cX10_openAgreements 3 (some .int), Cond.fieldLink RX10 23 "ShipOffice" "agreements" "[LShipOffice$Agreement;", Cond.methodLink RX10 122 yX1_goesOn]
def wsX10_count_r2 : List Cond := [Cond.instanceMethod yX1_goesOn, Cond.selects RX1 yX1_goesOn yX1_goesOn, Cond.initialized RX1, Cond.code yX1_goesOn cX1_goesOn 1 (some .boolean), Cond.fieldLink RX1 10 "ShipOffice$Agreement" "offDay" "I", Cond.constant RX1 9 (1000000), Cond.fieldLink RX1 44 "ShipOffice$Agreement" "isDead" "Z", Cond.fieldLink RX1 33 "ShipOffice$Agreement" "voyage" "LShipOffice$Voyage;", Cond.fieldLink RX1 48 "ShipOffice$Voyage" "lostTold" "I", Cond.methodLink RX10 362 yX10_menWhoAsk, Cond.instanceMethod yX10_menWhoAsk, Cond.selects RX10 yX10_menWhoAsk yX10_menWhoAsk, Cond.code yX10_menWhoAsk cX10_menWhoAsk 3 (some .int), Cond.fieldLink RX10 11 "ShipOffice" "men" "[LShipOffice$Man;", Cond.methodLink RX10 341 yX6_asks, Cond.instanceMethod yX6_asks, Cond.selects RX6 yX6_asks yX6_asks, Cond.initialized RX6, Cond.code yX6_asks cX6_asks 5 (some .boolean), Cond.fieldLink RX6 9 "ShipOffice$Man" "wages" "[I"]
def wsX10_count : List Cond := .code yX10_count cX10_count 2 (some .int) :: ((wsX10_count_r1 ++ wsX10_count_r2) ++ wsX100 ++ wsX50 ++ wsX80 ++ wsX90 ++ wsX10 ++ wsX60)
theorem il_X10_count_1 : ∀ w ∈ wsX10_count_r1, w ∈ wsX10_count := fun w h => (List.mem_cons_of_mem _ (List.mem_append_left _ (List.mem_append_left _ (List.mem_append_left _ (List.mem_append_left _ (List.mem_append_left _ (List.mem_append_left _ (List.mem_append_left _ h))))))))
theorem il_X10_count_2 : ∀ w ∈ wsX10_count_r2, w ∈ wsX10_count := fun w h => (List.mem_cons_of_mem _ (List.mem_append_left _ (List.mem_append_left _ (List.mem_append_left _ (List.mem_append_left _ (List.mem_append_left _ (List.mem_append_left _ (List.mem_append_right _ h))))))))
theorem il_X10_count_3 : ∀ w ∈ wsX100, w ∈ wsX10_count := fun w h => (List.mem_cons_of_mem _ (List.mem_append_left _ (List.mem_append_left _ (List.mem_append_left _ (List.mem_append_left _ (List.mem_append_left _ (List.mem_append_right _ h)))))))
theorem il_X10_count_6 : ∀ w ∈ wsX90, w ∈ wsX10_count := fun w h => (List.mem_cons_of_mem _ (List.mem_append_left _ (List.mem_append_left _ (List.mem_append_right _ h))))
theorem il_X10_count_7 : ∀ w ∈ wsX10, w ∈ wsX10_count := fun w h => (List.mem_cons_of_mem _ (List.mem_append_left _ (List.mem_append_right _ h)))
theorem il_X10_count_8 : ∀ w ∈ wsX60, w ∈ wsX10_count := fun w h => (List.mem_cons_of_mem _ (List.mem_append_right _ h))
theorem iw_X10_count_1 : Cond.fieldLink RX10 73 "ShipOffice" "now" "I" ∈ wsX10_count := (mmI il_X10_count_1 0 rfl)
theorem iw_X10_count_2 : Cond.fieldLink RX10 86 "ShipOffice" "manCount" "I" ∈ wsX10_count := (mmI il_X10_count_1 1 rfl)
theorem iw_X10_count_3 : Cond.fieldLink RX10 99 "ShipOffice" "voyageCount" "I" ∈ wsX10_count := (mmI il_X10_count_1 2 rfl)
theorem iw_X10_count_4 : Cond.fieldLink RX10 115 "ShipOffice" "agreementCount" "I" ∈ wsX10_count := (mmI il_X10_count_1 3 rfl)
theorem iw_X10_count_5 : Cond.fieldLink RX10 139 "ShipOffice" "happeningCount" "I" ∈ wsX10_count := (mmI il_X10_count_1 4 rfl)
theorem iw_X10_count_6 : Cond.fieldLink RX10 30 "ShipOffice" "law" "LShipOffice$Law;" ∈ wsX10_count := (mmI il_X10_count_1 5 rfl)
theorem iw_X10_count_7 : Cond.fieldLink RX10 178 "ShipOffice$Law" "actCount" "I" ∈ wsX10_count := (mmI il_X10_count_1 6 rfl)
theorem iw_X10_count_8 : Cond.fieldLink RX10 37 "ShipOffice" "tape" "LShipOffice$Tape;" ∈ wsX10_count := (mmI il_X10_count_1 7 rfl)
theorem iw_X10_count_9 : Cond.fieldLink RX10 169 "ShipOffice$Tape" "size" "I" ∈ wsX10_count := (mmI il_X10_count_1 8 rfl)
theorem iw_X10_count_10 : Cond.fieldLink RX10 353 "ShipOffice" "rowCount" "I" ∈ wsX10_count := (mmI il_X10_count_1 9 rfl)
theorem iw_X10_count_11 : Cond.fieldLink RX10 66 "ShipOffice" "refusals" "[I" ∈ wsX10_count := (mmI il_X10_count_1 10 rfl)
set_option maxRecDepth 100000 in
theorem ggX10_miles_X10_isPort : GoodIn wsX10_miles wsX10_isPort := goodIn_sub (mmC (mmI il_X10_miles_1 4 rfl) mmN) gw_X10_isPort
set_option maxRecDepth 20000 in
theorem gX10_miles_X10_isPort : GoodIn wsX10_miles (va_wsS RX10 77 yX10_isPort wsX10_isPort) := goodIn_app (goodIn_of _ (by decide +kernel)) ggX10_miles_X10_isPort
set_option maxRecDepth 100000 in
theorem ggX10_miles_X10_refuse : GoodIn wsX10_miles wsX10_refuse := goodIn_sub (mmC (mmI il_X10_miles_1 8 rfl) (mmA (mmC (mmI il_X10_miles_1 9 rfl) mmN) il_X10_miles_2)) gw_X10_refuse
theorem gX10_miles_X10_refuse : GoodIn wsX10_miles (wsV RX10 69 RX10 yX10_refuse wsX10_refuse) := goodIn_app (goodIn_sub (mmC (mmI il_X10_miles_1 5 rfl) (mmC (mmI il_X10_miles_1 6 rfl) (mmC (mmI il_X10_miles_1 7 rfl) (mmC (mmI il_X10_miles_1 3 rfl) mmN)))) (by decide +kernel)) ggX10_miles_X10_refuse
set_option maxRecDepth 100000 in
theorem ggX10_miles_X7_join : GoodIn wsX10_miles wsX7_join := goodIn_sub (mmC (mmI il_X10_miles_1 14 rfl) (mmA (mmC (mmI il_X10_miles_1 15 rfl) mmN) il_X10_miles_3)) gw_X7_join
theorem gX10_miles_X7_join : GoodIn wsX10_miles (wsV RX10 81 RX7 yX7_join wsX7_join) := goodIn_app (goodIn_sub (mmC (mmI il_X10_miles_1 10 rfl) (mmC (mmI il_X10_miles_1 11 rfl) (mmC (mmI il_X10_miles_1 12 rfl) (mmC (mmI il_X10_miles_1 13 rfl) mmN)))) (by decide +kernel)) ggX10_miles_X7_join
theorem dX10_miles_0 : decode cX10_miles 0 = .ok (.iload_n 1, 1) := by decide +kernel
theorem dX10_miles_1 : decode cX10_miles 1 = .ok (.invokestatic 77, 3) := by decide +kernel
theorem dX10_miles_4 : decode cX10_miles 4 = .ok (.ifCond .eq 15, 3) := by decide +kernel
theorem dX10_miles_7 : decode cX10_miles 7 = .ok (.iload_n 2, 1) := by decide +kernel
theorem dX10_miles_8 : decode cX10_miles 8 = .ok (.invokestatic 77, 3) := by decide +kernel
theorem dX10_miles_11 : decode cX10_miles 11 = .ok (.ifCond .eq 8, 3) := by decide +kernel
theorem dX10_miles_14 : decode cX10_miles 14 = .ok (.iload_n 1, 1) := by decide +kernel
theorem dX10_miles_15 : decode cX10_miles 15 = .ok (.iload_n 2, 1) := by decide +kernel
theorem dX10_miles_16 : decode cX10_miles 16 = .ok (.if_icmp .ne 9, 3) := by decide +kernel
theorem dX10_miles_19 : decode cX10_miles 19 = .ok (.aload_n 0, 1) := by decide +kernel
theorem dX10_miles_20 : decode cX10_miles 20 = .ok (.iconst (-1), 1) := by decide +kernel
theorem dX10_miles_21 : decode cX10_miles 21 = .ok (.invokevirtual 69, 3) := by decide +kernel
theorem dX10_miles_24 : decode cX10_miles 24 = .ok (.ireturn, 1) := by decide +kernel
theorem dX10_miles_25 : decode cX10_miles 25 = .ok (.iload_n 3, 1) := by decide +kernel
theorem dX10_miles_26 : decode cX10_miles 26 = .ok (.ifCond .ge 10, 3) := by decide +kernel
theorem dX10_miles_29 : decode cX10_miles 29 = .ok (.aload_n 0, 1) := by decide +kernel
theorem dX10_miles_30 : decode cX10_miles 30 = .ok (.bipush (-4), 2) := by decide +kernel
theorem dX10_miles_32 : decode cX10_miles 32 = .ok (.invokevirtual 69, 3) := by decide +kernel
theorem dX10_miles_35 : decode cX10_miles 35 = .ok (.ireturn, 1) := by decide +kernel
theorem dX10_miles_36 : decode cX10_miles 36 = .ok (.iload_n 3, 1) := by decide +kernel
theorem dX10_miles_37 : decode cX10_miles 37 = .ok (.sipush 9999, 3) := by decide +kernel
theorem dX10_miles_40 : decode cX10_miles 40 = .ok (.if_icmp .le 10, 3) := by decide +kernel
theorem dX10_miles_43 : decode cX10_miles 43 = .ok (.aload_n 0, 1) := by decide +kernel
theorem dX10_miles_44 : decode cX10_miles 44 = .ok (.bipush (-6), 2) := by decide +kernel
theorem dX10_miles_46 : decode cX10_miles 46 = .ok (.invokevirtual 69, 3) := by decide +kernel
theorem dX10_miles_49 : decode cX10_miles 49 = .ok (.ireturn, 1) := by decide +kernel
theorem dX10_miles_50 : decode cX10_miles 50 = .ok (.aload_n 0, 1) := by decide +kernel
theorem dX10_miles_51 : decode cX10_miles 51 = .ok (.getfield 44, 3) := by decide +kernel
theorem dX10_miles_54 : decode cX10_miles 54 = .ok (.iload_n 1, 1) := by decide +kernel
theorem dX10_miles_55 : decode cX10_miles 55 = .ok (.iload_n 2, 1) := by decide +kernel
theorem dX10_miles_56 : decode cX10_miles 56 = .ok (.iload_n 3, 1) := by decide +kernel
theorem dX10_miles_57 : decode cX10_miles 57 = .ok (.invokevirtual 81, 3) := by decide +kernel
theorem dX10_miles_60 : decode cX10_miles 60 = .ok (.ireturn, 1) := by decide +kernel
set_option maxRecDepth 100000 in
theorem ggX10_ended_X10_voyageAt : GoodIn wsX10_ended wsX10_voyageAt := goodIn_sub (mmC (mmI il_X10_ended_1 12 rfl) (mmA (mmC (mmI il_X10_ended_1 13 rfl) (mmC (mmI il_X10_ended_1 14 rfl) mmN)) il_X10_ended_4)) gw_X10_voyageAt
theorem gX10_ended_X10_voyageAt : GoodIn wsX10_ended (wsV RX10 103 RX10 yX10_voyageAt wsX10_voyageAt) := goodIn_app (goodIn_sub (mmC (mmI il_X10_ended_1 8 rfl) (mmC (mmI il_X10_ended_1 9 rfl) (mmC (mmI il_X10_ended_1 10 rfl) (mmC (mmI il_X10_ended_1 11 rfl) mmN)))) (by decide +kernel)) ggX10_ended_X10_voyageAt
set_option maxRecDepth 100000 in
theorem ggX10_ended_X10_isPort : GoodIn wsX10_ended wsX10_isPort := goodIn_sub (mmC (mmI il_X10_ended_1 17 rfl) mmN) gw_X10_isPort
set_option maxRecDepth 20000 in
theorem gX10_ended_X10_isPort : GoodIn wsX10_ended (va_wsS RX10 77 yX10_isPort wsX10_isPort) := goodIn_app (goodIn_of _ (by decide +kernel)) ggX10_ended_X10_isPort
set_option maxRecDepth 100000 in
theorem ggX10_ended_X10_refuse : GoodIn wsX10_ended wsX10_refuse := goodIn_sub (mmC (mmI il_X10_ended_1 21 rfl) (mmA (mmC (mmI il_X10_ended_1 22 rfl) mmN) il_X10_ended_4)) gw_X10_refuse
theorem gX10_ended_X10_refuse : GoodIn wsX10_ended (wsV RX10 69 RX10 yX10_refuse wsX10_refuse) := goodIn_app (goodIn_sub (mmC (mmI il_X10_ended_1 18 rfl) (mmC (mmI il_X10_ended_1 19 rfl) (mmC (mmI il_X10_ended_1 20 rfl) (mmC (mmI il_X10_ended_1 11 rfl) mmN)))) (by decide +kernel)) ggX10_ended_X10_refuse
set_option maxRecDepth 100000 in
theorem ggX10_ended_X1_goesOn : GoodIn wsX10_ended wsX1_goesOn := goodIn_sub (mmC (mmI il_X10_ended_2 3 rfl) (mmA (mmA (mmC (mmI il_X10_ended_2 4 rfl) (mmC (mmI il_X10_ended_2 5 rfl) (mmC (mmI il_X10_ended_2 6 rfl) (mmC (mmI il_X10_ended_2 7 rfl) (mmC (mmI il_X10_ended_2 8 rfl) mmN))))) il_X10_ended_5) il_X10_ended_3)) gw_X1_goesOn
theorem gX10_ended_X1_goesOn : GoodIn wsX10_ended (wsV RX10 122 RX1 yX1_goesOn wsX1_goesOn) := goodIn_app (goodIn_sub (mmC (mmI il_X10_ended_1 23 rfl) (mmC (mmI il_X10_ended_2 0 rfl) (mmC (mmI il_X10_ended_2 1 rfl) (mmC (mmI il_X10_ended_2 2 rfl) mmN)))) (by decide +kernel)) ggX10_ended_X1_goesOn
theorem dX10_ended_0 : decode cX10_ended 0 = .ok (.aload_n 0, 1) := by decide +kernel
theorem dX10_ended_1 : decode cX10_ended 1 = .ok (.iload_n 1, 1) := by decide +kernel
theorem dX10_ended_2 : decode cX10_ended 2 = .ok (.invokevirtual 103, 3) := by decide +kernel
theorem dX10_ended_5 : decode cX10_ended 5 = .ok (.astore_n 3, 1) := by decide +kernel
theorem dX10_ended_6 : decode cX10_ended 6 = .ok (.aload_n 3, 1) := by decide +kernel
theorem dX10_ended_7 : decode cX10_ended 7 = .ok (.ifnull 10, 3) := by decide +kernel
theorem dX10_ended_10 : decode cX10_ended 10 = .ok (.iload_n 2, 1) := by decide +kernel
theorem dX10_ended_11 : decode cX10_ended 11 = .ok (.invokestatic 77, 3) := by decide +kernel
theorem dX10_ended_14 : decode cX10_ended 14 = .ok (.ifCond .ne 9, 3) := by decide +kernel
theorem dX10_ended_17 : decode cX10_ended 17 = .ok (.aload_n 0, 1) := by decide +kernel
theorem dX10_ended_18 : decode cX10_ended 18 = .ok (.iconst (-1), 1) := by decide +kernel
theorem dX10_ended_19 : decode cX10_ended 19 = .ok (.invokevirtual 69, 3) := by decide +kernel
theorem dX10_ended_22 : decode cX10_ended 22 = .ok (.ireturn, 1) := by decide +kernel
theorem dX10_ended_23 : decode cX10_ended 23 = .ok (.aload_n 3, 1) := by decide +kernel
theorem dX10_ended_24 : decode cX10_ended 24 = .ok (.getfield 107, 3) := by decide +kernel
theorem dX10_ended_27 : decode cX10_ended 27 = .ok (.ifCond .ne 12, 3) := by decide +kernel
theorem dX10_ended_30 : decode cX10_ended 30 = .ok (.aload_n 3, 1) := by decide +kernel
theorem dX10_ended_31 : decode cX10_ended 31 = .ok (.getfield 111, 3) := by decide +kernel
theorem dX10_ended_34 : decode cX10_ended 34 = .ok (.ldc 114, 2) := by decide +kernel
theorem dX10_ended_36 : decode cX10_ended 36 = .ok (.if_icmp .eq 10, 3) := by decide +kernel
theorem dX10_ended_39 : decode cX10_ended 39 = .ok (.aload_n 0, 1) := by decide +kernel
theorem dX10_ended_40 : decode cX10_ended 40 = .ok (.bipush (-3), 2) := by decide +kernel
theorem dX10_ended_42 : decode cX10_ended 42 = .ok (.invokevirtual 69, 3) := by decide +kernel
theorem dX10_ended_45 : decode cX10_ended 45 = .ok (.ireturn, 1) := by decide +kernel
theorem dX10_ended_46 : decode cX10_ended 46 = .ok (.aload_n 3, 1) := by decide +kernel
theorem dX10_ended_47 : decode cX10_ended 47 = .ok (.iconst 1, 1) := by decide +kernel
theorem dX10_ended_48 : decode cX10_ended 48 = .ok (.putfield 107, 3) := by decide +kernel
theorem dX10_ended_51 : decode cX10_ended 51 = .ok (.iconst 0, 1) := by decide +kernel
theorem dX10_ended_52 : decode cX10_ended 52 = .ok (.istore 4, 2) := by decide +kernel
theorem dX10_ended_54 : decode cX10_ended 54 = .ok (.iconst 0, 1) := by decide +kernel
theorem dX10_ended_55 : decode cX10_ended 55 = .ok (.istore 5, 2) := by decide +kernel
theorem dX10_ended_57 : decode cX10_ended 57 = .ok (.iload 5, 2) := by decide +kernel
theorem dX10_ended_59 : decode cX10_ended 59 = .ok (.aload_n 0, 1) := by decide +kernel
theorem dX10_ended_60 : decode cX10_ended 60 = .ok (.getfield 115, 3) := by decide +kernel
theorem dX10_ended_63 : decode cX10_ended 63 = .ok (.if_icmp .ge 47, 3) := by decide +kernel
theorem dX10_ended_66 : decode cX10_ended 66 = .ok (.aload_n 0, 1) := by decide +kernel
theorem dX10_ended_67 : decode cX10_ended 67 = .ok (.getfield 23, 3) := by decide +kernel
theorem dX10_ended_70 : decode cX10_ended 70 = .ok (.iload 5, 2) := by decide +kernel
theorem dX10_ended_72 : decode cX10_ended 72 = .ok (.aaload, 1) := by decide +kernel
theorem dX10_ended_73 : decode cX10_ended 73 = .ok (.astore 6, 2) := by decide +kernel
theorem dX10_ended_75 : decode cX10_ended 75 = .ok (.aload 6, 2) := by decide +kernel
theorem dX10_ended_77 : decode cX10_ended 77 = .ok (.getfield 118, 3) := by decide +kernel
theorem dX10_ended_80 : decode cX10_ended 80 = .ok (.aload_n 3, 1) := by decide +kernel
theorem dX10_ended_81 : decode cX10_ended 81 = .ok (.if_acmp .ne 23, 3) := by decide +kernel
theorem dX10_ended_84 : decode cX10_ended 84 = .ok (.aload 6, 2) := by decide +kernel
theorem dX10_ended_86 : decode cX10_ended 86 = .ok (.invokevirtual 122, 3) := by decide +kernel
theorem dX10_ended_89 : decode cX10_ended 89 = .ok (.ifCond .eq 15, 3) := by decide +kernel
theorem dX10_ended_92 : decode cX10_ended 92 = .ok (.aload 6, 2) := by decide +kernel
theorem dX10_ended_94 : decode cX10_ended 94 = .ok (.aload_n 0, 1) := by decide +kernel
theorem dX10_ended_95 : decode cX10_ended 95 = .ok (.getfield 73, 3) := by decide +kernel
theorem dX10_ended_98 : decode cX10_ended 98 = .ok (.putfield 126, 3) := by decide +kernel
theorem dX10_ended_101 : decode cX10_ended 101 = .ok (.iinc 4 1, 3) := by decide +kernel
theorem dX10_ended_104 : decode cX10_ended 104 = .ok (.iinc 5 1, 3) := by decide +kernel
theorem dX10_ended_107 : decode cX10_ended 107 = .ok (.goto (-50), 3) := by decide +kernel
theorem dX10_ended_110 : decode cX10_ended 110 = .ok (.iload 4, 2) := by decide +kernel
theorem dX10_ended_112 : decode cX10_ended 112 = .ok (.ireturn, 1) := by decide +kernel
set_option maxRecDepth 100000 in
theorem ggX10_sailed_X10_voyageAt : GoodIn wsX10_sailed wsX10_voyageAt := goodIn_sub (mmC (mmI il_X10_sailed_1 9 rfl) (mmA (mmC (mmI il_X10_sailed_1 10 rfl) (mmC (mmI il_X10_sailed_1 11 rfl) mmN)) il_X10_sailed_3)) gw_X10_voyageAt
theorem gX10_sailed_X10_voyageAt : GoodIn wsX10_sailed (wsV RX10 103 RX10 yX10_voyageAt wsX10_voyageAt) := goodIn_app (goodIn_sub (mmC (mmI il_X10_sailed_1 5 rfl) (mmC (mmI il_X10_sailed_1 6 rfl) (mmC (mmI il_X10_sailed_1 7 rfl) (mmC (mmI il_X10_sailed_1 8 rfl) mmN)))) (by decide +kernel)) ggX10_sailed_X10_voyageAt
set_option maxRecDepth 100000 in
theorem ggX10_sailed_X10_refuse : GoodIn wsX10_sailed wsX10_refuse := goodIn_sub (mmC (mmI il_X10_sailed_1 15 rfl) (mmA (mmC (mmI il_X10_sailed_1 16 rfl) mmN) il_X10_sailed_3)) gw_X10_refuse
theorem gX10_sailed_X10_refuse : GoodIn wsX10_sailed (wsV RX10 69 RX10 yX10_refuse wsX10_refuse) := goodIn_app (goodIn_sub (mmC (mmI il_X10_sailed_1 12 rfl) (mmC (mmI il_X10_sailed_1 13 rfl) (mmC (mmI il_X10_sailed_1 14 rfl) (mmC (mmI il_X10_sailed_1 8 rfl) mmN)))) (by decide +kernel)) ggX10_sailed_X10_refuse
set_option maxRecDepth 100000 in
theorem ggX10_sailed_X10_voyageRefusal : GoodIn wsX10_sailed wsX10_voyageRefusal := goodIn_sub (mmC (mmI il_X10_sailed_1 20 rfl) (mmA (mmA (mmC (mmI il_X10_sailed_1 21 rfl) (mmC (mmI il_X10_sailed_1 22 rfl) (mmC (mmI il_X10_sailed_1 3 rfl) (mmC (mmI il_X10_sailed_1 4 rfl) mmN)))) il_X10_sailed_2) il_X10_sailed_3)) gw_X10_voyageRefusal
theorem gX10_sailed_X10_voyageRefusal : GoodIn wsX10_sailed (wsV RX10 132 RX10 yX10_voyageRefusal wsX10_voyageRefusal) := goodIn_app (goodIn_sub (mmC (mmI il_X10_sailed_1 17 rfl) (mmC (mmI il_X10_sailed_1 18 rfl) (mmC (mmI il_X10_sailed_1 19 rfl) (mmC (mmI il_X10_sailed_1 8 rfl) mmN)))) (by decide +kernel)) ggX10_sailed_X10_voyageRefusal
theorem dX10_sailed_0 : decode cX10_sailed 0 = .ok (.aload_n 0, 1) := by decide +kernel
theorem dX10_sailed_1 : decode cX10_sailed 1 = .ok (.iload_n 1, 1) := by decide +kernel
theorem dX10_sailed_2 : decode cX10_sailed 2 = .ok (.invokevirtual 103, 3) := by decide +kernel
theorem dX10_sailed_5 : decode cX10_sailed 5 = .ok (.astore_n 3, 1) := by decide +kernel
theorem dX10_sailed_6 : decode cX10_sailed 6 = .ok (.aload_n 3, 1) := by decide +kernel
theorem dX10_sailed_7 : decode cX10_sailed 7 = .ok (.ifnonnull 9, 3) := by decide +kernel
theorem dX10_sailed_10 : decode cX10_sailed 10 = .ok (.aload_n 0, 1) := by decide +kernel
theorem dX10_sailed_11 : decode cX10_sailed 11 = .ok (.iconst (-1), 1) := by decide +kernel
theorem dX10_sailed_12 : decode cX10_sailed 12 = .ok (.invokevirtual 69, 3) := by decide +kernel
theorem dX10_sailed_15 : decode cX10_sailed 15 = .ok (.ireturn, 1) := by decide +kernel
theorem dX10_sailed_16 : decode cX10_sailed 16 = .ok (.aload_n 0, 1) := by decide +kernel
theorem dX10_sailed_17 : decode cX10_sailed 17 = .ok (.aload_n 3, 1) := by decide +kernel
theorem dX10_sailed_18 : decode cX10_sailed 18 = .ok (.iload_n 2, 1) := by decide +kernel
theorem dX10_sailed_19 : decode cX10_sailed 19 = .ok (.aload_n 3, 1) := by decide +kernel
theorem dX10_sailed_20 : decode cX10_sailed 20 = .ok (.getfield 129, 3) := by decide +kernel
theorem dX10_sailed_23 : decode cX10_sailed 23 = .ok (.ldc 114, 2) := by decide +kernel
theorem dX10_sailed_25 : decode cX10_sailed 25 = .ok (.if_icmp .eq 7, 3) := by decide +kernel
theorem dX10_sailed_28 : decode cX10_sailed 28 = .ok (.iconst 1, 1) := by decide +kernel
theorem dX10_sailed_29 : decode cX10_sailed 29 = .ok (.goto 4, 3) := by decide +kernel
theorem dX10_sailed_32 : decode cX10_sailed 32 = .ok (.iconst 0, 1) := by decide +kernel
theorem dX10_sailed_33 : decode cX10_sailed 33 = .ok (.invokevirtual 132, 3) := by decide +kernel
theorem dX10_sailed_36 : decode cX10_sailed 36 = .ok (.istore 4, 2) := by decide +kernel
theorem dX10_sailed_38 : decode cX10_sailed 38 = .ok (.iload 4, 2) := by decide +kernel
theorem dX10_sailed_40 : decode cX10_sailed 40 = .ok (.ifCond .eq 10, 3) := by decide +kernel
theorem dX10_sailed_43 : decode cX10_sailed 43 = .ok (.aload_n 0, 1) := by decide +kernel
theorem dX10_sailed_44 : decode cX10_sailed 44 = .ok (.iload 4, 2) := by decide +kernel
theorem dX10_sailed_46 : decode cX10_sailed 46 = .ok (.invokevirtual 69, 3) := by decide +kernel
theorem dX10_sailed_49 : decode cX10_sailed 49 = .ok (.ireturn, 1) := by decide +kernel
theorem dX10_sailed_50 : decode cX10_sailed 50 = .ok (.aload_n 3, 1) := by decide +kernel
theorem dX10_sailed_51 : decode cX10_sailed 51 = .ok (.iload_n 2, 1) := by decide +kernel
theorem dX10_sailed_52 : decode cX10_sailed 52 = .ok (.putfield 136, 3) := by decide +kernel
theorem dX10_sailed_55 : decode cX10_sailed 55 = .ok (.aload_n 3, 1) := by decide +kernel
theorem dX10_sailed_56 : decode cX10_sailed 56 = .ok (.aload_n 0, 1) := by decide +kernel
theorem dX10_sailed_57 : decode cX10_sailed 57 = .ok (.getfield 73, 3) := by decide +kernel
theorem dX10_sailed_60 : decode cX10_sailed 60 = .ok (.putfield 129, 3) := by decide +kernel
theorem dX10_sailed_63 : decode cX10_sailed 63 = .ok (.aload_n 0, 1) := by decide +kernel
theorem dX10_sailed_64 : decode cX10_sailed 64 = .ok (.dup, 1) := by decide +kernel
theorem dX10_sailed_65 : decode cX10_sailed 65 = .ok (.getfield 139, 3) := by decide +kernel
theorem dX10_sailed_68 : decode cX10_sailed 68 = .ok (.iconst 1, 1) := by decide +kernel
theorem dX10_sailed_69 : decode cX10_sailed 69 = .ok (.iadd, 1) := by decide +kernel
theorem dX10_sailed_70 : decode cX10_sailed 70 = .ok (.putfield 139, 3) := by decide +kernel
theorem dX10_sailed_73 : decode cX10_sailed 73 = .ok (.aload_n 0, 1) := by decide +kernel
theorem dX10_sailed_74 : decode cX10_sailed 74 = .ok (.getfield 139, 3) := by decide +kernel
theorem dX10_sailed_77 : decode cX10_sailed 77 = .ok (.ireturn, 1) := by decide +kernel
set_option maxRecDepth 100000 in
theorem ggX10_lost_X10_voyageAt : GoodIn wsX10_lost wsX10_voyageAt := goodIn_sub (mmC (mmI il_X10_lost_1 9 rfl) (mmA (mmC (mmI il_X10_lost_1 10 rfl) (mmC (mmI il_X10_lost_1 11 rfl) mmN)) il_X10_lost_3)) gw_X10_voyageAt
theorem gX10_lost_X10_voyageAt : GoodIn wsX10_lost (wsV RX10 103 RX10 yX10_voyageAt wsX10_voyageAt) := goodIn_app (goodIn_sub (mmC (mmI il_X10_lost_1 5 rfl) (mmC (mmI il_X10_lost_1 6 rfl) (mmC (mmI il_X10_lost_1 7 rfl) (mmC (mmI il_X10_lost_1 8 rfl) mmN)))) (by decide +kernel)) ggX10_lost_X10_voyageAt
set_option maxRecDepth 100000 in
theorem ggX10_lost_X10_refuse : GoodIn wsX10_lost wsX10_refuse := goodIn_sub (mmC (mmI il_X10_lost_1 15 rfl) (mmA (mmC (mmI il_X10_lost_1 16 rfl) mmN) il_X10_lost_3)) gw_X10_refuse
theorem gX10_lost_X10_refuse : GoodIn wsX10_lost (wsV RX10 69 RX10 yX10_refuse wsX10_refuse) := goodIn_app (goodIn_sub (mmC (mmI il_X10_lost_1 12 rfl) (mmC (mmI il_X10_lost_1 13 rfl) (mmC (mmI il_X10_lost_1 14 rfl) (mmC (mmI il_X10_lost_1 8 rfl) mmN)))) (by decide +kernel)) ggX10_lost_X10_refuse
set_option maxRecDepth 100000 in
theorem ggX10_lost_X10_voyageRefusal : GoodIn wsX10_lost wsX10_voyageRefusal := goodIn_sub (mmC (mmI il_X10_lost_1 20 rfl) (mmA (mmA (mmC (mmI il_X10_lost_1 21 rfl) (mmC (mmI il_X10_lost_1 22 rfl) (mmC (mmI il_X10_lost_1 3 rfl) (mmC (mmI il_X10_lost_1 4 rfl) mmN)))) il_X10_lost_2) il_X10_lost_3)) gw_X10_voyageRefusal
theorem gX10_lost_X10_voyageRefusal : GoodIn wsX10_lost (wsV RX10 132 RX10 yX10_voyageRefusal wsX10_voyageRefusal) := goodIn_app (goodIn_sub (mmC (mmI il_X10_lost_1 17 rfl) (mmC (mmI il_X10_lost_1 18 rfl) (mmC (mmI il_X10_lost_1 19 rfl) (mmC (mmI il_X10_lost_1 8 rfl) mmN)))) (by decide +kernel)) ggX10_lost_X10_voyageRefusal
theorem dX10_lost_0 : decode cX10_lost 0 = .ok (.aload_n 0, 1) := by decide +kernel
theorem dX10_lost_1 : decode cX10_lost 1 = .ok (.iload_n 1, 1) := by decide +kernel
theorem dX10_lost_2 : decode cX10_lost 2 = .ok (.invokevirtual 103, 3) := by decide +kernel
theorem dX10_lost_5 : decode cX10_lost 5 = .ok (.astore_n 3, 1) := by decide +kernel
theorem dX10_lost_6 : decode cX10_lost 6 = .ok (.aload_n 3, 1) := by decide +kernel
theorem dX10_lost_7 : decode cX10_lost 7 = .ok (.ifnonnull 9, 3) := by decide +kernel
theorem dX10_lost_10 : decode cX10_lost 10 = .ok (.aload_n 0, 1) := by decide +kernel
theorem dX10_lost_11 : decode cX10_lost 11 = .ok (.iconst (-1), 1) := by decide +kernel
theorem dX10_lost_12 : decode cX10_lost 12 = .ok (.invokevirtual 69, 3) := by decide +kernel
theorem dX10_lost_15 : decode cX10_lost 15 = .ok (.ireturn, 1) := by decide +kernel
theorem dX10_lost_16 : decode cX10_lost 16 = .ok (.aload_n 0, 1) := by decide +kernel
theorem dX10_lost_17 : decode cX10_lost 17 = .ok (.aload_n 3, 1) := by decide +kernel
theorem dX10_lost_18 : decode cX10_lost 18 = .ok (.iload_n 2, 1) := by decide +kernel
theorem dX10_lost_19 : decode cX10_lost 19 = .ok (.aload_n 3, 1) := by decide +kernel
theorem dX10_lost_20 : decode cX10_lost 20 = .ok (.getfield 111, 3) := by decide +kernel
theorem dX10_lost_23 : decode cX10_lost 23 = .ok (.ldc 114, 2) := by decide +kernel
theorem dX10_lost_25 : decode cX10_lost 25 = .ok (.if_icmp .eq 7, 3) := by decide +kernel
theorem dX10_lost_28 : decode cX10_lost 28 = .ok (.iconst 1, 1) := by decide +kernel
theorem dX10_lost_29 : decode cX10_lost 29 = .ok (.goto 4, 3) := by decide +kernel
theorem dX10_lost_32 : decode cX10_lost 32 = .ok (.iconst 0, 1) := by decide +kernel
theorem dX10_lost_33 : decode cX10_lost 33 = .ok (.invokevirtual 132, 3) := by decide +kernel
theorem dX10_lost_36 : decode cX10_lost 36 = .ok (.istore 4, 2) := by decide +kernel
theorem dX10_lost_38 : decode cX10_lost 38 = .ok (.iload 4, 2) := by decide +kernel
theorem dX10_lost_40 : decode cX10_lost 40 = .ok (.ifCond .eq 10, 3) := by decide +kernel
theorem dX10_lost_43 : decode cX10_lost 43 = .ok (.aload_n 0, 1) := by decide +kernel
theorem dX10_lost_44 : decode cX10_lost 44 = .ok (.iload 4, 2) := by decide +kernel
theorem dX10_lost_46 : decode cX10_lost 46 = .ok (.invokevirtual 69, 3) := by decide +kernel
theorem dX10_lost_49 : decode cX10_lost 49 = .ok (.ireturn, 1) := by decide +kernel
theorem dX10_lost_50 : decode cX10_lost 50 = .ok (.aload_n 3, 1) := by decide +kernel
theorem dX10_lost_51 : decode cX10_lost 51 = .ok (.iload_n 2, 1) := by decide +kernel
theorem dX10_lost_52 : decode cX10_lost 52 = .ok (.putfield 151, 3) := by decide +kernel
theorem dX10_lost_55 : decode cX10_lost 55 = .ok (.aload_n 3, 1) := by decide +kernel
theorem dX10_lost_56 : decode cX10_lost 56 = .ok (.aload_n 0, 1) := by decide +kernel
theorem dX10_lost_57 : decode cX10_lost 57 = .ok (.getfield 73, 3) := by decide +kernel
theorem dX10_lost_60 : decode cX10_lost 60 = .ok (.putfield 111, 3) := by decide +kernel
theorem dX10_lost_63 : decode cX10_lost 63 = .ok (.aload_n 0, 1) := by decide +kernel
theorem dX10_lost_64 : decode cX10_lost 64 = .ok (.dup, 1) := by decide +kernel
theorem dX10_lost_65 : decode cX10_lost 65 = .ok (.getfield 139, 3) := by decide +kernel
theorem dX10_lost_68 : decode cX10_lost 68 = .ok (.iconst 1, 1) := by decide +kernel
theorem dX10_lost_69 : decode cX10_lost 69 = .ok (.iadd, 1) := by decide +kernel
theorem dX10_lost_70 : decode cX10_lost 70 = .ok (.putfield 139, 3) := by decide +kernel
theorem dX10_lost_73 : decode cX10_lost 73 = .ok (.aload_n 0, 1) := by decide +kernel
theorem dX10_lost_74 : decode cX10_lost 74 = .ok (.getfield 139, 3) := by decide +kernel
theorem dX10_lost_77 : decode cX10_lost 77 = .ok (.ireturn, 1) := by decide +kernel
set_option maxRecDepth 100000 in
theorem ggX10_feed_X10_refuse : GoodIn wsX10_feed wsX10_refuse := goodIn_sub (mmC (mmI il_X10_feed_1 7 rfl) (mmA (mmC (mmI il_X10_feed_1 8 rfl) mmN) il_X10_feed_2)) gw_X10_refuse
theorem gX10_feed_X10_refuse : GoodIn wsX10_feed (wsV RX10 69 RX10 yX10_refuse wsX10_refuse) := goodIn_app (goodIn_sub (mmC (mmI il_X10_feed_1 3 rfl) (mmC (mmI il_X10_feed_1 4 rfl) (mmC (mmI il_X10_feed_1 5 rfl) (mmC (mmI il_X10_feed_1 6 rfl) mmN)))) (by decide +kernel)) ggX10_feed_X10_refuse
set_option maxRecDepth 100000 in
theorem ggX10_feed_X8_add : GoodIn wsX10_feed wsX8_add := goodIn_sub (mmC (mmI il_X10_feed_1 13 rfl) (mmA (mmC (mmI il_X10_feed_1 14 rfl) (mmC (mmI il_X10_feed_1 15 rfl) mmN)) il_X10_feed_3)) gw_X8_add
theorem gX10_feed_X8_add : GoodIn wsX10_feed (wsV RX10 174 RX8 yX8_add wsX8_add) := goodIn_app (goodIn_sub (mmC (mmI il_X10_feed_1 9 rfl) (mmC (mmI il_X10_feed_1 10 rfl) (mmC (mmI il_X10_feed_1 11 rfl) (mmC (mmI il_X10_feed_1 12 rfl) mmN)))) (by decide +kernel)) ggX10_feed_X8_add
theorem dX10_feed_0 : decode cX10_feed 0 = .ok (.iload_n 1, 1) := by decide +kernel
theorem dX10_feed_1 : decode cX10_feed 1 = .ok (.iconst 1, 1) := by decide +kernel
theorem dX10_feed_2 : decode cX10_feed 2 = .ok (.if_icmp .ge 10, 3) := by decide +kernel
theorem dX10_feed_5 : decode cX10_feed 5 = .ok (.aload_n 0, 1) := by decide +kernel
theorem dX10_feed_6 : decode cX10_feed 6 = .ok (.bipush (-4), 2) := by decide +kernel
theorem dX10_feed_8 : decode cX10_feed 8 = .ok (.invokevirtual 69, 3) := by decide +kernel
theorem dX10_feed_11 : decode cX10_feed 11 = .ok (.ireturn, 1) := by decide +kernel
theorem dX10_feed_12 : decode cX10_feed 12 = .ok (.iload_n 1, 1) := by decide +kernel
theorem dX10_feed_13 : decode cX10_feed 13 = .ok (.bipush 8, 2) := by decide +kernel
theorem dX10_feed_15 : decode cX10_feed 15 = .ok (.if_icmp .gt 17, 3) := by decide +kernel
theorem dX10_feed_18 : decode cX10_feed 18 = .ok (.iload_n 1, 1) := by decide +kernel
theorem dX10_feed_19 : decode cX10_feed 19 = .ok (.bipush 60, 2) := by decide +kernel
theorem dX10_feed_21 : decode cX10_feed 21 = .ok (.aload_n 0, 1) := by decide +kernel
theorem dX10_feed_22 : decode cX10_feed 22 = .ok (.getfield 37, 3) := by decide +kernel
theorem dX10_feed_25 : decode cX10_feed 25 = .ok (.getfield 169, 3) := by decide +kernel
theorem dX10_feed_28 : decode cX10_feed 28 = .ok (.isub, 1) := by decide +kernel
theorem dX10_feed_29 : decode cX10_feed 29 = .ok (.if_icmp .le 10, 3) := by decide +kernel
theorem dX10_feed_32 : decode cX10_feed 32 = .ok (.aload_n 0, 1) := by decide +kernel
theorem dX10_feed_33 : decode cX10_feed 33 = .ok (.bipush (-6), 2) := by decide +kernel
theorem dX10_feed_35 : decode cX10_feed 35 = .ok (.invokevirtual 69, 3) := by decide +kernel
theorem dX10_feed_38 : decode cX10_feed 38 = .ok (.ireturn, 1) := by decide +kernel
theorem dX10_feed_39 : decode cX10_feed 39 = .ok (.iconst 0, 1) := by decide +kernel
theorem dX10_feed_40 : decode cX10_feed 40 = .ok (.istore 4, 2) := by decide +kernel
theorem dX10_feed_42 : decode cX10_feed 42 = .ok (.iload 4, 2) := by decide +kernel
theorem dX10_feed_44 : decode cX10_feed 44 = .ok (.iload_n 1, 1) := by decide +kernel
theorem dX10_feed_45 : decode cX10_feed 45 = .ok (.if_icmp .ge 28, 3) := by decide +kernel
theorem dX10_feed_48 : decode cX10_feed 48 = .ok (.aload_n 0, 1) := by decide +kernel
theorem dX10_feed_49 : decode cX10_feed 49 = .ok (.getfield 37, 3) := by decide +kernel
theorem dX10_feed_52 : decode cX10_feed 52 = .ok (.lload_n 2, 1) := by decide +kernel
theorem dX10_feed_53 : decode cX10_feed 53 = .ok (.bipush 8, 2) := by decide +kernel
theorem dX10_feed_55 : decode cX10_feed 55 = .ok (.iload 4, 2) := by decide +kernel
theorem dX10_feed_57 : decode cX10_feed 57 = .ok (.imul, 1) := by decide +kernel
theorem dX10_feed_58 : decode cX10_feed 58 = .ok (.lshr, 1) := by decide +kernel
theorem dX10_feed_59 : decode cX10_feed 59 = .ok (.ldc2_w 172, 3) := by decide +kernel
theorem dX10_feed_62 : decode cX10_feed 62 = .ok (.land, 1) := by decide +kernel
theorem dX10_feed_63 : decode cX10_feed 63 = .ok (.l2i, 1) := by decide +kernel
theorem dX10_feed_64 : decode cX10_feed 64 = .ok (.invokevirtual 174, 3) := by decide +kernel
theorem dX10_feed_67 : decode cX10_feed 67 = .ok (.iinc 4 1, 3) := by decide +kernel
theorem dX10_feed_70 : decode cX10_feed 70 = .ok (.goto (-28), 3) := by decide +kernel
theorem dX10_feed_73 : decode cX10_feed 73 = .ok (.aload_n 0, 1) := by decide +kernel
theorem dX10_feed_74 : decode cX10_feed 74 = .ok (.getfield 37, 3) := by decide +kernel
theorem dX10_feed_77 : decode cX10_feed 77 = .ok (.getfield 169, 3) := by decide +kernel
theorem dX10_feed_80 : decode cX10_feed 80 = .ok (.ireturn, 1) := by decide +kernel
set_option maxRecDepth 100000 in
theorem ggX10_off_X10_agreementAt : GoodIn wsX10_off wsX10_agreementAt := goodIn_sub (mmC (mmI il_X10_off_1 6 rfl) (mmA (mmC (mmI il_X10_off_1 7 rfl) (mmC (mmI il_X10_off_1 8 rfl) mmN)) il_X10_off_3)) gw_X10_agreementAt
theorem gX10_off_X10_agreementAt : GoodIn wsX10_off (wsV RX10 154 RX10 yX10_agreementAt wsX10_agreementAt) := goodIn_app (goodIn_sub (mmC (mmI il_X10_off_1 2 rfl) (mmC (mmI il_X10_off_1 3 rfl) (mmC (mmI il_X10_off_1 4 rfl) (mmC (mmI il_X10_off_1 5 rfl) mmN)))) (by decide +kernel)) ggX10_off_X10_agreementAt
set_option maxRecDepth 100000 in
theorem ggX10_off_X10_isPort : GoodIn wsX10_off wsX10_isPort := goodIn_sub (mmC (mmI il_X10_off_1 11 rfl) mmN) gw_X10_isPort
set_option maxRecDepth 20000 in
theorem gX10_off_X10_isPort : GoodIn wsX10_off (va_wsS RX10 77 yX10_isPort wsX10_isPort) := goodIn_app (goodIn_of _ (by decide +kernel)) ggX10_off_X10_isPort
set_option maxRecDepth 100000 in
theorem ggX10_off_X10_refuse : GoodIn wsX10_off wsX10_refuse := goodIn_sub (mmC (mmI il_X10_off_1 15 rfl) (mmA (mmC (mmI il_X10_off_1 16 rfl) mmN) il_X10_off_3)) gw_X10_refuse
theorem gX10_off_X10_refuse : GoodIn wsX10_off (wsV RX10 69 RX10 yX10_refuse wsX10_refuse) := goodIn_app (goodIn_sub (mmC (mmI il_X10_off_1 12 rfl) (mmC (mmI il_X10_off_1 13 rfl) (mmC (mmI il_X10_off_1 14 rfl) (mmC (mmI il_X10_off_1 5 rfl) mmN)))) (by decide +kernel)) ggX10_off_X10_refuse
set_option maxRecDepth 100000 in
theorem ggX10_off_X1_goesOn : GoodIn wsX10_off wsX1_goesOn := goodIn_sub (mmC (mmI il_X10_off_1 21 rfl) (mmA (mmA (mmC (mmI il_X10_off_1 22 rfl) (mmC (mmI il_X10_off_1 23 rfl) (mmC (mmI il_X10_off_2 0 rfl) (mmC (mmI il_X10_off_2 1 rfl) (mmC (mmI il_X10_off_2 2 rfl) mmN))))) il_X10_off_4) il_X10_off_5)) gw_X1_goesOn
theorem gX10_off_X1_goesOn : GoodIn wsX10_off (wsV RX10 122 RX1 yX1_goesOn wsX1_goesOn) := goodIn_app (goodIn_sub (mmC (mmI il_X10_off_1 17 rfl) (mmC (mmI il_X10_off_1 18 rfl) (mmC (mmI il_X10_off_1 19 rfl) (mmC (mmI il_X10_off_1 20 rfl) mmN)))) (by decide +kernel)) ggX10_off_X1_goesOn
theorem dX10_off_0 : decode cX10_off 0 = .ok (.aload_n 0, 1) := by decide +kernel
theorem dX10_off_1 : decode cX10_off 1 = .ok (.iload_n 1, 1) := by decide +kernel
theorem dX10_off_2 : decode cX10_off 2 = .ok (.invokevirtual 154, 3) := by decide +kernel
theorem dX10_off_5 : decode cX10_off 5 = .ok (.astore_n 3, 1) := by decide +kernel
theorem dX10_off_6 : decode cX10_off 6 = .ok (.aload_n 3, 1) := by decide +kernel
theorem dX10_off_7 : decode cX10_off 7 = .ok (.ifnull 10, 3) := by decide +kernel
theorem dX10_off_10 : decode cX10_off 10 = .ok (.iload_n 2, 1) := by decide +kernel
theorem dX10_off_11 : decode cX10_off 11 = .ok (.invokestatic 77, 3) := by decide +kernel
theorem dX10_off_14 : decode cX10_off 14 = .ok (.ifCond .ne 9, 3) := by decide +kernel
theorem dX10_off_17 : decode cX10_off 17 = .ok (.aload_n 0, 1) := by decide +kernel
theorem dX10_off_18 : decode cX10_off 18 = .ok (.iconst (-1), 1) := by decide +kernel
theorem dX10_off_19 : decode cX10_off 19 = .ok (.invokevirtual 69, 3) := by decide +kernel
theorem dX10_off_22 : decode cX10_off 22 = .ok (.ireturn, 1) := by decide +kernel
theorem dX10_off_23 : decode cX10_off 23 = .ok (.aload_n 3, 1) := by decide +kernel
theorem dX10_off_24 : decode cX10_off 24 = .ok (.invokevirtual 122, 3) := by decide +kernel
theorem dX10_off_27 : decode cX10_off 27 = .ok (.ifCond .ne 10, 3) := by decide +kernel
theorem dX10_off_30 : decode cX10_off 30 = .ok (.aload_n 0, 1) := by decide +kernel
theorem dX10_off_31 : decode cX10_off 31 = .ok (.bipush (-3), 2) := by decide +kernel
theorem dX10_off_33 : decode cX10_off 33 = .ok (.invokevirtual 69, 3) := by decide +kernel
theorem dX10_off_36 : decode cX10_off 36 = .ok (.ireturn, 1) := by decide +kernel
theorem dX10_off_37 : decode cX10_off 37 = .ok (.aload_n 3, 1) := by decide +kernel
theorem dX10_off_38 : decode cX10_off 38 = .ok (.aload_n 0, 1) := by decide +kernel
theorem dX10_off_39 : decode cX10_off 39 = .ok (.getfield 73, 3) := by decide +kernel
theorem dX10_off_42 : decode cX10_off 42 = .ok (.putfield 126, 3) := by decide +kernel
theorem dX10_off_45 : decode cX10_off 45 = .ok (.iconst 1, 1) := by decide +kernel
theorem dX10_off_46 : decode cX10_off 46 = .ok (.ireturn, 1) := by decide +kernel
set_option maxRecDepth 100000 in
theorem ggX10_state_X10_agreementAt : GoodIn wsX10_state wsX10_agreementAt := goodIn_sub (mmC (mmI il_X10_state_1 5 rfl) (mmA (mmC (mmI il_X10_state_1 6 rfl) (mmC (mmI il_X10_state_1 7 rfl) mmN)) il_X10_state_4)) gw_X10_agreementAt
theorem gX10_state_X10_agreementAt : GoodIn wsX10_state (wsV RX10 154 RX10 yX10_agreementAt wsX10_agreementAt) := goodIn_app (goodIn_sub (mmC (mmI il_X10_state_1 1 rfl) (mmC (mmI il_X10_state_1 2 rfl) (mmC (mmI il_X10_state_1 3 rfl) (mmC (mmI il_X10_state_1 4 rfl) mmN)))) (by decide +kernel)) ggX10_state_X10_agreementAt
set_option maxRecDepth 100000 in
theorem ggX10_state_X10_refuse : GoodIn wsX10_state wsX10_refuse := goodIn_sub (mmC (mmI il_X10_state_1 11 rfl) (mmA (mmC (mmI il_X10_state_1 12 rfl) mmN) il_X10_state_4)) gw_X10_refuse
theorem gX10_state_X10_refuse : GoodIn wsX10_state (wsV RX10 69 RX10 yX10_refuse wsX10_refuse) := goodIn_app (goodIn_sub (mmC (mmI il_X10_state_1 8 rfl) (mmC (mmI il_X10_state_1 9 rfl) (mmC (mmI il_X10_state_1 10 rfl) (mmC (mmI il_X10_state_1 4 rfl) mmN)))) (by decide +kernel)) ggX10_state_X10_refuse
set_option maxRecDepth 100000 in
theorem ggX10_state_X10_askRefusal : GoodIn wsX10_state wsX10_askRefusal := goodIn_sub (mmC (mmI il_X10_state_1 16 rfl) (mmA (mmC (mmI il_X10_state_1 17 rfl) mmN) il_X10_state_4)) gw_X10_askRefusal
theorem gX10_state_X10_askRefusal : GoodIn wsX10_state (wsV RX10 229 RX10 yX10_askRefusal wsX10_askRefusal) := goodIn_app (goodIn_sub (mmC (mmI il_X10_state_1 13 rfl) (mmC (mmI il_X10_state_1 14 rfl) (mmC (mmI il_X10_state_1 15 rfl) (mmC (mmI il_X10_state_1 4 rfl) mmN)))) (by decide +kernel)) ggX10_state_X10_askRefusal
set_option maxRecDepth 100000 in
theorem ggX10_state_X1_stateOn : GoodIn wsX10_state wsX1_stateOn := goodIn_sub (mmC (mmI il_X10_state_1 22 rfl) (mmA (mmA (mmA (mmA (mmA (mmA (mmC (mmI il_X10_state_1 23 rfl) (mmC (mmI il_X10_state_2 0 rfl) (mmC (mmI il_X10_state_2 1 rfl) (mmC (mmI il_X10_state_2 2 rfl) (mmC (mmI il_X10_state_2 3 rfl) (mmC (mmI il_X10_state_2 4 rfl) (mmC (mmI il_X10_state_2 5 rfl) (mmC (mmI il_X10_state_2 6 rfl) (mmC (mmI il_X10_state_2 7 rfl) (mmC (mmI il_X10_state_2 8 rfl) (mmC (mmI il_X10_state_2 9 rfl) (mmC (mmI il_X10_state_2 10 rfl) (mmC (mmI il_X10_state_2 11 rfl) (mmC (mmI il_X10_state_2 12 rfl) (mmC (mmI il_X10_state_2 13 rfl) (mmC (mmI il_X10_state_2 14 rfl) (mmC (mmI il_X10_state_1 21 rfl) (mmC (mmI il_X10_state_2 15 rfl) (mmC (mmI il_X10_state_2 16 rfl) (mmC (mmI il_X10_state_2 17 rfl) (mmC (mmI il_X10_state_2 18 rfl) (mmC (mmI il_X10_state_2 19 rfl) (mmC (mmI il_X10_state_2 20 rfl) (mmC (mmI il_X10_state_2 21 rfl) mmN)))))))))))))))))))))))) (mmA (mmC (mmI il_X10_state_2 22 rfl) (mmC (mmI il_X10_state_2 23 rfl) (mmC (mmI il_X10_state_3 0 rfl) (mmC (mmI il_X10_state_3 1 rfl) (mmC (mmI il_X10_state_3 2 rfl) (mmC (mmI il_X10_state_3 3 rfl) (mmC (mmI il_X10_state_3 4 rfl) (mmC (mmI il_X10_state_3 5 rfl) (mmC (mmI il_X10_state_3 6 rfl) (mmC (mmI il_X10_state_3 7 rfl) (mmC (mmI il_X10_state_3 8 rfl) (mmC (mmI il_X10_state_3 9 rfl) (mmC (mmI il_X10_state_3 10 rfl) (mmC (mmI il_X10_state_3 11 rfl) (mmC (mmI il_X10_state_3 12 rfl) (mmC (mmI il_X10_state_3 13 rfl) (mmC (mmI il_X10_state_3 14 rfl) (mmC (mmI il_X10_state_3 15 rfl) (mmC (mmI il_X10_state_3 16 rfl) (mmC (mmI il_X10_state_3 17 rfl) (mmC (mmI il_X10_state_3 18 rfl) (mmC (mmI il_X10_state_3 19 rfl) (mmC (mmI il_X10_state_3 20 rfl) (mmC (mmI il_X10_state_3 21 rfl) mmN)))))))))))))))))))))))) (mmC (mmI il_X10_state_3 22 rfl) (mmC (mmI il_X10_state_3 23 rfl) mmN)))) il_X10_state_5) il_X10_state_6) il_X10_state_7) il_X10_state_8) il_X10_state_9)) gw_X1_stateOn
theorem gX10_state_X1_stateOn : GoodIn wsX10_state (wsV RX10 233 RX1 yX1_stateOn wsX1_stateOn) := goodIn_app (goodIn_sub (mmC (mmI il_X10_state_1 18 rfl) (mmC (mmI il_X10_state_1 19 rfl) (mmC (mmI il_X10_state_1 20 rfl) (mmC (mmI il_X10_state_1 21 rfl) mmN)))) (by decide +kernel)) ggX10_state_X1_stateOn
theorem dX10_state_0 : decode cX10_state 0 = .ok (.aload_n 0, 1) := by decide +kernel
theorem dX10_state_1 : decode cX10_state 1 = .ok (.iload_n 1, 1) := by decide +kernel
theorem dX10_state_2 : decode cX10_state 2 = .ok (.invokevirtual 154, 3) := by decide +kernel
theorem dX10_state_5 : decode cX10_state 5 = .ok (.astore 4, 2) := by decide +kernel
theorem dX10_state_7 : decode cX10_state 7 = .ok (.aload 4, 2) := by decide +kernel
theorem dX10_state_9 : decode cX10_state 9 = .ok (.ifnonnull 9, 3) := by decide +kernel
theorem dX10_state_12 : decode cX10_state 12 = .ok (.aload_n 0, 1) := by decide +kernel
theorem dX10_state_13 : decode cX10_state 13 = .ok (.iconst (-1), 1) := by decide +kernel
theorem dX10_state_14 : decode cX10_state 14 = .ok (.invokevirtual 69, 3) := by decide +kernel
theorem dX10_state_17 : decode cX10_state 17 = .ok (.ireturn, 1) := by decide +kernel
theorem dX10_state_18 : decode cX10_state 18 = .ok (.aload_n 0, 1) := by decide +kernel
theorem dX10_state_19 : decode cX10_state 19 = .ok (.iload_n 2, 1) := by decide +kernel
theorem dX10_state_20 : decode cX10_state 20 = .ok (.iload_n 3, 1) := by decide +kernel
theorem dX10_state_21 : decode cX10_state 21 = .ok (.invokevirtual 229, 3) := by decide +kernel
theorem dX10_state_24 : decode cX10_state 24 = .ok (.istore 5, 2) := by decide +kernel
theorem dX10_state_26 : decode cX10_state 26 = .ok (.iload 5, 2) := by decide +kernel
theorem dX10_state_28 : decode cX10_state 28 = .ok (.ifCond .eq 10, 3) := by decide +kernel
theorem dX10_state_31 : decode cX10_state 31 = .ok (.aload_n 0, 1) := by decide +kernel
theorem dX10_state_32 : decode cX10_state 32 = .ok (.iload 5, 2) := by decide +kernel
theorem dX10_state_34 : decode cX10_state 34 = .ok (.invokevirtual 69, 3) := by decide +kernel
theorem dX10_state_37 : decode cX10_state 37 = .ok (.ireturn, 1) := by decide +kernel
theorem dX10_state_38 : decode cX10_state 38 = .ok (.aload 4, 2) := by decide +kernel
theorem dX10_state_40 : decode cX10_state 40 = .ok (.iload_n 2, 1) := by decide +kernel
theorem dX10_state_41 : decode cX10_state 41 = .ok (.iload_n 3, 1) := by decide +kernel
theorem dX10_state_42 : decode cX10_state 42 = .ok (.aload_n 0, 1) := by decide +kernel
theorem dX10_state_43 : decode cX10_state 43 = .ok (.getfield 30, 3) := by decide +kernel
theorem dX10_state_46 : decode cX10_state 46 = .ok (.invokevirtual 233, 3) := by decide +kernel
theorem dX10_state_49 : decode cX10_state 49 = .ok (.ireturn, 1) := by decide +kernel
set_option maxRecDepth 100000 in
theorem ggX10_earns_X10_agreementAt : GoodIn wsX10_earns wsX10_agreementAt := goodIn_sub (mmC (mmI il_X10_earns_1 5 rfl) (mmA (mmC (mmI il_X10_earns_1 6 rfl) (mmC (mmI il_X10_earns_1 7 rfl) mmN)) il_X10_earns_6)) gw_X10_agreementAt
theorem gX10_earns_X10_agreementAt : GoodIn wsX10_earns (wsV RX10 154 RX10 yX10_agreementAt wsX10_agreementAt) := goodIn_app (goodIn_sub (mmC (mmI il_X10_earns_1 1 rfl) (mmC (mmI il_X10_earns_1 2 rfl) (mmC (mmI il_X10_earns_1 3 rfl) (mmC (mmI il_X10_earns_1 4 rfl) mmN)))) (by decide +kernel)) ggX10_earns_X10_agreementAt
set_option maxRecDepth 100000 in
theorem ggX10_earns_X10_refuse : GoodIn wsX10_earns wsX10_refuse := goodIn_sub (mmC (mmI il_X10_earns_1 11 rfl) (mmA (mmC (mmI il_X10_earns_1 12 rfl) mmN) il_X10_earns_6)) gw_X10_refuse
theorem gX10_earns_X10_refuse : GoodIn wsX10_earns (wsV RX10 69 RX10 yX10_refuse wsX10_refuse) := goodIn_app (goodIn_sub (mmC (mmI il_X10_earns_1 8 rfl) (mmC (mmI il_X10_earns_1 9 rfl) (mmC (mmI il_X10_earns_1 10 rfl) (mmC (mmI il_X10_earns_1 4 rfl) mmN)))) (by decide +kernel)) ggX10_earns_X10_refuse
set_option maxRecDepth 100000 in
theorem ggX10_earns_X10_askRefusal : GoodIn wsX10_earns wsX10_askRefusal := goodIn_sub (mmC (mmI il_X10_earns_1 16 rfl) (mmA (mmC (mmI il_X10_earns_1 17 rfl) mmN) il_X10_earns_6)) gw_X10_askRefusal
theorem gX10_earns_X10_askRefusal : GoodIn wsX10_earns (wsV RX10 229 RX10 yX10_askRefusal wsX10_askRefusal) := goodIn_app (goodIn_sub (mmC (mmI il_X10_earns_1 13 rfl) (mmC (mmI il_X10_earns_1 14 rfl) (mmC (mmI il_X10_earns_1 15 rfl) (mmC (mmI il_X10_earns_1 4 rfl) mmN)))) (by decide +kernel)) ggX10_earns_X10_askRefusal
set_option maxRecDepth 100000 in
theorem ggX10_earns_X1_earningDays : GoodIn wsX10_earns wsX1_earningDays := goodIn_sub (mmC (mmI il_X10_earns_1 22 rfl) (mmA (mmA (mmA (mmA (mmA (mmA (mmC (mmI il_X10_earns_1 23 rfl) (mmC (mmI il_X10_earns_2 0 rfl) (mmC (mmI il_X10_earns_2 1 rfl) (mmC (mmI il_X10_earns_2 2 rfl) (mmC (mmI il_X10_earns_1 21 rfl) (mmC (mmI il_X10_earns_2 3 rfl) (mmC (mmI il_X10_earns_2 4 rfl) (mmC (mmI il_X10_earns_2 5 rfl) (mmC (mmI il_X10_earns_2 6 rfl) (mmC (mmI il_X10_earns_2 7 rfl) (mmC (mmI il_X10_earns_2 8 rfl) (mmC (mmI il_X10_earns_2 9 rfl) (mmC (mmI il_X10_earns_2 10 rfl) (mmC (mmI il_X10_earns_2 11 rfl) (mmC (mmI il_X10_earns_2 12 rfl) (mmC (mmI il_X10_earns_2 13 rfl) (mmC (mmI il_X10_earns_2 14 rfl) (mmC (mmI il_X10_earns_2 15 rfl) (mmC (mmI il_X10_earns_2 16 rfl) (mmC (mmI il_X10_earns_2 17 rfl) (mmC (mmI il_X10_earns_2 18 rfl) (mmC (mmI il_X10_earns_2 19 rfl) (mmC (mmI il_X10_earns_2 20 rfl) (mmC (mmI il_X10_earns_2 21 rfl) mmN)))))))))))))))))))))))) (mmA (mmC (mmI il_X10_earns_2 22 rfl) (mmC (mmI il_X10_earns_2 23 rfl) (mmC (mmI il_X10_earns_3 0 rfl) (mmC (mmI il_X10_earns_3 1 rfl) (mmC (mmI il_X10_earns_3 2 rfl) (mmC (mmI il_X10_earns_3 3 rfl) (mmC (mmI il_X10_earns_3 4 rfl) (mmC (mmI il_X10_earns_3 5 rfl) (mmC (mmI il_X10_earns_3 6 rfl) (mmC (mmI il_X10_earns_3 7 rfl) (mmC (mmI il_X10_earns_3 8 rfl) (mmC (mmI il_X10_earns_3 9 rfl) (mmC (mmI il_X10_earns_3 10 rfl) (mmC (mmI il_X10_earns_3 11 rfl) (mmC (mmI il_X10_earns_3 12 rfl) (mmC (mmI il_X10_earns_3 13 rfl) (mmC (mmI il_X10_earns_3 14 rfl) (mmC (mmI il_X10_earns_3 15 rfl) (mmC (mmI il_X10_earns_3 16 rfl) (mmC (mmI il_X10_earns_3 17 rfl) (mmC (mmI il_X10_earns_3 18 rfl) (mmC (mmI il_X10_earns_3 19 rfl) (mmC (mmI il_X10_earns_3 20 rfl) (mmC (mmI il_X10_earns_3 21 rfl) mmN)))))))))))))))))))))))) (mmA (mmC (mmI il_X10_earns_3 22 rfl) (mmC (mmI il_X10_earns_3 23 rfl) (mmC (mmI il_X10_earns_4 0 rfl) (mmC (mmI il_X10_earns_4 1 rfl) (mmC (mmI il_X10_earns_4 2 rfl) (mmC (mmI il_X10_earns_4 3 rfl) (mmC (mmI il_X10_earns_4 4 rfl) (mmC (mmI il_X10_earns_4 5 rfl) (mmC (mmI il_X10_earns_4 6 rfl) (mmC (mmI il_X10_earns_4 7 rfl) (mmC (mmI il_X10_earns_4 8 rfl) (mmC (mmI il_X10_earns_4 9 rfl) (mmC (mmI il_X10_earns_4 10 rfl) (mmC (mmI il_X10_earns_4 11 rfl) (mmC (mmI il_X10_earns_4 12 rfl) (mmC (mmI il_X10_earns_4 13 rfl) (mmC (mmI il_X10_earns_4 14 rfl) (mmC (mmI il_X10_earns_4 15 rfl) (mmC (mmI il_X10_earns_4 16 rfl) (mmC (mmI il_X10_earns_4 17 rfl) (mmC (mmI il_X10_earns_4 18 rfl) (mmC (mmI il_X10_earns_4 19 rfl) (mmC (mmI il_X10_earns_4 20 rfl) (mmC (mmI il_X10_earns_4 21 rfl) mmN)))))))))))))))))))))))) (mmC (mmI il_X10_earns_4 22 rfl) (mmC (mmI il_X10_earns_4 23 rfl) (mmC (mmI il_X10_earns_5 0 rfl) (mmC (mmI il_X10_earns_5 1 rfl) (mmC (mmI il_X10_earns_5 2 rfl) (mmC (mmI il_X10_earns_5 3 rfl) (mmC (mmI il_X10_earns_5 4 rfl) (mmC (mmI il_X10_earns_5 5 rfl) mmN))))))))))) il_X10_earns_7) il_X10_earns_8) il_X10_earns_9) il_X10_earns_10) il_X10_earns_11)) gw_X1_earningDays
theorem gX10_earns_X1_earningDays : GoodIn wsX10_earns (wsV RX10 237 RX1 yX1_earningDays wsX1_earningDays) := goodIn_app (goodIn_sub (mmC (mmI il_X10_earns_1 18 rfl) (mmC (mmI il_X10_earns_1 19 rfl) (mmC (mmI il_X10_earns_1 20 rfl) (mmC (mmI il_X10_earns_1 21 rfl) mmN)))) (by decide +kernel)) ggX10_earns_X1_earningDays
theorem dX10_earns_0 : decode cX10_earns 0 = .ok (.aload_n 0, 1) := by decide +kernel
theorem dX10_earns_1 : decode cX10_earns 1 = .ok (.iload_n 1, 1) := by decide +kernel
theorem dX10_earns_2 : decode cX10_earns 2 = .ok (.invokevirtual 154, 3) := by decide +kernel
theorem dX10_earns_5 : decode cX10_earns 5 = .ok (.astore 4, 2) := by decide +kernel
theorem dX10_earns_7 : decode cX10_earns 7 = .ok (.aload 4, 2) := by decide +kernel
theorem dX10_earns_9 : decode cX10_earns 9 = .ok (.ifnonnull 9, 3) := by decide +kernel
theorem dX10_earns_12 : decode cX10_earns 12 = .ok (.aload_n 0, 1) := by decide +kernel
theorem dX10_earns_13 : decode cX10_earns 13 = .ok (.iconst (-1), 1) := by decide +kernel
theorem dX10_earns_14 : decode cX10_earns 14 = .ok (.invokevirtual 69, 3) := by decide +kernel
theorem dX10_earns_17 : decode cX10_earns 17 = .ok (.ireturn, 1) := by decide +kernel
theorem dX10_earns_18 : decode cX10_earns 18 = .ok (.aload_n 0, 1) := by decide +kernel
theorem dX10_earns_19 : decode cX10_earns 19 = .ok (.iload_n 2, 1) := by decide +kernel
theorem dX10_earns_20 : decode cX10_earns 20 = .ok (.iload_n 3, 1) := by decide +kernel
theorem dX10_earns_21 : decode cX10_earns 21 = .ok (.invokevirtual 229, 3) := by decide +kernel
theorem dX10_earns_24 : decode cX10_earns 24 = .ok (.istore 5, 2) := by decide +kernel
theorem dX10_earns_26 : decode cX10_earns 26 = .ok (.iload 5, 2) := by decide +kernel
theorem dX10_earns_28 : decode cX10_earns 28 = .ok (.ifCond .eq 10, 3) := by decide +kernel
theorem dX10_earns_31 : decode cX10_earns 31 = .ok (.aload_n 0, 1) := by decide +kernel
theorem dX10_earns_32 : decode cX10_earns 32 = .ok (.iload 5, 2) := by decide +kernel
theorem dX10_earns_34 : decode cX10_earns 34 = .ok (.invokevirtual 69, 3) := by decide +kernel
theorem dX10_earns_37 : decode cX10_earns 37 = .ok (.ireturn, 1) := by decide +kernel
theorem dX10_earns_38 : decode cX10_earns 38 = .ok (.aload 4, 2) := by decide +kernel
theorem dX10_earns_40 : decode cX10_earns 40 = .ok (.iload_n 2, 1) := by decide +kernel
theorem dX10_earns_41 : decode cX10_earns 41 = .ok (.iload_n 3, 1) := by decide +kernel
theorem dX10_earns_42 : decode cX10_earns 42 = .ok (.aload_n 0, 1) := by decide +kernel
theorem dX10_earns_43 : decode cX10_earns 43 = .ok (.getfield 30, 3) := by decide +kernel
theorem dX10_earns_46 : decode cX10_earns 46 = .ok (.invokevirtual 237, 3) := by decide +kernel
theorem dX10_earns_49 : decode cX10_earns 49 = .ok (.ireturn, 1) := by decide +kernel
set_option maxRecDepth 100000 in
theorem ggX10_advance_X10_agreementAt : GoodIn wsX10_advance wsX10_agreementAt := goodIn_sub (mmC (mmI il_X10_advance_1 8 rfl) (mmA (mmC (mmI il_X10_advance_1 9 rfl) (mmC (mmI il_X10_advance_1 10 rfl) mmN)) il_X10_advance_5)) gw_X10_agreementAt
theorem gX10_advance_X10_agreementAt : GoodIn wsX10_advance (wsV RX10 154 RX10 yX10_agreementAt wsX10_agreementAt) := goodIn_app (goodIn_sub (mmC (mmI il_X10_advance_1 4 rfl) (mmC (mmI il_X10_advance_1 5 rfl) (mmC (mmI il_X10_advance_1 6 rfl) (mmC (mmI il_X10_advance_1 7 rfl) mmN)))) (by decide +kernel)) ggX10_advance_X10_agreementAt
set_option maxRecDepth 100000 in
theorem ggX10_advance_X10_refuse : GoodIn wsX10_advance wsX10_refuse := goodIn_sub (mmC (mmI il_X10_advance_1 14 rfl) (mmA (mmC (mmI il_X10_advance_1 15 rfl) mmN) il_X10_advance_5)) gw_X10_refuse
theorem gX10_advance_X10_refuse : GoodIn wsX10_advance (wsV RX10 69 RX10 yX10_refuse wsX10_refuse) := goodIn_app (goodIn_sub (mmC (mmI il_X10_advance_1 11 rfl) (mmC (mmI il_X10_advance_1 12 rfl) (mmC (mmI il_X10_advance_1 13 rfl) (mmC (mmI il_X10_advance_1 7 rfl) mmN)))) (by decide +kernel)) ggX10_advance_X10_refuse
set_option maxRecDepth 100000 in
theorem ggX10_advance_X1_stateOn : GoodIn wsX10_advance wsX1_stateOn := goodIn_sub (mmC (mmI il_X10_advance_1 20 rfl) (mmA (mmA (mmA (mmA (mmA (mmA (mmC (mmI il_X10_advance_1 21 rfl) (mmC (mmI il_X10_advance_1 22 rfl) (mmC (mmI il_X10_advance_1 23 rfl) (mmC (mmI il_X10_advance_2 0 rfl) (mmC (mmI il_X10_advance_2 1 rfl) (mmC (mmI il_X10_advance_2 2 rfl) (mmC (mmI il_X10_advance_2 3 rfl) (mmC (mmI il_X10_advance_2 4 rfl) (mmC (mmI il_X10_advance_2 5 rfl) (mmC (mmI il_X10_advance_2 6 rfl) (mmC (mmI il_X10_advance_2 7 rfl) (mmC (mmI il_X10_advance_2 8 rfl) (mmC (mmI il_X10_advance_2 9 rfl) (mmC (mmI il_X10_advance_2 10 rfl) (mmC (mmI il_X10_advance_2 11 rfl) (mmC (mmI il_X10_advance_2 12 rfl) (mmC (mmI il_X10_advance_1 19 rfl) (mmC (mmI il_X10_advance_2 13 rfl) (mmC (mmI il_X10_advance_2 14 rfl) (mmC (mmI il_X10_advance_2 15 rfl) (mmC (mmI il_X10_advance_2 16 rfl) (mmC (mmI il_X10_advance_2 17 rfl) (mmC (mmI il_X10_advance_2 18 rfl) (mmC (mmI il_X10_advance_2 19 rfl) mmN)))))))))))))))))))))))) (mmA (mmC (mmI il_X10_advance_2 20 rfl) (mmC (mmI il_X10_advance_2 21 rfl) (mmC (mmI il_X10_advance_2 22 rfl) (mmC (mmI il_X10_advance_2 23 rfl) (mmC (mmI il_X10_advance_3 0 rfl) (mmC (mmI il_X10_advance_3 1 rfl) (mmC (mmI il_X10_advance_3 2 rfl) (mmC (mmI il_X10_advance_3 3 rfl) (mmC (mmI il_X10_advance_3 4 rfl) (mmC (mmI il_X10_advance_3 5 rfl) (mmC (mmI il_X10_advance_3 6 rfl) (mmC (mmI il_X10_advance_3 7 rfl) (mmC (mmI il_X10_advance_3 8 rfl) (mmC (mmI il_X10_advance_3 9 rfl) (mmC (mmI il_X10_advance_3 10 rfl) (mmC (mmI il_X10_advance_3 11 rfl) (mmC (mmI il_X10_advance_3 12 rfl) (mmC (mmI il_X10_advance_3 13 rfl) (mmC (mmI il_X10_advance_3 14 rfl) (mmC (mmI il_X10_advance_3 15 rfl) (mmC (mmI il_X10_advance_3 16 rfl) (mmC (mmI il_X10_advance_3 17 rfl) (mmC (mmI il_X10_advance_3 18 rfl) (mmC (mmI il_X10_advance_3 19 rfl) mmN)))))))))))))))))))))))) (mmC (mmI il_X10_advance_3 20 rfl) (mmC (mmI il_X10_advance_3 21 rfl) mmN)))) il_X10_advance_4) il_X10_advance_6) il_X10_advance_7) il_X10_advance_8) il_X10_advance_9)) gw_X1_stateOn
theorem gX10_advance_X1_stateOn : GoodIn wsX10_advance (wsV RX10 233 RX1 yX1_stateOn wsX1_stateOn) := goodIn_app (goodIn_sub (mmC (mmI il_X10_advance_1 16 rfl) (mmC (mmI il_X10_advance_1 17 rfl) (mmC (mmI il_X10_advance_1 18 rfl) (mmC (mmI il_X10_advance_1 19 rfl) mmN)))) (by decide +kernel)) ggX10_advance_X1_stateOn
theorem dX10_advance_0 : decode cX10_advance 0 = .ok (.aload_n 0, 1) := by decide +kernel
theorem dX10_advance_1 : decode cX10_advance 1 = .ok (.iload_n 1, 1) := by decide +kernel
theorem dX10_advance_2 : decode cX10_advance 2 = .ok (.invokevirtual 154, 3) := by decide +kernel
theorem dX10_advance_5 : decode cX10_advance 5 = .ok (.astore_n 3, 1) := by decide +kernel
theorem dX10_advance_6 : decode cX10_advance 6 = .ok (.aload_n 3, 1) := by decide +kernel
theorem dX10_advance_7 : decode cX10_advance 7 = .ok (.ifnonnull 9, 3) := by decide +kernel
theorem dX10_advance_10 : decode cX10_advance 10 = .ok (.aload_n 0, 1) := by decide +kernel
theorem dX10_advance_11 : decode cX10_advance 11 = .ok (.iconst (-1), 1) := by decide +kernel
theorem dX10_advance_12 : decode cX10_advance 12 = .ok (.invokevirtual 69, 3) := by decide +kernel
theorem dX10_advance_15 : decode cX10_advance 15 = .ok (.ireturn, 1) := by decide +kernel
theorem dX10_advance_16 : decode cX10_advance 16 = .ok (.aload_n 3, 1) := by decide +kernel
theorem dX10_advance_17 : decode cX10_advance 17 = .ok (.getfield 240, 3) := by decide +kernel
theorem dX10_advance_20 : decode cX10_advance 20 = .ok (.ifCond .ne 22, 3) := by decide +kernel
theorem dX10_advance_23 : decode cX10_advance 23 = .ok (.aload_n 3, 1) := by decide +kernel
theorem dX10_advance_24 : decode cX10_advance 24 = .ok (.aload_n 0, 1) := by decide +kernel
theorem dX10_advance_25 : decode cX10_advance 25 = .ok (.getfield 73, 3) := by decide +kernel
theorem dX10_advance_28 : decode cX10_advance 28 = .ok (.aload_n 0, 1) := by decide +kernel
theorem dX10_advance_29 : decode cX10_advance 29 = .ok (.getfield 73, 3) := by decide +kernel
theorem dX10_advance_32 : decode cX10_advance 32 = .ok (.aload_n 0, 1) := by decide +kernel
theorem dX10_advance_33 : decode cX10_advance 33 = .ok (.getfield 30, 3) := by decide +kernel
theorem dX10_advance_36 : decode cX10_advance 36 = .ok (.invokevirtual 233, 3) := by decide +kernel
theorem dX10_advance_39 : decode cX10_advance 39 = .ok (.ifCond .eq 10, 3) := by decide +kernel
theorem dX10_advance_42 : decode cX10_advance 42 = .ok (.aload_n 0, 1) := by decide +kernel
theorem dX10_advance_43 : decode cX10_advance 43 = .ok (.bipush (-3), 2) := by decide +kernel
theorem dX10_advance_45 : decode cX10_advance 45 = .ok (.invokevirtual 69, 3) := by decide +kernel
theorem dX10_advance_48 : decode cX10_advance 48 = .ok (.ireturn, 1) := by decide +kernel
theorem dX10_advance_49 : decode cX10_advance 49 = .ok (.iload_n 2, 1) := by decide +kernel
theorem dX10_advance_50 : decode cX10_advance 50 = .ok (.iconst 1, 1) := by decide +kernel
theorem dX10_advance_51 : decode cX10_advance 51 = .ok (.if_icmp .ge 10, 3) := by decide +kernel
theorem dX10_advance_54 : decode cX10_advance 54 = .ok (.aload_n 0, 1) := by decide +kernel
theorem dX10_advance_55 : decode cX10_advance 55 = .ok (.bipush (-4), 2) := by decide +kernel
theorem dX10_advance_57 : decode cX10_advance 57 = .ok (.invokevirtual 69, 3) := by decide +kernel
theorem dX10_advance_60 : decode cX10_advance 60 = .ok (.ireturn, 1) := by decide +kernel
theorem dX10_advance_61 : decode cX10_advance 61 = .ok (.iload_n 2, 1) := by decide +kernel
theorem dX10_advance_62 : decode cX10_advance 62 = .ok (.ldc 85, 2) := by decide +kernel
theorem dX10_advance_64 : decode cX10_advance 64 = .ok (.if_icmp .le 10, 3) := by decide +kernel
theorem dX10_advance_67 : decode cX10_advance 67 = .ok (.aload_n 0, 1) := by decide +kernel
theorem dX10_advance_68 : decode cX10_advance 68 = .ok (.bipush (-6), 2) := by decide +kernel
theorem dX10_advance_70 : decode cX10_advance 70 = .ok (.invokevirtual 69, 3) := by decide +kernel
theorem dX10_advance_73 : decode cX10_advance 73 = .ok (.ireturn, 1) := by decide +kernel
theorem dX10_advance_74 : decode cX10_advance 74 = .ok (.aload_n 3, 1) := by decide +kernel
theorem dX10_advance_75 : decode cX10_advance 75 = .ok (.iload_n 2, 1) := by decide +kernel
theorem dX10_advance_76 : decode cX10_advance 76 = .ok (.putfield 240, 3) := by decide +kernel
theorem dX10_advance_79 : decode cX10_advance 79 = .ok (.iconst 1, 1) := by decide +kernel
theorem dX10_advance_80 : decode cX10_advance 80 = .ok (.ireturn, 1) := by decide +kernel
set_option maxRecDepth 100000 in
theorem ggX10_sold_X10_agreementAt : GoodIn wsX10_sold wsX10_agreementAt := goodIn_sub (mmC (mmI il_X10_sold_1 6 rfl) (mmA (mmC (mmI il_X10_sold_1 7 rfl) (mmC (mmI il_X10_sold_1 8 rfl) mmN)) il_X10_sold_3)) gw_X10_agreementAt
theorem gX10_sold_X10_agreementAt : GoodIn wsX10_sold (wsV RX10 154 RX10 yX10_agreementAt wsX10_agreementAt) := goodIn_app (goodIn_sub (mmC (mmI il_X10_sold_1 2 rfl) (mmC (mmI il_X10_sold_1 3 rfl) (mmC (mmI il_X10_sold_1 4 rfl) (mmC (mmI il_X10_sold_1 5 rfl) mmN)))) (by decide +kernel)) ggX10_sold_X10_agreementAt
set_option maxRecDepth 100000 in
theorem ggX10_sold_X10_refuse : GoodIn wsX10_sold wsX10_refuse := goodIn_sub (mmC (mmI il_X10_sold_1 12 rfl) (mmA (mmC (mmI il_X10_sold_1 13 rfl) mmN) il_X10_sold_3)) gw_X10_refuse
theorem gX10_sold_X10_refuse : GoodIn wsX10_sold (wsV RX10 69 RX10 yX10_refuse wsX10_refuse) := goodIn_app (goodIn_sub (mmC (mmI il_X10_sold_1 9 rfl) (mmC (mmI il_X10_sold_1 10 rfl) (mmC (mmI il_X10_sold_1 11 rfl) (mmC (mmI il_X10_sold_1 5 rfl) mmN)))) (by decide +kernel)) ggX10_sold_X10_refuse
theorem dX10_sold_0 : decode cX10_sold 0 = .ok (.aload_n 0, 1) := by decide +kernel
theorem dX10_sold_1 : decode cX10_sold 1 = .ok (.iload_n 1, 1) := by decide +kernel
theorem dX10_sold_2 : decode cX10_sold 2 = .ok (.invokevirtual 154, 3) := by decide +kernel
theorem dX10_sold_5 : decode cX10_sold 5 = .ok (.astore_n 3, 1) := by decide +kernel
theorem dX10_sold_6 : decode cX10_sold 6 = .ok (.aload_n 3, 1) := by decide +kernel
theorem dX10_sold_7 : decode cX10_sold 7 = .ok (.ifnonnull 9, 3) := by decide +kernel
theorem dX10_sold_10 : decode cX10_sold 10 = .ok (.aload_n 0, 1) := by decide +kernel
theorem dX10_sold_11 : decode cX10_sold 11 = .ok (.iconst (-1), 1) := by decide +kernel
theorem dX10_sold_12 : decode cX10_sold 12 = .ok (.invokevirtual 69, 3) := by decide +kernel
theorem dX10_sold_15 : decode cX10_sold 15 = .ok (.ireturn, 1) := by decide +kernel
theorem dX10_sold_16 : decode cX10_sold 16 = .ok (.aload_n 3, 1) := by decide +kernel
theorem dX10_sold_17 : decode cX10_sold 17 = .ok (.getfield 240, 3) := by decide +kernel
theorem dX10_sold_20 : decode cX10_sold 20 = .ok (.ifCond .eq 10, 3) := by decide +kernel
theorem dX10_sold_23 : decode cX10_sold 23 = .ok (.aload_n 3, 1) := by decide +kernel
theorem dX10_sold_24 : decode cX10_sold 24 = .ok (.getfield 243, 3) := by decide +kernel
theorem dX10_sold_27 : decode cX10_sold 27 = .ok (.ifCond .eq 10, 3) := by decide +kernel
theorem dX10_sold_30 : decode cX10_sold 30 = .ok (.aload_n 0, 1) := by decide +kernel
theorem dX10_sold_31 : decode cX10_sold 31 = .ok (.bipush (-3), 2) := by decide +kernel
theorem dX10_sold_33 : decode cX10_sold 33 = .ok (.invokevirtual 69, 3) := by decide +kernel
theorem dX10_sold_36 : decode cX10_sold 36 = .ok (.ireturn, 1) := by decide +kernel
theorem dX10_sold_37 : decode cX10_sold 37 = .ok (.iload_n 2, 1) := by decide +kernel
theorem dX10_sold_38 : decode cX10_sold 38 = .ok (.iconst 1, 1) := by decide +kernel
theorem dX10_sold_39 : decode cX10_sold 39 = .ok (.if_icmp .ge 10, 3) := by decide +kernel
theorem dX10_sold_42 : decode cX10_sold 42 = .ok (.aload_n 0, 1) := by decide +kernel
theorem dX10_sold_43 : decode cX10_sold 43 = .ok (.bipush (-4), 2) := by decide +kernel
theorem dX10_sold_45 : decode cX10_sold 45 = .ok (.invokevirtual 69, 3) := by decide +kernel
theorem dX10_sold_48 : decode cX10_sold 48 = .ok (.ireturn, 1) := by decide +kernel
theorem dX10_sold_49 : decode cX10_sold 49 = .ok (.iload_n 2, 1) := by decide +kernel
theorem dX10_sold_50 : decode cX10_sold 50 = .ok (.aload_n 3, 1) := by decide +kernel
theorem dX10_sold_51 : decode cX10_sold 51 = .ok (.getfield 240, 3) := by decide +kernel
theorem dX10_sold_54 : decode cX10_sold 54 = .ok (.if_icmp .lt 10, 3) := by decide +kernel
theorem dX10_sold_57 : decode cX10_sold 57 = .ok (.aload_n 0, 1) := by decide +kernel
theorem dX10_sold_58 : decode cX10_sold 58 = .ok (.bipush (-6), 2) := by decide +kernel
theorem dX10_sold_60 : decode cX10_sold 60 = .ok (.invokevirtual 69, 3) := by decide +kernel
theorem dX10_sold_63 : decode cX10_sold 63 = .ok (.ireturn, 1) := by decide +kernel
theorem dX10_sold_64 : decode cX10_sold 64 = .ok (.aload_n 3, 1) := by decide +kernel
theorem dX10_sold_65 : decode cX10_sold 65 = .ok (.iload_n 2, 1) := by decide +kernel
theorem dX10_sold_66 : decode cX10_sold 66 = .ok (.putfield 243, 3) := by decide +kernel
theorem dX10_sold_69 : decode cX10_sold 69 = .ok (.aload_n 3, 1) := by decide +kernel
theorem dX10_sold_70 : decode cX10_sold 70 = .ok (.getfield 240, 3) := by decide +kernel
theorem dX10_sold_73 : decode cX10_sold 73 = .ok (.iload_n 2, 1) := by decide +kernel
theorem dX10_sold_74 : decode cX10_sold 74 = .ok (.isub, 1) := by decide +kernel
theorem dX10_sold_75 : decode cX10_sold 75 = .ok (.ireturn, 1) := by decide +kernel
set_option maxRecDepth 100000 in
theorem ggX10_allot_X10_agreementAt : GoodIn wsX10_allot wsX10_agreementAt := goodIn_sub (mmC (mmI il_X10_allot_1 8 rfl) (mmA (mmC (mmI il_X10_allot_1 9 rfl) (mmC (mmI il_X10_allot_1 10 rfl) mmN)) il_X10_allot_9)) gw_X10_agreementAt
theorem gX10_allot_X10_agreementAt : GoodIn wsX10_allot (wsV RX10 154 RX10 yX10_agreementAt wsX10_agreementAt) := goodIn_app (goodIn_sub (mmC (mmI il_X10_allot_1 4 rfl) (mmC (mmI il_X10_allot_1 5 rfl) (mmC (mmI il_X10_allot_1 6 rfl) (mmC (mmI il_X10_allot_1 7 rfl) mmN)))) (by decide +kernel)) ggX10_allot_X10_agreementAt
set_option maxRecDepth 100000 in
theorem ggX10_allot_X10_refuse : GoodIn wsX10_allot wsX10_refuse := goodIn_sub (mmC (mmI il_X10_allot_1 14 rfl) (mmA (mmC (mmI il_X10_allot_1 15 rfl) mmN) il_X10_allot_9)) gw_X10_refuse
theorem gX10_allot_X10_refuse : GoodIn wsX10_allot (wsV RX10 69 RX10 yX10_refuse wsX10_refuse) := goodIn_app (goodIn_sub (mmC (mmI il_X10_allot_1 11 rfl) (mmC (mmI il_X10_allot_1 12 rfl) (mmC (mmI il_X10_allot_1 13 rfl) (mmC (mmI il_X10_allot_1 7 rfl) mmN)))) (by decide +kernel)) ggX10_allot_X10_refuse
set_option maxRecDepth 100000 in
theorem ggX10_allot_X1_goesOn : GoodIn wsX10_allot wsX1_goesOn := goodIn_sub (mmC (mmI il_X10_allot_1 20 rfl) (mmA (mmA (mmC (mmI il_X10_allot_1 21 rfl) (mmC (mmI il_X10_allot_1 22 rfl) (mmC (mmI il_X10_allot_1 23 rfl) (mmC (mmI il_X10_allot_2 0 rfl) (mmC (mmI il_X10_allot_2 1 rfl) mmN))))) il_X10_allot_8) il_X10_allot_10)) gw_X1_goesOn
theorem gX10_allot_X1_goesOn : GoodIn wsX10_allot (wsV RX10 122 RX1 yX1_goesOn wsX1_goesOn) := goodIn_app (goodIn_sub (mmC (mmI il_X10_allot_1 16 rfl) (mmC (mmI il_X10_allot_1 17 rfl) (mmC (mmI il_X10_allot_1 18 rfl) (mmC (mmI il_X10_allot_1 19 rfl) mmN)))) (by decide +kernel)) ggX10_allot_X1_goesOn
set_option maxRecDepth 100000 in
theorem ggX10_allot_X10_worthFor : GoodIn wsX10_allot wsX10_worthFor := goodIn_sub (mmC (mmI il_X10_allot_2 5 rfl) (mmA (mmA (mmA (mmA (mmA (mmA (mmA (mmA (mmC (mmI il_X10_allot_2 6 rfl) (mmC (mmI il_X10_allot_2 7 rfl) (mmC (mmI il_X10_allot_1 2 rfl) (mmC (mmI il_X10_allot_2 8 rfl) (mmC (mmI il_X10_allot_2 9 rfl) (mmC (mmI il_X10_allot_2 10 rfl) (mmC (mmI il_X10_allot_2 11 rfl) (mmC (mmI il_X10_allot_2 12 rfl) (mmC (mmI il_X10_allot_2 13 rfl) (mmC (mmI il_X10_allot_2 14 rfl) (mmC (mmI il_X10_allot_2 15 rfl) (mmC (mmI il_X10_allot_2 16 rfl) (mmC (mmI il_X10_allot_2 17 rfl) (mmC (mmI il_X10_allot_2 18 rfl) (mmC (mmI il_X10_allot_2 19 rfl) (mmC (mmI il_X10_allot_2 20 rfl) (mmC (mmI il_X10_allot_2 21 rfl) (mmC (mmI il_X10_allot_2 22 rfl) (mmC (mmI il_X10_allot_2 23 rfl) (mmC (mmI il_X10_allot_3 0 rfl) (mmC (mmI il_X10_allot_3 1 rfl) (mmC (mmI il_X10_allot_3 2 rfl) (mmC (mmI il_X10_allot_3 3 rfl) (mmC (mmI il_X10_allot_3 4 rfl) mmN)))))))))))))))))))))))) (mmA (mmC (mmI il_X10_allot_3 5 rfl) (mmC (mmI il_X10_allot_3 6 rfl) (mmC (mmI il_X10_allot_3 7 rfl) (mmC (mmI il_X10_allot_3 8 rfl) (mmC (mmI il_X10_allot_3 9 rfl) (mmC (mmI il_X10_allot_3 10 rfl) (mmC (mmI il_X10_allot_3 11 rfl) (mmC (mmI il_X10_allot_1 19 rfl) (mmC (mmI il_X10_allot_3 12 rfl) (mmC (mmI il_X10_allot_3 13 rfl) (mmC (mmI il_X10_allot_3 14 rfl) (mmC (mmI il_X10_allot_3 15 rfl) (mmC (mmI il_X10_allot_3 16 rfl) (mmC (mmI il_X10_allot_3 17 rfl) (mmC (mmI il_X10_allot_3 18 rfl) (mmC (mmI il_X10_allot_3 19 rfl) (mmC (mmI il_X10_allot_3 20 rfl) (mmC (mmI il_X10_allot_3 21 rfl) (mmC (mmI il_X10_allot_2 0 rfl) (mmC (mmI il_X10_allot_1 23 rfl) (mmC (mmI il_X10_allot_1 21 rfl) (mmC (mmI il_X10_allot_3 22 rfl) (mmC (mmI il_X10_allot_3 23 rfl) (mmC (mmI il_X10_allot_4 0 rfl) mmN)))))))))))))))))))))))) (mmA (mmC (mmI il_X10_allot_4 1 rfl) (mmC (mmI il_X10_allot_4 2 rfl) (mmC (mmI il_X10_allot_4 3 rfl) (mmC (mmI il_X10_allot_4 4 rfl) (mmC (mmI il_X10_allot_4 5 rfl) (mmC (mmI il_X10_allot_4 6 rfl) (mmC (mmI il_X10_allot_4 7 rfl) (mmC (mmI il_X10_allot_4 8 rfl) (mmC (mmI il_X10_allot_4 9 rfl) (mmC (mmI il_X10_allot_4 10 rfl) (mmC (mmI il_X10_allot_4 11 rfl) (mmC (mmI il_X10_allot_4 12 rfl) (mmC (mmI il_X10_allot_4 13 rfl) (mmC (mmI il_X10_allot_4 14 rfl) (mmC (mmI il_X10_allot_4 15 rfl) (mmC (mmI il_X10_allot_4 16 rfl) (mmC (mmI il_X10_allot_4 17 rfl) (mmC (mmI il_X10_allot_4 18 rfl) (mmC (mmI il_X10_allot_4 19 rfl) (mmC (mmI il_X10_allot_4 20 rfl) (mmC (mmI il_X10_allot_4 21 rfl) (mmC (mmI il_X10_allot_4 22 rfl) (mmC (mmI il_X10_allot_4 23 rfl) (mmC (mmI il_X10_allot_5 0 rfl) mmN)))))))))))))))))))))))) (mmA (mmC (mmI il_X10_allot_5 1 rfl) (mmC (mmI il_X10_allot_5 2 rfl) (mmC (mmI il_X10_allot_5 3 rfl) (mmC (mmI il_X10_allot_5 4 rfl) (mmC (mmI il_X10_allot_5 5 rfl) (mmC (mmI il_X10_allot_5 6 rfl) (mmC (mmI il_X10_allot_5 7 rfl) (mmC (mmI il_X10_allot_5 8 rfl) (mmC (mmI il_X10_allot_5 9 rfl) (mmC (mmI il_X10_allot_5 10 rfl) (mmC (mmI il_X10_allot_5 11 rfl) (mmC (mmI il_X10_allot_5 12 rfl) (mmC (mmI il_X10_allot_5 13 rfl) (mmC (mmI il_X10_allot_1 22 rfl) (mmC (mmI il_X10_allot_5 14 rfl) (mmC (mmI il_X10_allot_5 15 rfl) (mmC (mmI il_X10_allot_5 16 rfl) (mmC (mmI il_X10_allot_5 17 rfl) (mmC (mmI il_X10_allot_5 18 rfl) (mmC (mmI il_X10_allot_5 19 rfl) (mmC (mmI il_X10_allot_5 20 rfl) (mmC (mmI il_X10_allot_5 21 rfl) (mmC (mmI il_X10_allot_5 22 rfl) (mmC (mmI il_X10_allot_5 23 rfl) mmN)))))))))))))))))))))))) (mmA (mmC (mmI il_X10_allot_6 0 rfl) (mmC (mmI il_X10_allot_6 1 rfl) (mmC (mmI il_X10_allot_6 2 rfl) (mmC (mmI il_X10_allot_6 3 rfl) (mmC (mmI il_X10_allot_6 4 rfl) (mmC (mmI il_X10_allot_6 5 rfl) (mmC (mmI il_X10_allot_1 7 rfl) (mmC (mmI il_X10_allot_6 6 rfl) (mmC (mmI il_X10_allot_1 9 rfl) (mmC (mmI il_X10_allot_1 10 rfl) (mmC (mmI il_X10_allot_6 7 rfl) (mmC (mmI il_X10_allot_6 8 rfl) (mmC (mmI il_X10_allot_6 9 rfl) (mmC (mmI il_X10_allot_6 10 rfl) (mmC (mmI il_X10_allot_6 11 rfl) (mmC (mmI il_X10_allot_6 12 rfl) (mmC (mmI il_X10_allot_6 13 rfl) (mmC (mmI il_X10_allot_6 14 rfl) (mmC (mmI il_X10_allot_6 15 rfl) (mmC (mmI il_X10_allot_6 16 rfl) (mmC (mmI il_X10_allot_6 17 rfl) (mmC (mmI il_X10_allot_6 18 rfl) (mmC (mmI il_X10_allot_6 19 rfl) (mmC (mmI il_X10_allot_6 20 rfl) mmN)))))))))))))))))))))))) (mmC (mmI il_X10_allot_6 21 rfl) (mmC (mmI il_X10_allot_6 22 rfl) (mmC (mmI il_X10_allot_6 23 rfl) (mmC (mmI il_X10_allot_7 0 rfl) (mmC (mmI il_X10_allot_7 1 rfl) (mmC (mmI il_X10_allot_7 2 rfl) (mmC (mmI il_X10_allot_7 3 rfl) mmN)))))))))))) il_X10_allot_9) il_X10_allot_8) il_X10_allot_11) il_X10_allot_12) il_X10_allot_13) il_X10_allot_14) il_X10_allot_10)) gw_X10_worthFor
theorem gX10_allot_X10_worthFor : GoodIn wsX10_allot (wsV RX10 249 RX10 yX10_worthFor wsX10_worthFor) := goodIn_app (goodIn_sub (mmC (mmI il_X10_allot_2 2 rfl) (mmC (mmI il_X10_allot_2 3 rfl) (mmC (mmI il_X10_allot_2 4 rfl) (mmC (mmI il_X10_allot_1 7 rfl) mmN)))) (by decide +kernel)) ggX10_allot_X10_worthFor
theorem dX10_allot_0 : decode cX10_allot 0 = .ok (.aload_n 0, 1) := by decide +kernel
theorem dX10_allot_1 : decode cX10_allot 1 = .ok (.iload_n 1, 1) := by decide +kernel
theorem dX10_allot_2 : decode cX10_allot 2 = .ok (.invokevirtual 154, 3) := by decide +kernel
theorem dX10_allot_5 : decode cX10_allot 5 = .ok (.astore_n 3, 1) := by decide +kernel
theorem dX10_allot_6 : decode cX10_allot 6 = .ok (.aload_n 3, 1) := by decide +kernel
theorem dX10_allot_7 : decode cX10_allot 7 = .ok (.ifnonnull 9, 3) := by decide +kernel
theorem dX10_allot_10 : decode cX10_allot 10 = .ok (.aload_n 0, 1) := by decide +kernel
theorem dX10_allot_11 : decode cX10_allot 11 = .ok (.iconst (-1), 1) := by decide +kernel
theorem dX10_allot_12 : decode cX10_allot 12 = .ok (.invokevirtual 69, 3) := by decide +kernel
theorem dX10_allot_15 : decode cX10_allot 15 = .ok (.ireturn, 1) := by decide +kernel
theorem dX10_allot_16 : decode cX10_allot 16 = .ok (.aload_n 3, 1) := by decide +kernel
theorem dX10_allot_17 : decode cX10_allot 17 = .ok (.getfield 246, 3) := by decide +kernel
theorem dX10_allot_20 : decode cX10_allot 20 = .ok (.ifCond .ne 10, 3) := by decide +kernel
theorem dX10_allot_23 : decode cX10_allot 23 = .ok (.aload_n 3, 1) := by decide +kernel
theorem dX10_allot_24 : decode cX10_allot 24 = .ok (.invokevirtual 122, 3) := by decide +kernel
theorem dX10_allot_27 : decode cX10_allot 27 = .ok (.ifCond .ne 10, 3) := by decide +kernel
theorem dX10_allot_30 : decode cX10_allot 30 = .ok (.aload_n 0, 1) := by decide +kernel
theorem dX10_allot_31 : decode cX10_allot 31 = .ok (.bipush (-3), 2) := by decide +kernel
theorem dX10_allot_33 : decode cX10_allot 33 = .ok (.invokevirtual 69, 3) := by decide +kernel
theorem dX10_allot_36 : decode cX10_allot 36 = .ok (.ireturn, 1) := by decide +kernel
theorem dX10_allot_37 : decode cX10_allot 37 = .ok (.iload_n 2, 1) := by decide +kernel
theorem dX10_allot_38 : decode cX10_allot 38 = .ok (.iconst 1, 1) := by decide +kernel
theorem dX10_allot_39 : decode cX10_allot 39 = .ok (.if_icmp .ge 10, 3) := by decide +kernel
theorem dX10_allot_42 : decode cX10_allot 42 = .ok (.aload_n 0, 1) := by decide +kernel
theorem dX10_allot_43 : decode cX10_allot 43 = .ok (.bipush (-4), 2) := by decide +kernel
theorem dX10_allot_45 : decode cX10_allot 45 = .ok (.invokevirtual 69, 3) := by decide +kernel
theorem dX10_allot_48 : decode cX10_allot 48 = .ok (.ireturn, 1) := by decide +kernel
theorem dX10_allot_49 : decode cX10_allot 49 = .ok (.iload_n 2, 1) := by decide +kernel
theorem dX10_allot_50 : decode cX10_allot 50 = .ok (.sipush 9999, 3) := by decide +kernel
theorem dX10_allot_53 : decode cX10_allot 53 = .ok (.if_icmp .le 10, 3) := by decide +kernel
theorem dX10_allot_56 : decode cX10_allot 56 = .ok (.aload_n 0, 1) := by decide +kernel
theorem dX10_allot_57 : decode cX10_allot 57 = .ok (.bipush (-6), 2) := by decide +kernel
theorem dX10_allot_59 : decode cX10_allot 59 = .ok (.invokevirtual 69, 3) := by decide +kernel
theorem dX10_allot_62 : decode cX10_allot 62 = .ok (.ireturn, 1) := by decide +kernel
theorem dX10_allot_63 : decode cX10_allot 63 = .ok (.aload_n 0, 1) := by decide +kernel
theorem dX10_allot_64 : decode cX10_allot 64 = .ok (.iconst 3, 1) := by decide +kernel
theorem dX10_allot_65 : decode cX10_allot 65 = .ok (.aload_n 3, 1) := by decide +kernel
theorem dX10_allot_66 : decode cX10_allot 66 = .ok (.aload_n 0, 1) := by decide +kernel
theorem dX10_allot_67 : decode cX10_allot 67 = .ok (.getfield 73, 3) := by decide +kernel
theorem dX10_allot_70 : decode cX10_allot 70 = .ok (.aload_n 0, 1) := by decide +kernel
theorem dX10_allot_71 : decode cX10_allot 71 = .ok (.getfield 73, 3) := by decide +kernel
theorem dX10_allot_74 : decode cX10_allot 74 = .ok (.iload_n 2, 1) := by decide +kernel
theorem dX10_allot_75 : decode cX10_allot 75 = .ok (.iconst 0, 1) := by decide +kernel
theorem dX10_allot_76 : decode cX10_allot 76 = .ok (.invokevirtual 249, 3) := by decide +kernel
theorem dX10_allot_79 : decode cX10_allot 79 = .ok (.i2l, 1) := by decide +kernel
theorem dX10_allot_80 : decode cX10_allot 80 = .ok (.lstore 4, 2) := by decide +kernel
theorem dX10_allot_82 : decode cX10_allot 82 = .ok (.iload_n 2, 1) := by decide +kernel
theorem dX10_allot_83 : decode cX10_allot 83 = .ok (.i2l, 1) := by decide +kernel
theorem dX10_allot_84 : decode cX10_allot 84 = .ok (.aload_n 3, 1) := by decide +kernel
theorem dX10_allot_85 : decode cX10_allot 85 = .ok (.getfield 223, 3) := by decide +kernel
theorem dX10_allot_88 : decode cX10_allot 88 = .ok (.i2l, 1) := by decide +kernel
theorem dX10_allot_89 : decode cX10_allot 89 = .ok (.lload 4, 2) := by decide +kernel
theorem dX10_allot_91 : decode cX10_allot 91 = .ok (.lmul, 1) := by decide +kernel
theorem dX10_allot_92 : decode cX10_allot 92 = .ok (.ldc2_w 253, 3) := by decide +kernel
theorem dX10_allot_95 : decode cX10_allot 95 = .ok (.ldiv, 1) := by decide +kernel
theorem dX10_allot_96 : decode cX10_allot 96 = .ok (.lcmp, 1) := by decide +kernel
theorem dX10_allot_97 : decode cX10_allot 97 = .ok (.ifCond .le 10, 3) := by decide +kernel
theorem dX10_allot_100 : decode cX10_allot 100 = .ok (.aload_n 0, 1) := by decide +kernel
theorem dX10_allot_101 : decode cX10_allot 101 = .ok (.bipush (-6), 2) := by decide +kernel
theorem dX10_allot_103 : decode cX10_allot 103 = .ok (.invokevirtual 69, 3) := by decide +kernel
theorem dX10_allot_106 : decode cX10_allot 106 = .ok (.ireturn, 1) := by decide +kernel
theorem dX10_allot_107 : decode cX10_allot 107 = .ok (.aload_n 3, 1) := by decide +kernel
theorem dX10_allot_108 : decode cX10_allot 108 = .ok (.iload_n 2, 1) := by decide +kernel
theorem dX10_allot_109 : decode cX10_allot 109 = .ok (.putfield 246, 3) := by decide +kernel
theorem dX10_allot_112 : decode cX10_allot 112 = .ok (.iconst 1, 1) := by decide +kernel
theorem dX10_allot_113 : decode cX10_allot 113 = .ok (.ireturn, 1) := by decide +kernel
set_option maxRecDepth 100000 in
theorem ggX10_read_X10_agreementAt : GoodIn wsX10_read wsX10_agreementAt := goodIn_sub (mmC (mmI il_X10_read_1 7 rfl) (mmA (mmC (mmI il_X10_read_1 8 rfl) (mmC (mmI il_X10_read_1 9 rfl) mmN)) il_X10_read_3)) gw_X10_agreementAt
theorem gX10_read_X10_agreementAt : GoodIn wsX10_read (wsV RX10 154 RX10 yX10_agreementAt wsX10_agreementAt) := goodIn_app (goodIn_sub (mmC (mmI il_X10_read_1 3 rfl) (mmC (mmI il_X10_read_1 4 rfl) (mmC (mmI il_X10_read_1 5 rfl) (mmC (mmI il_X10_read_1 6 rfl) mmN)))) (by decide +kernel)) ggX10_read_X10_agreementAt
set_option maxRecDepth 100000 in
theorem ggX10_read_X10_fineAt : GoodIn wsX10_read wsX10_fineAt := goodIn_sub (mmC (mmI il_X10_read_1 12 rfl) (mmA (mmC (mmI il_X10_read_1 13 rfl) (mmC (mmI il_X10_read_1 14 rfl) mmN)) il_X10_read_4)) gw_X10_fineAt
set_option maxRecDepth 20000 in
theorem gX10_read_X10_fineAt : GoodIn wsX10_read (va_wsS RX10 270 yX10_fineAt wsX10_fineAt) := goodIn_app (goodIn_of _ (by decide +kernel)) ggX10_read_X10_fineAt
set_option maxRecDepth 100000 in
theorem ggX10_read_X10_refuse : GoodIn wsX10_read wsX10_refuse := goodIn_sub (mmC (mmI il_X10_read_1 18 rfl) (mmA (mmC (mmI il_X10_read_1 19 rfl) mmN) il_X10_read_3)) gw_X10_refuse
theorem gX10_read_X10_refuse : GoodIn wsX10_read (wsV RX10 69 RX10 yX10_refuse wsX10_refuse) := goodIn_app (goodIn_sub (mmC (mmI il_X10_read_1 15 rfl) (mmC (mmI il_X10_read_1 16 rfl) (mmC (mmI il_X10_read_1 17 rfl) (mmC (mmI il_X10_read_1 6 rfl) mmN)))) (by decide +kernel)) ggX10_read_X10_refuse
theorem dX10_read_0 : decode cX10_read 0 = .ok (.aload_n 0, 1) := by decide +kernel
theorem dX10_read_1 : decode cX10_read 1 = .ok (.iload_n 1, 1) := by decide +kernel
theorem dX10_read_2 : decode cX10_read 2 = .ok (.invokevirtual 154, 3) := by decide +kernel
theorem dX10_read_5 : decode cX10_read 5 = .ok (.iload_n 2, 1) := by decide +kernel
theorem dX10_read_6 : decode cX10_read 6 = .ok (.invokestatic 270, 3) := by decide +kernel
theorem dX10_read_9 : decode cX10_read 9 = .ok (.astore_n 3, 1) := by decide +kernel
theorem dX10_read_10 : decode cX10_read 10 = .ok (.aload_n 3, 1) := by decide +kernel
theorem dX10_read_11 : decode cX10_read 11 = .ok (.ifnonnull 9, 3) := by decide +kernel
theorem dX10_read_14 : decode cX10_read 14 = .ok (.aload_n 0, 1) := by decide +kernel
theorem dX10_read_15 : decode cX10_read 15 = .ok (.iconst (-1), 1) := by decide +kernel
theorem dX10_read_16 : decode cX10_read 16 = .ok (.invokevirtual 69, 3) := by decide +kernel
theorem dX10_read_19 : decode cX10_read 19 = .ok (.ireturn, 1) := by decide +kernel
theorem dX10_read_20 : decode cX10_read 20 = .ok (.aload_n 3, 1) := by decide +kernel
theorem dX10_read_21 : decode cX10_read 21 = .ok (.getfield 274, 3) := by decide +kernel
theorem dX10_read_24 : decode cX10_read 24 = .ok (.ifCond .ne 14, 3) := by decide +kernel
theorem dX10_read_27 : decode cX10_read 27 = .ok (.aload_n 3, 1) := by decide +kernel
theorem dX10_read_28 : decode cX10_read 28 = .ok (.getfield 277, 3) := by decide +kernel
theorem dX10_read_31 : decode cX10_read 31 = .ok (.aload_n 0, 1) := by decide +kernel
theorem dX10_read_32 : decode cX10_read 32 = .ok (.getfield 73, 3) := by decide +kernel
theorem dX10_read_35 : decode cX10_read 35 = .ok (.if_icmp .eq 10, 3) := by decide +kernel
theorem dX10_read_38 : decode cX10_read 38 = .ok (.aload_n 0, 1) := by decide +kernel
theorem dX10_read_39 : decode cX10_read 39 = .ok (.bipush (-3), 2) := by decide +kernel
theorem dX10_read_41 : decode cX10_read 41 = .ok (.invokevirtual 69, 3) := by decide +kernel
theorem dX10_read_44 : decode cX10_read 44 = .ok (.ireturn, 1) := by decide +kernel
theorem dX10_read_45 : decode cX10_read 45 = .ok (.aload_n 3, 1) := by decide +kernel
theorem dX10_read_46 : decode cX10_read 46 = .ok (.iconst 1, 1) := by decide +kernel
theorem dX10_read_47 : decode cX10_read 47 = .ok (.putfield 274, 3) := by decide +kernel
theorem dX10_read_50 : decode cX10_read 50 = .ok (.iconst 1, 1) := by decide +kernel
theorem dX10_read_51 : decode cX10_read 51 = .ok (.ireturn, 1) := by decide +kernel
set_option maxRecDepth 100000 in
theorem ggX10_stands_X10_agreementAt : GoodIn wsX10_stands wsX10_agreementAt := goodIn_sub (mmC (mmI il_X10_stands_1 5 rfl) (mmA (mmC (mmI il_X10_stands_1 6 rfl) (mmC (mmI il_X10_stands_1 7 rfl) mmN)) il_X10_stands_8)) gw_X10_agreementAt
theorem gX10_stands_X10_agreementAt : GoodIn wsX10_stands (wsV RX10 154 RX10 yX10_agreementAt wsX10_agreementAt) := goodIn_app (goodIn_sub (mmC (mmI il_X10_stands_1 1 rfl) (mmC (mmI il_X10_stands_1 2 rfl) (mmC (mmI il_X10_stands_1 3 rfl) (mmC (mmI il_X10_stands_1 4 rfl) mmN)))) (by decide +kernel)) ggX10_stands_X10_agreementAt
set_option maxRecDepth 100000 in
theorem ggX10_stands_X10_fineAt : GoodIn wsX10_stands wsX10_fineAt := goodIn_sub (mmC (mmI il_X10_stands_1 10 rfl) (mmA (mmC (mmI il_X10_stands_1 11 rfl) (mmC (mmI il_X10_stands_1 12 rfl) mmN)) il_X10_stands_9)) gw_X10_fineAt
set_option maxRecDepth 20000 in
theorem gX10_stands_X10_fineAt : GoodIn wsX10_stands (va_wsS RX10 270 yX10_fineAt wsX10_fineAt) := goodIn_app (goodIn_of _ (by decide +kernel)) ggX10_stands_X10_fineAt
set_option maxRecDepth 100000 in
theorem ggX10_stands_X10_refuse : GoodIn wsX10_stands wsX10_refuse := goodIn_sub (mmC (mmI il_X10_stands_1 16 rfl) (mmA (mmC (mmI il_X10_stands_1 17 rfl) mmN) il_X10_stands_8)) gw_X10_refuse
theorem gX10_stands_X10_refuse : GoodIn wsX10_stands (wsV RX10 69 RX10 yX10_refuse wsX10_refuse) := goodIn_app (goodIn_sub (mmC (mmI il_X10_stands_1 13 rfl) (mmC (mmI il_X10_stands_1 14 rfl) (mmC (mmI il_X10_stands_1 15 rfl) (mmC (mmI il_X10_stands_1 4 rfl) mmN)))) (by decide +kernel)) ggX10_stands_X10_refuse
set_option maxRecDepth 100000 in
theorem ggX10_stands_X10_standing : GoodIn wsX10_stands wsX10_standing := goodIn_sub (mmC (mmI il_X10_stands_1 21 rfl) (mmA (mmA (mmA (mmA (mmA (mmA (mmA (mmA (mmA (mmC (mmI il_X10_stands_1 22 rfl) (mmC (mmI il_X10_stands_1 23 rfl) (mmC (mmI il_X10_stands_2 0 rfl) (mmC (mmI il_X10_stands_2 1 rfl) (mmC (mmI il_X10_stands_2 2 rfl) (mmC (mmI il_X10_stands_2 3 rfl) (mmC (mmI il_X10_stands_2 4 rfl) (mmC (mmI il_X10_stands_2 5 rfl) (mmC (mmI il_X10_stands_2 6 rfl) (mmC (mmI il_X10_stands_2 7 rfl) (mmC (mmI il_X10_stands_2 8 rfl) (mmC (mmI il_X10_stands_2 9 rfl) (mmC (mmI il_X10_stands_2 10 rfl) (mmC (mmI il_X10_stands_1 4 rfl) (mmC (mmI il_X10_stands_2 11 rfl) (mmC (mmI il_X10_stands_2 12 rfl) (mmC (mmI il_X10_stands_2 13 rfl) (mmC (mmI il_X10_stands_2 14 rfl) (mmC (mmI il_X10_stands_2 15 rfl) (mmC (mmI il_X10_stands_2 16 rfl) (mmC (mmI il_X10_stands_2 17 rfl) (mmC (mmI il_X10_stands_2 18 rfl) (mmC (mmI il_X10_stands_2 19 rfl) (mmC (mmI il_X10_stands_2 20 rfl) mmN)))))))))))))))))))))))) (mmA (mmC (mmI il_X10_stands_2 21 rfl) (mmC (mmI il_X10_stands_2 22 rfl) (mmC (mmI il_X10_stands_2 23 rfl) (mmC (mmI il_X10_stands_3 0 rfl) (mmC (mmI il_X10_stands_3 1 rfl) (mmC (mmI il_X10_stands_3 2 rfl) (mmC (mmI il_X10_stands_3 3 rfl) (mmC (mmI il_X10_stands_3 4 rfl) (mmC (mmI il_X10_stands_3 5 rfl) (mmC (mmI il_X10_stands_3 6 rfl) (mmC (mmI il_X10_stands_3 7 rfl) (mmC (mmI il_X10_stands_3 8 rfl) (mmC (mmI il_X10_stands_3 9 rfl) (mmC (mmI il_X10_stands_3 10 rfl) (mmC (mmI il_X10_stands_3 11 rfl) (mmC (mmI il_X10_stands_3 12 rfl) (mmC (mmI il_X10_stands_3 13 rfl) (mmC (mmI il_X10_stands_3 14 rfl) (mmC (mmI il_X10_stands_3 15 rfl) (mmC (mmI il_X10_stands_3 16 rfl) (mmC (mmI il_X10_stands_3 17 rfl) (mmC (mmI il_X10_stands_3 18 rfl) (mmC (mmI il_X10_stands_3 19 rfl) (mmC (mmI il_X10_stands_3 20 rfl) mmN)))))))))))))))))))))))) (mmA (mmC (mmI il_X10_stands_3 21 rfl) (mmC (mmI il_X10_stands_3 22 rfl) (mmC (mmI il_X10_stands_3 23 rfl) (mmC (mmI il_X10_stands_4 0 rfl) (mmC (mmI il_X10_stands_4 1 rfl) (mmC (mmI il_X10_stands_4 2 rfl) (mmC (mmI il_X10_stands_4 3 rfl) (mmC (mmI il_X10_stands_4 4 rfl) (mmC (mmI il_X10_stands_4 5 rfl) (mmC (mmI il_X10_stands_4 6 rfl) (mmC (mmI il_X10_stands_4 7 rfl) (mmC (mmI il_X10_stands_4 8 rfl) (mmC (mmI il_X10_stands_4 9 rfl) (mmC (mmI il_X10_stands_4 10 rfl) (mmC (mmI il_X10_stands_4 11 rfl) (mmC (mmI il_X10_stands_4 12 rfl) (mmC (mmI il_X10_stands_4 13 rfl) (mmC (mmI il_X10_stands_4 14 rfl) (mmC (mmI il_X10_stands_4 15 rfl) (mmC (mmI il_X10_stands_4 16 rfl) (mmC (mmI il_X10_stands_4 17 rfl) (mmC (mmI il_X10_stands_4 18 rfl) (mmC (mmI il_X10_stands_4 19 rfl) (mmC (mmI il_X10_stands_4 20 rfl) mmN)))))))))))))))))))))))) (mmA (mmC (mmI il_X10_stands_4 21 rfl) (mmC (mmI il_X10_stands_4 22 rfl) (mmC (mmI il_X10_stands_4 23 rfl) (mmC (mmI il_X10_stands_5 0 rfl) (mmC (mmI il_X10_stands_5 1 rfl) (mmC (mmI il_X10_stands_5 2 rfl) (mmC (mmI il_X10_stands_5 3 rfl) (mmC (mmI il_X10_stands_5 4 rfl) (mmC (mmI il_X10_stands_5 5 rfl) (mmC (mmI il_X10_stands_5 6 rfl) (mmC (mmI il_X10_stands_5 7 rfl) (mmC (mmI il_X10_stands_5 8 rfl) (mmC (mmI il_X10_stands_5 9 rfl) (mmC (mmI il_X10_stands_5 10 rfl) (mmC (mmI il_X10_stands_5 11 rfl) (mmC (mmI il_X10_stands_5 12 rfl) (mmC (mmI il_X10_stands_5 13 rfl) (mmC (mmI il_X10_stands_5 14 rfl) (mmC (mmI il_X10_stands_5 15 rfl) (mmC (mmI il_X10_stands_5 16 rfl) (mmC (mmI il_X10_stands_5 17 rfl) (mmC (mmI il_X10_stands_5 18 rfl) (mmC (mmI il_X10_stands_5 19 rfl) (mmC (mmI il_X10_stands_5 20 rfl) mmN)))))))))))))))))))))))) (mmA (mmC (mmI il_X10_stands_5 21 rfl) (mmC (mmI il_X10_stands_5 22 rfl) (mmC (mmI il_X10_stands_5 23 rfl) (mmC (mmI il_X10_stands_6 0 rfl) (mmC (mmI il_X10_stands_6 1 rfl) (mmC (mmI il_X10_stands_6 2 rfl) (mmC (mmI il_X10_stands_6 3 rfl) (mmC (mmI il_X10_stands_6 4 rfl) (mmC (mmI il_X10_stands_6 5 rfl) (mmC (mmI il_X10_stands_6 6 rfl) (mmC (mmI il_X10_stands_6 7 rfl) (mmC (mmI il_X10_stands_6 8 rfl) (mmC (mmI il_X10_stands_6 9 rfl) (mmC (mmI il_X10_stands_6 10 rfl) (mmC (mmI il_X10_stands_6 11 rfl) (mmC (mmI il_X10_stands_6 12 rfl) (mmC (mmI il_X10_stands_6 13 rfl) (mmC (mmI il_X10_stands_6 14 rfl) (mmC (mmI il_X10_stands_6 15 rfl) (mmC (mmI il_X10_stands_1 6 rfl) (mmC (mmI il_X10_stands_1 7 rfl) (mmC (mmI il_X10_stands_6 16 rfl) (mmC (mmI il_X10_stands_6 17 rfl) (mmC (mmI il_X10_stands_6 18 rfl) mmN)))))))))))))))))))))))) (mmC (mmI il_X10_stands_6 19 rfl) (mmC (mmI il_X10_stands_6 20 rfl) (mmC (mmI il_X10_stands_6 21 rfl) (mmC (mmI il_X10_stands_6 22 rfl) (mmC (mmI il_X10_stands_6 23 rfl) (mmC (mmI il_X10_stands_7 0 rfl) (mmC (mmI il_X10_stands_7 1 rfl) (mmC (mmI il_X10_stands_7 2 rfl) (mmC (mmI il_X10_stands_7 3 rfl) (mmC (mmI il_X10_stands_7 4 rfl) (mmC (mmI il_X10_stands_7 5 rfl) (mmC (mmI il_X10_stands_7 6 rfl) (mmC (mmI il_X10_stands_7 7 rfl) (mmC (mmI il_X10_stands_7 8 rfl) (mmC (mmI il_X10_stands_7 9 rfl) (mmC (mmI il_X10_stands_7 10 rfl) (mmC (mmI il_X10_stands_7 11 rfl) (mmC (mmI il_X10_stands_7 12 rfl) mmN))))))))))))))))))))))) il_X10_stands_10) il_X10_stands_8) il_X10_stands_9) il_X10_stands_11) il_X10_stands_12) il_X10_stands_13) il_X10_stands_14) il_X10_stands_15)) gw_X10_standing
theorem gX10_stands_X10_standing : GoodIn wsX10_stands (wsV RX10 280 RX10 yX10_standing wsX10_standing) := goodIn_app (goodIn_sub (mmC (mmI il_X10_stands_1 18 rfl) (mmC (mmI il_X10_stands_1 19 rfl) (mmC (mmI il_X10_stands_1 20 rfl) (mmC (mmI il_X10_stands_1 4 rfl) mmN)))) (by decide +kernel)) ggX10_stands_X10_standing
theorem dX10_stands_0 : decode cX10_stands 0 = .ok (.aload_n 0, 1) := by decide +kernel
theorem dX10_stands_1 : decode cX10_stands 1 = .ok (.iload_n 1, 1) := by decide +kernel
theorem dX10_stands_2 : decode cX10_stands 2 = .ok (.invokevirtual 154, 3) := by decide +kernel
theorem dX10_stands_5 : decode cX10_stands 5 = .ok (.astore 4, 2) := by decide +kernel
theorem dX10_stands_7 : decode cX10_stands 7 = .ok (.aload 4, 2) := by decide +kernel
theorem dX10_stands_9 : decode cX10_stands 9 = .ok (.iload_n 2, 1) := by decide +kernel
theorem dX10_stands_10 : decode cX10_stands 10 = .ok (.invokestatic 270, 3) := by decide +kernel
theorem dX10_stands_13 : decode cX10_stands 13 = .ok (.astore 5, 2) := by decide +kernel
theorem dX10_stands_15 : decode cX10_stands 15 = .ok (.aload 4, 2) := by decide +kernel
theorem dX10_stands_17 : decode cX10_stands 17 = .ok (.ifnull 8, 3) := by decide +kernel
theorem dX10_stands_20 : decode cX10_stands 20 = .ok (.aload 5, 2) := by decide +kernel
theorem dX10_stands_22 : decode cX10_stands 22 = .ok (.ifnonnull 9, 3) := by decide +kernel
theorem dX10_stands_25 : decode cX10_stands 25 = .ok (.aload_n 0, 1) := by decide +kernel
theorem dX10_stands_26 : decode cX10_stands 26 = .ok (.iconst (-1), 1) := by decide +kernel
theorem dX10_stands_27 : decode cX10_stands 27 = .ok (.invokevirtual 69, 3) := by decide +kernel
theorem dX10_stands_30 : decode cX10_stands 30 = .ok (.ireturn, 1) := by decide +kernel
theorem dX10_stands_31 : decode cX10_stands 31 = .ok (.iload_n 3, 1) := by decide +kernel
theorem dX10_stands_32 : decode cX10_stands 32 = .ok (.ifCond .ge 10, 3) := by decide +kernel
theorem dX10_stands_35 : decode cX10_stands 35 = .ok (.aload_n 0, 1) := by decide +kernel
theorem dX10_stands_36 : decode cX10_stands 36 = .ok (.bipush (-4), 2) := by decide +kernel
theorem dX10_stands_38 : decode cX10_stands 38 = .ok (.invokevirtual 69, 3) := by decide +kernel
theorem dX10_stands_41 : decode cX10_stands 41 = .ok (.ireturn, 1) := by decide +kernel
theorem dX10_stands_42 : decode cX10_stands 42 = .ok (.iload_n 3, 1) := by decide +kernel
theorem dX10_stands_43 : decode cX10_stands 43 = .ok (.aload_n 0, 1) := by decide +kernel
theorem dX10_stands_44 : decode cX10_stands 44 = .ok (.getfield 73, 3) := by decide +kernel
theorem dX10_stands_47 : decode cX10_stands 47 = .ok (.if_icmp .le 10, 3) := by decide +kernel
theorem dX10_stands_50 : decode cX10_stands 50 = .ok (.aload_n 0, 1) := by decide +kernel
theorem dX10_stands_51 : decode cX10_stands 51 = .ok (.bipush (-6), 2) := by decide +kernel
theorem dX10_stands_53 : decode cX10_stands 53 = .ok (.invokevirtual 69, 3) := by decide +kernel
theorem dX10_stands_56 : decode cX10_stands 56 = .ok (.ireturn, 1) := by decide +kernel
theorem dX10_stands_57 : decode cX10_stands 57 = .ok (.aload_n 0, 1) := by decide +kernel
theorem dX10_stands_58 : decode cX10_stands 58 = .ok (.aload 4, 2) := by decide +kernel
theorem dX10_stands_60 : decode cX10_stands 60 = .ok (.aload 5, 2) := by decide +kernel
theorem dX10_stands_62 : decode cX10_stands 62 = .ok (.iload_n 3, 1) := by decide +kernel
theorem dX10_stands_63 : decode cX10_stands 63 = .ok (.invokevirtual 280, 3) := by decide +kernel
theorem dX10_stands_66 : decode cX10_stands 66 = .ok (.ireturn, 1) := by decide +kernel
set_option maxRecDepth 100000 in
theorem ggX10_rations_X10_agreementAt : GoodIn wsX10_rations wsX10_agreementAt := goodIn_sub (mmC (mmI il_X10_rations_1 7 rfl) (mmA (mmC (mmI il_X10_rations_1 8 rfl) (mmC (mmI il_X10_rations_1 9 rfl) mmN)) il_X10_rations_3)) gw_X10_agreementAt
theorem gX10_rations_X10_agreementAt : GoodIn wsX10_rations (wsV RX10 154 RX10 yX10_agreementAt wsX10_agreementAt) := goodIn_app (goodIn_sub (mmC (mmI il_X10_rations_1 3 rfl) (mmC (mmI il_X10_rations_1 4 rfl) (mmC (mmI il_X10_rations_1 5 rfl) (mmC (mmI il_X10_rations_1 6 rfl) mmN)))) (by decide +kernel)) ggX10_rations_X10_agreementAt
set_option maxRecDepth 100000 in
theorem ggX10_rations_X10_refuse : GoodIn wsX10_rations wsX10_refuse := goodIn_sub (mmC (mmI il_X10_rations_1 13 rfl) (mmA (mmC (mmI il_X10_rations_1 14 rfl) mmN) il_X10_rations_3)) gw_X10_refuse
theorem gX10_rations_X10_refuse : GoodIn wsX10_rations (wsV RX10 69 RX10 yX10_refuse wsX10_refuse) := goodIn_app (goodIn_sub (mmC (mmI il_X10_rations_1 10 rfl) (mmC (mmI il_X10_rations_1 11 rfl) (mmC (mmI il_X10_rations_1 12 rfl) (mmC (mmI il_X10_rations_1 6 rfl) mmN)))) (by decide +kernel)) ggX10_rations_X10_refuse
set_option maxRecDepth 100000 in
theorem ggX10_rations_X1_addShort : GoodIn wsX10_rations wsX1_addShort := goodIn_sub (mmC (mmI il_X10_rations_1 19 rfl) (mmA (mmC (mmI il_X10_rations_1 20 rfl) (mmC (mmI il_X10_rations_1 21 rfl) (mmC (mmI il_X10_rations_1 22 rfl) (mmC (mmI il_X10_rations_1 23 rfl) mmN)))) il_X10_rations_2)) gw_X1_addShort
theorem gX10_rations_X1_addShort : GoodIn wsX10_rations (wsV RX10 290 RX1 yX1_addShort wsX1_addShort) := goodIn_app (goodIn_sub (mmC (mmI il_X10_rations_1 15 rfl) (mmC (mmI il_X10_rations_1 16 rfl) (mmC (mmI il_X10_rations_1 17 rfl) (mmC (mmI il_X10_rations_1 18 rfl) mmN)))) (by decide +kernel)) ggX10_rations_X1_addShort
theorem dX10_rations_0 : decode cX10_rations 0 = .ok (.aload_n 0, 1) := by decide +kernel
theorem dX10_rations_1 : decode cX10_rations 1 = .ok (.iload_n 1, 1) := by decide +kernel
theorem dX10_rations_2 : decode cX10_rations 2 = .ok (.invokevirtual 154, 3) := by decide +kernel
theorem dX10_rations_5 : decode cX10_rations 5 = .ok (.astore 4, 2) := by decide +kernel
theorem dX10_rations_7 : decode cX10_rations 7 = .ok (.aload 4, 2) := by decide +kernel
theorem dX10_rations_9 : decode cX10_rations 9 = .ok (.ifnonnull 9, 3) := by decide +kernel
theorem dX10_rations_12 : decode cX10_rations 12 = .ok (.aload_n 0, 1) := by decide +kernel
theorem dX10_rations_13 : decode cX10_rations 13 = .ok (.iconst (-1), 1) := by decide +kernel
theorem dX10_rations_14 : decode cX10_rations 14 = .ok (.invokevirtual 69, 3) := by decide +kernel
theorem dX10_rations_17 : decode cX10_rations 17 = .ok (.ireturn, 1) := by decide +kernel
theorem dX10_rations_18 : decode cX10_rations 18 = .ok (.iload_n 2, 1) := by decide +kernel
theorem dX10_rations_19 : decode cX10_rations 19 = .ok (.iconst 1, 1) := by decide +kernel
theorem dX10_rations_20 : decode cX10_rations 20 = .ok (.if_icmp .lt 8, 3) := by decide +kernel
theorem dX10_rations_23 : decode cX10_rations 23 = .ok (.iload_n 3, 1) := by decide +kernel
theorem dX10_rations_24 : decode cX10_rations 24 = .ok (.iconst 1, 1) := by decide +kernel
theorem dX10_rations_25 : decode cX10_rations 25 = .ok (.if_icmp .ge 10, 3) := by decide +kernel
theorem dX10_rations_28 : decode cX10_rations 28 = .ok (.aload_n 0, 1) := by decide +kernel
theorem dX10_rations_29 : decode cX10_rations 29 = .ok (.bipush (-4), 2) := by decide +kernel
theorem dX10_rations_31 : decode cX10_rations 31 = .ok (.invokevirtual 69, 3) := by decide +kernel
theorem dX10_rations_34 : decode cX10_rations 34 = .ok (.ireturn, 1) := by decide +kernel
theorem dX10_rations_35 : decode cX10_rations 35 = .ok (.iload_n 2, 1) := by decide +kernel
theorem dX10_rations_36 : decode cX10_rations 36 = .ok (.sipush 999, 3) := by decide +kernel
theorem dX10_rations_39 : decode cX10_rations 39 = .ok (.aload 4, 2) := by decide +kernel
theorem dX10_rations_41 : decode cX10_rations 41 = .ok (.getfield 284, 3) := by decide +kernel
theorem dX10_rations_44 : decode cX10_rations 44 = .ok (.isub, 1) := by decide +kernel
theorem dX10_rations_45 : decode cX10_rations 45 = .ok (.if_icmp .gt 19, 3) := by decide +kernel
theorem dX10_rations_48 : decode cX10_rations 48 = .ok (.iload_n 3, 1) := by decide +kernel
theorem dX10_rations_49 : decode cX10_rations 49 = .ok (.bipush 99, 2) := by decide +kernel
theorem dX10_rations_51 : decode cX10_rations 51 = .ok (.if_icmp .gt 13, 3) := by decide +kernel
theorem dX10_rations_54 : decode cX10_rations 54 = .ok (.aload 4, 2) := by decide +kernel
theorem dX10_rations_56 : decode cX10_rations 56 = .ok (.getfield 287, 3) := by decide +kernel
theorem dX10_rations_59 : decode cX10_rations 59 = .ok (.bipush 20, 2) := by decide +kernel
theorem dX10_rations_61 : decode cX10_rations 61 = .ok (.if_icmp .lt 10, 3) := by decide +kernel
theorem dX10_rations_64 : decode cX10_rations 64 = .ok (.aload_n 0, 1) := by decide +kernel
theorem dX10_rations_65 : decode cX10_rations 65 = .ok (.bipush (-6), 2) := by decide +kernel
theorem dX10_rations_67 : decode cX10_rations 67 = .ok (.invokevirtual 69, 3) := by decide +kernel
theorem dX10_rations_70 : decode cX10_rations 70 = .ok (.ireturn, 1) := by decide +kernel
theorem dX10_rations_71 : decode cX10_rations 71 = .ok (.aload 4, 2) := by decide +kernel
theorem dX10_rations_73 : decode cX10_rations 73 = .ok (.iload_n 2, 1) := by decide +kernel
theorem dX10_rations_74 : decode cX10_rations 74 = .ok (.iload_n 3, 1) := by decide +kernel
theorem dX10_rations_75 : decode cX10_rations 75 = .ok (.aload_n 0, 1) := by decide +kernel
theorem dX10_rations_76 : decode cX10_rations 76 = .ok (.getfield 73, 3) := by decide +kernel
theorem dX10_rations_79 : decode cX10_rations 79 = .ok (.invokevirtual 290, 3) := by decide +kernel
theorem dX10_rations_82 : decode cX10_rations 82 = .ok (.aload 4, 2) := by decide +kernel
theorem dX10_rations_84 : decode cX10_rations 84 = .ok (.getfield 284, 3) := by decide +kernel
theorem dX10_rations_87 : decode cX10_rations 87 = .ok (.ireturn, 1) := by decide +kernel
set_option maxRecDepth 100000 in
theorem ggX10_owed_X10_agreementAt : GoodIn wsX10_owed wsX10_agreementAt := goodIn_sub (mmC (mmI il_X10_owed_1 5 rfl) (mmA (mmC (mmI il_X10_owed_1 6 rfl) (mmC (mmI il_X10_owed_1 7 rfl) mmN)) il_X10_owed_10)) gw_X10_agreementAt
theorem gX10_owed_X10_agreementAt : GoodIn wsX10_owed (wsV RX10 154 RX10 yX10_agreementAt wsX10_agreementAt) := goodIn_app (goodIn_sub (mmC (mmI il_X10_owed_1 1 rfl) (mmC (mmI il_X10_owed_1 2 rfl) (mmC (mmI il_X10_owed_1 3 rfl) (mmC (mmI il_X10_owed_1 4 rfl) mmN)))) (by decide +kernel)) ggX10_owed_X10_agreementAt
set_option maxRecDepth 100000 in
theorem ggX10_owed_X10_refuse : GoodIn wsX10_owed wsX10_refuse := goodIn_sub (mmC (mmI il_X10_owed_1 11 rfl) (mmA (mmC (mmI il_X10_owed_1 12 rfl) mmN) il_X10_owed_10)) gw_X10_refuse
theorem gX10_owed_X10_refuse : GoodIn wsX10_owed (wsV RX10 69 RX10 yX10_refuse wsX10_refuse) := goodIn_app (goodIn_sub (mmC (mmI il_X10_owed_1 8 rfl) (mmC (mmI il_X10_owed_1 9 rfl) (mmC (mmI il_X10_owed_1 10 rfl) (mmC (mmI il_X10_owed_1 4 rfl) mmN)))) (by decide +kernel)) ggX10_owed_X10_refuse
set_option maxRecDepth 100000 in
theorem ggX10_owed_X10_askRefusal : GoodIn wsX10_owed wsX10_askRefusal := goodIn_sub (mmC (mmI il_X10_owed_1 16 rfl) (mmA (mmC (mmI il_X10_owed_1 17 rfl) mmN) il_X10_owed_10)) gw_X10_askRefusal
theorem gX10_owed_X10_askRefusal : GoodIn wsX10_owed (wsV RX10 229 RX10 yX10_askRefusal wsX10_askRefusal) := goodIn_app (goodIn_sub (mmC (mmI il_X10_owed_1 13 rfl) (mmC (mmI il_X10_owed_1 14 rfl) (mmC (mmI il_X10_owed_1 15 rfl) (mmC (mmI il_X10_owed_1 4 rfl) mmN)))) (by decide +kernel)) ggX10_owed_X10_askRefusal
set_option maxRecDepth 100000 in
theorem ggX10_owed_X10_owedOn : GoodIn wsX10_owed wsX10_owedOn := goodIn_sub (mmC (mmI il_X10_owed_1 21 rfl) (mmA (mmA (mmA (mmA (mmA (mmA (mmA (mmA (mmA (mmC (mmI il_X10_owed_1 22 rfl) (mmC (mmI il_X10_owed_1 23 rfl) (mmC (mmI il_X10_owed_2 0 rfl) (mmC (mmI il_X10_owed_2 1 rfl) (mmC (mmI il_X10_owed_2 2 rfl) (mmC (mmI il_X10_owed_2 3 rfl) (mmC (mmI il_X10_owed_2 4 rfl) (mmC (mmI il_X10_owed_2 5 rfl) (mmC (mmI il_X10_owed_2 6 rfl) (mmC (mmI il_X10_owed_2 7 rfl) (mmC (mmI il_X10_owed_2 8 rfl) (mmC (mmI il_X10_owed_2 9 rfl) (mmC (mmI il_X10_owed_2 10 rfl) (mmC (mmI il_X10_owed_2 11 rfl) (mmC (mmI il_X10_owed_2 12 rfl) (mmC (mmI il_X10_owed_2 13 rfl) (mmC (mmI il_X10_owed_2 14 rfl) (mmC (mmI il_X10_owed_2 15 rfl) (mmC (mmI il_X10_owed_2 16 rfl) (mmC (mmI il_X10_owed_2 17 rfl) (mmC (mmI il_X10_owed_2 18 rfl) (mmC (mmI il_X10_owed_2 19 rfl) (mmC (mmI il_X10_owed_2 20 rfl) (mmC (mmI il_X10_owed_2 21 rfl) mmN)))))))))))))))))))))))) (mmA (mmC (mmI il_X10_owed_2 22 rfl) (mmC (mmI il_X10_owed_2 23 rfl) (mmC (mmI il_X10_owed_3 0 rfl) (mmC (mmI il_X10_owed_3 1 rfl) (mmC (mmI il_X10_owed_3 2 rfl) (mmC (mmI il_X10_owed_3 3 rfl) (mmC (mmI il_X10_owed_3 4 rfl) (mmC (mmI il_X10_owed_3 5 rfl) (mmC (mmI il_X10_owed_3 6 rfl) (mmC (mmI il_X10_owed_3 7 rfl) (mmC (mmI il_X10_owed_3 8 rfl) (mmC (mmI il_X10_owed_3 9 rfl) (mmC (mmI il_X10_owed_3 10 rfl) (mmC (mmI il_X10_owed_3 11 rfl) (mmC (mmI il_X10_owed_3 12 rfl) (mmC (mmI il_X10_owed_3 13 rfl) (mmC (mmI il_X10_owed_3 14 rfl) (mmC (mmI il_X10_owed_3 15 rfl) (mmC (mmI il_X10_owed_3 16 rfl) (mmC (mmI il_X10_owed_3 17 rfl) (mmC (mmI il_X10_owed_3 18 rfl) (mmC (mmI il_X10_owed_3 19 rfl) (mmC (mmI il_X10_owed_3 20 rfl) (mmC (mmI il_X10_owed_3 21 rfl) mmN)))))))))))))))))))))))) (mmA (mmC (mmI il_X10_owed_3 22 rfl) (mmC (mmI il_X10_owed_3 23 rfl) (mmC (mmI il_X10_owed_4 0 rfl) (mmC (mmI il_X10_owed_4 1 rfl) (mmC (mmI il_X10_owed_4 2 rfl) (mmC (mmI il_X10_owed_4 3 rfl) (mmC (mmI il_X10_owed_4 4 rfl) (mmC (mmI il_X10_owed_4 5 rfl) (mmC (mmI il_X10_owed_4 6 rfl) (mmC (mmI il_X10_owed_4 7 rfl) (mmC (mmI il_X10_owed_4 8 rfl) (mmC (mmI il_X10_owed_4 9 rfl) (mmC (mmI il_X10_owed_4 10 rfl) (mmC (mmI il_X10_owed_4 11 rfl) (mmC (mmI il_X10_owed_4 12 rfl) (mmC (mmI il_X10_owed_4 13 rfl) (mmC (mmI il_X10_owed_4 14 rfl) (mmC (mmI il_X10_owed_4 15 rfl) (mmC (mmI il_X10_owed_4 16 rfl) (mmC (mmI il_X10_owed_4 17 rfl) (mmC (mmI il_X10_owed_4 18 rfl) (mmC (mmI il_X10_owed_4 19 rfl) (mmC (mmI il_X10_owed_4 20 rfl) (mmC (mmI il_X10_owed_4 21 rfl) mmN)))))))))))))))))))))))) (mmA (mmC (mmI il_X10_owed_4 22 rfl) (mmC (mmI il_X10_owed_4 23 rfl) (mmC (mmI il_X10_owed_5 0 rfl) (mmC (mmI il_X10_owed_5 1 rfl) (mmC (mmI il_X10_owed_5 2 rfl) (mmC (mmI il_X10_owed_5 3 rfl) (mmC (mmI il_X10_owed_5 4 rfl) (mmC (mmI il_X10_owed_5 5 rfl) (mmC (mmI il_X10_owed_5 6 rfl) (mmC (mmI il_X10_owed_5 7 rfl) (mmC (mmI il_X10_owed_5 8 rfl) (mmC (mmI il_X10_owed_5 9 rfl) (mmC (mmI il_X10_owed_5 10 rfl) (mmC (mmI il_X10_owed_5 11 rfl) (mmC (mmI il_X10_owed_5 12 rfl) (mmC (mmI il_X10_owed_5 13 rfl) (mmC (mmI il_X10_owed_5 14 rfl) (mmC (mmI il_X10_owed_5 15 rfl) (mmC (mmI il_X10_owed_5 16 rfl) (mmC (mmI il_X10_owed_5 17 rfl) (mmC (mmI il_X10_owed_5 18 rfl) (mmC (mmI il_X10_owed_5 19 rfl) (mmC (mmI il_X10_owed_5 20 rfl) (mmC (mmI il_X10_owed_5 21 rfl) mmN)))))))))))))))))))))))) (mmA (mmC (mmI il_X10_owed_5 22 rfl) (mmC (mmI il_X10_owed_5 23 rfl) (mmC (mmI il_X10_owed_6 0 rfl) (mmC (mmI il_X10_owed_6 1 rfl) (mmC (mmI il_X10_owed_6 2 rfl) (mmC (mmI il_X10_owed_6 3 rfl) (mmC (mmI il_X10_owed_6 4 rfl) (mmC (mmI il_X10_owed_6 5 rfl) (mmC (mmI il_X10_owed_6 6 rfl) (mmC (mmI il_X10_owed_6 7 rfl) (mmC (mmI il_X10_owed_6 8 rfl) (mmC (mmI il_X10_owed_6 9 rfl) (mmC (mmI il_X10_owed_6 10 rfl) (mmC (mmI il_X10_owed_6 11 rfl) (mmC (mmI il_X10_owed_1 4 rfl) (mmC (mmI il_X10_owed_6 12 rfl) (mmC (mmI il_X10_owed_6 13 rfl) (mmC (mmI il_X10_owed_6 14 rfl) (mmC (mmI il_X10_owed_6 15 rfl) (mmC (mmI il_X10_owed_6 16 rfl) (mmC (mmI il_X10_owed_6 17 rfl) (mmC (mmI il_X10_owed_6 18 rfl) (mmC (mmI il_X10_owed_6 19 rfl) (mmC (mmI il_X10_owed_6 20 rfl) mmN)))))))))))))))))))))))) (mmA (mmC (mmI il_X10_owed_6 21 rfl) (mmC (mmI il_X10_owed_6 22 rfl) (mmC (mmI il_X10_owed_6 23 rfl) (mmC (mmI il_X10_owed_7 0 rfl) (mmC (mmI il_X10_owed_7 1 rfl) (mmC (mmI il_X10_owed_7 2 rfl) (mmC (mmI il_X10_owed_7 3 rfl) (mmC (mmI il_X10_owed_7 4 rfl) (mmC (mmI il_X10_owed_7 5 rfl) (mmC (mmI il_X10_owed_7 6 rfl) (mmC (mmI il_X10_owed_7 7 rfl) (mmC (mmI il_X10_owed_7 8 rfl) (mmC (mmI il_X10_owed_7 9 rfl) (mmC (mmI il_X10_owed_7 10 rfl) (mmC (mmI il_X10_owed_7 11 rfl) (mmC (mmI il_X10_owed_7 12 rfl) (mmC (mmI il_X10_owed_7 13 rfl) (mmC (mmI il_X10_owed_7 14 rfl) (mmC (mmI il_X10_owed_7 15 rfl) (mmC (mmI il_X10_owed_7 16 rfl) (mmC (mmI il_X10_owed_1 6 rfl) (mmC (mmI il_X10_owed_1 7 rfl) (mmC (mmI il_X10_owed_7 17 rfl) (mmC (mmI il_X10_owed_7 18 rfl) mmN)))))))))))))))))))))))) (mmA (mmC (mmI il_X10_owed_7 19 rfl) (mmC (mmI il_X10_owed_7 20 rfl) (mmC (mmI il_X10_owed_7 21 rfl) (mmC (mmI il_X10_owed_7 22 rfl) (mmC (mmI il_X10_owed_7 23 rfl) (mmC (mmI il_X10_owed_8 0 rfl) (mmC (mmI il_X10_owed_8 1 rfl) (mmC (mmI il_X10_owed_8 2 rfl) (mmC (mmI il_X10_owed_8 3 rfl) (mmC (mmI il_X10_owed_8 4 rfl) (mmC (mmI il_X10_owed_8 5 rfl) (mmC (mmI il_X10_owed_8 6 rfl) (mmC (mmI il_X10_owed_8 7 rfl) (mmC (mmI il_X10_owed_8 8 rfl) (mmC (mmI il_X10_owed_8 9 rfl) (mmC (mmI il_X10_owed_8 10 rfl) (mmC (mmI il_X10_owed_8 11 rfl) (mmC (mmI il_X10_owed_8 12 rfl) (mmC (mmI il_X10_owed_8 13 rfl) (mmC (mmI il_X10_owed_8 14 rfl) (mmC (mmI il_X10_owed_8 15 rfl) (mmC (mmI il_X10_owed_8 16 rfl) (mmC (mmI il_X10_owed_8 17 rfl) (mmC (mmI il_X10_owed_8 18 rfl) mmN)))))))))))))))))))))))) (mmC (mmI il_X10_owed_8 19 rfl) (mmC (mmI il_X10_owed_8 20 rfl) (mmC (mmI il_X10_owed_8 21 rfl) (mmC (mmI il_X10_owed_8 22 rfl) (mmC (mmI il_X10_owed_8 23 rfl) (mmC (mmI il_X10_owed_9 0 rfl) mmN))))))))))))) il_X10_owed_11) il_X10_owed_10) il_X10_owed_12) il_X10_owed_13) il_X10_owed_14) il_X10_owed_15) il_X10_owed_16) il_X10_owed_17)) gw_X10_owedOn
theorem gX10_owed_X10_owedOn : GoodIn wsX10_owed (wsV RX10 295 RX10 yX10_owedOn wsX10_owedOn) := goodIn_app (goodIn_sub (mmC (mmI il_X10_owed_1 18 rfl) (mmC (mmI il_X10_owed_1 19 rfl) (mmC (mmI il_X10_owed_1 20 rfl) (mmC (mmI il_X10_owed_1 4 rfl) mmN)))) (by decide +kernel)) ggX10_owed_X10_owedOn
theorem dX10_owed_0 : decode cX10_owed 0 = .ok (.aload_n 0, 1) := by decide +kernel
theorem dX10_owed_1 : decode cX10_owed 1 = .ok (.iload_n 1, 1) := by decide +kernel
theorem dX10_owed_2 : decode cX10_owed 2 = .ok (.invokevirtual 154, 3) := by decide +kernel
theorem dX10_owed_5 : decode cX10_owed 5 = .ok (.astore 4, 2) := by decide +kernel
theorem dX10_owed_7 : decode cX10_owed 7 = .ok (.aload 4, 2) := by decide +kernel
theorem dX10_owed_9 : decode cX10_owed 9 = .ok (.ifnonnull 13, 3) := by decide +kernel
theorem dX10_owed_12 : decode cX10_owed 12 = .ok (.ldc_w 294, 3) := by decide +kernel
theorem dX10_owed_15 : decode cX10_owed 15 = .ok (.aload_n 0, 1) := by decide +kernel
theorem dX10_owed_16 : decode cX10_owed 16 = .ok (.iconst (-1), 1) := by decide +kernel
theorem dX10_owed_17 : decode cX10_owed 17 = .ok (.invokevirtual 69, 3) := by decide +kernel
theorem dX10_owed_20 : decode cX10_owed 20 = .ok (.isub, 1) := by decide +kernel
theorem dX10_owed_21 : decode cX10_owed 21 = .ok (.ireturn, 1) := by decide +kernel
theorem dX10_owed_22 : decode cX10_owed 22 = .ok (.aload_n 0, 1) := by decide +kernel
theorem dX10_owed_23 : decode cX10_owed 23 = .ok (.iload_n 2, 1) := by decide +kernel
theorem dX10_owed_24 : decode cX10_owed 24 = .ok (.iload_n 3, 1) := by decide +kernel
theorem dX10_owed_25 : decode cX10_owed 25 = .ok (.invokevirtual 229, 3) := by decide +kernel
theorem dX10_owed_28 : decode cX10_owed 28 = .ok (.istore 5, 2) := by decide +kernel
theorem dX10_owed_30 : decode cX10_owed 30 = .ok (.iload 5, 2) := by decide +kernel
theorem dX10_owed_32 : decode cX10_owed 32 = .ok (.ifCond .eq 14, 3) := by decide +kernel
theorem dX10_owed_35 : decode cX10_owed 35 = .ok (.ldc_w 294, 3) := by decide +kernel
theorem dX10_owed_38 : decode cX10_owed 38 = .ok (.aload_n 0, 1) := by decide +kernel
theorem dX10_owed_39 : decode cX10_owed 39 = .ok (.iload 5, 2) := by decide +kernel
theorem dX10_owed_41 : decode cX10_owed 41 = .ok (.invokevirtual 69, 3) := by decide +kernel
theorem dX10_owed_44 : decode cX10_owed 44 = .ok (.isub, 1) := by decide +kernel
theorem dX10_owed_45 : decode cX10_owed 45 = .ok (.ireturn, 1) := by decide +kernel
theorem dX10_owed_46 : decode cX10_owed 46 = .ok (.aload_n 0, 1) := by decide +kernel
theorem dX10_owed_47 : decode cX10_owed 47 = .ok (.aload 4, 2) := by decide +kernel
theorem dX10_owed_49 : decode cX10_owed 49 = .ok (.iload_n 2, 1) := by decide +kernel
theorem dX10_owed_50 : decode cX10_owed 50 = .ok (.iload_n 3, 1) := by decide +kernel
theorem dX10_owed_51 : decode cX10_owed 51 = .ok (.invokevirtual 295, 3) := by decide +kernel
theorem dX10_owed_54 : decode cX10_owed 54 = .ok (.ireturn, 1) := by decide +kernel
set_option maxRecDepth 100000 in
theorem ggX10_agreementOf_X10_agreementAt : GoodIn wsX10_agreementOf wsX10_agreementAt := goodIn_sub (mmC (mmI il_X10_agreementOf_1 16 rfl) (mmA (mmC (mmI il_X10_agreementOf_1 17 rfl) (mmC (mmI il_X10_agreementOf_1 18 rfl) mmN)) il_X10_agreementOf_6)) gw_X10_agreementAt
theorem gX10_agreementOf_X10_agreementAt : GoodIn wsX10_agreementOf (wsV RX10 154 RX10 yX10_agreementAt wsX10_agreementAt) := goodIn_app (goodIn_sub (mmC (mmI il_X10_agreementOf_1 12 rfl) (mmC (mmI il_X10_agreementOf_1 13 rfl) (mmC (mmI il_X10_agreementOf_1 14 rfl) (mmC (mmI il_X10_agreementOf_1 15 rfl) mmN)))) (by decide +kernel)) ggX10_agreementOf_X10_agreementAt
set_option maxRecDepth 100000 in
theorem ggX10_agreementOf_X10_refuse : GoodIn wsX10_agreementOf wsX10_refuse := goodIn_sub (mmC (mmI il_X10_agreementOf_1 22 rfl) (mmA (mmC (mmI il_X10_agreementOf_1 23 rfl) mmN) il_X10_agreementOf_6)) gw_X10_refuse
theorem gX10_agreementOf_X10_refuse : GoodIn wsX10_agreementOf (wsV RX10 69 RX10 yX10_refuse wsX10_refuse) := goodIn_app (goodIn_sub (mmC (mmI il_X10_agreementOf_1 19 rfl) (mmC (mmI il_X10_agreementOf_1 20 rfl) (mmC (mmI il_X10_agreementOf_1 21 rfl) (mmC (mmI il_X10_agreementOf_1 15 rfl) mmN)))) (by decide +kernel)) ggX10_agreementOf_X10_refuse
set_option maxRecDepth 100000 in
theorem ggX10_agreementOf_X1_goesOn : GoodIn wsX10_agreementOf wsX1_goesOn := goodIn_sub (mmC (mmI il_X10_agreementOf_2 4 rfl) (mmA (mmA (mmC (mmI il_X10_agreementOf_2 5 rfl) (mmC (mmI il_X10_agreementOf_2 6 rfl) (mmC (mmI il_X10_agreementOf_2 7 rfl) (mmC (mmI il_X10_agreementOf_2 8 rfl) (mmC (mmI il_X10_agreementOf_2 9 rfl) mmN))))) il_X10_agreementOf_3) il_X10_agreementOf_5)) gw_X1_goesOn
theorem gX10_agreementOf_X1_goesOn : GoodIn wsX10_agreementOf (wsV RX10 122 RX1 yX1_goesOn wsX1_goesOn) := goodIn_app (goodIn_sub (mmC (mmI il_X10_agreementOf_2 0 rfl) (mmC (mmI il_X10_agreementOf_2 1 rfl) (mmC (mmI il_X10_agreementOf_2 2 rfl) (mmC (mmI il_X10_agreementOf_2 3 rfl) mmN)))) (by decide +kernel)) ggX10_agreementOf_X1_goesOn
theorem dX10_agreementOf_0 : decode cX10_agreementOf 0 = .ok (.aload_n 0, 1) := by decide +kernel
theorem dX10_agreementOf_1 : decode cX10_agreementOf 1 = .ok (.iload_n 1, 1) := by decide +kernel
theorem dX10_agreementOf_2 : decode cX10_agreementOf 2 = .ok (.invokevirtual 154, 3) := by decide +kernel
theorem dX10_agreementOf_5 : decode cX10_agreementOf 5 = .ok (.astore_n 3, 1) := by decide +kernel
theorem dX10_agreementOf_6 : decode cX10_agreementOf 6 = .ok (.aload_n 3, 1) := by decide +kernel
theorem dX10_agreementOf_7 : decode cX10_agreementOf 7 = .ok (.ifnonnull 9, 3) := by decide +kernel
theorem dX10_agreementOf_10 : decode cX10_agreementOf 10 = .ok (.aload_n 0, 1) := by decide +kernel
theorem dX10_agreementOf_11 : decode cX10_agreementOf 11 = .ok (.iconst (-1), 1) := by decide +kernel
theorem dX10_agreementOf_12 : decode cX10_agreementOf 12 = .ok (.invokevirtual 69, 3) := by decide +kernel
theorem dX10_agreementOf_15 : decode cX10_agreementOf 15 = .ok (.ireturn, 1) := by decide +kernel
theorem dX10_agreementOf_16 : decode cX10_agreementOf 16 = .ok (.iload_n 2, 1) := by decide +kernel
theorem dX10_agreementOf_17 : decode cX10_agreementOf 17 = .ok (.tableswitch 145 0 9 #[55, 63, 71, 76, 81, 86, 105, 110, 127, 132], 55) := by decide +kernel
theorem dX10_agreementOf_72 : decode cX10_agreementOf 72 = .ok (.aload_n 3, 1) := by decide +kernel
theorem dX10_agreementOf_73 : decode cX10_agreementOf 73 = .ok (.getfield 299, 3) := by decide +kernel
theorem dX10_agreementOf_76 : decode cX10_agreementOf 76 = .ok (.getfield 303, 3) := by decide +kernel
theorem dX10_agreementOf_79 : decode cX10_agreementOf 79 = .ok (.ireturn, 1) := by decide +kernel
theorem dX10_agreementOf_80 : decode cX10_agreementOf 80 = .ok (.aload_n 3, 1) := by decide +kernel
theorem dX10_agreementOf_81 : decode cX10_agreementOf 81 = .ok (.getfield 118, 3) := by decide +kernel
theorem dX10_agreementOf_84 : decode cX10_agreementOf 84 = .ok (.getfield 306, 3) := by decide +kernel
theorem dX10_agreementOf_87 : decode cX10_agreementOf 87 = .ok (.ireturn, 1) := by decide +kernel
theorem dX10_agreementOf_88 : decode cX10_agreementOf 88 = .ok (.aload_n 3, 1) := by decide +kernel
theorem dX10_agreementOf_89 : decode cX10_agreementOf 89 = .ok (.getfield 223, 3) := by decide +kernel
theorem dX10_agreementOf_92 : decode cX10_agreementOf 92 = .ok (.ireturn, 1) := by decide +kernel
theorem dX10_agreementOf_93 : decode cX10_agreementOf 93 = .ok (.aload_n 3, 1) := by decide +kernel
theorem dX10_agreementOf_94 : decode cX10_agreementOf 94 = .ok (.getfield 226, 3) := by decide +kernel
theorem dX10_agreementOf_97 : decode cX10_agreementOf 97 = .ok (.ireturn, 1) := by decide +kernel
theorem dX10_agreementOf_98 : decode cX10_agreementOf 98 = .ok (.aload_n 3, 1) := by decide +kernel
theorem dX10_agreementOf_99 : decode cX10_agreementOf 99 = .ok (.getfield 255, 3) := by decide +kernel
theorem dX10_agreementOf_102 : decode cX10_agreementOf 102 = .ok (.ireturn, 1) := by decide +kernel
theorem dX10_agreementOf_103 : decode cX10_agreementOf 103 = .ok (.aload_n 3, 1) := by decide +kernel
theorem dX10_agreementOf_104 : decode cX10_agreementOf 104 = .ok (.getfield 126, 3) := by decide +kernel
theorem dX10_agreementOf_107 : decode cX10_agreementOf 107 = .ok (.ldc 114, 2) := by decide +kernel
theorem dX10_agreementOf_109 : decode cX10_agreementOf 109 = .ok (.if_icmp .ne 8, 3) := by decide +kernel
theorem dX10_agreementOf_112 : decode cX10_agreementOf 112 = .ok (.bipush (-9), 2) := by decide +kernel
theorem dX10_agreementOf_114 : decode cX10_agreementOf 114 = .ok (.goto 7, 3) := by decide +kernel
theorem dX10_agreementOf_117 : decode cX10_agreementOf 117 = .ok (.aload_n 3, 1) := by decide +kernel
theorem dX10_agreementOf_118 : decode cX10_agreementOf 118 = .ok (.getfield 126, 3) := by decide +kernel
theorem dX10_agreementOf_121 : decode cX10_agreementOf 121 = .ok (.ireturn, 1) := by decide +kernel
theorem dX10_agreementOf_122 : decode cX10_agreementOf 122 = .ok (.aload_n 3, 1) := by decide +kernel
theorem dX10_agreementOf_123 : decode cX10_agreementOf 123 = .ok (.getfield 240, 3) := by decide +kernel
theorem dX10_agreementOf_126 : decode cX10_agreementOf 126 = .ok (.ireturn, 1) := by decide +kernel
theorem dX10_agreementOf_127 : decode cX10_agreementOf 127 = .ok (.aload_n 3, 1) := by decide +kernel
theorem dX10_agreementOf_128 : decode cX10_agreementOf 128 = .ok (.getfield 243, 3) := by decide +kernel
theorem dX10_agreementOf_131 : decode cX10_agreementOf 131 = .ok (.ifCond .ne 8, 3) := by decide +kernel
theorem dX10_agreementOf_134 : decode cX10_agreementOf 134 = .ok (.bipush (-9), 2) := by decide +kernel
theorem dX10_agreementOf_136 : decode cX10_agreementOf 136 = .ok (.goto 7, 3) := by decide +kernel
theorem dX10_agreementOf_139 : decode cX10_agreementOf 139 = .ok (.aload_n 3, 1) := by decide +kernel
theorem dX10_agreementOf_140 : decode cX10_agreementOf 140 = .ok (.getfield 243, 3) := by decide +kernel
theorem dX10_agreementOf_143 : decode cX10_agreementOf 143 = .ok (.ireturn, 1) := by decide +kernel
theorem dX10_agreementOf_144 : decode cX10_agreementOf 144 = .ok (.aload_n 3, 1) := by decide +kernel
theorem dX10_agreementOf_145 : decode cX10_agreementOf 145 = .ok (.getfield 246, 3) := by decide +kernel
theorem dX10_agreementOf_148 : decode cX10_agreementOf 148 = .ok (.ireturn, 1) := by decide +kernel
theorem dX10_agreementOf_149 : decode cX10_agreementOf 149 = .ok (.aload_n 3, 1) := by decide +kernel
theorem dX10_agreementOf_150 : decode cX10_agreementOf 150 = .ok (.invokevirtual 122, 3) := by decide +kernel
theorem dX10_agreementOf_153 : decode cX10_agreementOf 153 = .ok (.ifCond .eq 7, 3) := by decide +kernel
theorem dX10_agreementOf_156 : decode cX10_agreementOf 156 = .ok (.iconst 1, 1) := by decide +kernel
theorem dX10_agreementOf_157 : decode cX10_agreementOf 157 = .ok (.goto 4, 3) := by decide +kernel
theorem dX10_agreementOf_160 : decode cX10_agreementOf 160 = .ok (.iconst 0, 1) := by decide +kernel
theorem dX10_agreementOf_161 : decode cX10_agreementOf 161 = .ok (.ireturn, 1) := by decide +kernel
theorem dX10_agreementOf_162 : decode cX10_agreementOf 162 = .ok (.aload_n 0, 1) := by decide +kernel
theorem dX10_agreementOf_163 : decode cX10_agreementOf 163 = .ok (.bipush (-2), 2) := by decide +kernel
theorem dX10_agreementOf_165 : decode cX10_agreementOf 165 = .ok (.invokevirtual 69, 3) := by decide +kernel
theorem dX10_agreementOf_168 : decode cX10_agreementOf 168 = .ok (.ireturn, 1) := by decide +kernel
set_option maxRecDepth 100000 in
theorem ggX10_aboard_X10_voyageAt : GoodIn wsX10_aboard wsX10_voyageAt := goodIn_sub (mmC (mmI il_X10_aboard_1 4 rfl) (mmA (mmC (mmI il_X10_aboard_1 5 rfl) (mmC (mmI il_X10_aboard_1 6 rfl) mmN)) il_X10_aboard_5)) gw_X10_voyageAt
theorem gX10_aboard_X10_voyageAt : GoodIn wsX10_aboard (wsV RX10 103 RX10 yX10_voyageAt wsX10_voyageAt) := goodIn_app (goodIn_sub (mmC (mmI il_X10_aboard_1 0 rfl) (mmC (mmI il_X10_aboard_1 1 rfl) (mmC (mmI il_X10_aboard_1 2 rfl) (mmC (mmI il_X10_aboard_1 3 rfl) mmN)))) (by decide +kernel)) ggX10_aboard_X10_voyageAt
set_option maxRecDepth 100000 in
theorem ggX10_aboard_X10_refuse : GoodIn wsX10_aboard wsX10_refuse := goodIn_sub (mmC (mmI il_X10_aboard_1 10 rfl) (mmA (mmC (mmI il_X10_aboard_1 11 rfl) mmN) il_X10_aboard_5)) gw_X10_refuse
theorem gX10_aboard_X10_refuse : GoodIn wsX10_aboard (wsV RX10 69 RX10 yX10_refuse wsX10_refuse) := goodIn_app (goodIn_sub (mmC (mmI il_X10_aboard_1 7 rfl) (mmC (mmI il_X10_aboard_1 8 rfl) (mmC (mmI il_X10_aboard_1 9 rfl) (mmC (mmI il_X10_aboard_1 3 rfl) mmN)))) (by decide +kernel)) ggX10_aboard_X10_refuse
set_option maxRecDepth 100000 in
theorem ggX10_aboard_X10_askRefusal : GoodIn wsX10_aboard wsX10_askRefusal := goodIn_sub (mmC (mmI il_X10_aboard_1 15 rfl) (mmA (mmC (mmI il_X10_aboard_1 16 rfl) mmN) il_X10_aboard_5)) gw_X10_askRefusal
theorem gX10_aboard_X10_askRefusal : GoodIn wsX10_aboard (wsV RX10 229 RX10 yX10_askRefusal wsX10_askRefusal) := goodIn_app (goodIn_sub (mmC (mmI il_X10_aboard_1 12 rfl) (mmC (mmI il_X10_aboard_1 13 rfl) (mmC (mmI il_X10_aboard_1 14 rfl) (mmC (mmI il_X10_aboard_1 3 rfl) mmN)))) (by decide +kernel)) ggX10_aboard_X10_askRefusal
set_option maxRecDepth 100000 in
theorem ggX10_aboard_X10_menAboard : GoodIn wsX10_aboard wsX10_menAboard := goodIn_sub (mmC (mmI il_X10_aboard_1 20 rfl) (mmA (mmA (mmA (mmA (mmA (mmA (mmA (mmC (mmI il_X10_aboard_1 21 rfl) (mmC (mmI il_X10_aboard_1 22 rfl) (mmC (mmI il_X10_aboard_1 23 rfl) (mmC (mmI il_X10_aboard_2 0 rfl) (mmC (mmI il_X10_aboard_2 1 rfl) (mmC (mmI il_X10_aboard_2 2 rfl) (mmC (mmI il_X10_aboard_2 3 rfl) (mmC (mmI il_X10_aboard_2 4 rfl) (mmC (mmI il_X10_aboard_2 5 rfl) (mmC (mmI il_X10_aboard_2 6 rfl) (mmC (mmI il_X10_aboard_2 7 rfl) (mmC (mmI il_X10_aboard_2 8 rfl) (mmC (mmI il_X10_aboard_2 9 rfl) (mmC (mmI il_X10_aboard_2 10 rfl) (mmC (mmI il_X10_aboard_2 11 rfl) (mmC (mmI il_X10_aboard_2 12 rfl) (mmC (mmI il_X10_aboard_2 13 rfl) (mmC (mmI il_X10_aboard_2 14 rfl) (mmC (mmI il_X10_aboard_2 15 rfl) (mmC (mmI il_X10_aboard_2 16 rfl) (mmC (mmI il_X10_aboard_2 17 rfl) (mmC (mmI il_X10_aboard_2 18 rfl) (mmC (mmI il_X10_aboard_2 19 rfl) (mmC (mmI il_X10_aboard_2 20 rfl) mmN)))))))))))))))))))))))) (mmA (mmC (mmI il_X10_aboard_2 21 rfl) (mmC (mmI il_X10_aboard_2 22 rfl) (mmC (mmI il_X10_aboard_2 23 rfl) (mmC (mmI il_X10_aboard_3 0 rfl) (mmC (mmI il_X10_aboard_3 1 rfl) (mmC (mmI il_X10_aboard_3 2 rfl) (mmC (mmI il_X10_aboard_3 3 rfl) (mmC (mmI il_X10_aboard_3 4 rfl) (mmC (mmI il_X10_aboard_3 5 rfl) (mmC (mmI il_X10_aboard_3 6 rfl) (mmC (mmI il_X10_aboard_3 7 rfl) (mmC (mmI il_X10_aboard_3 8 rfl) (mmC (mmI il_X10_aboard_3 9 rfl) (mmC (mmI il_X10_aboard_3 10 rfl) (mmC (mmI il_X10_aboard_3 11 rfl) (mmC (mmI il_X10_aboard_3 12 rfl) (mmC (mmI il_X10_aboard_3 13 rfl) (mmC (mmI il_X10_aboard_3 14 rfl) (mmC (mmI il_X10_aboard_3 15 rfl) (mmC (mmI il_X10_aboard_3 16 rfl) (mmC (mmI il_X10_aboard_3 17 rfl) (mmC (mmI il_X10_aboard_3 18 rfl) (mmC (mmI il_X10_aboard_3 19 rfl) (mmC (mmI il_X10_aboard_3 20 rfl) mmN)))))))))))))))))))))))) (mmC (mmI il_X10_aboard_3 21 rfl) (mmC (mmI il_X10_aboard_3 22 rfl) (mmC (mmI il_X10_aboard_3 23 rfl) (mmC (mmI il_X10_aboard_4 0 rfl) (mmC (mmI il_X10_aboard_4 1 rfl) (mmC (mmI il_X10_aboard_4 2 rfl) (mmC (mmI il_X10_aboard_4 3 rfl) (mmC (mmI il_X10_aboard_4 4 rfl) (mmC (mmI il_X10_aboard_4 5 rfl) (mmC (mmI il_X10_aboard_4 6 rfl) mmN)))))))))))) il_X10_aboard_5) il_X10_aboard_6) il_X10_aboard_7) il_X10_aboard_8) il_X10_aboard_9) il_X10_aboard_10)) gw_X10_menAboard
theorem gX10_aboard_X10_menAboard : GoodIn wsX10_aboard (wsV RX10 307 RX10 yX10_menAboard wsX10_menAboard) := goodIn_app (goodIn_sub (mmC (mmI il_X10_aboard_1 17 rfl) (mmC (mmI il_X10_aboard_1 18 rfl) (mmC (mmI il_X10_aboard_1 19 rfl) (mmC (mmI il_X10_aboard_1 3 rfl) mmN)))) (by decide +kernel)) ggX10_aboard_X10_menAboard
theorem dX10_aboard_0 : decode cX10_aboard 0 = .ok (.aload_n 0, 1) := by decide +kernel
theorem dX10_aboard_1 : decode cX10_aboard 1 = .ok (.iload_n 1, 1) := by decide +kernel
theorem dX10_aboard_2 : decode cX10_aboard 2 = .ok (.invokevirtual 103, 3) := by decide +kernel
theorem dX10_aboard_5 : decode cX10_aboard 5 = .ok (.astore 4, 2) := by decide +kernel
theorem dX10_aboard_7 : decode cX10_aboard 7 = .ok (.aload 4, 2) := by decide +kernel
theorem dX10_aboard_9 : decode cX10_aboard 9 = .ok (.ifnonnull 9, 3) := by decide +kernel
theorem dX10_aboard_12 : decode cX10_aboard 12 = .ok (.aload_n 0, 1) := by decide +kernel
theorem dX10_aboard_13 : decode cX10_aboard 13 = .ok (.iconst (-1), 1) := by decide +kernel
theorem dX10_aboard_14 : decode cX10_aboard 14 = .ok (.invokevirtual 69, 3) := by decide +kernel
theorem dX10_aboard_17 : decode cX10_aboard 17 = .ok (.ireturn, 1) := by decide +kernel
theorem dX10_aboard_18 : decode cX10_aboard 18 = .ok (.aload_n 0, 1) := by decide +kernel
theorem dX10_aboard_19 : decode cX10_aboard 19 = .ok (.iload_n 2, 1) := by decide +kernel
theorem dX10_aboard_20 : decode cX10_aboard 20 = .ok (.iload_n 3, 1) := by decide +kernel
theorem dX10_aboard_21 : decode cX10_aboard 21 = .ok (.invokevirtual 229, 3) := by decide +kernel
theorem dX10_aboard_24 : decode cX10_aboard 24 = .ok (.istore 5, 2) := by decide +kernel
theorem dX10_aboard_26 : decode cX10_aboard 26 = .ok (.iload 5, 2) := by decide +kernel
theorem dX10_aboard_28 : decode cX10_aboard 28 = .ok (.ifCond .eq 10, 3) := by decide +kernel
theorem dX10_aboard_31 : decode cX10_aboard 31 = .ok (.aload_n 0, 1) := by decide +kernel
theorem dX10_aboard_32 : decode cX10_aboard 32 = .ok (.iload 5, 2) := by decide +kernel
theorem dX10_aboard_34 : decode cX10_aboard 34 = .ok (.invokevirtual 69, 3) := by decide +kernel
theorem dX10_aboard_37 : decode cX10_aboard 37 = .ok (.ireturn, 1) := by decide +kernel
theorem dX10_aboard_38 : decode cX10_aboard 38 = .ok (.aload_n 0, 1) := by decide +kernel
theorem dX10_aboard_39 : decode cX10_aboard 39 = .ok (.aload 4, 2) := by decide +kernel
theorem dX10_aboard_41 : decode cX10_aboard 41 = .ok (.iload_n 2, 1) := by decide +kernel
theorem dX10_aboard_42 : decode cX10_aboard 42 = .ok (.iload_n 3, 1) := by decide +kernel
theorem dX10_aboard_43 : decode cX10_aboard 43 = .ok (.invokevirtual 307, 3) := by decide +kernel
theorem dX10_aboard_46 : decode cX10_aboard 46 = .ok (.ireturn, 1) := by decide +kernel
set_option maxRecDepth 100000 in
theorem ggX10_group_X10_manAt : GoodIn wsX10_group wsX10_manAt := goodIn_sub (mmC (mmI il_X10_group_1 5 rfl) (mmA (mmC (mmI il_X10_group_1 6 rfl) (mmC (mmI il_X10_group_1 7 rfl) mmN)) il_X10_group_3)) gw_X10_manAt
theorem gX10_group_X10_manAt : GoodIn wsX10_group (wsV RX10 205 RX10 yX10_manAt wsX10_manAt) := goodIn_app (goodIn_sub (mmC (mmI il_X10_group_1 1 rfl) (mmC (mmI il_X10_group_1 2 rfl) (mmC (mmI il_X10_group_1 3 rfl) (mmC (mmI il_X10_group_1 4 rfl) mmN)))) (by decide +kernel)) ggX10_group_X10_manAt
set_option maxRecDepth 100000 in
theorem ggX10_group_X10_refuse : GoodIn wsX10_group wsX10_refuse := goodIn_sub (mmC (mmI il_X10_group_1 11 rfl) (mmA (mmC (mmI il_X10_group_1 12 rfl) mmN) il_X10_group_3)) gw_X10_refuse
theorem gX10_group_X10_refuse : GoodIn wsX10_group (wsV RX10 69 RX10 yX10_refuse wsX10_refuse) := goodIn_app (goodIn_sub (mmC (mmI il_X10_group_1 8 rfl) (mmC (mmI il_X10_group_1 9 rfl) (mmC (mmI il_X10_group_1 10 rfl) (mmC (mmI il_X10_group_1 4 rfl) mmN)))) (by decide +kernel)) ggX10_group_X10_refuse
theorem dX10_group_0 : decode cX10_group 0 = .ok (.aload_n 0, 1) := by decide +kernel
theorem dX10_group_1 : decode cX10_group 1 = .ok (.iload_n 1, 1) := by decide +kernel
theorem dX10_group_2 : decode cX10_group 2 = .ok (.invokevirtual 205, 3) := by decide +kernel
theorem dX10_group_5 : decode cX10_group 5 = .ok (.astore_n 2, 1) := by decide +kernel
theorem dX10_group_6 : decode cX10_group 6 = .ok (.aload_n 2, 1) := by decide +kernel
theorem dX10_group_7 : decode cX10_group 7 = .ok (.ifnonnull 11, 3) := by decide +kernel
theorem dX10_group_10 : decode cX10_group 10 = .ok (.aload_n 0, 1) := by decide +kernel
theorem dX10_group_11 : decode cX10_group 11 = .ok (.iconst (-1), 1) := by decide +kernel
theorem dX10_group_12 : decode cX10_group 12 = .ok (.invokevirtual 69, 3) := by decide +kernel
theorem dX10_group_15 : decode cX10_group 15 = .ok (.goto 7, 3) := by decide +kernel
theorem dX10_group_18 : decode cX10_group 18 = .ok (.aload_n 2, 1) := by decide +kernel
theorem dX10_group_19 : decode cX10_group 19 = .ok (.getfield 311, 3) := by decide +kernel
theorem dX10_group_22 : decode cX10_group 22 = .ok (.ireturn, 1) := by decide +kernel
set_option maxRecDepth 100000 in
theorem ggX10_borrowed_X10_agreementAt : GoodIn wsX10_borrowed wsX10_agreementAt := goodIn_sub (mmC (mmI il_X10_borrowed_1 7 rfl) (mmA (mmC (mmI il_X10_borrowed_1 8 rfl) (mmC (mmI il_X10_borrowed_1 9 rfl) mmN)) il_X10_borrowed_5)) gw_X10_agreementAt
theorem gX10_borrowed_X10_agreementAt : GoodIn wsX10_borrowed (wsV RX10 154 RX10 yX10_agreementAt wsX10_agreementAt) := goodIn_app (goodIn_sub (mmC (mmI il_X10_borrowed_1 3 rfl) (mmC (mmI il_X10_borrowed_1 4 rfl) (mmC (mmI il_X10_borrowed_1 5 rfl) (mmC (mmI il_X10_borrowed_1 6 rfl) mmN)))) (by decide +kernel)) ggX10_borrowed_X10_agreementAt
set_option maxRecDepth 100000 in
theorem ggX10_borrowed_X10_refuse : GoodIn wsX10_borrowed wsX10_refuse := goodIn_sub (mmC (mmI il_X10_borrowed_1 13 rfl) (mmA (mmC (mmI il_X10_borrowed_1 14 rfl) mmN) il_X10_borrowed_5)) gw_X10_refuse
theorem gX10_borrowed_X10_refuse : GoodIn wsX10_borrowed (wsV RX10 69 RX10 yX10_refuse wsX10_refuse) := goodIn_app (goodIn_sub (mmC (mmI il_X10_borrowed_1 10 rfl) (mmC (mmI il_X10_borrowed_1 11 rfl) (mmC (mmI il_X10_borrowed_1 12 rfl) (mmC (mmI il_X10_borrowed_1 6 rfl) mmN)))) (by decide +kernel)) ggX10_borrowed_X10_refuse
set_option maxRecDepth 100000 in
theorem ggX10_borrowed_X10_isShownTwice : GoodIn wsX10_borrowed wsX10_isShownTwice := goodIn_sub (mmC (mmI il_X10_borrowed_1 18 rfl) (mmA (mmA (mmC (mmI il_X10_borrowed_1 8 rfl) (mmC (mmI il_X10_borrowed_1 9 rfl) (mmC (mmI il_X10_borrowed_1 0 rfl) (mmC (mmI il_X10_borrowed_1 19 rfl) (mmC (mmI il_X10_borrowed_1 20 rfl) (mmC (mmI il_X10_borrowed_1 21 rfl) (mmC (mmI il_X10_borrowed_1 22 rfl) (mmC (mmI il_X10_borrowed_1 6 rfl) (mmC (mmI il_X10_borrowed_1 23 rfl) (mmC (mmI il_X10_borrowed_2 0 rfl) (mmC (mmI il_X10_borrowed_2 1 rfl) (mmC (mmI il_X10_borrowed_2 2 rfl) mmN)))))))))))) il_X10_borrowed_5) il_X10_borrowed_3)) gw_X10_isShownTwice
theorem gX10_borrowed_X10_isShownTwice : GoodIn wsX10_borrowed (wsV RX10 318 RX10 yX10_isShownTwice wsX10_isShownTwice) := goodIn_app (goodIn_sub (mmC (mmI il_X10_borrowed_1 15 rfl) (mmC (mmI il_X10_borrowed_1 16 rfl) (mmC (mmI il_X10_borrowed_1 17 rfl) (mmC (mmI il_X10_borrowed_1 6 rfl) mmN)))) (by decide +kernel)) ggX10_borrowed_X10_isShownTwice
theorem dX10_borrowed_0 : decode cX10_borrowed 0 = .ok (.aload_n 0, 1) := by decide +kernel
theorem dX10_borrowed_1 : decode cX10_borrowed 1 = .ok (.iload_n 1, 1) := by decide +kernel
theorem dX10_borrowed_2 : decode cX10_borrowed 2 = .ok (.invokevirtual 154, 3) := by decide +kernel
theorem dX10_borrowed_5 : decode cX10_borrowed 5 = .ok (.astore_n 2, 1) := by decide +kernel
theorem dX10_borrowed_6 : decode cX10_borrowed 6 = .ok (.aload_n 2, 1) := by decide +kernel
theorem dX10_borrowed_7 : decode cX10_borrowed 7 = .ok (.ifnonnull 9, 3) := by decide +kernel
theorem dX10_borrowed_10 : decode cX10_borrowed 10 = .ok (.aload_n 0, 1) := by decide +kernel
theorem dX10_borrowed_11 : decode cX10_borrowed 11 = .ok (.iconst (-1), 1) := by decide +kernel
theorem dX10_borrowed_12 : decode cX10_borrowed 12 = .ok (.invokevirtual 69, 3) := by decide +kernel
theorem dX10_borrowed_15 : decode cX10_borrowed 15 = .ok (.ireturn, 1) := by decide +kernel
theorem dX10_borrowed_16 : decode cX10_borrowed 16 = .ok (.aload_n 2, 1) := by decide +kernel
theorem dX10_borrowed_17 : decode cX10_borrowed 17 = .ok (.getfield 314, 3) := by decide +kernel
theorem dX10_borrowed_20 : decode cX10_borrowed 20 = .ok (.ifnonnull 5, 3) := by decide +kernel
theorem dX10_borrowed_23 : decode cX10_borrowed 23 = .ok (.iconst 0, 1) := by decide +kernel
theorem dX10_borrowed_24 : decode cX10_borrowed 24 = .ok (.ireturn, 1) := by decide +kernel
theorem dX10_borrowed_25 : decode cX10_borrowed 25 = .ok (.aload_n 2, 1) := by decide +kernel
theorem dX10_borrowed_26 : decode cX10_borrowed 26 = .ok (.getfield 314, 3) := by decide +kernel
theorem dX10_borrowed_29 : decode cX10_borrowed 29 = .ok (.getfield 299, 3) := by decide +kernel
theorem dX10_borrowed_32 : decode cX10_borrowed 32 = .ok (.getfield 311, 3) := by decide +kernel
theorem dX10_borrowed_35 : decode cX10_borrowed 35 = .ok (.aload_n 2, 1) := by decide +kernel
theorem dX10_borrowed_36 : decode cX10_borrowed 36 = .ok (.getfield 299, 3) := by decide +kernel
theorem dX10_borrowed_39 : decode cX10_borrowed 39 = .ok (.getfield 311, 3) := by decide +kernel
theorem dX10_borrowed_42 : decode cX10_borrowed 42 = .ok (.if_icmp .ne 11, 3) := by decide +kernel
theorem dX10_borrowed_45 : decode cX10_borrowed 45 = .ok (.aload_n 0, 1) := by decide +kernel
theorem dX10_borrowed_46 : decode cX10_borrowed 46 = .ok (.aload_n 2, 1) := by decide +kernel
theorem dX10_borrowed_47 : decode cX10_borrowed 47 = .ok (.invokevirtual 318, 3) := by decide +kernel
theorem dX10_borrowed_50 : decode cX10_borrowed 50 = .ok (.ifCond .eq 7, 3) := by decide +kernel
theorem dX10_borrowed_53 : decode cX10_borrowed 53 = .ok (.iconst 1, 1) := by decide +kernel
theorem dX10_borrowed_54 : decode cX10_borrowed 54 = .ok (.goto 4, 3) := by decide +kernel
theorem dX10_borrowed_57 : decode cX10_borrowed 57 = .ok (.iconst 0, 1) := by decide +kernel
theorem dX10_borrowed_58 : decode cX10_borrowed 58 = .ok (.ireturn, 1) := by decide +kernel
set_option maxRecDepth 100000 in
theorem ggX10_home_X10_manAt : GoodIn wsX10_home wsX10_manAt := goodIn_sub (mmC (mmI il_X10_home_1 14 rfl) (mmA (mmC (mmI il_X10_home_1 15 rfl) (mmC (mmI il_X10_home_1 16 rfl) mmN)) il_X10_home_5)) gw_X10_manAt
theorem gX10_home_X10_manAt : GoodIn wsX10_home (wsV RX10 205 RX10 yX10_manAt wsX10_manAt) := goodIn_app (goodIn_sub (mmC (mmI il_X10_home_1 10 rfl) (mmC (mmI il_X10_home_1 11 rfl) (mmC (mmI il_X10_home_1 12 rfl) (mmC (mmI il_X10_home_1 13 rfl) mmN)))) (by decide +kernel)) ggX10_home_X10_manAt
set_option maxRecDepth 100000 in
theorem ggX10_home_X10_refuse : GoodIn wsX10_home wsX10_refuse := goodIn_sub (mmC (mmI il_X10_home_1 20 rfl) (mmA (mmC (mmI il_X10_home_1 21 rfl) mmN) il_X10_home_5)) gw_X10_refuse
theorem gX10_home_X10_refuse : GoodIn wsX10_home (wsV RX10 69 RX10 yX10_refuse wsX10_refuse) := goodIn_app (goodIn_sub (mmC (mmI il_X10_home_1 17 rfl) (mmC (mmI il_X10_home_1 18 rfl) (mmC (mmI il_X10_home_1 19 rfl) (mmC (mmI il_X10_home_1 13 rfl) mmN)))) (by decide +kernel)) ggX10_home_X10_refuse
set_option maxRecDepth 100000 in
theorem ggX10_home_X1_leavingOn : GoodIn wsX10_home wsX1_leavingOn := goodIn_sub (mmC (mmI il_X10_home_2 2 rfl) (mmA (mmA (mmA (mmA (mmA (mmA (mmC (mmI il_X10_home_2 3 rfl) (mmC (mmI il_X10_home_2 4 rfl) (mmC (mmI il_X10_home_2 5 rfl) (mmC (mmI il_X10_home_2 1 rfl) (mmC (mmI il_X10_home_2 6 rfl) (mmC (mmI il_X10_home_2 7 rfl) (mmC (mmI il_X10_home_2 8 rfl) (mmC (mmI il_X10_home_2 9 rfl) (mmC (mmI il_X10_home_2 10 rfl) (mmC (mmI il_X10_home_2 11 rfl) (mmC (mmI il_X10_home_2 12 rfl) (mmC (mmI il_X10_home_2 13 rfl) (mmC (mmI il_X10_home_2 14 rfl) (mmC (mmI il_X10_home_2 15 rfl) (mmC (mmI il_X10_home_2 16 rfl) (mmC (mmI il_X10_home_2 17 rfl) (mmC (mmI il_X10_home_2 18 rfl) (mmC (mmI il_X10_home_2 19 rfl) (mmC (mmI il_X10_home_2 20 rfl) (mmC (mmI il_X10_home_2 21 rfl) (mmC (mmI il_X10_home_2 22 rfl) (mmC (mmI il_X10_home_2 23 rfl) (mmC (mmI il_X10_home_3 0 rfl) (mmC (mmI il_X10_home_3 1 rfl) mmN)))))))))))))))))))))))) (mmA (mmC (mmI il_X10_home_3 2 rfl) (mmC (mmI il_X10_home_3 3 rfl) (mmC (mmI il_X10_home_3 4 rfl) (mmC (mmI il_X10_home_3 5 rfl) (mmC (mmI il_X10_home_3 6 rfl) (mmC (mmI il_X10_home_3 7 rfl) (mmC (mmI il_X10_home_3 8 rfl) (mmC (mmI il_X10_home_3 9 rfl) (mmC (mmI il_X10_home_3 10 rfl) (mmC (mmI il_X10_home_3 11 rfl) (mmC (mmI il_X10_home_3 12 rfl) (mmC (mmI il_X10_home_3 13 rfl) (mmC (mmI il_X10_home_3 14 rfl) (mmC (mmI il_X10_home_3 15 rfl) (mmC (mmI il_X10_home_3 16 rfl) (mmC (mmI il_X10_home_3 17 rfl) (mmC (mmI il_X10_home_3 18 rfl) (mmC (mmI il_X10_home_3 19 rfl) (mmC (mmI il_X10_home_3 20 rfl) (mmC (mmI il_X10_home_3 21 rfl) (mmC (mmI il_X10_home_3 22 rfl) (mmC (mmI il_X10_home_3 23 rfl) (mmC (mmI il_X10_home_4 0 rfl) (mmC (mmI il_X10_home_4 1 rfl) mmN)))))))))))))))))))))))) (mmC (mmI il_X10_home_4 2 rfl) (mmC (mmI il_X10_home_4 3 rfl) (mmC (mmI il_X10_home_4 4 rfl) (mmC (mmI il_X10_home_4 5 rfl) (mmC (mmI il_X10_home_4 6 rfl) (mmC (mmI il_X10_home_4 7 rfl) mmN)))))))) il_X10_home_6) il_X10_home_7) il_X10_home_9) il_X10_home_8) il_X10_home_10)) gw_X1_leavingOn
theorem gX10_home_X1_leavingOn : GoodIn wsX10_home (wsV RX10 322 RX1 yX1_leavingOn wsX1_leavingOn) := goodIn_app (goodIn_sub (mmC (mmI il_X10_home_1 22 rfl) (mmC (mmI il_X10_home_1 23 rfl) (mmC (mmI il_X10_home_2 0 rfl) (mmC (mmI il_X10_home_2 1 rfl) mmN)))) (by decide +kernel)) ggX10_home_X1_leavingOn
set_option maxRecDepth 100000 in
theorem ggX10_home_X7_way : GoodIn wsX10_home wsX7_way := goodIn_sub (mmC (mmI il_X10_home_4 12 rfl) (mmA (mmC (mmI il_X10_home_4 13 rfl) (mmC (mmI il_X10_home_4 14 rfl) (mmC (mmI il_X10_home_4 15 rfl) (mmC (mmI il_X10_home_4 16 rfl) (mmC (mmI il_X10_home_4 17 rfl) (mmC (mmI il_X10_home_4 18 rfl) (mmC (mmI il_X10_home_4 19 rfl) (mmC (mmI il_X10_home_4 20 rfl) (mmC (mmI il_X10_home_4 21 rfl) (mmC (mmI il_X10_home_4 11 rfl) (mmC (mmI il_X10_home_4 22 rfl) (mmC (mmI il_X10_home_4 23 rfl) mmN)))))))))))) il_X10_home_11)) gw_X7_way
theorem gX10_home_X7_way : GoodIn wsX10_home (wsV RX10 333 RX7 yX7_way wsX7_way) := goodIn_app (goodIn_sub (mmC (mmI il_X10_home_4 8 rfl) (mmC (mmI il_X10_home_4 9 rfl) (mmC (mmI il_X10_home_4 10 rfl) (mmC (mmI il_X10_home_4 11 rfl) mmN)))) (by decide +kernel)) ggX10_home_X7_way
theorem dX10_home_0 : decode cX10_home 0 = .ok (.aload_n 0, 1) := by decide +kernel
theorem dX10_home_1 : decode cX10_home 1 = .ok (.iload_n 1, 1) := by decide +kernel
theorem dX10_home_2 : decode cX10_home 2 = .ok (.invokevirtual 205, 3) := by decide +kernel
theorem dX10_home_5 : decode cX10_home 5 = .ok (.astore_n 2, 1) := by decide +kernel
theorem dX10_home_6 : decode cX10_home 6 = .ok (.aload_n 2, 1) := by decide +kernel
theorem dX10_home_7 : decode cX10_home 7 = .ok (.ifnonnull 9, 3) := by decide +kernel
theorem dX10_home_10 : decode cX10_home 10 = .ok (.aload_n 0, 1) := by decide +kernel
theorem dX10_home_11 : decode cX10_home 11 = .ok (.iconst (-1), 1) := by decide +kernel
theorem dX10_home_12 : decode cX10_home 12 = .ok (.invokevirtual 69, 3) := by decide +kernel
theorem dX10_home_15 : decode cX10_home 15 = .ok (.ireturn, 1) := by decide +kernel
theorem dX10_home_16 : decode cX10_home 16 = .ok (.iconst 0, 1) := by decide +kernel
theorem dX10_home_17 : decode cX10_home 17 = .ok (.istore_n 3, 1) := by decide +kernel
theorem dX10_home_18 : decode cX10_home 18 = .ok (.iload_n 3, 1) := by decide +kernel
theorem dX10_home_19 : decode cX10_home 19 = .ok (.aload_n 0, 1) := by decide +kernel
theorem dX10_home_20 : decode cX10_home 20 = .ok (.getfield 115, 3) := by decide +kernel
theorem dX10_home_23 : decode cX10_home 23 = .ok (.if_icmp .ge 84, 3) := by decide +kernel
theorem dX10_home_26 : decode cX10_home 26 = .ok (.aload_n 0, 1) := by decide +kernel
theorem dX10_home_27 : decode cX10_home 27 = .ok (.getfield 23, 3) := by decide +kernel
theorem dX10_home_30 : decode cX10_home 30 = .ok (.iload_n 3, 1) := by decide +kernel
theorem dX10_home_31 : decode cX10_home 31 = .ok (.aaload, 1) := by decide +kernel
theorem dX10_home_32 : decode cX10_home 32 = .ok (.astore 4, 2) := by decide +kernel
theorem dX10_home_34 : decode cX10_home 34 = .ok (.aload 4, 2) := by decide +kernel
theorem dX10_home_36 : decode cX10_home 36 = .ok (.getfield 299, 3) := by decide +kernel
theorem dX10_home_39 : decode cX10_home 39 = .ok (.aload_n 2, 1) := by decide +kernel
theorem dX10_home_40 : decode cX10_home 40 = .ok (.if_acmp .ne 23, 3) := by decide +kernel
theorem dX10_home_43 : decode cX10_home 43 = .ok (.aload 4, 2) := by decide +kernel
theorem dX10_home_45 : decode cX10_home 45 = .ok (.aload_n 0, 1) := by decide +kernel
theorem dX10_home_46 : decode cX10_home 46 = .ok (.getfield 73, 3) := by decide +kernel
theorem dX10_home_49 : decode cX10_home 49 = .ok (.aload_n 0, 1) := by decide +kernel
theorem dX10_home_50 : decode cX10_home 50 = .ok (.getfield 73, 3) := by decide +kernel
theorem dX10_home_53 : decode cX10_home 53 = .ok (.aload_n 0, 1) := by decide +kernel
theorem dX10_home_54 : decode cX10_home 54 = .ok (.getfield 30, 3) := by decide +kernel
theorem dX10_home_57 : decode cX10_home 57 = .ok (.invokevirtual 322, 3) := by decide +kernel
theorem dX10_home_60 : decode cX10_home 60 = .ok (.goto 4, 3) := by decide +kernel
theorem dX10_home_63 : decode cX10_home 63 = .ok (.aconst_null, 1) := by decide +kernel
theorem dX10_home_64 : decode cX10_home 64 = .ok (.astore 5, 2) := by decide +kernel
theorem dX10_home_66 : decode cX10_home 66 = .ok (.aload 5, 2) := by decide +kernel
theorem dX10_home_68 : decode cX10_home 68 = .ok (.ifnull 33, 3) := by decide +kernel
theorem dX10_home_71 : decode cX10_home 71 = .ok (.aload 5, 2) := by decide +kernel
theorem dX10_home_73 : decode cX10_home 73 = .ok (.getfield 326, 3) := by decide +kernel
theorem dX10_home_76 : decode cX10_home 76 = .ok (.iconst 1, 1) := by decide +kernel
theorem dX10_home_77 : decode cX10_home 77 = .ok (.if_icmp .ne 24, 3) := by decide +kernel
theorem dX10_home_80 : decode cX10_home 80 = .ok (.aload_n 0, 1) := by decide +kernel
theorem dX10_home_81 : decode cX10_home 81 = .ok (.getfield 44, 3) := by decide +kernel
theorem dX10_home_84 : decode cX10_home 84 = .ok (.aload 5, 2) := by decide +kernel
theorem dX10_home_86 : decode cX10_home 86 = .ok (.getfield 329, 3) := by decide +kernel
theorem dX10_home_89 : decode cX10_home 89 = .ok (.aload 4, 2) := by decide +kernel
theorem dX10_home_91 : decode cX10_home 91 = .ok (.getfield 118, 3) := by decide +kernel
theorem dX10_home_94 : decode cX10_home 94 = .ok (.getfield 332, 3) := by decide +kernel
theorem dX10_home_97 : decode cX10_home 97 = .ok (.invokevirtual 333, 3) := by decide +kernel
theorem dX10_home_100 : decode cX10_home 100 = .ok (.ireturn, 1) := by decide +kernel
theorem dX10_home_101 : decode cX10_home 101 = .ok (.iinc 3 1, 3) := by decide +kernel
theorem dX10_home_104 : decode cX10_home 104 = .ok (.goto (-86), 3) := by decide +kernel
theorem dX10_home_107 : decode cX10_home 107 = .ok (.aload_n 0, 1) := by decide +kernel
theorem dX10_home_108 : decode cX10_home 108 = .ok (.bipush (-3), 2) := by decide +kernel
theorem dX10_home_110 : decode cX10_home 110 = .ok (.invokevirtual 69, 3) := by decide +kernel
theorem dX10_home_113 : decode cX10_home 113 = .ok (.ireturn, 1) := by decide +kernel
set_option maxRecDepth 100000 in
theorem ggX10_ask_X10_manAt : GoodIn wsX10_ask wsX10_manAt := goodIn_sub (mmC (mmI il_X10_ask_1 5 rfl) (mmA (mmC (mmI il_X10_ask_1 6 rfl) (mmC (mmI il_X10_ask_1 7 rfl) mmN)) il_X10_ask_3)) gw_X10_manAt
theorem gX10_ask_X10_manAt : GoodIn wsX10_ask (wsV RX10 205 RX10 yX10_manAt wsX10_manAt) := goodIn_app (goodIn_sub (mmC (mmI il_X10_ask_1 1 rfl) (mmC (mmI il_X10_ask_1 2 rfl) (mmC (mmI il_X10_ask_1 3 rfl) (mmC (mmI il_X10_ask_1 4 rfl) mmN)))) (by decide +kernel)) ggX10_ask_X10_manAt
set_option maxRecDepth 100000 in
theorem ggX10_ask_X10_refuse : GoodIn wsX10_ask wsX10_refuse := goodIn_sub (mmC (mmI il_X10_ask_1 11 rfl) (mmA (mmC (mmI il_X10_ask_1 12 rfl) mmN) il_X10_ask_3)) gw_X10_refuse
theorem gX10_ask_X10_refuse : GoodIn wsX10_ask (wsV RX10 69 RX10 yX10_refuse wsX10_refuse) := goodIn_app (goodIn_sub (mmC (mmI il_X10_ask_1 8 rfl) (mmC (mmI il_X10_ask_1 9 rfl) (mmC (mmI il_X10_ask_1 10 rfl) (mmC (mmI il_X10_ask_1 4 rfl) mmN)))) (by decide +kernel)) ggX10_ask_X10_refuse
theorem dX10_ask_0 : decode cX10_ask 0 = .ok (.aload_n 0, 1) := by decide +kernel
theorem dX10_ask_1 : decode cX10_ask 1 = .ok (.iload_n 1, 1) := by decide +kernel
theorem dX10_ask_2 : decode cX10_ask 2 = .ok (.invokevirtual 205, 3) := by decide +kernel
theorem dX10_ask_5 : decode cX10_ask 5 = .ok (.astore 4, 2) := by decide +kernel
theorem dX10_ask_7 : decode cX10_ask 7 = .ok (.aload 4, 2) := by decide +kernel
theorem dX10_ask_9 : decode cX10_ask 9 = .ok (.ifnonnull 9, 3) := by decide +kernel
theorem dX10_ask_12 : decode cX10_ask 12 = .ok (.aload_n 0, 1) := by decide +kernel
theorem dX10_ask_13 : decode cX10_ask 13 = .ok (.iconst (-1), 1) := by decide +kernel
theorem dX10_ask_14 : decode cX10_ask 14 = .ok (.invokevirtual 69, 3) := by decide +kernel
theorem dX10_ask_17 : decode cX10_ask 17 = .ok (.ireturn, 1) := by decide +kernel
theorem dX10_ask_18 : decode cX10_ask 18 = .ok (.iload_n 2, 1) := by decide +kernel
theorem dX10_ask_19 : decode cX10_ask 19 = .ok (.ifCond .lt 7, 3) := by decide +kernel
theorem dX10_ask_22 : decode cX10_ask 22 = .ok (.iload_n 3, 1) := by decide +kernel
theorem dX10_ask_23 : decode cX10_ask 23 = .ok (.ifCond .ge 10, 3) := by decide +kernel
theorem dX10_ask_26 : decode cX10_ask 26 = .ok (.aload_n 0, 1) := by decide +kernel
theorem dX10_ask_27 : decode cX10_ask 27 = .ok (.bipush (-4), 2) := by decide +kernel
theorem dX10_ask_29 : decode cX10_ask 29 = .ok (.invokevirtual 69, 3) := by decide +kernel
theorem dX10_ask_32 : decode cX10_ask 32 = .ok (.ireturn, 1) := by decide +kernel
theorem dX10_ask_33 : decode cX10_ask 33 = .ok (.iload_n 2, 1) := by decide +kernel
theorem dX10_ask_34 : decode cX10_ask 34 = .ok (.iconst 4, 1) := by decide +kernel
theorem dX10_ask_35 : decode cX10_ask 35 = .ok (.if_icmp .ge 10, 3) := by decide +kernel
theorem dX10_ask_38 : decode cX10_ask 38 = .ok (.iload_n 3, 1) := by decide +kernel
theorem dX10_ask_39 : decode cX10_ask 39 = .ok (.sipush 9999, 3) := by decide +kernel
theorem dX10_ask_42 : decode cX10_ask 42 = .ok (.if_icmp .le 10, 3) := by decide +kernel
theorem dX10_ask_45 : decode cX10_ask 45 = .ok (.aload_n 0, 1) := by decide +kernel
theorem dX10_ask_46 : decode cX10_ask 46 = .ok (.bipush (-6), 2) := by decide +kernel
theorem dX10_ask_48 : decode cX10_ask 48 = .ok (.invokevirtual 69, 3) := by decide +kernel
theorem dX10_ask_51 : decode cX10_ask 51 = .ok (.ireturn, 1) := by decide +kernel
theorem dX10_ask_52 : decode cX10_ask 52 = .ok (.aload 4, 2) := by decide +kernel
theorem dX10_ask_54 : decode cX10_ask 54 = .ok (.getfield 335, 3) := by decide +kernel
theorem dX10_ask_57 : decode cX10_ask 57 = .ok (.iload_n 2, 1) := by decide +kernel
theorem dX10_ask_58 : decode cX10_ask 58 = .ok (.iaload, 1) := by decide +kernel
theorem dX10_ask_59 : decode cX10_ask 59 = .ok (.istore 5, 2) := by decide +kernel
theorem dX10_ask_61 : decode cX10_ask 61 = .ok (.aload 4, 2) := by decide +kernel
theorem dX10_ask_63 : decode cX10_ask 63 = .ok (.getfield 335, 3) := by decide +kernel
theorem dX10_ask_66 : decode cX10_ask 66 = .ok (.iload_n 2, 1) := by decide +kernel
theorem dX10_ask_67 : decode cX10_ask 67 = .ok (.iload_n 3, 1) := by decide +kernel
theorem dX10_ask_68 : decode cX10_ask 68 = .ok (.iastore, 1) := by decide +kernel
theorem dX10_ask_69 : decode cX10_ask 69 = .ok (.iload 5, 2) := by decide +kernel
theorem dX10_ask_71 : decode cX10_ask 71 = .ok (.ireturn, 1) := by decide +kernel
set_option maxRecDepth 100000 in
theorem ggX10_crew_X10_refuse : GoodIn wsX10_crew wsX10_refuse := goodIn_sub (mmC (mmI il_X10_crew_1 7 rfl) (mmA (mmC (mmI il_X10_crew_1 8 rfl) mmN) il_X10_crew_5)) gw_X10_refuse
theorem gX10_crew_X10_refuse : GoodIn wsX10_crew (wsV RX10 69 RX10 yX10_refuse wsX10_refuse) := goodIn_app (goodIn_sub (mmC (mmI il_X10_crew_1 3 rfl) (mmC (mmI il_X10_crew_1 4 rfl) (mmC (mmI il_X10_crew_1 5 rfl) (mmC (mmI il_X10_crew_1 6 rfl) mmN)))) (by decide +kernel)) ggX10_crew_X10_refuse
set_option maxRecDepth 100000 in
theorem ggX10_crew_X4_begin : GoodIn wsX10_crew wsX4_begin := goodIn_sub (mmC (mmI il_X10_crew_1 13 rfl) (mmA (mmC (mmI il_X10_crew_1 14 rfl) (mmC (mmI il_X10_crew_1 15 rfl) (mmC (mmI il_X10_crew_1 16 rfl) (mmC (mmI il_X10_crew_1 17 rfl) (mmC (mmI il_X10_crew_1 18 rfl) (mmC (mmI il_X10_crew_1 19 rfl) (mmC (mmI il_X10_crew_1 20 rfl) (mmC (mmI il_X10_crew_1 21 rfl) (mmC (mmI il_X10_crew_1 22 rfl) (mmC (mmI il_X10_crew_1 23 rfl) (mmC (mmI il_X10_crew_2 0 rfl) (mmC (mmI il_X10_crew_2 1 rfl) (mmC (mmI il_X10_crew_1 12 rfl) (mmC (mmI il_X10_crew_2 2 rfl) (mmC (mmI il_X10_crew_2 3 rfl) mmN))))))))))))))) il_X10_crew_6)) gw_X4_begin
theorem gX10_crew_X4_begin : GoodIn wsX10_crew (wsV RX10 338 RX4 yX4_begin wsX4_begin) := goodIn_app (goodIn_sub (mmC (mmI il_X10_crew_1 9 rfl) (mmC (mmI il_X10_crew_1 10 rfl) (mmC (mmI il_X10_crew_1 11 rfl) (mmC (mmI il_X10_crew_1 12 rfl) mmN)))) (by decide +kernel)) ggX10_crew_X4_begin
set_option maxRecDepth 100000 in
theorem ggX10_crew_X6_asks : GoodIn wsX10_crew wsX6_asks := goodIn_sub (mmC (mmI il_X10_crew_2 8 rfl) (mmA (mmC (mmI il_X10_crew_2 9 rfl) mmN) il_X10_crew_7)) gw_X6_asks
theorem gX10_crew_X6_asks : GoodIn wsX10_crew (wsV RX10 341 RX6 yX6_asks wsX6_asks) := goodIn_app (goodIn_sub (mmC (mmI il_X10_crew_2 4 rfl) (mmC (mmI il_X10_crew_2 5 rfl) (mmC (mmI il_X10_crew_2 6 rfl) (mmC (mmI il_X10_crew_2 7 rfl) mmN)))) (by decide +kernel)) ggX10_crew_X6_asks
set_option maxRecDepth 100000 in
theorem ggX10_crew_X10_isFree : GoodIn wsX10_crew wsX10_isFree := goodIn_sub (mmC (mmI il_X10_crew_2 13 rfl) (mmA (mmA (mmA (mmC (mmI il_X10_crew_2 14 rfl) (mmC (mmI il_X10_crew_2 15 rfl) (mmC (mmI il_X10_crew_2 16 rfl) (mmC (mmI il_X10_crew_2 17 rfl) (mmC (mmI il_X10_crew_2 18 rfl) (mmC (mmI il_X10_crew_2 19 rfl) (mmC (mmI il_X10_crew_2 20 rfl) (mmC (mmI il_X10_crew_2 21 rfl) (mmC (mmI il_X10_crew_2 22 rfl) (mmC (mmI il_X10_crew_2 23 rfl) (mmC (mmI il_X10_crew_3 0 rfl) (mmC (mmI il_X10_crew_3 1 rfl) (mmC (mmI il_X10_crew_3 2 rfl) mmN))))))))))))) il_X10_crew_5) il_X10_crew_8) il_X10_crew_9)) gw_X10_isFree
theorem gX10_crew_X10_isFree : GoodIn wsX10_crew (wsV RX10 212 RX10 yX10_isFree wsX10_isFree) := goodIn_app (goodIn_sub (mmC (mmI il_X10_crew_2 10 rfl) (mmC (mmI il_X10_crew_2 11 rfl) (mmC (mmI il_X10_crew_2 12 rfl) (mmC (mmI il_X10_crew_1 6 rfl) mmN)))) (by decide +kernel)) ggX10_crew_X10_isFree
set_option maxRecDepth 100000 in
theorem ggX10_crew_X4_offer : GoodIn wsX10_crew wsX4_offer := goodIn_sub (mmC (mmI il_X10_crew_3 6 rfl) (mmA (mmA (mmC (mmI il_X10_crew_1 16 rfl) (mmC (mmI il_X10_crew_1 14 rfl) (mmC (mmI il_X10_crew_1 15 rfl) (mmC (mmI il_X10_crew_3 7 rfl) (mmC (mmI il_X10_crew_3 8 rfl) (mmC (mmI il_X10_crew_3 9 rfl) (mmC (mmI il_X10_crew_3 10 rfl) (mmC (mmI il_X10_crew_3 11 rfl) (mmC (mmI il_X10_crew_1 12 rfl) (mmC (mmI il_X10_crew_3 12 rfl) (mmC (mmI il_X10_crew_3 13 rfl) (mmC (mmI il_X10_crew_1 17 rfl) (mmC (mmI il_X10_crew_1 19 rfl) (mmC (mmI il_X10_crew_2 3 rfl) (mmC (mmI il_X10_crew_3 14 rfl) (mmC (mmI il_X10_crew_3 15 rfl) (mmC (mmI il_X10_crew_3 16 rfl) (mmC (mmI il_X10_crew_3 17 rfl) (mmC (mmI il_X10_crew_2 0 rfl) (mmC (mmI il_X10_crew_2 1 rfl) (mmC (mmI il_X10_crew_2 2 rfl) (mmC (mmI il_X10_crew_3 18 rfl) (mmC (mmI il_X10_crew_3 19 rfl) (mmC (mmI il_X10_crew_3 20 rfl) mmN)))))))))))))))))))))))) il_X10_crew_6) il_X10_crew_7)) gw_X4_offer
theorem gX10_crew_X4_offer : GoodIn wsX10_crew (wsV RX10 344 RX4 yX4_offer wsX4_offer) := goodIn_app (goodIn_sub (mmC (mmI il_X10_crew_3 3 rfl) (mmC (mmI il_X10_crew_3 4 rfl) (mmC (mmI il_X10_crew_3 5 rfl) (mmC (mmI il_X10_crew_1 12 rfl) mmN)))) (by decide +kernel)) ggX10_crew_X4_offer
set_option maxRecDepth 100000 in
theorem ggX10_crew_X4_leastSum : GoodIn wsX10_crew wsX4_leastSum := goodIn_sub (mmC (mmI il_X10_crew_4 0 rfl) (mmA (mmC (mmI il_X10_crew_1 14 rfl) (mmC (mmI il_X10_crew_1 17 rfl) (mmC (mmI il_X10_crew_1 15 rfl) mmN))) il_X10_crew_6)) gw_X4_leastSum
theorem gX10_crew_X4_leastSum : GoodIn wsX10_crew (wsV RX10 347 RX4 yX4_leastSum wsX4_leastSum) := goodIn_app (goodIn_sub (mmC (mmI il_X10_crew_3 21 rfl) (mmC (mmI il_X10_crew_3 22 rfl) (mmC (mmI il_X10_crew_3 23 rfl) (mmC (mmI il_X10_crew_1 12 rfl) mmN)))) (by decide +kernel)) ggX10_crew_X4_leastSum
set_option maxRecDepth 100000 in
theorem ggX10_crew_X4_hand : GoodIn wsX10_crew wsX4_hand := goodIn_sub (mmC (mmI il_X10_crew_4 4 rfl) (mmA (mmC (mmI il_X10_crew_1 14 rfl) (mmC (mmI il_X10_crew_1 17 rfl) (mmC (mmI il_X10_crew_1 15 rfl) (mmC (mmI il_X10_crew_1 18 rfl) (mmC (mmI il_X10_crew_4 5 rfl) (mmC (mmI il_X10_crew_3 7 rfl) (mmC (mmI il_X10_crew_3 18 rfl) (mmC (mmI il_X10_crew_3 19 rfl) (mmC (mmI il_X10_crew_1 12 rfl) (mmC (mmI il_X10_crew_3 20 rfl) mmN)))))))))) il_X10_crew_6)) gw_X4_hand
theorem gX10_crew_X4_hand : GoodIn wsX10_crew (wsV RX10 350 RX4 yX4_hand wsX4_hand) := goodIn_app (goodIn_sub (mmC (mmI il_X10_crew_4 1 rfl) (mmC (mmI il_X10_crew_4 2 rfl) (mmC (mmI il_X10_crew_4 3 rfl) (mmC (mmI il_X10_crew_1 12 rfl) mmN)))) (by decide +kernel)) ggX10_crew_X4_hand
theorem dX10_crew_0 : decode cX10_crew 0 = .ok (.iload_n 1, 1) := by decide +kernel
theorem dX10_crew_1 : decode cX10_crew 1 = .ok (.ifCond .ge 10, 3) := by decide +kernel
theorem dX10_crew_4 : decode cX10_crew 4 = .ok (.aload_n 0, 1) := by decide +kernel
theorem dX10_crew_5 : decode cX10_crew 5 = .ok (.bipush (-4), 2) := by decide +kernel
theorem dX10_crew_7 : decode cX10_crew 7 = .ok (.invokevirtual 69, 3) := by decide +kernel
theorem dX10_crew_10 : decode cX10_crew 10 = .ok (.ireturn, 1) := by decide +kernel
theorem dX10_crew_11 : decode cX10_crew 11 = .ok (.iload_n 1, 1) := by decide +kernel
theorem dX10_crew_12 : decode cX10_crew 12 = .ok (.bipush 80, 2) := by decide +kernel
theorem dX10_crew_14 : decode cX10_crew 14 = .ok (.if_icmp .le 10, 3) := by decide +kernel
theorem dX10_crew_17 : decode cX10_crew 17 = .ok (.aload_n 0, 1) := by decide +kernel
theorem dX10_crew_18 : decode cX10_crew 18 = .ok (.bipush (-6), 2) := by decide +kernel
theorem dX10_crew_20 : decode cX10_crew 20 = .ok (.invokevirtual 69, 3) := by decide +kernel
theorem dX10_crew_23 : decode cX10_crew 23 = .ok (.ireturn, 1) := by decide +kernel
theorem dX10_crew_24 : decode cX10_crew 24 = .ok (.iload_n 2, 1) := by decide +kernel
theorem dX10_crew_25 : decode cX10_crew 25 = .ok (.ifCond .lt 9, 3) := by decide +kernel
theorem dX10_crew_28 : decode cX10_crew 28 = .ok (.iload_n 2, 1) := by decide +kernel
theorem dX10_crew_29 : decode cX10_crew 29 = .ok (.bipush 8, 2) := by decide +kernel
theorem dX10_crew_31 : decode cX10_crew 31 = .ok (.if_icmp .le 10, 3) := by decide +kernel
theorem dX10_crew_34 : decode cX10_crew 34 = .ok (.aload_n 0, 1) := by decide +kernel
theorem dX10_crew_35 : decode cX10_crew 35 = .ok (.bipush (-2), 2) := by decide +kernel
theorem dX10_crew_37 : decode cX10_crew 37 = .ok (.invokevirtual 69, 3) := by decide +kernel
theorem dX10_crew_40 : decode cX10_crew 40 = .ok (.ireturn, 1) := by decide +kernel
theorem dX10_crew_41 : decode cX10_crew 41 = .ok (.aload_n 0, 1) := by decide +kernel
theorem dX10_crew_42 : decode cX10_crew 42 = .ok (.getfield 51, 3) := by decide +kernel
theorem dX10_crew_45 : decode cX10_crew 45 = .ok (.iload_n 1, 1) := by decide +kernel
theorem dX10_crew_46 : decode cX10_crew 46 = .ok (.invokevirtual 338, 3) := by decide +kernel
theorem dX10_crew_49 : decode cX10_crew 49 = .ok (.iconst 0, 1) := by decide +kernel
theorem dX10_crew_50 : decode cX10_crew 50 = .ok (.istore_n 3, 1) := by decide +kernel
theorem dX10_crew_51 : decode cX10_crew 51 = .ok (.iload_n 3, 1) := by decide +kernel
theorem dX10_crew_52 : decode cX10_crew 52 = .ok (.aload_n 0, 1) := by decide +kernel
theorem dX10_crew_53 : decode cX10_crew 53 = .ok (.getfield 86, 3) := by decide +kernel
theorem dX10_crew_56 : decode cX10_crew 56 = .ok (.if_icmp .ge 47, 3) := by decide +kernel
theorem dX10_crew_59 : decode cX10_crew 59 = .ok (.aload_n 0, 1) := by decide +kernel
theorem dX10_crew_60 : decode cX10_crew 60 = .ok (.getfield 11, 3) := by decide +kernel
theorem dX10_crew_63 : decode cX10_crew 63 = .ok (.iload_n 3, 1) := by decide +kernel
theorem dX10_crew_64 : decode cX10_crew 64 = .ok (.aaload, 1) := by decide +kernel
theorem dX10_crew_65 : decode cX10_crew 65 = .ok (.invokevirtual 341, 3) := by decide +kernel
theorem dX10_crew_68 : decode cX10_crew 68 = .ok (.ifCond .eq 29, 3) := by decide +kernel
theorem dX10_crew_71 : decode cX10_crew 71 = .ok (.aload_n 0, 1) := by decide +kernel
theorem dX10_crew_72 : decode cX10_crew 72 = .ok (.aload_n 0, 1) := by decide +kernel
theorem dX10_crew_73 : decode cX10_crew 73 = .ok (.getfield 11, 3) := by decide +kernel
theorem dX10_crew_76 : decode cX10_crew 76 = .ok (.iload_n 3, 1) := by decide +kernel
theorem dX10_crew_77 : decode cX10_crew 77 = .ok (.aaload, 1) := by decide +kernel
theorem dX10_crew_78 : decode cX10_crew 78 = .ok (.invokevirtual 212, 3) := by decide +kernel
theorem dX10_crew_81 : decode cX10_crew 81 = .ok (.ifCond .eq 16, 3) := by decide +kernel
theorem dX10_crew_84 : decode cX10_crew 84 = .ok (.aload_n 0, 1) := by decide +kernel
theorem dX10_crew_85 : decode cX10_crew 85 = .ok (.getfield 51, 3) := by decide +kernel
theorem dX10_crew_88 : decode cX10_crew 88 = .ok (.aload_n 0, 1) := by decide +kernel
theorem dX10_crew_89 : decode cX10_crew 89 = .ok (.getfield 11, 3) := by decide +kernel
theorem dX10_crew_92 : decode cX10_crew 92 = .ok (.iload_n 3, 1) := by decide +kernel
theorem dX10_crew_93 : decode cX10_crew 93 = .ok (.aaload, 1) := by decide +kernel
theorem dX10_crew_94 : decode cX10_crew 94 = .ok (.invokevirtual 344, 3) := by decide +kernel
theorem dX10_crew_97 : decode cX10_crew 97 = .ok (.iinc 3 1, 3) := by decide +kernel
theorem dX10_crew_100 : decode cX10_crew 100 = .ok (.goto (-49), 3) := by decide +kernel
theorem dX10_crew_103 : decode cX10_crew 103 = .ok (.iload_n 2, 1) := by decide +kernel
theorem dX10_crew_104 : decode cX10_crew 104 = .ok (.ifCond .ne 13, 3) := by decide +kernel
theorem dX10_crew_107 : decode cX10_crew 107 = .ok (.aload_n 0, 1) := by decide +kernel
theorem dX10_crew_108 : decode cX10_crew 108 = .ok (.getfield 51, 3) := by decide +kernel
theorem dX10_crew_111 : decode cX10_crew 111 = .ok (.invokevirtual 347, 3) := by decide +kernel
theorem dX10_crew_114 : decode cX10_crew 114 = .ok (.goto 13, 3) := by decide +kernel
theorem dX10_crew_117 : decode cX10_crew 117 = .ok (.aload_n 0, 1) := by decide +kernel
theorem dX10_crew_118 : decode cX10_crew 118 = .ok (.getfield 51, 3) := by decide +kernel
theorem dX10_crew_121 : decode cX10_crew 121 = .ok (.iload_n 2, 1) := by decide +kernel
theorem dX10_crew_122 : decode cX10_crew 122 = .ok (.iconst 1, 1) := by decide +kernel
theorem dX10_crew_123 : decode cX10_crew 123 = .ok (.isub, 1) := by decide +kernel
theorem dX10_crew_124 : decode cX10_crew 124 = .ok (.invokevirtual 350, 3) := by decide +kernel
theorem dX10_crew_127 : decode cX10_crew 127 = .ok (.ireturn, 1) := by decide +kernel
set_option maxRecDepth 100000 in
theorem ggX10_check_X10_voyageAt : GoodIn wsX10_check wsX10_voyageAt := goodIn_sub (mmC (mmI il_X10_check_1 9 rfl) (mmA (mmC (mmI il_X10_check_1 10 rfl) (mmC (mmI il_X10_check_1 11 rfl) mmN)) il_X10_check_10)) gw_X10_voyageAt
theorem gX10_check_X10_voyageAt : GoodIn wsX10_check (wsV RX10 103 RX10 yX10_voyageAt wsX10_voyageAt) := goodIn_app (goodIn_sub (mmC (mmI il_X10_check_1 5 rfl) (mmC (mmI il_X10_check_1 6 rfl) (mmC (mmI il_X10_check_1 7 rfl) (mmC (mmI il_X10_check_1 8 rfl) mmN)))) (by decide +kernel)) ggX10_check_X10_voyageAt
set_option maxRecDepth 100000 in
theorem ggX10_check_X10_refuse : GoodIn wsX10_check wsX10_refuse := goodIn_sub (mmC (mmI il_X10_check_1 15 rfl) (mmA (mmC (mmI il_X10_check_1 16 rfl) mmN) il_X10_check_10)) gw_X10_refuse
theorem gX10_check_X10_refuse : GoodIn wsX10_check (wsV RX10 69 RX10 yX10_refuse wsX10_refuse) := goodIn_app (goodIn_sub (mmC (mmI il_X10_check_1 12 rfl) (mmC (mmI il_X10_check_1 13 rfl) (mmC (mmI il_X10_check_1 14 rfl) (mmC (mmI il_X10_check_1 8 rfl) mmN)))) (by decide +kernel)) ggX10_check_X10_refuse
set_option maxRecDepth 100000 in
theorem ggX10_check_X10_askRefusal : GoodIn wsX10_check wsX10_askRefusal := goodIn_sub (mmC (mmI il_X10_check_1 20 rfl) (mmA (mmC (mmI il_X10_check_1 21 rfl) mmN) il_X10_check_10)) gw_X10_askRefusal
theorem gX10_check_X10_askRefusal : GoodIn wsX10_check (wsV RX10 229 RX10 yX10_askRefusal wsX10_askRefusal) := goodIn_app (goodIn_sub (mmC (mmI il_X10_check_1 17 rfl) (mmC (mmI il_X10_check_1 18 rfl) (mmC (mmI il_X10_check_1 19 rfl) (mmC (mmI il_X10_check_1 8 rfl) mmN)))) (by decide +kernel)) ggX10_check_X10_askRefusal
set_option maxRecDepth 100000 in
theorem ggX10_check_X10_owedOn : GoodIn wsX10_check wsX10_owedOn := goodIn_sub (mmC (mmI il_X10_check_2 1 rfl) (mmA (mmA (mmA (mmA (mmA (mmA (mmA (mmA (mmA (mmC (mmI il_X10_check_2 2 rfl) (mmC (mmI il_X10_check_2 3 rfl) (mmC (mmI il_X10_check_2 4 rfl) (mmC (mmI il_X10_check_2 5 rfl) (mmC (mmI il_X10_check_2 6 rfl) (mmC (mmI il_X10_check_2 7 rfl) (mmC (mmI il_X10_check_2 8 rfl) (mmC (mmI il_X10_check_2 9 rfl) (mmC (mmI il_X10_check_2 10 rfl) (mmC (mmI il_X10_check_2 11 rfl) (mmC (mmI il_X10_check_2 12 rfl) (mmC (mmI il_X10_check_2 13 rfl) (mmC (mmI il_X10_check_2 14 rfl) (mmC (mmI il_X10_check_2 15 rfl) (mmC (mmI il_X10_check_2 16 rfl) (mmC (mmI il_X10_check_2 17 rfl) (mmC (mmI il_X10_check_2 18 rfl) (mmC (mmI il_X10_check_2 19 rfl) (mmC (mmI il_X10_check_2 20 rfl) (mmC (mmI il_X10_check_2 21 rfl) (mmC (mmI il_X10_check_2 22 rfl) (mmC (mmI il_X10_check_2 23 rfl) (mmC (mmI il_X10_check_3 0 rfl) (mmC (mmI il_X10_check_3 1 rfl) mmN)))))))))))))))))))))))) (mmA (mmC (mmI il_X10_check_3 2 rfl) (mmC (mmI il_X10_check_3 3 rfl) (mmC (mmI il_X10_check_3 4 rfl) (mmC (mmI il_X10_check_3 5 rfl) (mmC (mmI il_X10_check_3 6 rfl) (mmC (mmI il_X10_check_3 7 rfl) (mmC (mmI il_X10_check_3 8 rfl) (mmC (mmI il_X10_check_3 9 rfl) (mmC (mmI il_X10_check_3 10 rfl) (mmC (mmI il_X10_check_3 11 rfl) (mmC (mmI il_X10_check_3 12 rfl) (mmC (mmI il_X10_check_3 13 rfl) (mmC (mmI il_X10_check_3 14 rfl) (mmC (mmI il_X10_check_3 15 rfl) (mmC (mmI il_X10_check_3 16 rfl) (mmC (mmI il_X10_check_3 17 rfl) (mmC (mmI il_X10_check_3 18 rfl) (mmC (mmI il_X10_check_3 19 rfl) (mmC (mmI il_X10_check_3 20 rfl) (mmC (mmI il_X10_check_3 21 rfl) (mmC (mmI il_X10_check_3 22 rfl) (mmC (mmI il_X10_check_3 23 rfl) (mmC (mmI il_X10_check_4 0 rfl) (mmC (mmI il_X10_check_4 1 rfl) mmN)))))))))))))))))))))))) (mmA (mmC (mmI il_X10_check_4 2 rfl) (mmC (mmI il_X10_check_4 3 rfl) (mmC (mmI il_X10_check_4 4 rfl) (mmC (mmI il_X10_check_4 5 rfl) (mmC (mmI il_X10_check_4 6 rfl) (mmC (mmI il_X10_check_4 7 rfl) (mmC (mmI il_X10_check_4 8 rfl) (mmC (mmI il_X10_check_4 9 rfl) (mmC (mmI il_X10_check_4 10 rfl) (mmC (mmI il_X10_check_4 11 rfl) (mmC (mmI il_X10_check_4 12 rfl) (mmC (mmI il_X10_check_4 13 rfl) (mmC (mmI il_X10_check_4 14 rfl) (mmC (mmI il_X10_check_4 15 rfl) (mmC (mmI il_X10_check_4 16 rfl) (mmC (mmI il_X10_check_4 17 rfl) (mmC (mmI il_X10_check_4 18 rfl) (mmC (mmI il_X10_check_4 19 rfl) (mmC (mmI il_X10_check_4 20 rfl) (mmC (mmI il_X10_check_4 21 rfl) (mmC (mmI il_X10_check_4 22 rfl) (mmC (mmI il_X10_check_4 23 rfl) (mmC (mmI il_X10_check_5 0 rfl) (mmC (mmI il_X10_check_5 1 rfl) mmN)))))))))))))))))))))))) (mmA (mmC (mmI il_X10_check_5 2 rfl) (mmC (mmI il_X10_check_5 3 rfl) (mmC (mmI il_X10_check_5 4 rfl) (mmC (mmI il_X10_check_5 5 rfl) (mmC (mmI il_X10_check_5 6 rfl) (mmC (mmI il_X10_check_5 7 rfl) (mmC (mmI il_X10_check_5 8 rfl) (mmC (mmI il_X10_check_5 9 rfl) (mmC (mmI il_X10_check_5 10 rfl) (mmC (mmI il_X10_check_5 11 rfl) (mmC (mmI il_X10_check_5 12 rfl) (mmC (mmI il_X10_check_5 13 rfl) (mmC (mmI il_X10_check_5 14 rfl) (mmC (mmI il_X10_check_5 15 rfl) (mmC (mmI il_X10_check_5 16 rfl) (mmC (mmI il_X10_check_5 17 rfl) (mmC (mmI il_X10_check_5 18 rfl) (mmC (mmI il_X10_check_5 19 rfl) (mmC (mmI il_X10_check_5 20 rfl) (mmC (mmI il_X10_check_5 21 rfl) (mmC (mmI il_X10_check_5 22 rfl) (mmC (mmI il_X10_check_5 23 rfl) (mmC (mmI il_X10_check_6 0 rfl) (mmC (mmI il_X10_check_6 1 rfl) mmN)))))))))))))))))))))))) (mmA (mmC (mmI il_X10_check_6 2 rfl) (mmC (mmI il_X10_check_6 3 rfl) (mmC (mmI il_X10_check_6 4 rfl) (mmC (mmI il_X10_check_6 5 rfl) (mmC (mmI il_X10_check_6 6 rfl) (mmC (mmI il_X10_check_6 7 rfl) (mmC (mmI il_X10_check_6 8 rfl) (mmC (mmI il_X10_check_6 9 rfl) (mmC (mmI il_X10_check_6 10 rfl) (mmC (mmI il_X10_check_6 11 rfl) (mmC (mmI il_X10_check_6 12 rfl) (mmC (mmI il_X10_check_6 13 rfl) (mmC (mmI il_X10_check_6 14 rfl) (mmC (mmI il_X10_check_6 15 rfl) (mmC (mmI il_X10_check_1 8 rfl) (mmC (mmI il_X10_check_6 16 rfl) (mmC (mmI il_X10_check_6 17 rfl) (mmC (mmI il_X10_check_6 18 rfl) (mmC (mmI il_X10_check_6 19 rfl) (mmC (mmI il_X10_check_6 20 rfl) (mmC (mmI il_X10_check_6 21 rfl) (mmC (mmI il_X10_check_6 22 rfl) (mmC (mmI il_X10_check_6 23 rfl) (mmC (mmI il_X10_check_7 0 rfl) mmN)))))))))))))))))))))))) (mmA (mmC (mmI il_X10_check_7 1 rfl) (mmC (mmI il_X10_check_1 3 rfl) (mmC (mmI il_X10_check_7 2 rfl) (mmC (mmI il_X10_check_7 3 rfl) (mmC (mmI il_X10_check_7 4 rfl) (mmC (mmI il_X10_check_7 5 rfl) (mmC (mmI il_X10_check_7 6 rfl) (mmC (mmI il_X10_check_7 7 rfl) (mmC (mmI il_X10_check_7 8 rfl) (mmC (mmI il_X10_check_7 9 rfl) (mmC (mmI il_X10_check_7 10 rfl) (mmC (mmI il_X10_check_7 11 rfl) (mmC (mmI il_X10_check_7 12 rfl) (mmC (mmI il_X10_check_7 13 rfl) (mmC (mmI il_X10_check_7 14 rfl) (mmC (mmI il_X10_check_7 15 rfl) (mmC (mmI il_X10_check_7 16 rfl) (mmC (mmI il_X10_check_7 17 rfl) (mmC (mmI il_X10_check_7 18 rfl) (mmC (mmI il_X10_check_7 19 rfl) (mmC (mmI il_X10_check_1 1 rfl) (mmC (mmI il_X10_check_1 2 rfl) (mmC (mmI il_X10_check_7 20 rfl) (mmC (mmI il_X10_check_7 21 rfl) mmN)))))))))))))))))))))))) (mmA (mmC (mmI il_X10_check_7 22 rfl) (mmC (mmI il_X10_check_7 23 rfl) (mmC (mmI il_X10_check_8 0 rfl) (mmC (mmI il_X10_check_8 1 rfl) (mmC (mmI il_X10_check_8 2 rfl) (mmC (mmI il_X10_check_8 3 rfl) (mmC (mmI il_X10_check_8 4 rfl) (mmC (mmI il_X10_check_8 5 rfl) (mmC (mmI il_X10_check_8 6 rfl) (mmC (mmI il_X10_check_8 7 rfl) (mmC (mmI il_X10_check_8 8 rfl) (mmC (mmI il_X10_check_8 9 rfl) (mmC (mmI il_X10_check_8 10 rfl) (mmC (mmI il_X10_check_8 11 rfl) (mmC (mmI il_X10_check_8 12 rfl) (mmC (mmI il_X10_check_8 13 rfl) (mmC (mmI il_X10_check_8 14 rfl) (mmC (mmI il_X10_check_8 15 rfl) (mmC (mmI il_X10_check_8 16 rfl) (mmC (mmI il_X10_check_8 17 rfl) (mmC (mmI il_X10_check_8 18 rfl) (mmC (mmI il_X10_check_8 19 rfl) (mmC (mmI il_X10_check_8 20 rfl) (mmC (mmI il_X10_check_8 21 rfl) mmN)))))))))))))))))))))))) (mmC (mmI il_X10_check_8 22 rfl) (mmC (mmI il_X10_check_8 23 rfl) (mmC (mmI il_X10_check_9 0 rfl) (mmC (mmI il_X10_check_9 1 rfl) (mmC (mmI il_X10_check_9 2 rfl) (mmC (mmI il_X10_check_9 3 rfl) mmN))))))))))))) il_X10_check_11) il_X10_check_10) il_X10_check_12) il_X10_check_13) il_X10_check_14) il_X10_check_15) il_X10_check_16) il_X10_check_17)) gw_X10_owedOn
theorem gX10_check_X10_owedOn : GoodIn wsX10_check (wsV RX10 295 RX10 yX10_owedOn wsX10_owedOn) := goodIn_app (goodIn_sub (mmC (mmI il_X10_check_1 22 rfl) (mmC (mmI il_X10_check_1 23 rfl) (mmC (mmI il_X10_check_2 0 rfl) (mmC (mmI il_X10_check_1 8 rfl) mmN)))) (by decide +kernel)) ggX10_check_X10_owedOn
theorem dX10_check_0 : decode cX10_check 0 = .ok (.aload_n 0, 1) := by decide +kernel
theorem dX10_check_1 : decode cX10_check 1 = .ok (.iload_n 1, 1) := by decide +kernel
theorem dX10_check_2 : decode cX10_check 2 = .ok (.invokevirtual 103, 3) := by decide +kernel
theorem dX10_check_5 : decode cX10_check 5 = .ok (.astore 4, 2) := by decide +kernel
theorem dX10_check_7 : decode cX10_check 7 = .ok (.aload 4, 2) := by decide +kernel
theorem dX10_check_9 : decode cX10_check 9 = .ok (.ifnonnull 9, 3) := by decide +kernel
theorem dX10_check_12 : decode cX10_check 12 = .ok (.aload_n 0, 1) := by decide +kernel
theorem dX10_check_13 : decode cX10_check 13 = .ok (.iconst (-1), 1) := by decide +kernel
theorem dX10_check_14 : decode cX10_check 14 = .ok (.invokevirtual 69, 3) := by decide +kernel
theorem dX10_check_17 : decode cX10_check 17 = .ok (.ireturn, 1) := by decide +kernel
theorem dX10_check_18 : decode cX10_check 18 = .ok (.aload_n 0, 1) := by decide +kernel
theorem dX10_check_19 : decode cX10_check 19 = .ok (.iload_n 2, 1) := by decide +kernel
theorem dX10_check_20 : decode cX10_check 20 = .ok (.iload_n 3, 1) := by decide +kernel
theorem dX10_check_21 : decode cX10_check 21 = .ok (.invokevirtual 229, 3) := by decide +kernel
theorem dX10_check_24 : decode cX10_check 24 = .ok (.istore 5, 2) := by decide +kernel
theorem dX10_check_26 : decode cX10_check 26 = .ok (.iload 5, 2) := by decide +kernel
theorem dX10_check_28 : decode cX10_check 28 = .ok (.ifCond .eq 10, 3) := by decide +kernel
theorem dX10_check_31 : decode cX10_check 31 = .ok (.aload_n 0, 1) := by decide +kernel
theorem dX10_check_32 : decode cX10_check 32 = .ok (.iload 5, 2) := by decide +kernel
theorem dX10_check_34 : decode cX10_check 34 = .ok (.invokevirtual 69, 3) := by decide +kernel
theorem dX10_check_37 : decode cX10_check 37 = .ok (.ireturn, 1) := by decide +kernel
theorem dX10_check_38 : decode cX10_check 38 = .ok (.aload_n 0, 1) := by decide +kernel
theorem dX10_check_39 : decode cX10_check 39 = .ok (.getfield 353, 3) := by decide +kernel
theorem dX10_check_42 : decode cX10_check 42 = .ok (.istore 6, 2) := by decide +kernel
theorem dX10_check_44 : decode cX10_check 44 = .ok (.aload_n 0, 1) := by decide +kernel
theorem dX10_check_45 : decode cX10_check 45 = .ok (.iconst 0, 1) := by decide +kernel
theorem dX10_check_46 : decode cX10_check 46 = .ok (.putfield 353, 3) := by decide +kernel
theorem dX10_check_49 : decode cX10_check 49 = .ok (.iconst 0, 1) := by decide +kernel
theorem dX10_check_50 : decode cX10_check 50 = .ok (.istore 7, 2) := by decide +kernel
theorem dX10_check_52 : decode cX10_check 52 = .ok (.iconst 0, 1) := by decide +kernel
theorem dX10_check_53 : decode cX10_check 53 = .ok (.istore 8, 2) := by decide +kernel
theorem dX10_check_55 : decode cX10_check 55 = .ok (.iload 8, 2) := by decide +kernel
theorem dX10_check_57 : decode cX10_check 57 = .ok (.aload_n 0, 1) := by decide +kernel
theorem dX10_check_58 : decode cX10_check 58 = .ok (.getfield 115, 3) := by decide +kernel
theorem dX10_check_61 : decode cX10_check 61 = .ok (.if_icmp .ge 60, 3) := by decide +kernel
theorem dX10_check_64 : decode cX10_check 64 = .ok (.aload_n 0, 1) := by decide +kernel
theorem dX10_check_65 : decode cX10_check 65 = .ok (.getfield 23, 3) := by decide +kernel
theorem dX10_check_68 : decode cX10_check 68 = .ok (.iload 8, 2) := by decide +kernel
theorem dX10_check_70 : decode cX10_check 70 = .ok (.aaload, 1) := by decide +kernel
theorem dX10_check_71 : decode cX10_check 71 = .ok (.getfield 118, 3) := by decide +kernel
theorem dX10_check_74 : decode cX10_check 74 = .ok (.aload 4, 2) := by decide +kernel
theorem dX10_check_76 : decode cX10_check 76 = .ok (.if_acmp .ne 39, 3) := by decide +kernel
theorem dX10_check_79 : decode cX10_check 79 = .ok (.iload 7, 2) := by decide +kernel
theorem dX10_check_81 : decode cX10_check 81 = .ok (.iload 6, 2) := by decide +kernel
theorem dX10_check_83 : decode cX10_check 83 = .ok (.if_icmp .ge 26, 3) := by decide +kernel
theorem dX10_check_86 : decode cX10_check 86 = .ok (.aload_n 0, 1) := by decide +kernel
theorem dX10_check_87 : decode cX10_check 87 = .ok (.getfield 63, 3) := by decide +kernel
theorem dX10_check_90 : decode cX10_check 90 = .ok (.iload 7, 2) := by decide +kernel
theorem dX10_check_92 : decode cX10_check 92 = .ok (.iaload, 1) := by decide +kernel
theorem dX10_check_93 : decode cX10_check 93 = .ok (.aload_n 0, 1) := by decide +kernel
theorem dX10_check_94 : decode cX10_check 94 = .ok (.aload_n 0, 1) := by decide +kernel
theorem dX10_check_95 : decode cX10_check 95 = .ok (.getfield 23, 3) := by decide +kernel
theorem dX10_check_98 : decode cX10_check 98 = .ok (.iload 8, 2) := by decide +kernel
theorem dX10_check_100 : decode cX10_check 100 = .ok (.aaload, 1) := by decide +kernel
theorem dX10_check_101 : decode cX10_check 101 = .ok (.iload_n 2, 1) := by decide +kernel
theorem dX10_check_102 : decode cX10_check 102 = .ok (.iload_n 3, 1) := by decide +kernel
theorem dX10_check_103 : decode cX10_check 103 = .ok (.invokevirtual 295, 3) := by decide +kernel
theorem dX10_check_106 : decode cX10_check 106 = .ok (.if_icmp .eq 6, 3) := by decide +kernel
theorem dX10_check_109 : decode cX10_check 109 = .ok (.iload 7, 2) := by decide +kernel
theorem dX10_check_111 : decode cX10_check 111 = .ok (.ireturn, 1) := by decide +kernel
theorem dX10_check_112 : decode cX10_check 112 = .ok (.iinc 7 1, 3) := by decide +kernel
theorem dX10_check_115 : decode cX10_check 115 = .ok (.iinc 8 1, 3) := by decide +kernel
theorem dX10_check_118 : decode cX10_check 118 = .ok (.goto (-63), 3) := by decide +kernel
theorem dX10_check_121 : decode cX10_check 121 = .ok (.iload 7, 2) := by decide +kernel
theorem dX10_check_123 : decode cX10_check 123 = .ok (.iload 6, 2) := by decide +kernel
theorem dX10_check_125 : decode cX10_check 125 = .ok (.if_icmp .ge 8, 3) := by decide +kernel
theorem dX10_check_128 : decode cX10_check 128 = .ok (.iload 7, 2) := by decide +kernel
theorem dX10_check_130 : decode cX10_check 130 = .ok (.goto 5, 3) := by decide +kernel
theorem dX10_check_133 : decode cX10_check 133 = .ok (.bipush (-9), 2) := by decide +kernel
theorem dX10_check_135 : decode cX10_check 135 = .ok (.ireturn, 1) := by decide +kernel
set_option maxRecDepth 100000 in
theorem ggX10_count_X10_openVoyages : GoodIn wsX10_count wsX10_openVoyages := goodIn_sub (mmC (mmI il_X10_count_1 15 rfl) (mmA (mmA (mmC (mmI il_X10_count_1 2 rfl) (mmC (mmI il_X10_count_1 16 rfl) (mmC (mmI il_X10_count_1 17 rfl) mmN))) il_X10_count_3) il_X10_count_6)) gw_X10_openVoyages
theorem gX10_count_X10_openVoyages : GoodIn wsX10_count (wsV RX10 356 RX10 yX10_openVoyages wsX10_openVoyages) := goodIn_app (goodIn_sub (mmC (mmI il_X10_count_1 11 rfl) (mmC (mmI il_X10_count_1 12 rfl) (mmC (mmI il_X10_count_1 13 rfl) (mmC (mmI il_X10_count_1 14 rfl) mmN)))) (by decide +kernel)) ggX10_count_X10_openVoyages
set_option maxRecDepth 100000 in
theorem ggX10_count_X10_openAgreements : GoodIn wsX10_count wsX10_openAgreements := goodIn_sub (mmC (mmI il_X10_count_1 21 rfl) (mmA (mmA (mmA (mmC (mmI il_X10_count_1 3 rfl) (mmC (mmI il_X10_count_1 22 rfl) (mmC (mmI il_X10_count_1 23 rfl) (mmC (mmI il_X10_count_2 0 rfl) (mmC (mmI il_X10_count_2 1 rfl) (mmC (mmI il_X10_count_2 2 rfl) (mmC (mmI il_X10_count_2 3 rfl) (mmC (mmI il_X10_count_2 4 rfl) (mmC (mmI il_X10_count_2 5 rfl) (mmC (mmI il_X10_count_2 6 rfl) (mmC (mmI il_X10_count_2 7 rfl) (mmC (mmI il_X10_count_2 8 rfl) mmN)))))))))))) il_X10_count_3) il_X10_count_7) il_X10_count_6)) gw_X10_openAgreements
theorem gX10_count_X10_openAgreements : GoodIn wsX10_count (wsV RX10 359 RX10 yX10_openAgreements wsX10_openAgreements) := goodIn_app (goodIn_sub (mmC (mmI il_X10_count_1 18 rfl) (mmC (mmI il_X10_count_1 19 rfl) (mmC (mmI il_X10_count_1 20 rfl) (mmC (mmI il_X10_count_1 14 rfl) mmN)))) (by decide +kernel)) ggX10_count_X10_openAgreements
set_option maxRecDepth 100000 in
theorem ggX10_count_X10_menWhoAsk : GoodIn wsX10_count wsX10_menWhoAsk := goodIn_sub (mmC (mmI il_X10_count_2 12 rfl) (mmA (mmA (mmC (mmI il_X10_count_1 1 rfl) (mmC (mmI il_X10_count_2 13 rfl) (mmC (mmI il_X10_count_2 14 rfl) (mmC (mmI il_X10_count_2 15 rfl) (mmC (mmI il_X10_count_2 16 rfl) (mmC (mmI il_X10_count_2 17 rfl) (mmC (mmI il_X10_count_2 18 rfl) (mmC (mmI il_X10_count_2 19 rfl) mmN)))))))) il_X10_count_3) il_X10_count_8)) gw_X10_menWhoAsk
theorem gX10_count_X10_menWhoAsk : GoodIn wsX10_count (wsV RX10 362 RX10 yX10_menWhoAsk wsX10_menWhoAsk) := goodIn_app (goodIn_sub (mmC (mmI il_X10_count_2 9 rfl) (mmC (mmI il_X10_count_2 10 rfl) (mmC (mmI il_X10_count_2 11 rfl) (mmC (mmI il_X10_count_1 14 rfl) mmN)))) (by decide +kernel)) ggX10_count_X10_menWhoAsk
theorem dX10_count_0 : decode cX10_count 0 = .ok (.iload_n 1, 1) := by decide +kernel
theorem dX10_count_1 : decode cX10_count 1 = .ok (.tableswitch 148 0 17 #[87, 92, 97, 102, 107, 112, 117, 122, 130, 138, 148, 148, 148, 148, 148, 148, 148, 143], 87) := by decide +kernel
theorem dX10_count_88 : decode cX10_count 88 = .ok (.aload_n 0, 1) := by decide +kernel
theorem dX10_count_89 : decode cX10_count 89 = .ok (.getfield 73, 3) := by decide +kernel
theorem dX10_count_92 : decode cX10_count 92 = .ok (.ireturn, 1) := by decide +kernel
theorem dX10_count_93 : decode cX10_count 93 = .ok (.aload_n 0, 1) := by decide +kernel
theorem dX10_count_94 : decode cX10_count 94 = .ok (.getfield 86, 3) := by decide +kernel
theorem dX10_count_97 : decode cX10_count 97 = .ok (.ireturn, 1) := by decide +kernel
theorem dX10_count_98 : decode cX10_count 98 = .ok (.aload_n 0, 1) := by decide +kernel
theorem dX10_count_99 : decode cX10_count 99 = .ok (.getfield 99, 3) := by decide +kernel
theorem dX10_count_102 : decode cX10_count 102 = .ok (.ireturn, 1) := by decide +kernel
theorem dX10_count_103 : decode cX10_count 103 = .ok (.aload_n 0, 1) := by decide +kernel
theorem dX10_count_104 : decode cX10_count 104 = .ok (.invokevirtual 356, 3) := by decide +kernel
theorem dX10_count_107 : decode cX10_count 107 = .ok (.ireturn, 1) := by decide +kernel
theorem dX10_count_108 : decode cX10_count 108 = .ok (.aload_n 0, 1) := by decide +kernel
theorem dX10_count_109 : decode cX10_count 109 = .ok (.getfield 115, 3) := by decide +kernel
theorem dX10_count_112 : decode cX10_count 112 = .ok (.ireturn, 1) := by decide +kernel
theorem dX10_count_113 : decode cX10_count 113 = .ok (.aload_n 0, 1) := by decide +kernel
theorem dX10_count_114 : decode cX10_count 114 = .ok (.invokevirtual 359, 3) := by decide +kernel
theorem dX10_count_117 : decode cX10_count 117 = .ok (.ireturn, 1) := by decide +kernel
theorem dX10_count_118 : decode cX10_count 118 = .ok (.aload_n 0, 1) := by decide +kernel
theorem dX10_count_119 : decode cX10_count 119 = .ok (.getfield 139, 3) := by decide +kernel
theorem dX10_count_122 : decode cX10_count 122 = .ok (.ireturn, 1) := by decide +kernel
theorem dX10_count_123 : decode cX10_count 123 = .ok (.aload_n 0, 1) := by decide +kernel
theorem dX10_count_124 : decode cX10_count 124 = .ok (.getfield 30, 3) := by decide +kernel
theorem dX10_count_127 : decode cX10_count 127 = .ok (.getfield 178, 3) := by decide +kernel
theorem dX10_count_130 : decode cX10_count 130 = .ok (.ireturn, 1) := by decide +kernel
theorem dX10_count_131 : decode cX10_count 131 = .ok (.aload_n 0, 1) := by decide +kernel
theorem dX10_count_132 : decode cX10_count 132 = .ok (.getfield 37, 3) := by decide +kernel
theorem dX10_count_135 : decode cX10_count 135 = .ok (.getfield 169, 3) := by decide +kernel
theorem dX10_count_138 : decode cX10_count 138 = .ok (.ireturn, 1) := by decide +kernel
theorem dX10_count_139 : decode cX10_count 139 = .ok (.aload_n 0, 1) := by decide +kernel
theorem dX10_count_140 : decode cX10_count 140 = .ok (.getfield 353, 3) := by decide +kernel
theorem dX10_count_143 : decode cX10_count 143 = .ok (.ireturn, 1) := by decide +kernel
theorem dX10_count_144 : decode cX10_count 144 = .ok (.aload_n 0, 1) := by decide +kernel
theorem dX10_count_145 : decode cX10_count 145 = .ok (.invokevirtual 362, 3) := by decide +kernel
theorem dX10_count_148 : decode cX10_count 148 = .ok (.ireturn, 1) := by decide +kernel
theorem dX10_count_149 : decode cX10_count 149 = .ok (.iload_n 1, 1) := by decide +kernel
theorem dX10_count_150 : decode cX10_count 150 = .ok (.bipush 11, 2) := by decide +kernel
theorem dX10_count_152 : decode cX10_count 152 = .ok (.if_icmp .lt 21, 3) := by decide +kernel
theorem dX10_count_155 : decode cX10_count 155 = .ok (.iload_n 1, 1) := by decide +kernel
theorem dX10_count_156 : decode cX10_count 156 = .ok (.bipush 16, 2) := by decide +kernel
theorem dX10_count_158 : decode cX10_count 158 = .ok (.if_icmp .gt 15, 3) := by decide +kernel
theorem dX10_count_161 : decode cX10_count 161 = .ok (.aload_n 0, 1) := by decide +kernel
theorem dX10_count_162 : decode cX10_count 162 = .ok (.getfield 66, 3) := by decide +kernel
theorem dX10_count_165 : decode cX10_count 165 = .ok (.iload_n 1, 1) := by decide +kernel
theorem dX10_count_166 : decode cX10_count 166 = .ok (.bipush 10, 2) := by decide +kernel
theorem dX10_count_168 : decode cX10_count 168 = .ok (.isub, 1) := by decide +kernel
theorem dX10_count_169 : decode cX10_count 169 = .ok (.iaload, 1) := by decide +kernel
theorem dX10_count_170 : decode cX10_count 170 = .ok (.goto 5, 3) := by decide +kernel
theorem dX10_count_173 : decode cX10_count 173 = .ok (.bipush (-9), 2) := by decide +kernel
theorem dX10_count_175 : decode cX10_count 175 = .ok (.ireturn, 1) := by decide +kernel
theorem in_wsX10_miles_X10 : ∀ w ∈ wsX100, w ∈ wsX10_miles := fun w h => List.mem_cons_of_mem _ (List.mem_append_left _ (List.mem_append_right _ h))
theorem in_wsX10_ended_X9 : ∀ w ∈ wsX90, w ∈ wsX10_ended := fun w h => List.mem_cons_of_mem _ (List.mem_append_left _ (List.mem_append_left _ (List.mem_append_right _ h)))
theorem in_wsX10_ended_X10 : ∀ w ∈ wsX100, w ∈ wsX10_ended := fun w h => List.mem_cons_of_mem _ (List.mem_append_left _ (List.mem_append_right _ h))
theorem in_wsX10_ended_X1 : ∀ w ∈ wsX10, w ∈ wsX10_ended := fun w h => List.mem_cons_of_mem _ (List.mem_append_right _ h)
theorem in_wsX10_sailed_X9 : ∀ w ∈ wsX90, w ∈ wsX10_sailed := fun w h => List.mem_cons_of_mem _ (List.mem_append_left _ (List.mem_append_right _ h))
theorem in_wsX10_sailed_X10 : ∀ w ∈ wsX100, w ∈ wsX10_sailed := fun w h => List.mem_cons_of_mem _ (List.mem_append_right _ h)
theorem in_wsX10_lost_X9 : ∀ w ∈ wsX90, w ∈ wsX10_lost := fun w h => List.mem_cons_of_mem _ (List.mem_append_left _ (List.mem_append_right _ h))
theorem in_wsX10_lost_X10 : ∀ w ∈ wsX100, w ∈ wsX10_lost := fun w h => List.mem_cons_of_mem _ (List.mem_append_right _ h)
theorem in_wsX10_feed_X10 : ∀ w ∈ wsX100, w ∈ wsX10_feed := fun w h => List.mem_cons_of_mem _ (List.mem_append_left _ (List.mem_append_right _ h))
theorem in_wsX10_feed_X8 : ∀ w ∈ wsX80, w ∈ wsX10_feed := fun w h => List.mem_cons_of_mem _ (List.mem_append_right _ h)
theorem in_wsX10_off_X10 : ∀ w ∈ wsX100, w ∈ wsX10_off := fun w h => List.mem_cons_of_mem _ (List.mem_append_left _ (List.mem_append_left _ (List.mem_append_right _ h)))
theorem in_wsX10_off_X1 : ∀ w ∈ wsX10, w ∈ wsX10_off := fun w h => List.mem_cons_of_mem _ (List.mem_append_left _ (List.mem_append_right _ h))
theorem in_wsX10_state_X10 : ∀ w ∈ wsX100, w ∈ wsX10_state := fun w h => List.mem_cons_of_mem _ (List.mem_append_left _ (List.mem_append_left _ (List.mem_append_left _ (List.mem_append_left _ (List.mem_append_left _ (List.mem_append_right _ h))))))
theorem in_wsX10_earns_X10 : ∀ w ∈ wsX100, w ∈ wsX10_earns := fun w h => List.mem_cons_of_mem _ (List.mem_append_left _ (List.mem_append_left _ (List.mem_append_left _ (List.mem_append_left _ (List.mem_append_left _ (List.mem_append_right _ h))))))
theorem in_wsX10_advance_X1 : ∀ w ∈ wsX10, w ∈ wsX10_advance := fun w h => List.mem_cons_of_mem _ (List.mem_append_left _ (List.mem_append_left _ (List.mem_append_left _ (List.mem_append_left _ (List.mem_append_left _ (List.mem_append_right _ h))))))
theorem in_wsX10_advance_X10 : ∀ w ∈ wsX100, w ∈ wsX10_advance := fun w h => List.mem_cons_of_mem _ (List.mem_append_left _ (List.mem_append_left _ (List.mem_append_left _ (List.mem_append_left _ (List.mem_append_right _ h)))))
theorem in_wsX10_sold_X1 : ∀ w ∈ wsX10, w ∈ wsX10_sold := fun w h => List.mem_cons_of_mem _ (List.mem_append_left _ (List.mem_append_right _ h))
theorem in_wsX10_allot_X1 : ∀ w ∈ wsX10, w ∈ wsX10_allot := fun w h => List.mem_cons_of_mem _ (List.mem_append_left _ (List.mem_append_left _ (List.mem_append_left _ (List.mem_append_left _ (List.mem_append_left _ (List.mem_append_left _ (List.mem_append_right _ h)))))))
theorem in_wsX10_allot_X10 : ∀ w ∈ wsX100, w ∈ wsX10_allot := fun w h => List.mem_cons_of_mem _ (List.mem_append_left _ (List.mem_append_left _ (List.mem_append_left _ (List.mem_append_left _ (List.mem_append_left _ (List.mem_append_right _ h))))))
theorem in_wsX10_read_X2 : ∀ w ∈ wsX20, w ∈ wsX10_read := fun w h => List.mem_cons_of_mem _ (List.mem_append_left _ (List.mem_append_left _ (List.mem_append_right _ h)))
theorem in_wsX10_read_X10 : ∀ w ∈ wsX100, w ∈ wsX10_read := fun w h => List.mem_cons_of_mem _ (List.mem_append_left _ (List.mem_append_right _ h))
theorem in_wsX10_stands_X10 : ∀ w ∈ wsX100, w ∈ wsX10_stands := fun w h => List.mem_cons_of_mem _ (List.mem_append_left _ (List.mem_append_left _ (List.mem_append_left _ (List.mem_append_left _ (List.mem_append_left _ (List.mem_append_left _ (List.mem_append_left _ (List.mem_append_right _ h))))))))
theorem in_wsX10_rations_X1 : ∀ w ∈ wsX10, w ∈ wsX10_rations := fun w h => List.mem_cons_of_mem _ (List.mem_append_left _ (List.mem_append_right _ h))
theorem in_wsX10_rations_X10 : ∀ w ∈ wsX100, w ∈ wsX10_rations := fun w h => List.mem_cons_of_mem _ (List.mem_append_right _ h)
theorem in_wsX10_agreementOf_X1 : ∀ w ∈ wsX10, w ∈ wsX10_agreementOf := fun w h => List.mem_cons_of_mem _ (List.mem_append_left _ (List.mem_append_left _ (List.mem_append_left _ (List.mem_append_right _ h))))
theorem in_wsX10_agreementOf_X6 : ∀ w ∈ wsX60, w ∈ wsX10_agreementOf := fun w h => List.mem_cons_of_mem _ (List.mem_append_left _ (List.mem_append_left _ (List.mem_append_right _ h)))
theorem in_wsX10_agreementOf_X9 : ∀ w ∈ wsX90, w ∈ wsX10_agreementOf := fun w h => List.mem_cons_of_mem _ (List.mem_append_left _ (List.mem_append_right _ h))
theorem in_wsX10_group_X6 : ∀ w ∈ wsX60, w ∈ wsX10_group := fun w h => List.mem_cons_of_mem _ (List.mem_append_left _ (List.mem_append_right _ h))
theorem in_wsX10_borrowed_X1 : ∀ w ∈ wsX10, w ∈ wsX10_borrowed := fun w h => List.mem_cons_of_mem _ (List.mem_append_left _ (List.mem_append_left _ (List.mem_append_right _ h)))
theorem in_wsX10_borrowed_X6 : ∀ w ∈ wsX60, w ∈ wsX10_borrowed := fun w h => List.mem_cons_of_mem _ (List.mem_append_left _ (List.mem_append_right _ h))
theorem in_wsX10_ask_X6 : ∀ w ∈ wsX60, w ∈ wsX10_ask := fun w h => List.mem_cons_of_mem _ (List.mem_append_left _ (List.mem_append_right _ h))
theorem in_wsX10_home_X10 : ∀ w ∈ wsX100, w ∈ wsX10_home := fun w h => List.mem_cons_of_mem _ (List.mem_append_left _ (List.mem_append_left _ (List.mem_append_left _ (List.mem_append_left _ (List.mem_append_left _ (List.mem_append_left _ (List.mem_append_right _ h)))))))
theorem in_wsX10_home_X1 : ∀ w ∈ wsX10, w ∈ wsX10_home := fun w h => List.mem_cons_of_mem _ (List.mem_append_left _ (List.mem_append_left _ (List.mem_append_left _ (List.mem_append_left _ (List.mem_append_left _ (List.mem_append_right _ h))))))
theorem in_wsX10_home_X3 : ∀ w ∈ wsX30, w ∈ wsX10_home := fun w h => List.mem_cons_of_mem _ (List.mem_append_left _ (List.mem_append_left _ (List.mem_append_left _ (List.mem_append_left _ (List.mem_append_right _ h)))))
theorem in_wsX10_home_X9 : ∀ w ∈ wsX90, w ∈ wsX10_home := fun w h => List.mem_cons_of_mem _ (List.mem_append_left _ (List.mem_append_left _ (List.mem_append_left _ (List.mem_append_right _ h))))
theorem in_wsX10_crew_X10 : ∀ w ∈ wsX100, w ∈ wsX10_crew := fun w h => List.mem_cons_of_mem _ (List.mem_append_left _ (List.mem_append_left _ (List.mem_append_left _ (List.mem_append_left _ (List.mem_append_right _ h)))))
theorem in_wsX10_check_X10 : ∀ w ∈ wsX100, w ∈ wsX10_check := fun w h => List.mem_cons_of_mem _ (List.mem_append_left _ (List.mem_append_left _ (List.mem_append_left _ (List.mem_append_left _ (List.mem_append_left _ (List.mem_append_left _ (List.mem_append_left _ (List.mem_append_right _ h))))))))
theorem in_wsX10_check_X1 : ∀ w ∈ wsX10, w ∈ wsX10_check := fun w h => List.mem_cons_of_mem _ (List.mem_append_left _ (List.mem_append_left _ (List.mem_append_left _ (List.mem_append_left _ (List.mem_append_left _ (List.mem_append_left _ (List.mem_append_right _ h)))))))
theorem in_wsX10_count_X10 : ∀ w ∈ wsX100, w ∈ wsX10_count := fun w h => List.mem_cons_of_mem _ (List.mem_append_left _ (List.mem_append_left _ (List.mem_append_left _ (List.mem_append_left _ (List.mem_append_left _ (List.mem_append_right _ h))))))
theorem in_wsX10_count_X5 : ∀ w ∈ wsX50, w ∈ wsX10_count := fun w h => List.mem_cons_of_mem _ (List.mem_append_left _ (List.mem_append_left _ (List.mem_append_left _ (List.mem_append_left _ (List.mem_append_right _ h)))))
theorem in_wsX10_count_X8 : ∀ w ∈ wsX80, w ∈ wsX10_count := fun w h => List.mem_cons_of_mem _ (List.mem_append_left _ (List.mem_append_left _ (List.mem_append_left _ (List.mem_append_right _ h))))

set_option maxHeartbeats 4000000 in
set_option maxRecDepth 100000 in
theorem c_X10_state (l : Launch) (dC : Nat → ClassId) (dI : Nat → Nat → Nat) (sz : Nat) (cq : Nat → ClassId) (Z : oS) (gI : oInv Z) (o : Nat) (to : oty Z o 10) (x1 : Int32) (x2 : Int32) (x3 : Int32) : Met l yX10_state wsX10_state ({ frames := 2, cells := 0, slots := 0, locals := 49 }) (va_Pc [.ref o, .int x1, .int x2, .int x3] (pcW (dC, dI) (oT cq) (oW cq Z) sz)) (va_Qi (fun (r : Int32) (u : oS) => oInv u ∧ oX [2107] Z u) (fun u t => va_P (dC, dI) vwCl (oW cq u) t.heap ∧ va_K (dC, dI) vwCl (oT cq) t ∧ va_D (va_A (oW cq Z) sz) (oW cq u)) (va_A (oW cq Z) sz)) 0 0 (va_A (oW cq Z) sz) := by
  refine Met.ofW (cc := cX10_state) (maxL := 6) (ret := (some .int)) (by decide +kernel) rfl ?_
  intro p e s m args below meth c s₁ B hml hv
  obtain ⟨rfl, hsz, hP, hK, hD0⟩ := hv
  have hx := B.exec
  have hb := B.bytes
  have hr := B.returns
  have hts := atoms_spec (ws := wsX10_state) B.pre
  have hown : s.vm.findClass RX10 = some m.cls := findClass_of_methodNamed B.named
  have hlocks := B.notSynchronized
  subst hsz
  have hD := hD0.self (sz := s.heap.size)
  generalize hAe : va_A (oW cq Z) s.heap.size = A at hD ⊢
  have hA : ∀ q : Nat, s.heap.size ≤ q → A q := fun q h => by rw [← hAe]; exact Or.inr h
  have hS : va_S A s.heap s.heap [] := va_S.rf
  have hP : va_P (dC, dI) vwCl (oW cq Z) s.heap := hP
  have hl := lv_entry ([.ref o, .int x1, .int x2, .int x3]) (n := 6) (Nat.le_of_ble_eq_true rfl)
  rw [lg_entry_eq]
  generalize (lg_sl ([.ref o, .int x1, .int x2, .int x3]) ++ List.replicate (6 - (lg_sl ([.ref o, .int x1, .int x2, .int x3])).length) Slot.unset).toArray = ls at hl ⊢
  have hl : lv_has ls 6 [(0, .ref o), (1, .int x1), (2, .int x2), (3, .int x3)] := hl
  refine lv_aload_n hx hb dX10_state_0 rfl (lv_at hl 0 rfl) ?_
  refine lv_iload_n hx hb dX10_state_1 rfl (lv_at hl 1 rfl) ?_
  have hFc : ∀ q, va_A [] s.heap.size q → A q := pu_free hS hA
  obtain ⟨q_1, hq_1⟩ := og (cq := cq) to.1 (oE_10 to.2)
  refine va_callq (va_runV (As := [.int x1]) (rest := []) ⟨hx, hb, hml, hown, hts⟩ (c_X10_agreementAt l dC dI s.heap.size cq Z gI o to x1) (cwV 1 hts gX10_state_X10_agreementAt rfl rfl rfl (by decide +kernel) ⟨(Nat.le_of_ble_eq_true rfl), (Nat.le_of_ble_eq_true rfl)⟩) (pr_V (r := (RX10, TX10, 16)) hP hK hD q_1 10 rfl hq_1) rfl rfl hl.1 rfl (lv_room (Nat.le_of_ble_eq_true rfl)) dX10_state_2 ⟨(Nat.le_of_ble_eq_true rfl), (Nat.le_of_ble_eq_true rfl)⟩) hS (fun q _ h => hFc q h) hFc (fun r_3 u t H locs ht hvm w_2 hB hz1 hk1 hS => ?_)
  have hP := pu_keep hP hk1
  clear hk1 hz1 hvm hB ht hFc
  have hk_4 := w_2
  rcases r_3 with _ | b_5
  · refine W.eq (g2 := F0 m 5 ls [.null]) rfl ?_
    refine lv_astoreN (lv' := [(4, .null), (0, .ref o), (1, .int x1), (2, .int x2), (3, .int x3)]) hx hb dX10_state_5 hl (by decide +kernel) rfl (fun ls hl => ?_)
    refine lv_aloadN hx hb dX10_state_7 (lv_at hl 0 rfl) ?_
    refine lv_ifnonnullN hx hb dX10_state_9 ?_
    refine lv_aload_n hx hb dX10_state_12 rfl (lv_at hl 1 rfl) ?_
    refine lv_iconst (v := (-1)) hx hb dX10_state_13 (by decide +kernel) ?_
    have hFc := o_free hD hS hA
    refine va_calli (va_runV (As := [.int (-1)]) (rest := []) ⟨hx, hb, hml, hown, hts⟩ (c_X10_refuse l dC dI H.size cq Z gI o to (-1) (by decide +kernel)) (cwV 1 hts gX10_state_X10_refuse rfl rfl rfl (by decide +kernel) ⟨(Nat.le_of_ble_eq_true rfl), (Nat.le_of_ble_eq_true rfl)⟩) (pr_V (r := (RX10, TX10, 16)) hP hK hD q_1 10 rfl hq_1) rfl rfl hl.1 rfl (lv_room (Nat.le_of_ble_eq_true rfl)) dX10_state_14 ⟨(Nat.le_of_ble_eq_true rfl), (Nat.le_of_ble_eq_true rfl)⟩) hS (fun q _ h => hFc q h) hFc (fun r_7 u t H locs ht hvm w_6 hB hz1 hk1 hS => ?_)
    obtain ⟨S_8, rfl⟩ : ∃ z, z = u := ⟨_, rfl⟩
    obtain ⟨hP1, hK1, hD1⟩ := hB
    rw [ht] at hP1
    have hP : va_P (dC, dI) vwCl (oW cq S_8) H := hP1
    have hD : va_D A (oW cq S_8) := hD1.weaken (fun _ _ _ h => hFc _ h)
    clear hP1 hK1 hD1 hk1 hz1 hvm ht hFc
    obtain ⟨hIS_8, XS_8, hb_9, hx_10⟩ := w_6
    have X_11 : oX [2107] Z S_8 := oX.st oX.rf XS_8 (by decide +kernel)
    have rf_12 : r_7.toInt = -1 := by rw [hx_10]; decide
    exact W.iret (v := r_7) hx hb hr (fun t ht hW => ⟨⟨r_7, S_8, rfl, ⟨hIS_8, X_11⟩, ⟨by rw [ht]; exact hP, va_K.moved hW.alike hK, hD⟩⟩, hS.F ht⟩) hS.2.2 dX10_state_17
  · refine W.eq (g2 := F0 m 5 ls [.ref b_5]) rfl ?_
    have tb_5 : oty Z b_5 1 := hk_4 b_5 rfl
    refine lv_astore (lv' := [(4, .ref b_5), (0, .ref o), (1, .int x1), (2, .int x2), (3, .int x3)]) hx hb dX10_state_5 hl (by decide +kernel) rfl (fun ls hl => ?_)
    refine lv_aload hx hb dX10_state_7 (lv_at hl 0 rfl) ?_
    refine lv_ifnonnull (tgt := 18) hx hb dX10_state_9 (by decide +kernel) ?_
    refine lv_aload_n hx hb dX10_state_18 rfl (lv_at hl 1 rfl) ?_
    refine lv_iload_n hx hb dX10_state_19 rfl (lv_at hl 3 rfl) ?_
    refine lv_iload_n hx hb dX10_state_20 rfl (lv_at hl 4 rfl) ?_
    have hFc : ∀ q, va_A [] H.size q → A q := pu_free hS hA
    refine va_calli (va_runV (As := [.int x2, .int x3]) (rest := []) ⟨hx, hb, hml, hown, hts⟩ (c_X10_askRefusal l dC dI H.size cq Z gI o to x2 x3) (cwV 2 hts gX10_state_X10_askRefusal rfl rfl rfl (by decide +kernel) ⟨(Nat.le_of_ble_eq_true rfl), (Nat.le_of_ble_eq_true rfl)⟩) (pr_V (r := (RX10, TX10, 16)) hP hK hD q_1 10 rfl hq_1) rfl rfl hl.1 rfl (lv_room (Nat.le_of_ble_eq_true rfl)) dX10_state_21 ⟨(Nat.le_of_ble_eq_true rfl), (Nat.le_of_ble_eq_true rfl)⟩) hS (fun q _ h => hFc q h) hFc (fun r_14 u t H locs ht hvm w_13 hB hz1 hk1 hS => ?_)
    have hP := pu_keep hP hk1
    clear hk1 hz1 hvm hB ht hFc
    obtain ⟨hb_15, hx_16⟩ := w_13
    refine lv_istore (lv' := [(5, .int r_14), (4, .ref b_5), (0, .ref o), (1, .int x1), (2, .int x2), (3, .int x3)]) hx hb dX10_state_24 hl (by decide +kernel) rfl (fun ls hl => ?_)
    refine lv_iload hx hb dX10_state_26 (lv_at hl 0 rfl) ?_
    refine lv_if_eq (tgt := 38) hx hb dX10_state_28 (by decide +kernel) (fun c_17 => ?_) (fun c_17 => ?_)
    · have dc_17 := c_eq (a := r_14.toInt) (b := 0) rfl (by decide +kernel) c_17
      have hi_18 := hx_16 c_17
      refine lv_aload hx hb dX10_state_38 (lv_at hl 1 rfl) ?_
      refine lv_iload_n hx hb dX10_state_40 rfl (lv_at hl 4 rfl) ?_
      refine lv_iload_n hx hb dX10_state_41 rfl (lv_at hl 5 rfl) ?_
      refine lv_aload_n hx hb dX10_state_42 rfl (lv_at hl 2 rfl) ?_
      obtain ⟨b_19, hb_19⟩ := oInv.nn (i := 8) gI to rfl
      refine va_get (D := (dC, dI)) (ci := 10) (v := .ref b_19) (C := RX10) (T := TX10) (N := 16) hx hb hts in_wsX10_state_X10 hown hK hP q_1 hq_1 rfl 8 (by decide +kernel) (hts (.fieldLink RX10 30 "ShipOffice" "law" "LShipOffice$Law;") iw_X10_state_1) (fun _ h9 => h9) (o_rd hb_19) dX10_state_43 ?_
      have tb_19 : oty Z b_19 5 := oInv.rd gI to.2 hb_19 rfl rfl
      have hFc : ∀ q, va_A [] H.size q → A q := pu_free hS hA
      obtain ⟨q_20, hq_20⟩ := og (cq := cq) tb_5.1 (oE_1 tb_5.2)
      refine va_calli (va_runV (As := [.int x2, .int x3, .ref b_19]) (rest := []) ⟨hx, hb, hml, hown, hts⟩ (c_X1_stateOn l dC dI H.size cq Z gI b_5 tb_5 x2 x3 b_19 tb_19) (cwV 3 hts gX10_state_X1_stateOn rfl rfl rfl (by decide +kernel) ⟨(Nat.le_of_ble_eq_true rfl), (Nat.le_of_ble_eq_true rfl)⟩) (pr_V (r := (RX1, TX1, 18)) hP hK hD q_20 1 rfl hq_20) rfl rfl hl.1 rfl (lv_room (Nat.le_of_ble_eq_true rfl)) dX10_state_46 ⟨(Nat.le_of_ble_eq_true rfl), (Nat.le_of_ble_eq_true rfl)⟩) hS (fun q _ h => hFc q h) hFc (fun r_22 u t H locs ht hvm w_21 hB hz1 hk1 hS => ?_)
      have hP := pu_keep hP hk1
      clear hk1 hz1 hvm hB ht hFc
      have hb_23 := w_21
      exact W.iret (v := r_22) hx hb hr (fun t ht hW => ⟨⟨r_22, Z, rfl, ⟨gI, oX.rf⟩, ⟨by rw [ht]; exact hP, va_K.moved hW.alike hK, hD⟩⟩, hS.F ht⟩) hS.2.2 dX10_state_49
    · have dc_17 := c_ne (a := r_14.toInt) (b := 0) rfl (by decide +kernel) c_17
      refine lv_aload_n hx hb dX10_state_31 rfl (lv_at hl 2 rfl) ?_
      refine lv_iload hx hb dX10_state_32 (lv_at hl 0 rfl) ?_
      have hFc := o_free hD hS hA
      refine va_calli (va_runV (As := [.int r_14]) (rest := []) ⟨hx, hb, hml, hown, hts⟩ (c_X10_refuse l dC dI H.size cq Z gI o to r_14 (by omega)) (cwV 1 hts gX10_state_X10_refuse rfl rfl rfl (by decide +kernel) ⟨(Nat.le_of_ble_eq_true rfl), (Nat.le_of_ble_eq_true rfl)⟩) (pr_V (r := (RX10, TX10, 16)) hP hK hD q_1 10 rfl hq_1) rfl rfl hl.1 rfl (lv_room (Nat.le_of_ble_eq_true rfl)) dX10_state_34 ⟨(Nat.le_of_ble_eq_true rfl), (Nat.le_of_ble_eq_true rfl)⟩) hS (fun q _ h => hFc q h) hFc (fun r_25 u t H locs ht hvm w_24 hB hz1 hk1 hS => ?_)
      obtain ⟨S_26, rfl⟩ : ∃ z, z = u := ⟨_, rfl⟩
      obtain ⟨hP1, hK1, hD1⟩ := hB
      rw [ht] at hP1
      have hP : va_P (dC, dI) vwCl (oW cq S_26) H := hP1
      have hD : va_D A (oW cq S_26) := hD1.weaken (fun _ _ _ h => hFc _ h)
      clear hP1 hK1 hD1 hk1 hz1 hvm ht hFc
      obtain ⟨hIS_26, XS_26, hb_27, hx_28⟩ := w_24
      have X_29 : oX [2107] Z S_26 := oX.st oX.rf XS_26 (by decide +kernel)
      exact W.iret (v := r_25) hx hb hr (fun t ht hW => ⟨⟨r_25, S_26, rfl, ⟨hIS_26, X_29⟩, ⟨by rw [ht]; exact hP, va_K.moved hW.alike hK, hD⟩⟩, hS.F ht⟩) hS.2.2 dX10_state_37
set_option maxHeartbeats 4000000 in
set_option maxRecDepth 100000 in
theorem c_X10_earns (l : Launch) (dC : Nat → ClassId) (dI : Nat → Nat → Nat) (sz : Nat) (cq : Nat → ClassId) (Z : oS) (gI : oInv Z) (o : Nat) (to : oty Z o 10) (x1 : Int32) (x2 : Int32) (x3 : Int32) : Met l yX10_earns wsX10_earns ({ frames := 4, cells := 0, slots := 0, locals := 103 }) (va_Pc [.ref o, .int x1, .int x2, .int x3] (pcW (dC, dI) (oT cq) (oW cq Z) sz)) (va_Qi (fun (r : Int32) (u : oS) => oInv u ∧ oX [2107] Z u) (fun u t => va_P (dC, dI) vwCl (oW cq u) t.heap ∧ va_K (dC, dI) vwCl (oT cq) t ∧ va_D (va_A (oW cq Z) sz) (oW cq u)) (va_A (oW cq Z) sz)) 0 0 (va_A (oW cq Z) sz) := by
  refine Met.ofW (cc := cX10_earns) (maxL := 6) (ret := (some .int)) (by decide +kernel) rfl ?_
  intro p e s m args below meth c s₁ B hml hv
  obtain ⟨rfl, hsz, hP, hK, hD0⟩ := hv
  have hx := B.exec
  have hb := B.bytes
  have hr := B.returns
  have hts := atoms_spec (ws := wsX10_earns) B.pre
  have hown : s.vm.findClass RX10 = some m.cls := findClass_of_methodNamed B.named
  have hlocks := B.notSynchronized
  subst hsz
  have hD := hD0.self (sz := s.heap.size)
  generalize hAe : va_A (oW cq Z) s.heap.size = A at hD ⊢
  have hA : ∀ q : Nat, s.heap.size ≤ q → A q := fun q h => by rw [← hAe]; exact Or.inr h
  have hS : va_S A s.heap s.heap [] := va_S.rf
  have hP : va_P (dC, dI) vwCl (oW cq Z) s.heap := hP
  have hl := lv_entry ([.ref o, .int x1, .int x2, .int x3]) (n := 6) (Nat.le_of_ble_eq_true rfl)
  rw [lg_entry_eq]
  generalize (lg_sl ([.ref o, .int x1, .int x2, .int x3]) ++ List.replicate (6 - (lg_sl ([.ref o, .int x1, .int x2, .int x3])).length) Slot.unset).toArray = ls at hl ⊢
  have hl : lv_has ls 6 [(0, .ref o), (1, .int x1), (2, .int x2), (3, .int x3)] := hl
  refine lv_aload_n hx hb dX10_earns_0 rfl (lv_at hl 0 rfl) ?_
  refine lv_iload_n hx hb dX10_earns_1 rfl (lv_at hl 1 rfl) ?_
  have hFc : ∀ q, va_A [] s.heap.size q → A q := pu_free hS hA
  obtain ⟨q_1, hq_1⟩ := og (cq := cq) to.1 (oE_10 to.2)
  refine va_callq (va_runV (As := [.int x1]) (rest := []) ⟨hx, hb, hml, hown, hts⟩ (c_X10_agreementAt l dC dI s.heap.size cq Z gI o to x1) (cwV 1 hts gX10_earns_X10_agreementAt rfl rfl rfl (by decide +kernel) ⟨(Nat.le_of_ble_eq_true rfl), (Nat.le_of_ble_eq_true rfl)⟩) (pr_V (r := (RX10, TX10, 16)) hP hK hD q_1 10 rfl hq_1) rfl rfl hl.1 rfl (lv_room (Nat.le_of_ble_eq_true rfl)) dX10_earns_2 ⟨(Nat.le_of_ble_eq_true rfl), (Nat.le_of_ble_eq_true rfl)⟩) hS (fun q _ h => hFc q h) hFc (fun r_3 u t H locs ht hvm w_2 hB hz1 hk1 hS => ?_)
  have hP := pu_keep hP hk1
  clear hk1 hz1 hvm hB ht hFc
  have hk_4 := w_2
  rcases r_3 with _ | b_5
  · refine W.eq (g2 := F0 m 5 ls [.null]) rfl ?_
    refine lv_astoreN (lv' := [(4, .null), (0, .ref o), (1, .int x1), (2, .int x2), (3, .int x3)]) hx hb dX10_earns_5 hl (by decide +kernel) rfl (fun ls hl => ?_)
    refine lv_aloadN hx hb dX10_earns_7 (lv_at hl 0 rfl) ?_
    refine lv_ifnonnullN hx hb dX10_earns_9 ?_
    refine lv_aload_n hx hb dX10_earns_12 rfl (lv_at hl 1 rfl) ?_
    refine lv_iconst (v := (-1)) hx hb dX10_earns_13 (by decide +kernel) ?_
    have hFc := o_free hD hS hA
    refine va_calli (va_runV (As := [.int (-1)]) (rest := []) ⟨hx, hb, hml, hown, hts⟩ (c_X10_refuse l dC dI H.size cq Z gI o to (-1) (by decide +kernel)) (cwV 1 hts gX10_earns_X10_refuse rfl rfl rfl (by decide +kernel) ⟨(Nat.le_of_ble_eq_true rfl), (Nat.le_of_ble_eq_true rfl)⟩) (pr_V (r := (RX10, TX10, 16)) hP hK hD q_1 10 rfl hq_1) rfl rfl hl.1 rfl (lv_room (Nat.le_of_ble_eq_true rfl)) dX10_earns_14 ⟨(Nat.le_of_ble_eq_true rfl), (Nat.le_of_ble_eq_true rfl)⟩) hS (fun q _ h => hFc q h) hFc (fun r_7 u t H locs ht hvm w_6 hB hz1 hk1 hS => ?_)
    obtain ⟨S_8, rfl⟩ : ∃ z, z = u := ⟨_, rfl⟩
    obtain ⟨hP1, hK1, hD1⟩ := hB
    rw [ht] at hP1
    have hP : va_P (dC, dI) vwCl (oW cq S_8) H := hP1
    have hD : va_D A (oW cq S_8) := hD1.weaken (fun _ _ _ h => hFc _ h)
    clear hP1 hK1 hD1 hk1 hz1 hvm ht hFc
    obtain ⟨hIS_8, XS_8, hb_9, hx_10⟩ := w_6
    have X_11 : oX [2107] Z S_8 := oX.st oX.rf XS_8 (by decide +kernel)
    have rf_12 : r_7.toInt = -1 := by rw [hx_10]; decide
    exact W.iret (v := r_7) hx hb hr (fun t ht hW => ⟨⟨r_7, S_8, rfl, ⟨hIS_8, X_11⟩, ⟨by rw [ht]; exact hP, va_K.moved hW.alike hK, hD⟩⟩, hS.F ht⟩) hS.2.2 dX10_earns_17
  · refine W.eq (g2 := F0 m 5 ls [.ref b_5]) rfl ?_
    have tb_5 : oty Z b_5 1 := hk_4 b_5 rfl
    refine lv_astore (lv' := [(4, .ref b_5), (0, .ref o), (1, .int x1), (2, .int x2), (3, .int x3)]) hx hb dX10_earns_5 hl (by decide +kernel) rfl (fun ls hl => ?_)
    refine lv_aload hx hb dX10_earns_7 (lv_at hl 0 rfl) ?_
    refine lv_ifnonnull (tgt := 18) hx hb dX10_earns_9 (by decide +kernel) ?_
    refine lv_aload_n hx hb dX10_earns_18 rfl (lv_at hl 1 rfl) ?_
    refine lv_iload_n hx hb dX10_earns_19 rfl (lv_at hl 3 rfl) ?_
    refine lv_iload_n hx hb dX10_earns_20 rfl (lv_at hl 4 rfl) ?_
    have hFc : ∀ q, va_A [] H.size q → A q := pu_free hS hA
    refine va_calli (va_runV (As := [.int x2, .int x3]) (rest := []) ⟨hx, hb, hml, hown, hts⟩ (c_X10_askRefusal l dC dI H.size cq Z gI o to x2 x3) (cwV 2 hts gX10_earns_X10_askRefusal rfl rfl rfl (by decide +kernel) ⟨(Nat.le_of_ble_eq_true rfl), (Nat.le_of_ble_eq_true rfl)⟩) (pr_V (r := (RX10, TX10, 16)) hP hK hD q_1 10 rfl hq_1) rfl rfl hl.1 rfl (lv_room (Nat.le_of_ble_eq_true rfl)) dX10_earns_21 ⟨(Nat.le_of_ble_eq_true rfl), (Nat.le_of_ble_eq_true rfl)⟩) hS (fun q _ h => hFc q h) hFc (fun r_14 u t H locs ht hvm w_13 hB hz1 hk1 hS => ?_)
    have hP := pu_keep hP hk1
    clear hk1 hz1 hvm hB ht hFc
    obtain ⟨hb_15, hx_16⟩ := w_13
    refine lv_istore (lv' := [(5, .int r_14), (4, .ref b_5), (0, .ref o), (1, .int x1), (2, .int x2), (3, .int x3)]) hx hb dX10_earns_24 hl (by decide +kernel) rfl (fun ls hl => ?_)
    refine lv_iload hx hb dX10_earns_26 (lv_at hl 0 rfl) ?_
    refine lv_if_eq (tgt := 38) hx hb dX10_earns_28 (by decide +kernel) (fun c_17 => ?_) (fun c_17 => ?_)
    · have dc_17 := c_eq (a := r_14.toInt) (b := 0) rfl (by decide +kernel) c_17
      have hi_18 := hx_16 c_17
      refine lv_aload hx hb dX10_earns_38 (lv_at hl 1 rfl) ?_
      refine lv_iload_n hx hb dX10_earns_40 rfl (lv_at hl 4 rfl) ?_
      refine lv_iload_n hx hb dX10_earns_41 rfl (lv_at hl 5 rfl) ?_
      refine lv_aload_n hx hb dX10_earns_42 rfl (lv_at hl 2 rfl) ?_
      obtain ⟨b_19, hb_19⟩ := oInv.nn (i := 8) gI to rfl
      refine va_get (D := (dC, dI)) (ci := 10) (v := .ref b_19) (C := RX10) (T := TX10) (N := 16) hx hb hts in_wsX10_earns_X10 hown hK hP q_1 hq_1 rfl 8 (by decide +kernel) (hts (.fieldLink RX10 30 "ShipOffice" "law" "LShipOffice$Law;") iw_X10_earns_1) (fun _ h9 => h9) (o_rd hb_19) dX10_earns_43 ?_
      have tb_19 : oty Z b_19 5 := oInv.rd gI to.2 hb_19 rfl rfl
      have hFc : ∀ q, va_A [] H.size q → A q := pu_free hS hA
      obtain ⟨q_20, hq_20⟩ := og (cq := cq) tb_5.1 (oE_1 tb_5.2)
      refine va_calli (va_runV (As := [.int x2, .int x3, .ref b_19]) (rest := []) ⟨hx, hb, hml, hown, hts⟩ (c_X1_earningDays l dC dI H.size cq Z gI b_5 tb_5 x2 x3 b_19 tb_19) (cwV 3 hts gX10_earns_X1_earningDays rfl rfl rfl (by decide +kernel) ⟨(Nat.le_of_ble_eq_true rfl), (Nat.le_of_ble_eq_true rfl)⟩) (pr_V (r := (RX1, TX1, 18)) hP hK hD q_20 1 rfl hq_20) rfl rfl hl.1 rfl (lv_room (Nat.le_of_ble_eq_true rfl)) dX10_earns_46 ⟨(Nat.le_of_ble_eq_true rfl), (Nat.le_of_ble_eq_true rfl)⟩) hS (fun q _ h => hFc q h) hFc (fun r_22 u t H locs ht hvm w_21 hB hz1 hk1 hS => ?_)
      have hP := pu_keep hP hk1
      clear hk1 hz1 hvm hB ht hFc
      exact W.iret (v := r_22) hx hb hr (fun t ht hW => ⟨⟨r_22, Z, rfl, ⟨gI, oX.rf⟩, ⟨by rw [ht]; exact hP, va_K.moved hW.alike hK, hD⟩⟩, hS.F ht⟩) hS.2.2 dX10_earns_49
    · have dc_17 := c_ne (a := r_14.toInt) (b := 0) rfl (by decide +kernel) c_17
      refine lv_aload_n hx hb dX10_earns_31 rfl (lv_at hl 2 rfl) ?_
      refine lv_iload hx hb dX10_earns_32 (lv_at hl 0 rfl) ?_
      have hFc := o_free hD hS hA
      refine va_calli (va_runV (As := [.int r_14]) (rest := []) ⟨hx, hb, hml, hown, hts⟩ (c_X10_refuse l dC dI H.size cq Z gI o to r_14 (by omega)) (cwV 1 hts gX10_earns_X10_refuse rfl rfl rfl (by decide +kernel) ⟨(Nat.le_of_ble_eq_true rfl), (Nat.le_of_ble_eq_true rfl)⟩) (pr_V (r := (RX10, TX10, 16)) hP hK hD q_1 10 rfl hq_1) rfl rfl hl.1 rfl (lv_room (Nat.le_of_ble_eq_true rfl)) dX10_earns_34 ⟨(Nat.le_of_ble_eq_true rfl), (Nat.le_of_ble_eq_true rfl)⟩) hS (fun q _ h => hFc q h) hFc (fun r_24 u t H locs ht hvm w_23 hB hz1 hk1 hS => ?_)
      obtain ⟨S_25, rfl⟩ : ∃ z, z = u := ⟨_, rfl⟩
      obtain ⟨hP1, hK1, hD1⟩ := hB
      rw [ht] at hP1
      have hP : va_P (dC, dI) vwCl (oW cq S_25) H := hP1
      have hD : va_D A (oW cq S_25) := hD1.weaken (fun _ _ _ h => hFc _ h)
      clear hP1 hK1 hD1 hk1 hz1 hvm ht hFc
      obtain ⟨hIS_25, XS_25, hb_26, hx_27⟩ := w_23
      have X_28 : oX [2107] Z S_25 := oX.st oX.rf XS_25 (by decide +kernel)
      exact W.iret (v := r_24) hx hb hr (fun t ht hW => ⟨⟨r_24, S_25, rfl, ⟨hIS_25, X_28⟩, ⟨by rw [ht]; exact hP, va_K.moved hW.alike hK, hD⟩⟩, hS.F ht⟩) hS.2.2 dX10_earns_37
set_option maxHeartbeats 4000000 in
set_option maxRecDepth 100000 in
theorem c_X10_advance (l : Launch) (dC : Nat → ClassId) (dI : Nat → Nat → Nat) (sz : Nat) (cq : Nat → ClassId) (Z : oS) (gI : oInv Z) (o : Nat) (to : oty Z o 10) (x1 : Int32) (x2 : Int32) : Met l yX10_advance wsX10_advance ({ frames := 2, cells := 0, slots := 0, locals := 49 }) (va_Pc [.ref o, .int x1, .int x2] (pcW (dC, dI) (oT cq) (oW cq Z) sz)) (va_Qi (fun (r : Int32) (u : oS) => oInv u ∧ oX [109, 2107] Z u) (fun u t => va_P (dC, dI) vwCl (oW cq u) t.heap ∧ va_K (dC, dI) vwCl (oT cq) t ∧ va_D (va_A (oW cq Z) sz) (oW cq u)) (va_A (oW cq Z) sz)) 0 0 (va_A (oW cq Z) sz) := by
  refine Met.ofW (cc := cX10_advance) (maxL := 4) (ret := (some .int)) (by decide +kernel) rfl ?_
  intro p e s m args below meth c s₁ B hml hv
  obtain ⟨rfl, hsz, hP, hK, hD0⟩ := hv
  have hx := B.exec
  have hb := B.bytes
  have hr := B.returns
  have hts := atoms_spec (ws := wsX10_advance) B.pre
  have hown : s.vm.findClass RX10 = some m.cls := findClass_of_methodNamed B.named
  have hlocks := B.notSynchronized
  subst hsz
  have hD := hD0.self (sz := s.heap.size)
  generalize hAe : va_A (oW cq Z) s.heap.size = A at hD ⊢
  have hA : ∀ q : Nat, s.heap.size ≤ q → A q := fun q h => by rw [← hAe]; exact Or.inr h
  have hS : va_S A s.heap s.heap [] := va_S.rf
  have hP : va_P (dC, dI) vwCl (oW cq Z) s.heap := hP
  have hl := lv_entry ([.ref o, .int x1, .int x2]) (n := 4) (Nat.le_of_ble_eq_true rfl)
  rw [lg_entry_eq]
  generalize (lg_sl ([.ref o, .int x1, .int x2]) ++ List.replicate (4 - (lg_sl ([.ref o, .int x1, .int x2])).length) Slot.unset).toArray = ls at hl ⊢
  have hl : lv_has ls 4 [(0, .ref o), (1, .int x1), (2, .int x2)] := hl
  refine lv_aload_n hx hb dX10_advance_0 rfl (lv_at hl 0 rfl) ?_
  refine lv_iload_n hx hb dX10_advance_1 rfl (lv_at hl 1 rfl) ?_
  have hFc : ∀ q, va_A [] s.heap.size q → A q := pu_free hS hA
  obtain ⟨q_1, hq_1⟩ := og (cq := cq) to.1 (oE_10 to.2)
  refine va_callq (va_runV (As := [.int x1]) (rest := []) ⟨hx, hb, hml, hown, hts⟩ (c_X10_agreementAt l dC dI s.heap.size cq Z gI o to x1) (cwV 1 hts gX10_advance_X10_agreementAt rfl rfl rfl (by decide +kernel) ⟨(Nat.le_of_ble_eq_true rfl), (Nat.le_of_ble_eq_true rfl)⟩) (pr_V (r := (RX10, TX10, 16)) hP hK hD q_1 10 rfl hq_1) rfl rfl hl.1 rfl (lv_room (Nat.le_of_ble_eq_true rfl)) dX10_advance_2 ⟨(Nat.le_of_ble_eq_true rfl), (Nat.le_of_ble_eq_true rfl)⟩) hS (fun q _ h => hFc q h) hFc (fun r_3 u t H locs ht hvm w_2 hB hz1 hk1 hS => ?_)
  have hP := pu_keep hP hk1
  clear hk1 hz1 hvm hB ht hFc
  have hk_4 := w_2
  rcases r_3 with _ | b_5
  · refine W.eq (g2 := F0 m 5 ls [.null]) rfl ?_
    refine lv_astore_nN (lv' := [(3, .null), (0, .ref o), (1, .int x1), (2, .int x2)]) hx hb dX10_advance_5 rfl hl (by decide +kernel) rfl (fun ls hl => ?_)
    refine lv_aload_nN hx hb dX10_advance_6 rfl (lv_at hl 0 rfl) ?_
    refine lv_ifnonnullN hx hb dX10_advance_7 ?_
    refine lv_aload_n hx hb dX10_advance_10 rfl (lv_at hl 1 rfl) ?_
    refine lv_iconst (v := (-1)) hx hb dX10_advance_11 (by decide +kernel) ?_
    have hFc := o_free hD hS hA
    refine va_calli (va_runV (As := [.int (-1)]) (rest := []) ⟨hx, hb, hml, hown, hts⟩ (c_X10_refuse l dC dI H.size cq Z gI o to (-1) (by decide +kernel)) (cwV 1 hts gX10_advance_X10_refuse rfl rfl rfl (by decide +kernel) ⟨(Nat.le_of_ble_eq_true rfl), (Nat.le_of_ble_eq_true rfl)⟩) (pr_V (r := (RX10, TX10, 16)) hP hK hD q_1 10 rfl hq_1) rfl rfl hl.1 rfl (lv_room (Nat.le_of_ble_eq_true rfl)) dX10_advance_12 ⟨(Nat.le_of_ble_eq_true rfl), (Nat.le_of_ble_eq_true rfl)⟩) hS (fun q _ h => hFc q h) hFc (fun r_7 u t H locs ht hvm w_6 hB hz1 hk1 hS => ?_)
    obtain ⟨S_8, rfl⟩ : ∃ z, z = u := ⟨_, rfl⟩
    obtain ⟨hP1, hK1, hD1⟩ := hB
    rw [ht] at hP1
    have hP : va_P (dC, dI) vwCl (oW cq S_8) H := hP1
    have hD : va_D A (oW cq S_8) := hD1.weaken (fun _ _ _ h => hFc _ h)
    clear hP1 hK1 hD1 hk1 hz1 hvm ht hFc
    obtain ⟨hIS_8, XS_8, hb_9, hx_10⟩ := w_6
    have X_11 : oX [109, 2107] Z S_8 := oX.st oX.rf XS_8 (by decide +kernel)
    have rf_12 : r_7.toInt = -1 := by rw [hx_10]; decide
    exact W.iret (v := r_7) hx hb hr (fun t ht hW => ⟨⟨r_7, S_8, rfl, ⟨hIS_8, X_11⟩, ⟨by rw [ht]; exact hP, va_K.moved hW.alike hK, hD⟩⟩, hS.F ht⟩) hS.2.2 dX10_advance_15
  · refine W.eq (g2 := F0 m 5 ls [.ref b_5]) rfl ?_
    have tb_5 : oty Z b_5 1 := hk_4 b_5 rfl
    refine lv_astore_n (lv' := [(3, .ref b_5), (0, .ref o), (1, .int x1), (2, .int x2)]) hx hb dX10_advance_5 rfl hl (by decide +kernel) rfl (fun ls hl => ?_)
    refine lv_aload_n hx hb dX10_advance_6 rfl (lv_at hl 0 rfl) ?_
    refine lv_ifnonnull (tgt := 16) hx hb dX10_advance_7 (by decide +kernel) ?_
    refine lv_aload_n hx hb dX10_advance_16 rfl (lv_at hl 0 rfl) ?_
    obtain ⟨q_13, hq_13⟩ := og (cq := cq) tb_5.1 (oE_1 tb_5.2)
    refine va_get (D := (dC, dI)) (ci := 1) (v := .int (oI Z b_5 9)) (C := RX1) (T := TX1) (N := 18) hx hb hts in_wsX10_advance_X1 hown hK hP q_13 hq_13 rfl 9 (by decide +kernel) (hts (.fieldLink RX10 240 "ShipOffice$Agreement" "note" "I") iw_X10_advance_1) (fun _ h9 => h9) rfl dX10_advance_17 ?_
    refine lv_topi (fun x_14 ex_14 => ?_)
    clear ex_14
    refine lv_if_ne (tgt := 42) hx hb dX10_advance_20 (by decide +kernel) (fun c_15 => ?_) (fun c_15 => ?_)
    · have dc_15 := c_ne (a := x_14.toInt) (b := 0) rfl (by decide +kernel) c_15
      refine lv_aload_n hx hb dX10_advance_42 rfl (lv_at hl 1 rfl) ?_
      refine lv_bipush (v := (-3)) hx hb dX10_advance_43 (by decide +kernel) ?_
      have hFc := o_free hD hS hA
      refine va_calli (va_runV (As := [.int (-3)]) (rest := []) ⟨hx, hb, hml, hown, hts⟩ (c_X10_refuse l dC dI H.size cq Z gI o to (-3) (by decide +kernel)) (cwV 1 hts gX10_advance_X10_refuse rfl rfl rfl (by decide +kernel) ⟨(Nat.le_of_ble_eq_true rfl), (Nat.le_of_ble_eq_true rfl)⟩) (pr_V (r := (RX10, TX10, 16)) hP hK hD q_1 10 rfl hq_1) rfl rfl hl.1 rfl (lv_room (Nat.le_of_ble_eq_true rfl)) dX10_advance_45 ⟨(Nat.le_of_ble_eq_true rfl), (Nat.le_of_ble_eq_true rfl)⟩) hS (fun q _ h => hFc q h) hFc (fun r_17 u t H locs ht hvm w_16 hB hz1 hk1 hS => ?_)
      obtain ⟨S_18, rfl⟩ : ∃ z, z = u := ⟨_, rfl⟩
      obtain ⟨hP1, hK1, hD1⟩ := hB
      rw [ht] at hP1
      have hP : va_P (dC, dI) vwCl (oW cq S_18) H := hP1
      have hD : va_D A (oW cq S_18) := hD1.weaken (fun _ _ _ h => hFc _ h)
      clear hP1 hK1 hD1 hk1 hz1 hvm ht hFc
      obtain ⟨hIS_18, XS_18, hb_19, hx_20⟩ := w_16
      have X_21 : oX [109, 2107] Z S_18 := oX.st oX.rf XS_18 (by decide +kernel)
      have rf_22 : r_17.toInt = -3 := by rw [hx_20]; decide
      exact W.iret (v := r_17) hx hb hr (fun t ht hW => ⟨⟨r_17, S_18, rfl, ⟨hIS_18, X_21⟩, ⟨by rw [ht]; exact hP, va_K.moved hW.alike hK, hD⟩⟩, hS.F ht⟩) hS.2.2 dX10_advance_48
    · have dc_15 := c_eq (a := x_14.toInt) (b := 0) rfl (by decide +kernel) c_15
      refine lv_aload_n hx hb dX10_advance_23 rfl (lv_at hl 0 rfl) ?_
      refine lv_aload_n hx hb dX10_advance_24 rfl (lv_at hl 1 rfl) ?_
      refine va_get (D := (dC, dI)) (ci := 10) (v := .int (oI Z o 0)) (C := RX10) (T := TX10) (N := 16) hx hb hts in_wsX10_advance_X10 hown hK hP q_1 hq_1 rfl 0 (by decide +kernel) (hts (.fieldLink RX10 73 "ShipOffice" "now" "I") iw_X10_advance_2) (fun _ h9 => h9) rfl dX10_advance_25 ?_
      refine lv_topi (fun x_23 ex_23 => ?_)
      have hx_23 : 0 ≤ x_23.toInt ∧ x_23.toInt ≤ 3000 := iv_of ex_23 (oInv.iv gI to.2 rfl rfl)
      have gx_23 : x_23.toInt = (oI Z o 0).toInt := iv_to ex_23
      clear ex_23
      refine lv_aload_n hx hb dX10_advance_28 rfl (lv_at hl 1 rfl) ?_
      refine va_get (D := (dC, dI)) (ci := 10) (v := .int (oI Z o 0)) (C := RX10) (T := TX10) (N := 16) hx hb hts in_wsX10_advance_X10 hown hK hP q_1 hq_1 rfl 0 (by decide +kernel) (hts (.fieldLink RX10 73 "ShipOffice" "now" "I") iw_X10_advance_2) (fun _ h9 => h9) rfl dX10_advance_29 ?_
      refine lv_topi (fun x_24 ex_24 => ?_)
      have hx_24 : 0 ≤ x_24.toInt ∧ x_24.toInt ≤ 3000 := iv_of ex_24 (oInv.iv gI to.2 rfl rfl)
      have gx_24 : x_24.toInt = (oI Z o 0).toInt := iv_to ex_24
      clear ex_24
      refine lv_aload_n hx hb dX10_advance_32 rfl (lv_at hl 1 rfl) ?_
      obtain ⟨b_25, hb_25⟩ := oInv.nn (i := 8) gI to rfl
      refine va_get (D := (dC, dI)) (ci := 10) (v := .ref b_25) (C := RX10) (T := TX10) (N := 16) hx hb hts in_wsX10_advance_X10 hown hK hP q_1 hq_1 rfl 8 (by decide +kernel) (hts (.fieldLink RX10 30 "ShipOffice" "law" "LShipOffice$Law;") iw_X10_advance_3) (fun _ h9 => h9) (o_rd hb_25) dX10_advance_33 ?_
      have tb_25 : oty Z b_25 5 := oInv.rd gI to.2 hb_25 rfl rfl
      have hFc : ∀ q, va_A [] H.size q → A q := pu_free hS hA
      refine va_calli (va_runV (As := [.int x_23, .int x_24, .ref b_25]) (rest := []) ⟨hx, hb, hml, hown, hts⟩ (c_X1_stateOn l dC dI H.size cq Z gI b_5 tb_5 x_23 x_24 b_25 tb_25) (cwV 3 hts gX10_advance_X1_stateOn rfl rfl rfl (by decide +kernel) ⟨(Nat.le_of_ble_eq_true rfl), (Nat.le_of_ble_eq_true rfl)⟩) (pr_V (r := (RX1, TX1, 18)) hP hK hD q_13 1 rfl hq_13) rfl rfl hl.1 rfl (lv_room (Nat.le_of_ble_eq_true rfl)) dX10_advance_36 ⟨(Nat.le_of_ble_eq_true rfl), (Nat.le_of_ble_eq_true rfl)⟩) hS (fun q _ h => hFc q h) hFc (fun r_27 u t H locs ht hvm w_26 hB hz1 hk1 hS => ?_)
      have hP := pu_keep hP hk1
      clear hk1 hz1 hvm hB ht hFc
      have hb_28 := w_26
      refine lv_if_eq (tgt := 49) hx hb dX10_advance_39 (by decide +kernel) (fun c_29 => ?_) (fun c_29 => ?_)
      · have dc_29 := c_eq (a := r_27.toInt) (b := 0) rfl (by decide +kernel) c_29
        refine lv_iload_n hx hb dX10_advance_49 rfl (lv_at hl 3 rfl) ?_
        refine lv_iconst (v := 1) hx hb dX10_advance_50 (by decide +kernel) ?_
        refine lv_icmp_ge (tgt := 61) hx hb dX10_advance_51 (by decide +kernel) (fun c_30 => ?_) (fun c_30 => ?_)
        · have dc_30 := c_le (a := 1) (b := x2.toInt) (by decide +kernel) rfl c_30
          refine lv_iload_n hx hb dX10_advance_61 rfl (lv_at hl 3 rfl) ?_
          refine lv_ldc (v := 99999) hx hb hown (hts (.constant RX10 85 (99999)) (by decide +kernel)) dX10_advance_62 ?_
          refine lv_icmp_le (tgt := 74) hx hb dX10_advance_64 (by decide +kernel) (fun c_31 => ?_) (fun c_31 => ?_)
          · have dc_31 := c_le (a := x2.toInt) (b := 99999) rfl (by decide +kernel) c_31
            refine lv_aload_n hx hb dX10_advance_74 rfl (lv_at hl 0 rfl) ?_
            refine lv_iload_n hx hb dX10_advance_75 rfl (lv_at hl 3 rfl) ?_
            refine va_put (D := (dC, dI)) (ci := 1) (v := .int x2) (ty := .int) (C := RX1) (T := TX1) (N := 18) hx hb hts in_wsX10_advance_X1 tyX1 tyX1_ok nmX1 hown hK hP hD hS q_13 hq_13 rfl 9 (by decide +kernel) (hts (.fieldLink RX10 240 "ShipOffice$Agreement" "note" "I") iw_X10_advance_1) (fun _ h9 => h9) rfl (by decide +kernel) rfl rfl (Nat.le_of_ble_eq_true rfl) dX10_advance_76 (fun H locs hP1 hD1 hS => ?_)
            obtain ⟨S_32, eS_32⟩ : ∃ zq, zq = setI Z b_5 9 x2 := ⟨_, rfl⟩
            have hP : va_P (dC, dI) vwCl (oW cq S_32) H := by rw [eS_32]; exact cP (oset tb_5.1 hq_13 hD rfl (he_1_9 tb_5.2) neI) hP1
            have hD : va_D A (oW cq S_32) := by rw [eS_32]; exact cD (oset tb_5.1 hq_13 hD rfl (he_1_9 tb_5.2) neI) hD1
            clear hP1 hD1
            have hIS_32 : oInv S_32 := by rw [eS_32]; exact oInv.I0 (k := 1) (lo := -2147483648) (hi := 2147483647) gI tb_5.2 (by decide +kernel) rfl rfl rfl (iv_all _)
            have XS_32 : oX [109] Z S_32 := by rw [eS_32]; exact oX.I (k := 1) (key := 109) tb_5.2 rfl (List.mem_singleton.mpr rfl)
            have X_33 : oX [109, 2107] Z S_32 := oX.st oX.rf XS_32 (by decide +kernel)
            have g_34 : (oI S_32 o 0).toInt = (oI Z o 0).toInt := by rw [eS_32, setI_oth (ty_ne to tb_5 (by decide +kernel))]
            refine lv_iconst (v := 1) hx hb dX10_advance_79 (by decide +kernel) ?_
            exact W.iret (v := 1) hx hb hr (fun t ht hW => ⟨⟨1, S_32, rfl, ⟨hIS_32, X_33⟩, ⟨by rw [ht]; exact hP, va_K.moved hW.alike hK, hD⟩⟩, hS.F ht⟩) hS.2.2 dX10_advance_80
          · have dc_31 := c_nle (a := x2.toInt) (b := 99999) rfl (by decide +kernel) c_31
            refine lv_aload_n hx hb dX10_advance_67 rfl (lv_at hl 1 rfl) ?_
            refine lv_bipush (v := (-6)) hx hb dX10_advance_68 (by decide +kernel) ?_
            have hFc := o_free hD hS hA
            refine va_calli (va_runV (As := [.int (-6)]) (rest := []) ⟨hx, hb, hml, hown, hts⟩ (c_X10_refuse l dC dI H.size cq Z gI o to (-6) (by decide +kernel)) (cwV 1 hts gX10_advance_X10_refuse rfl rfl rfl (by decide +kernel) ⟨(Nat.le_of_ble_eq_true rfl), (Nat.le_of_ble_eq_true rfl)⟩) (pr_V (r := (RX10, TX10, 16)) hP hK hD q_1 10 rfl hq_1) rfl rfl hl.1 rfl (lv_room (Nat.le_of_ble_eq_true rfl)) dX10_advance_70 ⟨(Nat.le_of_ble_eq_true rfl), (Nat.le_of_ble_eq_true rfl)⟩) hS (fun q _ h => hFc q h) hFc (fun r_36 u t H locs ht hvm w_35 hB hz1 hk1 hS => ?_)
            obtain ⟨S_37, rfl⟩ : ∃ z, z = u := ⟨_, rfl⟩
            obtain ⟨hP1, hK1, hD1⟩ := hB
            rw [ht] at hP1
            have hP : va_P (dC, dI) vwCl (oW cq S_37) H := hP1
            have hD : va_D A (oW cq S_37) := hD1.weaken (fun _ _ _ h => hFc _ h)
            clear hP1 hK1 hD1 hk1 hz1 hvm ht hFc
            obtain ⟨hIS_37, XS_37, hb_38, hx_39⟩ := w_35
            have X_40 : oX [109, 2107] Z S_37 := oX.st oX.rf XS_37 (by decide +kernel)
            have rf_41 : r_36.toInt = -6 := by rw [hx_39]; decide
            exact W.iret (v := r_36) hx hb hr (fun t ht hW => ⟨⟨r_36, S_37, rfl, ⟨hIS_37, X_40⟩, ⟨by rw [ht]; exact hP, va_K.moved hW.alike hK, hD⟩⟩, hS.F ht⟩) hS.2.2 dX10_advance_73
        · have dc_30 := c_nle (a := 1) (b := x2.toInt) (by decide +kernel) rfl c_30
          refine lv_aload_n hx hb dX10_advance_54 rfl (lv_at hl 1 rfl) ?_
          refine lv_bipush (v := (-4)) hx hb dX10_advance_55 (by decide +kernel) ?_
          have hFc := o_free hD hS hA
          refine va_calli (va_runV (As := [.int (-4)]) (rest := []) ⟨hx, hb, hml, hown, hts⟩ (c_X10_refuse l dC dI H.size cq Z gI o to (-4) (by decide +kernel)) (cwV 1 hts gX10_advance_X10_refuse rfl rfl rfl (by decide +kernel) ⟨(Nat.le_of_ble_eq_true rfl), (Nat.le_of_ble_eq_true rfl)⟩) (pr_V (r := (RX10, TX10, 16)) hP hK hD q_1 10 rfl hq_1) rfl rfl hl.1 rfl (lv_room (Nat.le_of_ble_eq_true rfl)) dX10_advance_57 ⟨(Nat.le_of_ble_eq_true rfl), (Nat.le_of_ble_eq_true rfl)⟩) hS (fun q _ h => hFc q h) hFc (fun r_43 u t H locs ht hvm w_42 hB hz1 hk1 hS => ?_)
          obtain ⟨S_44, rfl⟩ : ∃ z, z = u := ⟨_, rfl⟩
          obtain ⟨hP1, hK1, hD1⟩ := hB
          rw [ht] at hP1
          have hP : va_P (dC, dI) vwCl (oW cq S_44) H := hP1
          have hD : va_D A (oW cq S_44) := hD1.weaken (fun _ _ _ h => hFc _ h)
          clear hP1 hK1 hD1 hk1 hz1 hvm ht hFc
          obtain ⟨hIS_44, XS_44, hb_45, hx_46⟩ := w_42
          have X_47 : oX [109, 2107] Z S_44 := oX.st oX.rf XS_44 (by decide +kernel)
          have rf_48 : r_43.toInt = -4 := by rw [hx_46]; decide
          exact W.iret (v := r_43) hx hb hr (fun t ht hW => ⟨⟨r_43, S_44, rfl, ⟨hIS_44, X_47⟩, ⟨by rw [ht]; exact hP, va_K.moved hW.alike hK, hD⟩⟩, hS.F ht⟩) hS.2.2 dX10_advance_60
      · have dc_29 := c_ne (a := r_27.toInt) (b := 0) rfl (by decide +kernel) c_29
        refine lv_aload_n hx hb dX10_advance_42 rfl (lv_at hl 1 rfl) ?_
        refine lv_bipush (v := (-3)) hx hb dX10_advance_43 (by decide +kernel) ?_
        have hFc := o_free hD hS hA
        refine va_calli (va_runV (As := [.int (-3)]) (rest := []) ⟨hx, hb, hml, hown, hts⟩ (c_X10_refuse l dC dI H.size cq Z gI o to (-3) (by decide +kernel)) (cwV 1 hts gX10_advance_X10_refuse rfl rfl rfl (by decide +kernel) ⟨(Nat.le_of_ble_eq_true rfl), (Nat.le_of_ble_eq_true rfl)⟩) (pr_V (r := (RX10, TX10, 16)) hP hK hD q_1 10 rfl hq_1) rfl rfl hl.1 rfl (lv_room (Nat.le_of_ble_eq_true rfl)) dX10_advance_45 ⟨(Nat.le_of_ble_eq_true rfl), (Nat.le_of_ble_eq_true rfl)⟩) hS (fun q _ h => hFc q h) hFc (fun r_50 u t H locs ht hvm w_49 hB hz1 hk1 hS => ?_)
        obtain ⟨S_51, rfl⟩ : ∃ z, z = u := ⟨_, rfl⟩
        obtain ⟨hP1, hK1, hD1⟩ := hB
        rw [ht] at hP1
        have hP : va_P (dC, dI) vwCl (oW cq S_51) H := hP1
        have hD : va_D A (oW cq S_51) := hD1.weaken (fun _ _ _ h => hFc _ h)
        clear hP1 hK1 hD1 hk1 hz1 hvm ht hFc
        obtain ⟨hIS_51, XS_51, hb_52, hx_53⟩ := w_49
        have X_54 : oX [109, 2107] Z S_51 := oX.st oX.rf XS_51 (by decide +kernel)
        have rf_55 : r_50.toInt = -3 := by rw [hx_53]; decide
        exact W.iret (v := r_50) hx hb hr (fun t ht hW => ⟨⟨r_50, S_51, rfl, ⟨hIS_51, X_54⟩, ⟨by rw [ht]; exact hP, va_K.moved hW.alike hK, hD⟩⟩, hS.F ht⟩) hS.2.2 dX10_advance_48
set_option maxHeartbeats 4000000 in
set_option maxRecDepth 100000 in
theorem c_X10_sold (l : Launch) (dC : Nat → ClassId) (dI : Nat → Nat → Nat) (sz : Nat) (cq : Nat → ClassId) (Z : oS) (gI : oInv Z) (o : Nat) (to : oty Z o 10) (x1 : Int32) (x2 : Int32) : Met l yX10_sold wsX10_sold ({ frames := 1, cells := 0, slots := 0, locals := 21 }) (va_Pc [.ref o, .int x1, .int x2] (pcW (dC, dI) (oT cq) (oW cq Z) sz)) (va_Qi (fun (r : Int32) (u : oS) => oInv u ∧ oX [110, 2107] Z u) (fun u t => va_P (dC, dI) vwCl (oW cq u) t.heap ∧ va_K (dC, dI) vwCl (oT cq) t ∧ va_D (va_A (oW cq Z) sz) (oW cq u)) (va_A (oW cq Z) sz)) 0 0 (va_A (oW cq Z) sz) := by
  refine Met.ofW (cc := cX10_sold) (maxL := 4) (ret := (some .int)) (by decide +kernel) rfl ?_
  intro p e s m args below meth c s₁ B hml hv
  obtain ⟨rfl, hsz, hP, hK, hD0⟩ := hv
  have hx := B.exec
  have hb := B.bytes
  have hr := B.returns
  have hts := atoms_spec (ws := wsX10_sold) B.pre
  have hown : s.vm.findClass RX10 = some m.cls := findClass_of_methodNamed B.named
  have hlocks := B.notSynchronized
  subst hsz
  have hD := hD0.self (sz := s.heap.size)
  generalize hAe : va_A (oW cq Z) s.heap.size = A at hD ⊢
  have hA : ∀ q : Nat, s.heap.size ≤ q → A q := fun q h => by rw [← hAe]; exact Or.inr h
  have hS : va_S A s.heap s.heap [] := va_S.rf
  have hP : va_P (dC, dI) vwCl (oW cq Z) s.heap := hP
  have hl := lv_entry ([.ref o, .int x1, .int x2]) (n := 4) (Nat.le_of_ble_eq_true rfl)
  rw [lg_entry_eq]
  generalize (lg_sl ([.ref o, .int x1, .int x2]) ++ List.replicate (4 - (lg_sl ([.ref o, .int x1, .int x2])).length) Slot.unset).toArray = ls at hl ⊢
  have hl : lv_has ls 4 [(0, .ref o), (1, .int x1), (2, .int x2)] := hl
  refine lv_aload_n hx hb dX10_sold_0 rfl (lv_at hl 0 rfl) ?_
  refine lv_iload_n hx hb dX10_sold_1 rfl (lv_at hl 1 rfl) ?_
  have hFc : ∀ q, va_A [] s.heap.size q → A q := pu_free hS hA
  obtain ⟨q_1, hq_1⟩ := og (cq := cq) to.1 (oE_10 to.2)
  refine va_callq (va_runV (As := [.int x1]) (rest := []) ⟨hx, hb, hml, hown, hts⟩ (c_X10_agreementAt l dC dI s.heap.size cq Z gI o to x1) (cwV 1 hts gX10_sold_X10_agreementAt rfl rfl rfl (by decide +kernel) ⟨(Nat.le_of_ble_eq_true rfl), (Nat.le_of_ble_eq_true rfl)⟩) (pr_V (r := (RX10, TX10, 16)) hP hK hD q_1 10 rfl hq_1) rfl rfl hl.1 rfl (lv_room (Nat.le_of_ble_eq_true rfl)) dX10_sold_2 ⟨(Nat.le_of_ble_eq_true rfl), (Nat.le_of_ble_eq_true rfl)⟩) hS (fun q _ h => hFc q h) hFc (fun r_3 u t H locs ht hvm w_2 hB hz1 hk1 hS => ?_)
  have hP := pu_keep hP hk1
  clear hk1 hz1 hvm hB ht hFc
  have hk_4 := w_2
  rcases r_3 with _ | b_5
  · refine W.eq (g2 := F0 m 5 ls [.null]) rfl ?_
    refine lv_astore_nN (lv' := [(3, .null), (0, .ref o), (1, .int x1), (2, .int x2)]) hx hb dX10_sold_5 rfl hl (by decide +kernel) rfl (fun ls hl => ?_)
    refine lv_aload_nN hx hb dX10_sold_6 rfl (lv_at hl 0 rfl) ?_
    refine lv_ifnonnullN hx hb dX10_sold_7 ?_
    refine lv_aload_n hx hb dX10_sold_10 rfl (lv_at hl 1 rfl) ?_
    refine lv_iconst (v := (-1)) hx hb dX10_sold_11 (by decide +kernel) ?_
    have hFc := o_free hD hS hA
    refine va_calli (va_runV (As := [.int (-1)]) (rest := []) ⟨hx, hb, hml, hown, hts⟩ (c_X10_refuse l dC dI H.size cq Z gI o to (-1) (by decide +kernel)) (cwV 1 hts gX10_sold_X10_refuse rfl rfl rfl (by decide +kernel) ⟨(Nat.le_of_ble_eq_true rfl), (Nat.le_of_ble_eq_true rfl)⟩) (pr_V (r := (RX10, TX10, 16)) hP hK hD q_1 10 rfl hq_1) rfl rfl hl.1 rfl (lv_room (Nat.le_of_ble_eq_true rfl)) dX10_sold_12 ⟨(Nat.le_of_ble_eq_true rfl), (Nat.le_of_ble_eq_true rfl)⟩) hS (fun q _ h => hFc q h) hFc (fun r_7 u t H locs ht hvm w_6 hB hz1 hk1 hS => ?_)
    obtain ⟨S_8, rfl⟩ : ∃ z, z = u := ⟨_, rfl⟩
    obtain ⟨hP1, hK1, hD1⟩ := hB
    rw [ht] at hP1
    have hP : va_P (dC, dI) vwCl (oW cq S_8) H := hP1
    have hD : va_D A (oW cq S_8) := hD1.weaken (fun _ _ _ h => hFc _ h)
    clear hP1 hK1 hD1 hk1 hz1 hvm ht hFc
    obtain ⟨hIS_8, XS_8, hb_9, hx_10⟩ := w_6
    have X_11 : oX [110, 2107] Z S_8 := oX.st oX.rf XS_8 (by decide +kernel)
    have rf_12 : r_7.toInt = -1 := by rw [hx_10]; decide
    exact W.iret (v := r_7) hx hb hr (fun t ht hW => ⟨⟨r_7, S_8, rfl, ⟨hIS_8, X_11⟩, ⟨by rw [ht]; exact hP, va_K.moved hW.alike hK, hD⟩⟩, hS.F ht⟩) hS.2.2 dX10_sold_15
  · refine W.eq (g2 := F0 m 5 ls [.ref b_5]) rfl ?_
    have tb_5 : oty Z b_5 1 := hk_4 b_5 rfl
    refine lv_astore_n (lv' := [(3, .ref b_5), (0, .ref o), (1, .int x1), (2, .int x2)]) hx hb dX10_sold_5 rfl hl (by decide +kernel) rfl (fun ls hl => ?_)
    refine lv_aload_n hx hb dX10_sold_6 rfl (lv_at hl 0 rfl) ?_
    refine lv_ifnonnull (tgt := 16) hx hb dX10_sold_7 (by decide +kernel) ?_
    refine lv_aload_n hx hb dX10_sold_16 rfl (lv_at hl 0 rfl) ?_
    obtain ⟨q_13, hq_13⟩ := og (cq := cq) tb_5.1 (oE_1 tb_5.2)
    refine va_get (D := (dC, dI)) (ci := 1) (v := .int (oI Z b_5 9)) (C := RX1) (T := TX1) (N := 18) hx hb hts in_wsX10_sold_X1 hown hK hP q_13 hq_13 rfl 9 (by decide +kernel) (hts (.fieldLink RX10 240 "ShipOffice$Agreement" "note" "I") iw_X10_sold_1) (fun _ h9 => h9) rfl dX10_sold_17 ?_
    refine lv_topi (fun x_14 ex_14 => ?_)
    clear ex_14
    refine lv_if_eq (tgt := 30) hx hb dX10_sold_20 (by decide +kernel) (fun c_15 => ?_) (fun c_15 => ?_)
    · have dc_15 := c_eq (a := x_14.toInt) (b := 0) rfl (by decide +kernel) c_15
      refine lv_aload_n hx hb dX10_sold_30 rfl (lv_at hl 1 rfl) ?_
      refine lv_bipush (v := (-3)) hx hb dX10_sold_31 (by decide +kernel) ?_
      have hFc := o_free hD hS hA
      refine va_calli (va_runV (As := [.int (-3)]) (rest := []) ⟨hx, hb, hml, hown, hts⟩ (c_X10_refuse l dC dI H.size cq Z gI o to (-3) (by decide +kernel)) (cwV 1 hts gX10_sold_X10_refuse rfl rfl rfl (by decide +kernel) ⟨(Nat.le_of_ble_eq_true rfl), (Nat.le_of_ble_eq_true rfl)⟩) (pr_V (r := (RX10, TX10, 16)) hP hK hD q_1 10 rfl hq_1) rfl rfl hl.1 rfl (lv_room (Nat.le_of_ble_eq_true rfl)) dX10_sold_33 ⟨(Nat.le_of_ble_eq_true rfl), (Nat.le_of_ble_eq_true rfl)⟩) hS (fun q _ h => hFc q h) hFc (fun r_17 u t H locs ht hvm w_16 hB hz1 hk1 hS => ?_)
      obtain ⟨S_18, rfl⟩ : ∃ z, z = u := ⟨_, rfl⟩
      obtain ⟨hP1, hK1, hD1⟩ := hB
      rw [ht] at hP1
      have hP : va_P (dC, dI) vwCl (oW cq S_18) H := hP1
      have hD : va_D A (oW cq S_18) := hD1.weaken (fun _ _ _ h => hFc _ h)
      clear hP1 hK1 hD1 hk1 hz1 hvm ht hFc
      obtain ⟨hIS_18, XS_18, hb_19, hx_20⟩ := w_16
      have X_21 : oX [110, 2107] Z S_18 := oX.st oX.rf XS_18 (by decide +kernel)
      have rf_22 : r_17.toInt = -3 := by rw [hx_20]; decide
      exact W.iret (v := r_17) hx hb hr (fun t ht hW => ⟨⟨r_17, S_18, rfl, ⟨hIS_18, X_21⟩, ⟨by rw [ht]; exact hP, va_K.moved hW.alike hK, hD⟩⟩, hS.F ht⟩) hS.2.2 dX10_sold_36
    · have dc_15 := c_ne (a := x_14.toInt) (b := 0) rfl (by decide +kernel) c_15
      refine lv_aload_n hx hb dX10_sold_23 rfl (lv_at hl 0 rfl) ?_
      refine va_get (D := (dC, dI)) (ci := 1) (v := .int (oI Z b_5 10)) (C := RX1) (T := TX1) (N := 18) hx hb hts in_wsX10_sold_X1 hown hK hP q_13 hq_13 rfl 10 (by decide +kernel) (hts (.fieldLink RX10 243 "ShipOffice$Agreement" "given" "I") iw_X10_sold_2) (fun _ h9 => h9) rfl dX10_sold_24 ?_
      refine lv_topi (fun x_23 ex_23 => ?_)
      clear ex_23
      refine lv_if_eq (tgt := 37) hx hb dX10_sold_27 (by decide +kernel) (fun c_24 => ?_) (fun c_24 => ?_)
      · have dc_24 := c_eq (a := x_23.toInt) (b := 0) rfl (by decide +kernel) c_24
        refine lv_iload_n hx hb dX10_sold_37 rfl (lv_at hl 3 rfl) ?_
        refine lv_iconst (v := 1) hx hb dX10_sold_38 (by decide +kernel) ?_
        refine lv_icmp_ge (tgt := 49) hx hb dX10_sold_39 (by decide +kernel) (fun c_25 => ?_) (fun c_25 => ?_)
        · have dc_25 := c_le (a := 1) (b := x2.toInt) (by decide +kernel) rfl c_25
          refine lv_iload_n hx hb dX10_sold_49 rfl (lv_at hl 3 rfl) ?_
          refine lv_aload_n hx hb dX10_sold_50 rfl (lv_at hl 0 rfl) ?_
          refine va_get (D := (dC, dI)) (ci := 1) (v := .int (oI Z b_5 9)) (C := RX1) (T := TX1) (N := 18) hx hb hts in_wsX10_sold_X1 hown hK hP q_13 hq_13 rfl 9 (by decide +kernel) (hts (.fieldLink RX10 240 "ShipOffice$Agreement" "note" "I") iw_X10_sold_1) (fun _ h9 => h9) rfl dX10_sold_51 ?_
          refine lv_topi (fun x_26 ex_26 => ?_)
          clear ex_26
          refine lv_icmp_lt (tgt := 64) hx hb dX10_sold_54 (by decide +kernel) (fun c_27 => ?_) (fun c_27 => ?_)
          · have dc_27 := c_lt (a := x2.toInt) (b := x_26.toInt) rfl rfl c_27
            refine lv_aload_n hx hb dX10_sold_64 rfl (lv_at hl 0 rfl) ?_
            refine lv_iload_n hx hb dX10_sold_65 rfl (lv_at hl 3 rfl) ?_
            refine va_put (D := (dC, dI)) (ci := 1) (v := .int x2) (ty := .int) (C := RX1) (T := TX1) (N := 18) hx hb hts in_wsX10_sold_X1 tyX1 tyX1_ok nmX1 hown hK hP hD hS q_13 hq_13 rfl 10 (by decide +kernel) (hts (.fieldLink RX10 243 "ShipOffice$Agreement" "given" "I") iw_X10_sold_2) (fun _ h9 => h9) rfl (by decide +kernel) rfl rfl (Nat.le_of_ble_eq_true rfl) dX10_sold_66 (fun H locs hP1 hD1 hS => ?_)
            obtain ⟨S_28, eS_28⟩ : ∃ zq, zq = setI Z b_5 10 x2 := ⟨_, rfl⟩
            have hP : va_P (dC, dI) vwCl (oW cq S_28) H := by rw [eS_28]; exact cP (oset tb_5.1 hq_13 hD rfl (he_1_10 tb_5.2) neI) hP1
            have hD : va_D A (oW cq S_28) := by rw [eS_28]; exact cD (oset tb_5.1 hq_13 hD rfl (he_1_10 tb_5.2) neI) hD1
            clear hP1 hD1
            have hIS_28 : oInv S_28 := by rw [eS_28]; exact oInv.I0 (k := 1) (lo := -2147483648) (hi := 2147483647) gI tb_5.2 (by decide +kernel) rfl rfl rfl (iv_all _)
            have XS_28 : oX [110] Z S_28 := by rw [eS_28]; exact oX.I (k := 1) (key := 110) tb_5.2 rfl (List.mem_singleton.mpr rfl)
            have X_29 : oX [110, 2107] Z S_28 := oX.st oX.rf XS_28 (by decide +kernel)
            refine lv_aload_n hx hb dX10_sold_69 rfl (lv_at hl 0 rfl) ?_
            have t_30 : oty S_28 b_5 1 := (oX.ty XS_28 tb_5)
            obtain ⟨q_31, hq_31⟩ := og (cq := cq) t_30.1 (oE_1 t_30.2)
            refine va_get (D := (dC, dI)) (ci := 1) (v := .int (oI S_28 b_5 9)) (C := RX1) (T := TX1) (N := 18) hx hb hts in_wsX10_sold_X1 hown hK hP q_31 hq_31 rfl 9 (by decide +kernel) (hts (.fieldLink RX10 240 "ShipOffice$Agreement" "note" "I") iw_X10_sold_1) (fun _ h9 => h9) rfl dX10_sold_70 ?_
            refine lv_topi (fun x_32 ex_32 => ?_)
            clear ex_32
            refine lv_iload_n hx hb dX10_sold_73 rfl (lv_at hl 3 rfl) ?_
            refine lv_isub hx hb dX10_sold_74 ?_
            refine lv_topi (fun x_33 ex_33 => ?_)
            clear ex_33
            exact W.iret (v := x_33) hx hb hr (fun t ht hW => ⟨⟨x_33, S_28, rfl, ⟨hIS_28, X_29⟩, ⟨by rw [ht]; exact hP, va_K.moved hW.alike hK, hD⟩⟩, hS.F ht⟩) hS.2.2 dX10_sold_75
          · have dc_27 := c_nlt (a := x2.toInt) (b := x_26.toInt) rfl rfl c_27
            refine lv_aload_n hx hb dX10_sold_57 rfl (lv_at hl 1 rfl) ?_
            refine lv_bipush (v := (-6)) hx hb dX10_sold_58 (by decide +kernel) ?_
            have hFc := o_free hD hS hA
            refine va_calli (va_runV (As := [.int (-6)]) (rest := []) ⟨hx, hb, hml, hown, hts⟩ (c_X10_refuse l dC dI H.size cq Z gI o to (-6) (by decide +kernel)) (cwV 1 hts gX10_sold_X10_refuse rfl rfl rfl (by decide +kernel) ⟨(Nat.le_of_ble_eq_true rfl), (Nat.le_of_ble_eq_true rfl)⟩) (pr_V (r := (RX10, TX10, 16)) hP hK hD q_1 10 rfl hq_1) rfl rfl hl.1 rfl (lv_room (Nat.le_of_ble_eq_true rfl)) dX10_sold_60 ⟨(Nat.le_of_ble_eq_true rfl), (Nat.le_of_ble_eq_true rfl)⟩) hS (fun q _ h => hFc q h) hFc (fun r_35 u t H locs ht hvm w_34 hB hz1 hk1 hS => ?_)
            obtain ⟨S_36, rfl⟩ : ∃ z, z = u := ⟨_, rfl⟩
            obtain ⟨hP1, hK1, hD1⟩ := hB
            rw [ht] at hP1
            have hP : va_P (dC, dI) vwCl (oW cq S_36) H := hP1
            have hD : va_D A (oW cq S_36) := hD1.weaken (fun _ _ _ h => hFc _ h)
            clear hP1 hK1 hD1 hk1 hz1 hvm ht hFc
            obtain ⟨hIS_36, XS_36, hb_37, hx_38⟩ := w_34
            have X_39 : oX [110, 2107] Z S_36 := oX.st oX.rf XS_36 (by decide +kernel)
            have rf_40 : r_35.toInt = -6 := by rw [hx_38]; decide
            exact W.iret (v := r_35) hx hb hr (fun t ht hW => ⟨⟨r_35, S_36, rfl, ⟨hIS_36, X_39⟩, ⟨by rw [ht]; exact hP, va_K.moved hW.alike hK, hD⟩⟩, hS.F ht⟩) hS.2.2 dX10_sold_63
        · have dc_25 := c_nle (a := 1) (b := x2.toInt) (by decide +kernel) rfl c_25
          refine lv_aload_n hx hb dX10_sold_42 rfl (lv_at hl 1 rfl) ?_
          refine lv_bipush (v := (-4)) hx hb dX10_sold_43 (by decide +kernel) ?_
          have hFc := o_free hD hS hA
          refine va_calli (va_runV (As := [.int (-4)]) (rest := []) ⟨hx, hb, hml, hown, hts⟩ (c_X10_refuse l dC dI H.size cq Z gI o to (-4) (by decide +kernel)) (cwV 1 hts gX10_sold_X10_refuse rfl rfl rfl (by decide +kernel) ⟨(Nat.le_of_ble_eq_true rfl), (Nat.le_of_ble_eq_true rfl)⟩) (pr_V (r := (RX10, TX10, 16)) hP hK hD q_1 10 rfl hq_1) rfl rfl hl.1 rfl (lv_room (Nat.le_of_ble_eq_true rfl)) dX10_sold_45 ⟨(Nat.le_of_ble_eq_true rfl), (Nat.le_of_ble_eq_true rfl)⟩) hS (fun q _ h => hFc q h) hFc (fun r_42 u t H locs ht hvm w_41 hB hz1 hk1 hS => ?_)
          obtain ⟨S_43, rfl⟩ : ∃ z, z = u := ⟨_, rfl⟩
          obtain ⟨hP1, hK1, hD1⟩ := hB
          rw [ht] at hP1
          have hP : va_P (dC, dI) vwCl (oW cq S_43) H := hP1
          have hD : va_D A (oW cq S_43) := hD1.weaken (fun _ _ _ h => hFc _ h)
          clear hP1 hK1 hD1 hk1 hz1 hvm ht hFc
          obtain ⟨hIS_43, XS_43, hb_44, hx_45⟩ := w_41
          have X_46 : oX [110, 2107] Z S_43 := oX.st oX.rf XS_43 (by decide +kernel)
          have rf_47 : r_42.toInt = -4 := by rw [hx_45]; decide
          exact W.iret (v := r_42) hx hb hr (fun t ht hW => ⟨⟨r_42, S_43, rfl, ⟨hIS_43, X_46⟩, ⟨by rw [ht]; exact hP, va_K.moved hW.alike hK, hD⟩⟩, hS.F ht⟩) hS.2.2 dX10_sold_48
      · have dc_24 := c_ne (a := x_23.toInt) (b := 0) rfl (by decide +kernel) c_24
        refine lv_aload_n hx hb dX10_sold_30 rfl (lv_at hl 1 rfl) ?_
        refine lv_bipush (v := (-3)) hx hb dX10_sold_31 (by decide +kernel) ?_
        have hFc := o_free hD hS hA
        refine va_calli (va_runV (As := [.int (-3)]) (rest := []) ⟨hx, hb, hml, hown, hts⟩ (c_X10_refuse l dC dI H.size cq Z gI o to (-3) (by decide +kernel)) (cwV 1 hts gX10_sold_X10_refuse rfl rfl rfl (by decide +kernel) ⟨(Nat.le_of_ble_eq_true rfl), (Nat.le_of_ble_eq_true rfl)⟩) (pr_V (r := (RX10, TX10, 16)) hP hK hD q_1 10 rfl hq_1) rfl rfl hl.1 rfl (lv_room (Nat.le_of_ble_eq_true rfl)) dX10_sold_33 ⟨(Nat.le_of_ble_eq_true rfl), (Nat.le_of_ble_eq_true rfl)⟩) hS (fun q _ h => hFc q h) hFc (fun r_49 u t H locs ht hvm w_48 hB hz1 hk1 hS => ?_)
        obtain ⟨S_50, rfl⟩ : ∃ z, z = u := ⟨_, rfl⟩
        obtain ⟨hP1, hK1, hD1⟩ := hB
        rw [ht] at hP1
        have hP : va_P (dC, dI) vwCl (oW cq S_50) H := hP1
        have hD : va_D A (oW cq S_50) := hD1.weaken (fun _ _ _ h => hFc _ h)
        clear hP1 hK1 hD1 hk1 hz1 hvm ht hFc
        obtain ⟨hIS_50, XS_50, hb_51, hx_52⟩ := w_48
        have X_53 : oX [110, 2107] Z S_50 := oX.st oX.rf XS_50 (by decide +kernel)
        have rf_54 : r_49.toInt = -3 := by rw [hx_52]; decide
        exact W.iret (v := r_49) hx hb hr (fun t ht hW => ⟨⟨r_49, S_50, rfl, ⟨hIS_50, X_53⟩, ⟨by rw [ht]; exact hP, va_K.moved hW.alike hK, hD⟩⟩, hS.F ht⟩) hS.2.2 dX10_sold_36
set_option maxHeartbeats 4000000 in
set_option maxRecDepth 100000 in
theorem c_X10_allot (l : Launch) (dC : Nat → ClassId) (dI : Nat → Nat → Nat) (sz : Nat) (cq : Nat → ClassId) (Z : oS) (gI : oInv Z) (o : Nat) (to : oty Z o 10) (x1 : Int32) (x2 : Int32) : Met l yX10_allot wsX10_allot ({ frames := 4, cells := 0, slots := 0, locals := 106 }) (va_Pc [.ref o, .int x1, .int x2] (pcW (dC, dI) (oT cq) (oW cq Z) sz)) (va_Qi (fun (r : Int32) (u : oS) => oInv u ∧ oX [111, 2107, 2108, 5001] Z u) (fun u t => va_P (dC, dI) vwCl (oW cq u) t.heap ∧ va_K (dC, dI) vwCl (oT cq) t ∧ va_D (va_A (oW cq Z) sz) (oW cq u)) (va_A (oW cq Z) sz)) 0 0 (va_A (oW cq Z) sz) := by
  refine Met.ofW (cc := cX10_allot) (maxL := 6) (ret := (some .int)) (by decide +kernel) rfl ?_
  intro p e s m args below meth c s₁ B hml hv
  obtain ⟨rfl, hsz, hP, hK, hD0⟩ := hv
  have hx := B.exec
  have hb := B.bytes
  have hr := B.returns
  have hts := atoms_spec (ws := wsX10_allot) B.pre
  have hown : s.vm.findClass RX10 = some m.cls := findClass_of_methodNamed B.named
  have hlocks := B.notSynchronized
  subst hsz
  have hD := hD0.self (sz := s.heap.size)
  generalize hAe : va_A (oW cq Z) s.heap.size = A at hD ⊢
  have hA : ∀ q : Nat, s.heap.size ≤ q → A q := fun q h => by rw [← hAe]; exact Or.inr h
  have hS : va_S A s.heap s.heap [] := va_S.rf
  have hP : va_P (dC, dI) vwCl (oW cq Z) s.heap := hP
  have hl := lv_entry ([.ref o, .int x1, .int x2]) (n := 6) (Nat.le_of_ble_eq_true rfl)
  rw [lg_entry_eq]
  generalize (lg_sl ([.ref o, .int x1, .int x2]) ++ List.replicate (6 - (lg_sl ([.ref o, .int x1, .int x2])).length) Slot.unset).toArray = ls at hl ⊢
  have hl : lv_has ls 6 [(0, .ref o), (1, .int x1), (2, .int x2)] := hl
  refine lv_aload_n hx hb dX10_allot_0 rfl (lv_at hl 0 rfl) ?_
  refine lv_iload_n hx hb dX10_allot_1 rfl (lv_at hl 1 rfl) ?_
  have hFc : ∀ q, va_A [] s.heap.size q → A q := pu_free hS hA
  obtain ⟨q_1, hq_1⟩ := og (cq := cq) to.1 (oE_10 to.2)
  refine va_callq (va_runV (As := [.int x1]) (rest := []) ⟨hx, hb, hml, hown, hts⟩ (c_X10_agreementAt l dC dI s.heap.size cq Z gI o to x1) (cwV 1 hts gX10_allot_X10_agreementAt rfl rfl rfl (by decide +kernel) ⟨(Nat.le_of_ble_eq_true rfl), (Nat.le_of_ble_eq_true rfl)⟩) (pr_V (r := (RX10, TX10, 16)) hP hK hD q_1 10 rfl hq_1) rfl rfl hl.1 rfl (lv_room (Nat.le_of_ble_eq_true rfl)) dX10_allot_2 ⟨(Nat.le_of_ble_eq_true rfl), (Nat.le_of_ble_eq_true rfl)⟩) hS (fun q _ h => hFc q h) hFc (fun r_3 u t H locs ht hvm w_2 hB hz1 hk1 hS => ?_)
  have hP := pu_keep hP hk1
  clear hk1 hz1 hvm hB ht hFc
  have hk_4 := w_2
  rcases r_3 with _ | b_5
  · refine W.eq (g2 := F0 m 5 ls [.null]) rfl ?_
    refine lv_astore_nN (lv' := [(3, .null), (0, .ref o), (1, .int x1), (2, .int x2)]) hx hb dX10_allot_5 rfl hl (by decide +kernel) rfl (fun ls hl => ?_)
    refine lv_aload_nN hx hb dX10_allot_6 rfl (lv_at hl 0 rfl) ?_
    refine lv_ifnonnullN hx hb dX10_allot_7 ?_
    refine lv_aload_n hx hb dX10_allot_10 rfl (lv_at hl 1 rfl) ?_
    refine lv_iconst (v := (-1)) hx hb dX10_allot_11 (by decide +kernel) ?_
    have hFc := o_free hD hS hA
    refine va_calli (va_runV (As := [.int (-1)]) (rest := []) ⟨hx, hb, hml, hown, hts⟩ (c_X10_refuse l dC dI H.size cq Z gI o to (-1) (by decide +kernel)) (cwV 1 hts gX10_allot_X10_refuse rfl rfl rfl (by decide +kernel) ⟨(Nat.le_of_ble_eq_true rfl), (Nat.le_of_ble_eq_true rfl)⟩) (pr_V (r := (RX10, TX10, 16)) hP hK hD q_1 10 rfl hq_1) rfl rfl hl.1 rfl (lv_room (Nat.le_of_ble_eq_true rfl)) dX10_allot_12 ⟨(Nat.le_of_ble_eq_true rfl), (Nat.le_of_ble_eq_true rfl)⟩) hS (fun q _ h => hFc q h) hFc (fun r_7 u t H locs ht hvm w_6 hB hz1 hk1 hS => ?_)
    obtain ⟨S_8, rfl⟩ : ∃ z, z = u := ⟨_, rfl⟩
    obtain ⟨hP1, hK1, hD1⟩ := hB
    rw [ht] at hP1
    have hP : va_P (dC, dI) vwCl (oW cq S_8) H := hP1
    have hD : va_D A (oW cq S_8) := hD1.weaken (fun _ _ _ h => hFc _ h)
    clear hP1 hK1 hD1 hk1 hz1 hvm ht hFc
    obtain ⟨hIS_8, XS_8, hb_9, hx_10⟩ := w_6
    have X_11 : oX [111, 2107, 2108, 5001] Z S_8 := oX.st oX.rf XS_8 (by decide +kernel)
    have rf_12 : r_7.toInt = -1 := by rw [hx_10]; decide
    exact W.iret (v := r_7) hx hb hr (fun t ht hW => ⟨⟨r_7, S_8, rfl, ⟨hIS_8, X_11⟩, ⟨by rw [ht]; exact hP, va_K.moved hW.alike hK, hD⟩⟩, hS.F ht⟩) hS.2.2 dX10_allot_15
  · refine W.eq (g2 := F0 m 5 ls [.ref b_5]) rfl ?_
    have tb_5 : oty Z b_5 1 := hk_4 b_5 rfl
    refine lv_astore_n (lv' := [(3, .ref b_5), (0, .ref o), (1, .int x1), (2, .int x2)]) hx hb dX10_allot_5 rfl hl (by decide +kernel) rfl (fun ls hl => ?_)
    refine lv_aload_n hx hb dX10_allot_6 rfl (lv_at hl 0 rfl) ?_
    refine lv_ifnonnull (tgt := 16) hx hb dX10_allot_7 (by decide +kernel) ?_
    refine lv_aload_n hx hb dX10_allot_16 rfl (lv_at hl 0 rfl) ?_
    obtain ⟨q_13, hq_13⟩ := og (cq := cq) tb_5.1 (oE_1 tb_5.2)
    refine va_get (D := (dC, dI)) (ci := 1) (v := .int (oI Z b_5 11)) (C := RX1) (T := TX1) (N := 18) hx hb hts in_wsX10_allot_X1 hown hK hP q_13 hq_13 rfl 11 (by decide +kernel) (hts (.fieldLink RX10 246 "ShipOffice$Agreement" "allotment" "I") iw_X10_allot_1) (fun _ h9 => h9) rfl dX10_allot_17 ?_
    refine lv_topi (fun x_14 ex_14 => ?_)
    clear ex_14
    refine lv_if_ne (tgt := 30) hx hb dX10_allot_20 (by decide +kernel) (fun c_15 => ?_) (fun c_15 => ?_)
    · have dc_15 := c_ne (a := x_14.toInt) (b := 0) rfl (by decide +kernel) c_15
      refine lv_aload_n hx hb dX10_allot_30 rfl (lv_at hl 1 rfl) ?_
      refine lv_bipush (v := (-3)) hx hb dX10_allot_31 (by decide +kernel) ?_
      have hFc := o_free hD hS hA
      refine va_calli (va_runV (As := [.int (-3)]) (rest := []) ⟨hx, hb, hml, hown, hts⟩ (c_X10_refuse l dC dI H.size cq Z gI o to (-3) (by decide +kernel)) (cwV 1 hts gX10_allot_X10_refuse rfl rfl rfl (by decide +kernel) ⟨(Nat.le_of_ble_eq_true rfl), (Nat.le_of_ble_eq_true rfl)⟩) (pr_V (r := (RX10, TX10, 16)) hP hK hD q_1 10 rfl hq_1) rfl rfl hl.1 rfl (lv_room (Nat.le_of_ble_eq_true rfl)) dX10_allot_33 ⟨(Nat.le_of_ble_eq_true rfl), (Nat.le_of_ble_eq_true rfl)⟩) hS (fun q _ h => hFc q h) hFc (fun r_17 u t H locs ht hvm w_16 hB hz1 hk1 hS => ?_)
      obtain ⟨S_18, rfl⟩ : ∃ z, z = u := ⟨_, rfl⟩
      obtain ⟨hP1, hK1, hD1⟩ := hB
      rw [ht] at hP1
      have hP : va_P (dC, dI) vwCl (oW cq S_18) H := hP1
      have hD : va_D A (oW cq S_18) := hD1.weaken (fun _ _ _ h => hFc _ h)
      clear hP1 hK1 hD1 hk1 hz1 hvm ht hFc
      obtain ⟨hIS_18, XS_18, hb_19, hx_20⟩ := w_16
      have X_21 : oX [111, 2107, 2108, 5001] Z S_18 := oX.st oX.rf XS_18 (by decide +kernel)
      have rf_22 : r_17.toInt = -3 := by rw [hx_20]; decide
      exact W.iret (v := r_17) hx hb hr (fun t ht hW => ⟨⟨r_17, S_18, rfl, ⟨hIS_18, X_21⟩, ⟨by rw [ht]; exact hP, va_K.moved hW.alike hK, hD⟩⟩, hS.F ht⟩) hS.2.2 dX10_allot_36
    · have dc_15 := c_eq (a := x_14.toInt) (b := 0) rfl (by decide +kernel) c_15
      refine lv_aload_n hx hb dX10_allot_23 rfl (lv_at hl 0 rfl) ?_
      have hFc : ∀ q, va_A [] H.size q → A q := pu_free hS hA
      refine va_calli (va_runV (As := []) (rest := []) ⟨hx, hb, hml, hown, hts⟩ (c_X1_goesOn l dC dI H.size cq Z gI b_5 tb_5) (cwV 0 hts gX10_allot_X1_goesOn rfl rfl rfl (by decide +kernel) ⟨(Nat.le_of_ble_eq_true rfl), (Nat.le_of_ble_eq_true rfl)⟩) (pr_V (r := (RX1, TX1, 18)) hP hK hD q_13 1 rfl hq_13) rfl rfl hl.1 rfl (lv_room (Nat.le_of_ble_eq_true rfl)) dX10_allot_24 ⟨(Nat.le_of_ble_eq_true rfl), (Nat.le_of_ble_eq_true rfl)⟩) hS (fun q _ h => hFc q h) hFc (fun r_24 u t H locs ht hvm w_23 hB hz1 hk1 hS => ?_)
      have hP := pu_keep hP hk1
      clear hk1 hz1 hvm hB ht hFc
      have hb_25 := w_23
      refine lv_if_ne (tgt := 37) hx hb dX10_allot_27 (by decide +kernel) (fun c_26 => ?_) (fun c_26 => ?_)
      · have dc_26 := c_ne (a := r_24.toInt) (b := 0) rfl (by decide +kernel) c_26
        refine lv_iload_n hx hb dX10_allot_37 rfl (lv_at hl 3 rfl) ?_
        refine lv_iconst (v := 1) hx hb dX10_allot_38 (by decide +kernel) ?_
        refine lv_icmp_ge (tgt := 49) hx hb dX10_allot_39 (by decide +kernel) (fun c_27 => ?_) (fun c_27 => ?_)
        · have dc_27 := c_le (a := 1) (b := x2.toInt) (by decide +kernel) rfl c_27
          refine lv_iload_n hx hb dX10_allot_49 rfl (lv_at hl 3 rfl) ?_
          refine lv_sipush (v := 9999) hx hb dX10_allot_50 (by decide +kernel) ?_
          refine lv_icmp_le (tgt := 63) hx hb dX10_allot_53 (by decide +kernel) (fun c_28 => ?_) (fun c_28 => ?_)
          · have dc_28 := c_le (a := x2.toInt) (b := 9999) rfl (by decide +kernel) c_28
            refine lv_aload_n hx hb dX10_allot_63 rfl (lv_at hl 1 rfl) ?_
            refine lv_iconst (v := 3) hx hb dX10_allot_64 (by decide +kernel) ?_
            refine lv_aload_n hx hb dX10_allot_65 rfl (lv_at hl 0 rfl) ?_
            refine lv_aload_n hx hb dX10_allot_66 rfl (lv_at hl 1 rfl) ?_
            refine va_get (D := (dC, dI)) (ci := 10) (v := .int (oI Z o 0)) (C := RX10) (T := TX10) (N := 16) hx hb hts in_wsX10_allot_X10 hown hK hP q_1 hq_1 rfl 0 (by decide +kernel) (hts (.fieldLink RX10 73 "ShipOffice" "now" "I") iw_X10_allot_2) (fun _ h9 => h9) rfl dX10_allot_67 ?_
            refine lv_topi (fun x_29 ex_29 => ?_)
            have hx_29 : 0 ≤ x_29.toInt ∧ x_29.toInt ≤ 3000 := iv_of ex_29 (oInv.iv gI to.2 rfl rfl)
            have gx_29 : x_29.toInt = (oI Z o 0).toInt := iv_to ex_29
            clear ex_29
            refine lv_aload_n hx hb dX10_allot_70 rfl (lv_at hl 1 rfl) ?_
            refine va_get (D := (dC, dI)) (ci := 10) (v := .int (oI Z o 0)) (C := RX10) (T := TX10) (N := 16) hx hb hts in_wsX10_allot_X10 hown hK hP q_1 hq_1 rfl 0 (by decide +kernel) (hts (.fieldLink RX10 73 "ShipOffice" "now" "I") iw_X10_allot_2) (fun _ h9 => h9) rfl dX10_allot_71 ?_
            refine lv_topi (fun x_30 ex_30 => ?_)
            have hx_30 : 0 ≤ x_30.toInt ∧ x_30.toInt ≤ 3000 := iv_of ex_30 (oInv.iv gI to.2 rfl rfl)
            have gx_30 : x_30.toInt = (oI Z o 0).toInt := iv_to ex_30
            clear ex_30
            refine lv_iload_n hx hb dX10_allot_74 rfl (lv_at hl 3 rfl) ?_
            refine lv_iconst (v := 0) hx hb dX10_allot_75 (by decide +kernel) ?_
            have hFc := o_free hD hS hA
            refine va_calli (va_runV (As := [.int 3, .ref b_5, .int x_29, .int x_30, .int x2, .int 0]) (rest := []) ⟨hx, hb, hml, hown, hts⟩ (c_X10_worthFor l dC dI H.size cq Z gI o to 3 (by decide +kernel) b_5 tb_5 x_29 x_30 x2 0) (cwV 6 hts gX10_allot_X10_worthFor rfl rfl rfl (by decide +kernel) ⟨(Nat.le_of_ble_eq_true rfl), (Nat.le_of_ble_eq_true rfl)⟩) (pr_V (r := (RX10, TX10, 16)) hP hK hD q_1 10 rfl hq_1) rfl rfl hl.1 rfl (lv_room (Nat.le_of_ble_eq_true rfl)) dX10_allot_76 ⟨(Nat.le_of_ble_eq_true rfl), (Nat.le_of_ble_eq_true rfl)⟩) hS (fun q _ h => hFc q h) hFc (fun r_32 u t H locs ht hvm w_31 hB hz1 hk1 hS => ?_)
            obtain ⟨S_33, rfl⟩ : ∃ z, z = u := ⟨_, rfl⟩
            obtain ⟨hP1, hK1, hD1⟩ := hB
            rw [ht] at hP1
            have hP : va_P (dC, dI) vwCl (oW cq S_33) H := hP1
            have hD : va_D A (oW cq S_33) := hD1.weaken (fun _ _ _ h => hFc _ h)
            clear hP1 hK1 hD1 hk1 hz1 hvm ht hFc
            obtain ⟨hIS_33, XS_33⟩ := w_31
            have X_34 : oX [111, 2107, 2108, 5001] Z S_33 := oX.st oX.rf XS_33 (by decide +kernel)
            refine lv_i2l (v := (r_32 : Int32).toInt64) hx hb dX10_allot_79 rfl ?_
            refine lv_lstore (lv' := [(4, .long ((r_32 : Int32).toInt64)), (3, .ref b_5), (0, .ref o), (1, .int x1), (2, .int x2)]) hx hb dX10_allot_80 hl (by decide +kernel) rfl (fun ls hl => ?_)
            refine lv_iload_n hx hb dX10_allot_82 rfl (lv_at hl 4 rfl) ?_
            refine lv_i2l (v := (x2 : Int32).toInt64) hx hb dX10_allot_83 rfl ?_
            refine lv_aload_n hx hb dX10_allot_84 rfl (lv_at hl 1 rfl) ?_
            have t_35 : oty S_33 b_5 1 := (oX.ty XS_33 tb_5)
            obtain ⟨q_36, hq_36⟩ := og (cq := cq) t_35.1 (oE_1 t_35.2)
            refine va_get (D := (dC, dI)) (ci := 1) (v := .int (oI S_33 b_5 4)) (C := RX1) (T := TX1) (N := 18) hx hb hts in_wsX10_allot_X1 hown hK hP q_36 hq_36 rfl 4 (by decide +kernel) (hts (.fieldLink RX10 223 "ShipOffice$Agreement" "wage" "I") iw_X10_allot_3) (fun _ h9 => h9) rfl dX10_allot_85 ?_
            refine lv_topi (fun x_37 ex_37 => ?_)
            clear ex_37
            refine lv_i2l (v := (x_37 : Int32).toInt64) hx hb dX10_allot_88 rfl ?_
            refine lv_lload hx hb dX10_allot_89 (lv_at hl 0 rfl) ?_
            refine lv_lmul hx hb dX10_allot_91 ?_
            refine lv_ldc2 (v := 100) hx hb hown (hts (.constantLong RX10 253 (100)) (by decide +kernel)) dX10_allot_92 ?_
            refine lv_ldiv hx hb dX10_allot_95 (by decide +kernel) ?_
            refine W.lcmp hx hb dX10_allot_96 ?_
            refine lv_topi (fun x_38 ex_38 => ?_)
            clear ex_38
            refine lv_if_le (tgt := 107) hx hb dX10_allot_97 (by decide +kernel) (fun c_39 => ?_) (fun c_39 => ?_)
            · have dc_39 := c_le (a := x_38.toInt) (b := 0) rfl (by decide +kernel) c_39
              refine lv_aload_n hx hb dX10_allot_107 rfl (lv_at hl 1 rfl) ?_
              refine lv_iload_n hx hb dX10_allot_108 rfl (lv_at hl 4 rfl) ?_
              refine va_put (D := (dC, dI)) (ci := 1) (v := .int x2) (ty := .int) (C := RX1) (T := TX1) (N := 18) hx hb hts in_wsX10_allot_X1 tyX1 tyX1_ok nmX1 hown hK hP hD hS q_36 hq_36 rfl 11 (by decide +kernel) (hts (.fieldLink RX10 246 "ShipOffice$Agreement" "allotment" "I") iw_X10_allot_1) (fun _ h9 => h9) rfl (by decide +kernel) rfl rfl (Nat.le_of_ble_eq_true rfl) dX10_allot_109 (fun H locs hP1 hD1 hS => ?_)
              obtain ⟨S_40, eS_40⟩ : ∃ zq, zq = setI S_33 b_5 11 x2 := ⟨_, rfl⟩
              have hP : va_P (dC, dI) vwCl (oW cq S_40) H := by rw [eS_40]; exact cP (oset t_35.1 hq_36 hD rfl (he_1_11 t_35.2) neI) hP1
              have hD : va_D A (oW cq S_40) := by rw [eS_40]; exact cD (oset t_35.1 hq_36 hD rfl (he_1_11 t_35.2) neI) hD1
              clear hP1 hD1
              have hIS_40 : oInv S_40 := by rw [eS_40]; exact oInv.I0 (k := 1) (lo := -2147483648) (hi := 2147483647) hIS_33 t_35.2 (by decide +kernel) rfl rfl rfl (iv_all _)
              have XS_40 : oX [111] S_33 S_40 := by rw [eS_40]; exact oX.I (k := 1) (key := 111) t_35.2 rfl (List.mem_singleton.mpr rfl)
              have X_41 : oX [111, 2107, 2108, 5001] Z S_40 := oX.st X_34 XS_40 (by decide +kernel)
              refine lv_iconst (v := 1) hx hb dX10_allot_112 (by decide +kernel) ?_
              exact W.iret (v := 1) hx hb hr (fun t ht hW => ⟨⟨1, S_40, rfl, ⟨hIS_40, X_41⟩, ⟨by rw [ht]; exact hP, va_K.moved hW.alike hK, hD⟩⟩, hS.F ht⟩) hS.2.2 dX10_allot_113
            · have dc_39 := c_nle (a := x_38.toInt) (b := 0) rfl (by decide +kernel) c_39
              refine lv_aload_n hx hb dX10_allot_100 rfl (lv_at hl 2 rfl) ?_
              refine lv_bipush (v := (-6)) hx hb dX10_allot_101 (by decide +kernel) ?_
              have t_42 : oty S_33 o 10 := (oX.ty XS_33 to)
              have hFc := o_free hD hS hA
              obtain ⟨q_43, hq_43⟩ := og (cq := cq) t_42.1 (oE_10 t_42.2)
              refine va_calli (va_runV (As := [.int (-6)]) (rest := []) ⟨hx, hb, hml, hown, hts⟩ (c_X10_refuse l dC dI H.size cq S_33 hIS_33 o t_42 (-6) (by decide +kernel)) (cwV 1 hts gX10_allot_X10_refuse rfl rfl rfl (by decide +kernel) ⟨(Nat.le_of_ble_eq_true rfl), (Nat.le_of_ble_eq_true rfl)⟩) (pr_V (r := (RX10, TX10, 16)) hP hK hD q_43 10 rfl hq_43) rfl rfl hl.1 rfl (lv_room (Nat.le_of_ble_eq_true rfl)) dX10_allot_103 ⟨(Nat.le_of_ble_eq_true rfl), (Nat.le_of_ble_eq_true rfl)⟩) hS (fun q _ h => hFc q h) hFc (fun r_45 u t H locs ht hvm w_44 hB hz1 hk1 hS => ?_)
              obtain ⟨S_46, rfl⟩ : ∃ z, z = u := ⟨_, rfl⟩
              obtain ⟨hP1, hK1, hD1⟩ := hB
              rw [ht] at hP1
              have hP : va_P (dC, dI) vwCl (oW cq S_46) H := hP1
              have hD : va_D A (oW cq S_46) := hD1.weaken (fun _ _ _ h => hFc _ h)
              clear hP1 hK1 hD1 hk1 hz1 hvm ht hFc
              obtain ⟨hIS_46, XS_46, hb_47, hx_48⟩ := w_44
              have X_49 : oX [111, 2107, 2108, 5001] Z S_46 := oX.st X_34 XS_46 (by decide +kernel)
              have rf_50 : r_45.toInt = -6 := by rw [hx_48]; decide
              exact W.iret (v := r_45) hx hb hr (fun t ht hW => ⟨⟨r_45, S_46, rfl, ⟨hIS_46, X_49⟩, ⟨by rw [ht]; exact hP, va_K.moved hW.alike hK, hD⟩⟩, hS.F ht⟩) hS.2.2 dX10_allot_106
          · have dc_28 := c_nle (a := x2.toInt) (b := 9999) rfl (by decide +kernel) c_28
            refine lv_aload_n hx hb dX10_allot_56 rfl (lv_at hl 1 rfl) ?_
            refine lv_bipush (v := (-6)) hx hb dX10_allot_57 (by decide +kernel) ?_
            have hFc := o_free hD hS hA
            refine va_calli (va_runV (As := [.int (-6)]) (rest := []) ⟨hx, hb, hml, hown, hts⟩ (c_X10_refuse l dC dI H.size cq Z gI o to (-6) (by decide +kernel)) (cwV 1 hts gX10_allot_X10_refuse rfl rfl rfl (by decide +kernel) ⟨(Nat.le_of_ble_eq_true rfl), (Nat.le_of_ble_eq_true rfl)⟩) (pr_V (r := (RX10, TX10, 16)) hP hK hD q_1 10 rfl hq_1) rfl rfl hl.1 rfl (lv_room (Nat.le_of_ble_eq_true rfl)) dX10_allot_59 ⟨(Nat.le_of_ble_eq_true rfl), (Nat.le_of_ble_eq_true rfl)⟩) hS (fun q _ h => hFc q h) hFc (fun r_52 u t H locs ht hvm w_51 hB hz1 hk1 hS => ?_)
            obtain ⟨S_53, rfl⟩ : ∃ z, z = u := ⟨_, rfl⟩
            obtain ⟨hP1, hK1, hD1⟩ := hB
            rw [ht] at hP1
            have hP : va_P (dC, dI) vwCl (oW cq S_53) H := hP1
            have hD : va_D A (oW cq S_53) := hD1.weaken (fun _ _ _ h => hFc _ h)
            clear hP1 hK1 hD1 hk1 hz1 hvm ht hFc
            obtain ⟨hIS_53, XS_53, hb_54, hx_55⟩ := w_51
            have X_56 : oX [111, 2107, 2108, 5001] Z S_53 := oX.st oX.rf XS_53 (by decide +kernel)
            have rf_57 : r_52.toInt = -6 := by rw [hx_55]; decide
            exact W.iret (v := r_52) hx hb hr (fun t ht hW => ⟨⟨r_52, S_53, rfl, ⟨hIS_53, X_56⟩, ⟨by rw [ht]; exact hP, va_K.moved hW.alike hK, hD⟩⟩, hS.F ht⟩) hS.2.2 dX10_allot_62
        · have dc_27 := c_nle (a := 1) (b := x2.toInt) (by decide +kernel) rfl c_27
          refine lv_aload_n hx hb dX10_allot_42 rfl (lv_at hl 1 rfl) ?_
          refine lv_bipush (v := (-4)) hx hb dX10_allot_43 (by decide +kernel) ?_
          have hFc := o_free hD hS hA
          refine va_calli (va_runV (As := [.int (-4)]) (rest := []) ⟨hx, hb, hml, hown, hts⟩ (c_X10_refuse l dC dI H.size cq Z gI o to (-4) (by decide +kernel)) (cwV 1 hts gX10_allot_X10_refuse rfl rfl rfl (by decide +kernel) ⟨(Nat.le_of_ble_eq_true rfl), (Nat.le_of_ble_eq_true rfl)⟩) (pr_V (r := (RX10, TX10, 16)) hP hK hD q_1 10 rfl hq_1) rfl rfl hl.1 rfl (lv_room (Nat.le_of_ble_eq_true rfl)) dX10_allot_45 ⟨(Nat.le_of_ble_eq_true rfl), (Nat.le_of_ble_eq_true rfl)⟩) hS (fun q _ h => hFc q h) hFc (fun r_59 u t H locs ht hvm w_58 hB hz1 hk1 hS => ?_)
          obtain ⟨S_60, rfl⟩ : ∃ z, z = u := ⟨_, rfl⟩
          obtain ⟨hP1, hK1, hD1⟩ := hB
          rw [ht] at hP1
          have hP : va_P (dC, dI) vwCl (oW cq S_60) H := hP1
          have hD : va_D A (oW cq S_60) := hD1.weaken (fun _ _ _ h => hFc _ h)
          clear hP1 hK1 hD1 hk1 hz1 hvm ht hFc
          obtain ⟨hIS_60, XS_60, hb_61, hx_62⟩ := w_58
          have X_63 : oX [111, 2107, 2108, 5001] Z S_60 := oX.st oX.rf XS_60 (by decide +kernel)
          have rf_64 : r_59.toInt = -4 := by rw [hx_62]; decide
          exact W.iret (v := r_59) hx hb hr (fun t ht hW => ⟨⟨r_59, S_60, rfl, ⟨hIS_60, X_63⟩, ⟨by rw [ht]; exact hP, va_K.moved hW.alike hK, hD⟩⟩, hS.F ht⟩) hS.2.2 dX10_allot_48
      · have dc_26 := c_eq (a := r_24.toInt) (b := 0) rfl (by decide +kernel) c_26
        refine lv_aload_n hx hb dX10_allot_30 rfl (lv_at hl 1 rfl) ?_
        refine lv_bipush (v := (-3)) hx hb dX10_allot_31 (by decide +kernel) ?_
        have hFc := o_free hD hS hA
        refine va_calli (va_runV (As := [.int (-3)]) (rest := []) ⟨hx, hb, hml, hown, hts⟩ (c_X10_refuse l dC dI H.size cq Z gI o to (-3) (by decide +kernel)) (cwV 1 hts gX10_allot_X10_refuse rfl rfl rfl (by decide +kernel) ⟨(Nat.le_of_ble_eq_true rfl), (Nat.le_of_ble_eq_true rfl)⟩) (pr_V (r := (RX10, TX10, 16)) hP hK hD q_1 10 rfl hq_1) rfl rfl hl.1 rfl (lv_room (Nat.le_of_ble_eq_true rfl)) dX10_allot_33 ⟨(Nat.le_of_ble_eq_true rfl), (Nat.le_of_ble_eq_true rfl)⟩) hS (fun q _ h => hFc q h) hFc (fun r_66 u t H locs ht hvm w_65 hB hz1 hk1 hS => ?_)
        obtain ⟨S_67, rfl⟩ : ∃ z, z = u := ⟨_, rfl⟩
        obtain ⟨hP1, hK1, hD1⟩ := hB
        rw [ht] at hP1
        have hP : va_P (dC, dI) vwCl (oW cq S_67) H := hP1
        have hD : va_D A (oW cq S_67) := hD1.weaken (fun _ _ _ h => hFc _ h)
        clear hP1 hK1 hD1 hk1 hz1 hvm ht hFc
        obtain ⟨hIS_67, XS_67, hb_68, hx_69⟩ := w_65
        have X_70 : oX [111, 2107, 2108, 5001] Z S_67 := oX.st oX.rf XS_67 (by decide +kernel)
        have rf_71 : r_66.toInt = -3 := by rw [hx_69]; decide
        exact W.iret (v := r_66) hx hb hr (fun t ht hW => ⟨⟨r_66, S_67, rfl, ⟨hIS_67, X_70⟩, ⟨by rw [ht]; exact hP, va_K.moved hW.alike hK, hD⟩⟩, hS.F ht⟩) hS.2.2 dX10_allot_36
set_option maxHeartbeats 4000000 in
set_option maxRecDepth 100000 in
theorem c_X10_read (l : Launch) (dC : Nat → ClassId) (dI : Nat → Nat → Nat) (sz : Nat) (cq : Nat → ClassId) (Z : oS) (gI : oInv Z) (o : Nat) (to : oty Z o 10) (x1 : Int32) (x2 : Int32) : Met l yX10_read wsX10_read ({ frames := 1, cells := 0, slots := 0, locals := 21 }) (va_Pc [.ref o, .int x1, .int x2] (pcW (dC, dI) (oT cq) (oW cq Z) sz)) (va_Qi (fun (r : Int32) (u : oS) => oInv u ∧ oX [202, 2107] Z u) (fun u t => va_P (dC, dI) vwCl (oW cq u) t.heap ∧ va_K (dC, dI) vwCl (oT cq) t ∧ va_D (va_A (oW cq Z) sz) (oW cq u)) (va_A (oW cq Z) sz)) 0 0 (va_A (oW cq Z) sz) := by
  refine Met.ofW (cc := cX10_read) (maxL := 4) (ret := (some .int)) (by decide +kernel) rfl ?_
  intro p e s m args below meth c s₁ B hml hv
  obtain ⟨rfl, hsz, hP, hK, hD0⟩ := hv
  have hx := B.exec
  have hb := B.bytes
  have hr := B.returns
  have hts := atoms_spec (ws := wsX10_read) B.pre
  have hown : s.vm.findClass RX10 = some m.cls := findClass_of_methodNamed B.named
  have hlocks := B.notSynchronized
  subst hsz
  have hD := hD0.self (sz := s.heap.size)
  generalize hAe : va_A (oW cq Z) s.heap.size = A at hD ⊢
  have hA : ∀ q : Nat, s.heap.size ≤ q → A q := fun q h => by rw [← hAe]; exact Or.inr h
  have hS : va_S A s.heap s.heap [] := va_S.rf
  have hP : va_P (dC, dI) vwCl (oW cq Z) s.heap := hP
  have hl := lv_entry ([.ref o, .int x1, .int x2]) (n := 4) (Nat.le_of_ble_eq_true rfl)
  rw [lg_entry_eq]
  generalize (lg_sl ([.ref o, .int x1, .int x2]) ++ List.replicate (4 - (lg_sl ([.ref o, .int x1, .int x2])).length) Slot.unset).toArray = ls at hl ⊢
  have hl : lv_has ls 4 [(0, .ref o), (1, .int x1), (2, .int x2)] := hl
  refine lv_aload_n hx hb dX10_read_0 rfl (lv_at hl 0 rfl) ?_
  refine lv_iload_n hx hb dX10_read_1 rfl (lv_at hl 1 rfl) ?_
  have hFc : ∀ q, va_A [] s.heap.size q → A q := pu_free hS hA
  obtain ⟨q_1, hq_1⟩ := og (cq := cq) to.1 (oE_10 to.2)
  refine va_callq (va_runV (As := [.int x1]) (rest := []) ⟨hx, hb, hml, hown, hts⟩ (c_X10_agreementAt l dC dI s.heap.size cq Z gI o to x1) (cwV 1 hts gX10_read_X10_agreementAt rfl rfl rfl (by decide +kernel) ⟨(Nat.le_of_ble_eq_true rfl), (Nat.le_of_ble_eq_true rfl)⟩) (pr_V (r := (RX10, TX10, 16)) hP hK hD q_1 10 rfl hq_1) rfl rfl hl.1 rfl (lv_room (Nat.le_of_ble_eq_true rfl)) dX10_read_2 ⟨(Nat.le_of_ble_eq_true rfl), (Nat.le_of_ble_eq_true rfl)⟩) hS (fun q _ h => hFc q h) hFc (fun r_3 u t H locs ht hvm w_2 hB hz1 hk1 hS => ?_)
  have hP := pu_keep hP hk1
  clear hk1 hz1 hvm hB ht hFc
  have hk_4 := w_2
  rcases r_3 with _ | b_5
  · refine W.eq (g2 := F0 m 5 ls [.null]) rfl ?_
    refine lv_iload_n hx hb dX10_read_5 rfl (lv_at hl 2 rfl) ?_
    have hFc : ∀ q, va_A [] H.size q → A q := pu_free hS hA
    refine va_callq (va_runS (As := [.null, .int x2]) (rest := []) ⟨hx, hb, hml, hown, hts⟩ (c_X10_fineAt l dC dI H.size cq Z gI none (fun b h => by cases h) x2) (va_cwS 2 hts gX10_read_X10_fineAt rfl rfl rfl (by decide +kernel) ⟨(Nat.le_of_ble_eq_true rfl), (Nat.le_of_ble_eq_true rfl)⟩) (pr_S hP hK hD) rfl rfl hl.1 rfl (lv_room (Nat.le_of_ble_eq_true rfl)) dX10_read_6 ⟨(Nat.le_of_ble_eq_true rfl), (Nat.le_of_ble_eq_true rfl)⟩) hS (fun q _ h => hFc q h) hFc (fun r_7 u t H locs ht hvm w_6 hB hz1 hk1 hS => ?_)
    have hP := pu_keep hP hk1
    clear hk1 hz1 hvm hB ht hFc
    have hk_8 := w_6
    rcases r_7 with _ | b_9
    · refine W.eq (g2 := F0 m 9 ls [.null]) rfl ?_
      refine lv_astore_nN (lv' := [(3, .null), (0, .ref o), (1, .int x1), (2, .int x2)]) hx hb dX10_read_9 rfl hl (by decide +kernel) rfl (fun ls hl => ?_)
      refine lv_aload_nN hx hb dX10_read_10 rfl (lv_at hl 0 rfl) ?_
      refine lv_ifnonnullN hx hb dX10_read_11 ?_
      refine lv_aload_n hx hb dX10_read_14 rfl (lv_at hl 1 rfl) ?_
      refine lv_iconst (v := (-1)) hx hb dX10_read_15 (by decide +kernel) ?_
      have hFc := o_free hD hS hA
      refine va_calli (va_runV (As := [.int (-1)]) (rest := []) ⟨hx, hb, hml, hown, hts⟩ (c_X10_refuse l dC dI H.size cq Z gI o to (-1) (by decide +kernel)) (cwV 1 hts gX10_read_X10_refuse rfl rfl rfl (by decide +kernel) ⟨(Nat.le_of_ble_eq_true rfl), (Nat.le_of_ble_eq_true rfl)⟩) (pr_V (r := (RX10, TX10, 16)) hP hK hD q_1 10 rfl hq_1) rfl rfl hl.1 rfl (lv_room (Nat.le_of_ble_eq_true rfl)) dX10_read_16 ⟨(Nat.le_of_ble_eq_true rfl), (Nat.le_of_ble_eq_true rfl)⟩) hS (fun q _ h => hFc q h) hFc (fun r_11 u t H locs ht hvm w_10 hB hz1 hk1 hS => ?_)
      obtain ⟨S_12, rfl⟩ : ∃ z, z = u := ⟨_, rfl⟩
      obtain ⟨hP1, hK1, hD1⟩ := hB
      rw [ht] at hP1
      have hP : va_P (dC, dI) vwCl (oW cq S_12) H := hP1
      have hD : va_D A (oW cq S_12) := hD1.weaken (fun _ _ _ h => hFc _ h)
      clear hP1 hK1 hD1 hk1 hz1 hvm ht hFc
      obtain ⟨hIS_12, XS_12, hb_13, hx_14⟩ := w_10
      have X_15 : oX [202, 2107] Z S_12 := oX.st oX.rf XS_12 (by decide +kernel)
      have rf_16 : r_11.toInt = -1 := by rw [hx_14]; decide
      exact W.iret (v := r_11) hx hb hr (fun t ht hW => ⟨⟨r_11, S_12, rfl, ⟨hIS_12, X_15⟩, ⟨by rw [ht]; exact hP, va_K.moved hW.alike hK, hD⟩⟩, hS.F ht⟩) hS.2.2 dX10_read_19
    · refine W.eq (g2 := F0 m 9 ls [.ref b_9]) rfl ?_
      have tb_9 : oty Z b_9 2 := hk_8 b_9 rfl
      refine lv_astore_n (lv' := [(3, .ref b_9), (0, .ref o), (1, .int x1), (2, .int x2)]) hx hb dX10_read_9 rfl hl (by decide +kernel) rfl (fun ls hl => ?_)
      refine lv_aload_n hx hb dX10_read_10 rfl (lv_at hl 0 rfl) ?_
      refine lv_ifnonnull (tgt := 20) hx hb dX10_read_11 (by decide +kernel) ?_
      refine lv_aload_n hx hb dX10_read_20 rfl (lv_at hl 0 rfl) ?_
      obtain ⟨q_17, hq_17⟩ := og (cq := cq) tb_9.1 (oE_2 tb_9.2)
      refine va_get (D := (dC, dI)) (ci := 2) (v := .int (oI Z b_9 2)) (C := RX2) (T := TX2) (N := 3) hx hb hts in_wsX10_read_X2 hown hK hP q_17 hq_17 rfl 2 (by decide +kernel) (hts (.fieldLink RX10 274 "ShipOffice$Fine" "isRead" "Z") iw_X10_read_1) (fun _ h9 => h9) rfl dX10_read_21 ?_
      refine lv_topi (fun x_18 ex_18 => ?_)
      clear ex_18
      refine lv_if_ne (tgt := 38) hx hb dX10_read_24 (by decide +kernel) (fun c_19 => ?_) (fun c_19 => ?_)
      · have dc_19 := c_ne (a := x_18.toInt) (b := 0) rfl (by decide +kernel) c_19
        refine lv_aload_n hx hb dX10_read_38 rfl (lv_at hl 1 rfl) ?_
        refine lv_bipush (v := (-3)) hx hb dX10_read_39 (by decide +kernel) ?_
        have hFc := o_free hD hS hA
        refine va_calli (va_runV (As := [.int (-3)]) (rest := []) ⟨hx, hb, hml, hown, hts⟩ (c_X10_refuse l dC dI H.size cq Z gI o to (-3) (by decide +kernel)) (cwV 1 hts gX10_read_X10_refuse rfl rfl rfl (by decide +kernel) ⟨(Nat.le_of_ble_eq_true rfl), (Nat.le_of_ble_eq_true rfl)⟩) (pr_V (r := (RX10, TX10, 16)) hP hK hD q_1 10 rfl hq_1) rfl rfl hl.1 rfl (lv_room (Nat.le_of_ble_eq_true rfl)) dX10_read_41 ⟨(Nat.le_of_ble_eq_true rfl), (Nat.le_of_ble_eq_true rfl)⟩) hS (fun q _ h => hFc q h) hFc (fun r_21 u t H locs ht hvm w_20 hB hz1 hk1 hS => ?_)
        obtain ⟨S_22, rfl⟩ : ∃ z, z = u := ⟨_, rfl⟩
        obtain ⟨hP1, hK1, hD1⟩ := hB
        rw [ht] at hP1
        have hP : va_P (dC, dI) vwCl (oW cq S_22) H := hP1
        have hD : va_D A (oW cq S_22) := hD1.weaken (fun _ _ _ h => hFc _ h)
        clear hP1 hK1 hD1 hk1 hz1 hvm ht hFc
        obtain ⟨hIS_22, XS_22, hb_23, hx_24⟩ := w_20
        have X_25 : oX [202, 2107] Z S_22 := oX.st oX.rf XS_22 (by decide +kernel)
        have rf_26 : r_21.toInt = -3 := by rw [hx_24]; decide
        exact W.iret (v := r_21) hx hb hr (fun t ht hW => ⟨⟨r_21, S_22, rfl, ⟨hIS_22, X_25⟩, ⟨by rw [ht]; exact hP, va_K.moved hW.alike hK, hD⟩⟩, hS.F ht⟩) hS.2.2 dX10_read_44
      · have dc_19 := c_eq (a := x_18.toInt) (b := 0) rfl (by decide +kernel) c_19
        refine lv_aload_n hx hb dX10_read_27 rfl (lv_at hl 0 rfl) ?_
        refine va_get (D := (dC, dI)) (ci := 2) (v := .int (oI Z b_9 0)) (C := RX2) (T := TX2) (N := 3) hx hb hts in_wsX10_read_X2 hown hK hP q_17 hq_17 rfl 0 (by decide +kernel) (hts (.fieldLink RX10 277 "ShipOffice$Fine" "day" "I") iw_X10_read_2) (fun _ h9 => h9) rfl dX10_read_28 ?_
        refine lv_topi (fun x_27 ex_27 => ?_)
        clear ex_27
        refine lv_aload_n hx hb dX10_read_31 rfl (lv_at hl 1 rfl) ?_
        refine va_get (D := (dC, dI)) (ci := 10) (v := .int (oI Z o 0)) (C := RX10) (T := TX10) (N := 16) hx hb hts in_wsX10_read_X10 hown hK hP q_1 hq_1 rfl 0 (by decide +kernel) (hts (.fieldLink RX10 73 "ShipOffice" "now" "I") iw_X10_read_3) (fun _ h9 => h9) rfl dX10_read_32 ?_
        refine lv_topi (fun x_28 ex_28 => ?_)
        have hx_28 : 0 ≤ x_28.toInt ∧ x_28.toInt ≤ 3000 := iv_of ex_28 (oInv.iv gI to.2 rfl rfl)
        have gx_28 : x_28.toInt = (oI Z o 0).toInt := iv_to ex_28
        clear ex_28
        refine lv_icmp_eq (tgt := 45) hx hb dX10_read_35 (by decide +kernel) (fun c_29 => ?_) (fun c_29 => ?_)
        · have dc_29 := c_eq (a := x_27.toInt) (b := x_28.toInt) rfl rfl c_29
          refine lv_aload_n hx hb dX10_read_45 rfl (lv_at hl 0 rfl) ?_
          refine lv_iconst (v := 1) hx hb dX10_read_46 (by decide +kernel) ?_
          refine va_put (D := (dC, dI)) (ci := 2) (v := .int 1) (ty := .boolean) (C := RX2) (T := TX2) (N := 3) hx hb hts in_wsX10_read_X2 tyX2 tyX2_ok nmX2 hown hK hP hD hS q_17 hq_17 rfl 2 (by decide +kernel) (hts (.fieldLink RX10 274 "ShipOffice$Fine" "isRead" "Z") iw_X10_read_1) (fun _ h9 => h9) rfl (by decide +kernel) rfl rfl (Nat.le_of_ble_eq_true rfl) dX10_read_47 (fun H locs hP1 hD1 hS => ?_)
          obtain ⟨S_30, eS_30⟩ : ∃ zq, zq = setI Z b_9 2 1 := ⟨_, rfl⟩
          have hP : va_P (dC, dI) vwCl (oW cq S_30) H := by rw [eS_30]; exact cP (oset tb_9.1 hq_17 hD rfl (he_2_2 tb_9.2) neI) hP1
          have hD : va_D A (oW cq S_30) := by rw [eS_30]; exact cD (oset tb_9.1 hq_17 hD rfl (he_2_2 tb_9.2) neI) hD1
          clear hP1 hD1
          have hIS_30 : oInv S_30 := by rw [eS_30]; exact oInv.I0 (k := 2) (lo := -2147483648) (hi := 2147483647) gI tb_9.2 (by decide +kernel) rfl rfl rfl (iv_all _)
          have XS_30 : oX [202] Z S_30 := by rw [eS_30]; exact oX.I (k := 2) (key := 202) tb_9.2 rfl (List.mem_singleton.mpr rfl)
          have X_31 : oX [202, 2107] Z S_30 := oX.st oX.rf XS_30 (by decide +kernel)
          have g_32 : (oI S_30 o 0).toInt = (oI Z o 0).toInt := by rw [eS_30, setI_oth (ty_ne to tb_9 (by decide +kernel))]
          refine lv_iconst (v := 1) hx hb dX10_read_50 (by decide +kernel) ?_
          exact W.iret (v := 1) hx hb hr (fun t ht hW => ⟨⟨1, S_30, rfl, ⟨hIS_30, X_31⟩, ⟨by rw [ht]; exact hP, va_K.moved hW.alike hK, hD⟩⟩, hS.F ht⟩) hS.2.2 dX10_read_51
        · have dc_29 := c_ne (a := x_27.toInt) (b := x_28.toInt) rfl rfl c_29
          refine lv_aload_n hx hb dX10_read_38 rfl (lv_at hl 1 rfl) ?_
          refine lv_bipush (v := (-3)) hx hb dX10_read_39 (by decide +kernel) ?_
          have hFc := o_free hD hS hA
          refine va_calli (va_runV (As := [.int (-3)]) (rest := []) ⟨hx, hb, hml, hown, hts⟩ (c_X10_refuse l dC dI H.size cq Z gI o to (-3) (by decide +kernel)) (cwV 1 hts gX10_read_X10_refuse rfl rfl rfl (by decide +kernel) ⟨(Nat.le_of_ble_eq_true rfl), (Nat.le_of_ble_eq_true rfl)⟩) (pr_V (r := (RX10, TX10, 16)) hP hK hD q_1 10 rfl hq_1) rfl rfl hl.1 rfl (lv_room (Nat.le_of_ble_eq_true rfl)) dX10_read_41 ⟨(Nat.le_of_ble_eq_true rfl), (Nat.le_of_ble_eq_true rfl)⟩) hS (fun q _ h => hFc q h) hFc (fun r_34 u t H locs ht hvm w_33 hB hz1 hk1 hS => ?_)
          obtain ⟨S_35, rfl⟩ : ∃ z, z = u := ⟨_, rfl⟩
          obtain ⟨hP1, hK1, hD1⟩ := hB
          rw [ht] at hP1
          have hP : va_P (dC, dI) vwCl (oW cq S_35) H := hP1
          have hD : va_D A (oW cq S_35) := hD1.weaken (fun _ _ _ h => hFc _ h)
          clear hP1 hK1 hD1 hk1 hz1 hvm ht hFc
          obtain ⟨hIS_35, XS_35, hb_36, hx_37⟩ := w_33
          have X_38 : oX [202, 2107] Z S_35 := oX.st oX.rf XS_35 (by decide +kernel)
          have rf_39 : r_34.toInt = -3 := by rw [hx_37]; decide
          exact W.iret (v := r_34) hx hb hr (fun t ht hW => ⟨⟨r_34, S_35, rfl, ⟨hIS_35, X_38⟩, ⟨by rw [ht]; exact hP, va_K.moved hW.alike hK, hD⟩⟩, hS.F ht⟩) hS.2.2 dX10_read_44
  · refine W.eq (g2 := F0 m 5 ls [.ref b_5]) rfl ?_
    have tb_5 : oty Z b_5 1 := hk_4 b_5 rfl
    refine lv_iload_n hx hb dX10_read_5 rfl (lv_at hl 2 rfl) ?_
    have hFc : ∀ q, va_A [] H.size q → A q := pu_free hS hA
    refine va_callq (va_runS (As := [.ref b_5, .int x2]) (rest := []) ⟨hx, hb, hml, hown, hts⟩ (c_X10_fineAt l dC dI H.size cq Z gI (some b_5) (fun b h => by cases h; exact tb_5) x2) (va_cwS 2 hts gX10_read_X10_fineAt rfl rfl rfl (by decide +kernel) ⟨(Nat.le_of_ble_eq_true rfl), (Nat.le_of_ble_eq_true rfl)⟩) (pr_S hP hK hD) rfl rfl hl.1 rfl (lv_room (Nat.le_of_ble_eq_true rfl)) dX10_read_6 ⟨(Nat.le_of_ble_eq_true rfl), (Nat.le_of_ble_eq_true rfl)⟩) hS (fun q _ h => hFc q h) hFc (fun r_41 u t H locs ht hvm w_40 hB hz1 hk1 hS => ?_)
    have hP := pu_keep hP hk1
    clear hk1 hz1 hvm hB ht hFc
    have hk_42 := w_40
    rcases r_41 with _ | b_43
    · refine W.eq (g2 := F0 m 9 ls [.null]) rfl ?_
      refine lv_astore_nN (lv' := [(3, .null), (0, .ref o), (1, .int x1), (2, .int x2)]) hx hb dX10_read_9 rfl hl (by decide +kernel) rfl (fun ls hl => ?_)
      refine lv_aload_nN hx hb dX10_read_10 rfl (lv_at hl 0 rfl) ?_
      refine lv_ifnonnullN hx hb dX10_read_11 ?_
      refine lv_aload_n hx hb dX10_read_14 rfl (lv_at hl 1 rfl) ?_
      refine lv_iconst (v := (-1)) hx hb dX10_read_15 (by decide +kernel) ?_
      have hFc := o_free hD hS hA
      refine va_calli (va_runV (As := [.int (-1)]) (rest := []) ⟨hx, hb, hml, hown, hts⟩ (c_X10_refuse l dC dI H.size cq Z gI o to (-1) (by decide +kernel)) (cwV 1 hts gX10_read_X10_refuse rfl rfl rfl (by decide +kernel) ⟨(Nat.le_of_ble_eq_true rfl), (Nat.le_of_ble_eq_true rfl)⟩) (pr_V (r := (RX10, TX10, 16)) hP hK hD q_1 10 rfl hq_1) rfl rfl hl.1 rfl (lv_room (Nat.le_of_ble_eq_true rfl)) dX10_read_16 ⟨(Nat.le_of_ble_eq_true rfl), (Nat.le_of_ble_eq_true rfl)⟩) hS (fun q _ h => hFc q h) hFc (fun r_45 u t H locs ht hvm w_44 hB hz1 hk1 hS => ?_)
      obtain ⟨S_46, rfl⟩ : ∃ z, z = u := ⟨_, rfl⟩
      obtain ⟨hP1, hK1, hD1⟩ := hB
      rw [ht] at hP1
      have hP : va_P (dC, dI) vwCl (oW cq S_46) H := hP1
      have hD : va_D A (oW cq S_46) := hD1.weaken (fun _ _ _ h => hFc _ h)
      clear hP1 hK1 hD1 hk1 hz1 hvm ht hFc
      obtain ⟨hIS_46, XS_46, hb_47, hx_48⟩ := w_44
      have X_49 : oX [202, 2107] Z S_46 := oX.st oX.rf XS_46 (by decide +kernel)
      have rf_50 : r_45.toInt = -1 := by rw [hx_48]; decide
      exact W.iret (v := r_45) hx hb hr (fun t ht hW => ⟨⟨r_45, S_46, rfl, ⟨hIS_46, X_49⟩, ⟨by rw [ht]; exact hP, va_K.moved hW.alike hK, hD⟩⟩, hS.F ht⟩) hS.2.2 dX10_read_19
    · refine W.eq (g2 := F0 m 9 ls [.ref b_43]) rfl ?_
      have tb_43 : oty Z b_43 2 := hk_42 b_43 rfl
      refine lv_astore_n (lv' := [(3, .ref b_43), (0, .ref o), (1, .int x1), (2, .int x2)]) hx hb dX10_read_9 rfl hl (by decide +kernel) rfl (fun ls hl => ?_)
      refine lv_aload_n hx hb dX10_read_10 rfl (lv_at hl 0 rfl) ?_
      refine lv_ifnonnull (tgt := 20) hx hb dX10_read_11 (by decide +kernel) ?_
      refine lv_aload_n hx hb dX10_read_20 rfl (lv_at hl 0 rfl) ?_
      obtain ⟨q_51, hq_51⟩ := og (cq := cq) tb_43.1 (oE_2 tb_43.2)
      refine va_get (D := (dC, dI)) (ci := 2) (v := .int (oI Z b_43 2)) (C := RX2) (T := TX2) (N := 3) hx hb hts in_wsX10_read_X2 hown hK hP q_51 hq_51 rfl 2 (by decide +kernel) (hts (.fieldLink RX10 274 "ShipOffice$Fine" "isRead" "Z") iw_X10_read_1) (fun _ h9 => h9) rfl dX10_read_21 ?_
      refine lv_topi (fun x_52 ex_52 => ?_)
      clear ex_52
      refine lv_if_ne (tgt := 38) hx hb dX10_read_24 (by decide +kernel) (fun c_53 => ?_) (fun c_53 => ?_)
      · have dc_53 := c_ne (a := x_52.toInt) (b := 0) rfl (by decide +kernel) c_53
        refine lv_aload_n hx hb dX10_read_38 rfl (lv_at hl 1 rfl) ?_
        refine lv_bipush (v := (-3)) hx hb dX10_read_39 (by decide +kernel) ?_
        have hFc := o_free hD hS hA
        refine va_calli (va_runV (As := [.int (-3)]) (rest := []) ⟨hx, hb, hml, hown, hts⟩ (c_X10_refuse l dC dI H.size cq Z gI o to (-3) (by decide +kernel)) (cwV 1 hts gX10_read_X10_refuse rfl rfl rfl (by decide +kernel) ⟨(Nat.le_of_ble_eq_true rfl), (Nat.le_of_ble_eq_true rfl)⟩) (pr_V (r := (RX10, TX10, 16)) hP hK hD q_1 10 rfl hq_1) rfl rfl hl.1 rfl (lv_room (Nat.le_of_ble_eq_true rfl)) dX10_read_41 ⟨(Nat.le_of_ble_eq_true rfl), (Nat.le_of_ble_eq_true rfl)⟩) hS (fun q _ h => hFc q h) hFc (fun r_55 u t H locs ht hvm w_54 hB hz1 hk1 hS => ?_)
        obtain ⟨S_56, rfl⟩ : ∃ z, z = u := ⟨_, rfl⟩
        obtain ⟨hP1, hK1, hD1⟩ := hB
        rw [ht] at hP1
        have hP : va_P (dC, dI) vwCl (oW cq S_56) H := hP1
        have hD : va_D A (oW cq S_56) := hD1.weaken (fun _ _ _ h => hFc _ h)
        clear hP1 hK1 hD1 hk1 hz1 hvm ht hFc
        obtain ⟨hIS_56, XS_56, hb_57, hx_58⟩ := w_54
        have X_59 : oX [202, 2107] Z S_56 := oX.st oX.rf XS_56 (by decide +kernel)
        have rf_60 : r_55.toInt = -3 := by rw [hx_58]; decide
        exact W.iret (v := r_55) hx hb hr (fun t ht hW => ⟨⟨r_55, S_56, rfl, ⟨hIS_56, X_59⟩, ⟨by rw [ht]; exact hP, va_K.moved hW.alike hK, hD⟩⟩, hS.F ht⟩) hS.2.2 dX10_read_44
      · have dc_53 := c_eq (a := x_52.toInt) (b := 0) rfl (by decide +kernel) c_53
        refine lv_aload_n hx hb dX10_read_27 rfl (lv_at hl 0 rfl) ?_
        refine va_get (D := (dC, dI)) (ci := 2) (v := .int (oI Z b_43 0)) (C := RX2) (T := TX2) (N := 3) hx hb hts in_wsX10_read_X2 hown hK hP q_51 hq_51 rfl 0 (by decide +kernel) (hts (.fieldLink RX10 277 "ShipOffice$Fine" "day" "I") iw_X10_read_2) (fun _ h9 => h9) rfl dX10_read_28 ?_
        refine lv_topi (fun x_61 ex_61 => ?_)
        clear ex_61
        refine lv_aload_n hx hb dX10_read_31 rfl (lv_at hl 1 rfl) ?_
        refine va_get (D := (dC, dI)) (ci := 10) (v := .int (oI Z o 0)) (C := RX10) (T := TX10) (N := 16) hx hb hts in_wsX10_read_X10 hown hK hP q_1 hq_1 rfl 0 (by decide +kernel) (hts (.fieldLink RX10 73 "ShipOffice" "now" "I") iw_X10_read_3) (fun _ h9 => h9) rfl dX10_read_32 ?_
        refine lv_topi (fun x_62 ex_62 => ?_)
        have hx_62 : 0 ≤ x_62.toInt ∧ x_62.toInt ≤ 3000 := iv_of ex_62 (oInv.iv gI to.2 rfl rfl)
        have gx_62 : x_62.toInt = (oI Z o 0).toInt := iv_to ex_62
        clear ex_62
        refine lv_icmp_eq (tgt := 45) hx hb dX10_read_35 (by decide +kernel) (fun c_63 => ?_) (fun c_63 => ?_)
        · have dc_63 := c_eq (a := x_61.toInt) (b := x_62.toInt) rfl rfl c_63
          refine lv_aload_n hx hb dX10_read_45 rfl (lv_at hl 0 rfl) ?_
          refine lv_iconst (v := 1) hx hb dX10_read_46 (by decide +kernel) ?_
          refine va_put (D := (dC, dI)) (ci := 2) (v := .int 1) (ty := .boolean) (C := RX2) (T := TX2) (N := 3) hx hb hts in_wsX10_read_X2 tyX2 tyX2_ok nmX2 hown hK hP hD hS q_51 hq_51 rfl 2 (by decide +kernel) (hts (.fieldLink RX10 274 "ShipOffice$Fine" "isRead" "Z") iw_X10_read_1) (fun _ h9 => h9) rfl (by decide +kernel) rfl rfl (Nat.le_of_ble_eq_true rfl) dX10_read_47 (fun H locs hP1 hD1 hS => ?_)
          obtain ⟨S_64, eS_64⟩ : ∃ zq, zq = setI Z b_43 2 1 := ⟨_, rfl⟩
          have hP : va_P (dC, dI) vwCl (oW cq S_64) H := by rw [eS_64]; exact cP (oset tb_43.1 hq_51 hD rfl (he_2_2 tb_43.2) neI) hP1
          have hD : va_D A (oW cq S_64) := by rw [eS_64]; exact cD (oset tb_43.1 hq_51 hD rfl (he_2_2 tb_43.2) neI) hD1
          clear hP1 hD1
          have hIS_64 : oInv S_64 := by rw [eS_64]; exact oInv.I0 (k := 2) (lo := -2147483648) (hi := 2147483647) gI tb_43.2 (by decide +kernel) rfl rfl rfl (iv_all _)
          have XS_64 : oX [202] Z S_64 := by rw [eS_64]; exact oX.I (k := 2) (key := 202) tb_43.2 rfl (List.mem_singleton.mpr rfl)
          have X_65 : oX [202, 2107] Z S_64 := oX.st oX.rf XS_64 (by decide +kernel)
          have g_66 : (oI S_64 o 0).toInt = (oI Z o 0).toInt := by rw [eS_64, setI_oth (ty_ne to tb_43 (by decide +kernel))]
          refine lv_iconst (v := 1) hx hb dX10_read_50 (by decide +kernel) ?_
          exact W.iret (v := 1) hx hb hr (fun t ht hW => ⟨⟨1, S_64, rfl, ⟨hIS_64, X_65⟩, ⟨by rw [ht]; exact hP, va_K.moved hW.alike hK, hD⟩⟩, hS.F ht⟩) hS.2.2 dX10_read_51
        · have dc_63 := c_ne (a := x_61.toInt) (b := x_62.toInt) rfl rfl c_63
          refine lv_aload_n hx hb dX10_read_38 rfl (lv_at hl 1 rfl) ?_
          refine lv_bipush (v := (-3)) hx hb dX10_read_39 (by decide +kernel) ?_
          have hFc := o_free hD hS hA
          refine va_calli (va_runV (As := [.int (-3)]) (rest := []) ⟨hx, hb, hml, hown, hts⟩ (c_X10_refuse l dC dI H.size cq Z gI o to (-3) (by decide +kernel)) (cwV 1 hts gX10_read_X10_refuse rfl rfl rfl (by decide +kernel) ⟨(Nat.le_of_ble_eq_true rfl), (Nat.le_of_ble_eq_true rfl)⟩) (pr_V (r := (RX10, TX10, 16)) hP hK hD q_1 10 rfl hq_1) rfl rfl hl.1 rfl (lv_room (Nat.le_of_ble_eq_true rfl)) dX10_read_41 ⟨(Nat.le_of_ble_eq_true rfl), (Nat.le_of_ble_eq_true rfl)⟩) hS (fun q _ h => hFc q h) hFc (fun r_68 u t H locs ht hvm w_67 hB hz1 hk1 hS => ?_)
          obtain ⟨S_69, rfl⟩ : ∃ z, z = u := ⟨_, rfl⟩
          obtain ⟨hP1, hK1, hD1⟩ := hB
          rw [ht] at hP1
          have hP : va_P (dC, dI) vwCl (oW cq S_69) H := hP1
          have hD : va_D A (oW cq S_69) := hD1.weaken (fun _ _ _ h => hFc _ h)
          clear hP1 hK1 hD1 hk1 hz1 hvm ht hFc
          obtain ⟨hIS_69, XS_69, hb_70, hx_71⟩ := w_67
          have X_72 : oX [202, 2107] Z S_69 := oX.st oX.rf XS_69 (by decide +kernel)
          have rf_73 : r_68.toInt = -3 := by rw [hx_71]; decide
          exact W.iret (v := r_68) hx hb hr (fun t ht hW => ⟨⟨r_68, S_69, rfl, ⟨hIS_69, X_72⟩, ⟨by rw [ht]; exact hP, va_K.moved hW.alike hK, hD⟩⟩, hS.F ht⟩) hS.2.2 dX10_read_44
set_option maxHeartbeats 4000000 in
set_option maxRecDepth 100000 in
theorem c_X10_stands (l : Launch) (dC : Nat → ClassId) (dI : Nat → Nat → Nat) (sz : Nat) (cq : Nat → ClassId) (Z : oS) (gI : oInv Z) (o : Nat) (to : oty Z o 10) (x1 : Int32) (x2 : Int32) (x3 : Int32) : Met l yX10_stands wsX10_stands ({ frames := 5, cells := 0, slots := 0, locals := 130 }) (va_Pc [.ref o, .int x1, .int x2, .int x3] (pcW (dC, dI) (oT cq) (oW cq Z) sz)) (va_Qi (fun (r : Int32) (u : oS) => oInv u ∧ oX [2107, 2108, 5001] Z u) (fun u t => va_P (dC, dI) vwCl (oW cq u) t.heap ∧ va_K (dC, dI) vwCl (oT cq) t ∧ va_D (va_A (oW cq Z) sz) (oW cq u)) (va_A (oW cq Z) sz)) 0 0 (va_A (oW cq Z) sz) := by
  refine Met.ofW (cc := cX10_stands) (maxL := 6) (ret := (some .int)) (by decide +kernel) rfl ?_
  intro p e s m args below meth c s₁ B hml hv
  obtain ⟨rfl, hsz, hP, hK, hD0⟩ := hv
  have hx := B.exec
  have hb := B.bytes
  have hr := B.returns
  have hts := atoms_spec (ws := wsX10_stands) B.pre
  have hown : s.vm.findClass RX10 = some m.cls := findClass_of_methodNamed B.named
  have hlocks := B.notSynchronized
  subst hsz
  have hD := hD0.self (sz := s.heap.size)
  generalize hAe : va_A (oW cq Z) s.heap.size = A at hD ⊢
  have hA : ∀ q : Nat, s.heap.size ≤ q → A q := fun q h => by rw [← hAe]; exact Or.inr h
  have hS : va_S A s.heap s.heap [] := va_S.rf
  have hP : va_P (dC, dI) vwCl (oW cq Z) s.heap := hP
  have hl := lv_entry ([.ref o, .int x1, .int x2, .int x3]) (n := 6) (Nat.le_of_ble_eq_true rfl)
  rw [lg_entry_eq]
  generalize (lg_sl ([.ref o, .int x1, .int x2, .int x3]) ++ List.replicate (6 - (lg_sl ([.ref o, .int x1, .int x2, .int x3])).length) Slot.unset).toArray = ls at hl ⊢
  have hl : lv_has ls 6 [(0, .ref o), (1, .int x1), (2, .int x2), (3, .int x3)] := hl
  refine lv_aload_n hx hb dX10_stands_0 rfl (lv_at hl 0 rfl) ?_
  refine lv_iload_n hx hb dX10_stands_1 rfl (lv_at hl 1 rfl) ?_
  have hFc : ∀ q, va_A [] s.heap.size q → A q := pu_free hS hA
  obtain ⟨q_1, hq_1⟩ := og (cq := cq) to.1 (oE_10 to.2)
  refine va_callq (va_runV (As := [.int x1]) (rest := []) ⟨hx, hb, hml, hown, hts⟩ (c_X10_agreementAt l dC dI s.heap.size cq Z gI o to x1) (cwV 1 hts gX10_stands_X10_agreementAt rfl rfl rfl (by decide +kernel) ⟨(Nat.le_of_ble_eq_true rfl), (Nat.le_of_ble_eq_true rfl)⟩) (pr_V (r := (RX10, TX10, 16)) hP hK hD q_1 10 rfl hq_1) rfl rfl hl.1 rfl (lv_room (Nat.le_of_ble_eq_true rfl)) dX10_stands_2 ⟨(Nat.le_of_ble_eq_true rfl), (Nat.le_of_ble_eq_true rfl)⟩) hS (fun q _ h => hFc q h) hFc (fun r_3 u t H locs ht hvm w_2 hB hz1 hk1 hS => ?_)
  have hP := pu_keep hP hk1
  clear hk1 hz1 hvm hB ht hFc
  have hk_4 := w_2
  rcases r_3 with _ | b_5
  · refine W.eq (g2 := F0 m 5 ls [.null]) rfl ?_
    refine lv_astoreN (lv' := [(4, .null), (0, .ref o), (1, .int x1), (2, .int x2), (3, .int x3)]) hx hb dX10_stands_5 hl (by decide +kernel) rfl (fun ls hl => ?_)
    refine lv_aloadN hx hb dX10_stands_7 (lv_at hl 0 rfl) ?_
    refine lv_iload_n hx hb dX10_stands_9 rfl (lv_at hl 3 rfl) ?_
    have hFc : ∀ q, va_A [] H.size q → A q := pu_free hS hA
    refine va_callq (va_runS (As := [.null, .int x2]) (rest := []) ⟨hx, hb, hml, hown, hts⟩ (c_X10_fineAt l dC dI H.size cq Z gI none (fun b h => by cases h) x2) (va_cwS 2 hts gX10_stands_X10_fineAt rfl rfl rfl (by decide +kernel) ⟨(Nat.le_of_ble_eq_true rfl), (Nat.le_of_ble_eq_true rfl)⟩) (pr_S hP hK hD) rfl rfl hl.1 rfl (lv_room (Nat.le_of_ble_eq_true rfl)) dX10_stands_10 ⟨(Nat.le_of_ble_eq_true rfl), (Nat.le_of_ble_eq_true rfl)⟩) hS (fun q _ h => hFc q h) hFc (fun r_7 u t H locs ht hvm w_6 hB hz1 hk1 hS => ?_)
    have hP := pu_keep hP hk1
    clear hk1 hz1 hvm hB ht hFc
    have hk_8 := w_6
    rcases r_7 with _ | b_9
    · refine W.eq (g2 := F0 m 13 ls [.null]) rfl ?_
      refine lv_astoreN (lv' := [(5, .null), (4, .null), (0, .ref o), (1, .int x1), (2, .int x2), (3, .int x3)]) hx hb dX10_stands_13 hl (by decide +kernel) rfl (fun ls hl => ?_)
      refine lv_aloadN hx hb dX10_stands_15 (lv_at hl 1 rfl) ?_
      refine lv_ifnullN (tgt := 25) hx hb dX10_stands_17 (by decide +kernel) ?_
      refine lv_aload_n hx hb dX10_stands_25 rfl (lv_at hl 2 rfl) ?_
      refine lv_iconst (v := (-1)) hx hb dX10_stands_26 (by decide +kernel) ?_
      have hFc := o_free hD hS hA
      refine va_calli (va_runV (As := [.int (-1)]) (rest := []) ⟨hx, hb, hml, hown, hts⟩ (c_X10_refuse l dC dI H.size cq Z gI o to (-1) (by decide +kernel)) (cwV 1 hts gX10_stands_X10_refuse rfl rfl rfl (by decide +kernel) ⟨(Nat.le_of_ble_eq_true rfl), (Nat.le_of_ble_eq_true rfl)⟩) (pr_V (r := (RX10, TX10, 16)) hP hK hD q_1 10 rfl hq_1) rfl rfl hl.1 rfl (lv_room (Nat.le_of_ble_eq_true rfl)) dX10_stands_27 ⟨(Nat.le_of_ble_eq_true rfl), (Nat.le_of_ble_eq_true rfl)⟩) hS (fun q _ h => hFc q h) hFc (fun r_11 u t H locs ht hvm w_10 hB hz1 hk1 hS => ?_)
      obtain ⟨S_12, rfl⟩ : ∃ z, z = u := ⟨_, rfl⟩
      obtain ⟨hP1, hK1, hD1⟩ := hB
      rw [ht] at hP1
      have hP : va_P (dC, dI) vwCl (oW cq S_12) H := hP1
      have hD : va_D A (oW cq S_12) := hD1.weaken (fun _ _ _ h => hFc _ h)
      clear hP1 hK1 hD1 hk1 hz1 hvm ht hFc
      obtain ⟨hIS_12, XS_12, hb_13, hx_14⟩ := w_10
      have X_15 : oX [2107, 2108, 5001] Z S_12 := oX.st oX.rf XS_12 (by decide +kernel)
      have rf_16 : r_11.toInt = -1 := by rw [hx_14]; decide
      exact W.iret (v := r_11) hx hb hr (fun t ht hW => ⟨⟨r_11, S_12, rfl, ⟨hIS_12, X_15⟩, ⟨by rw [ht]; exact hP, va_K.moved hW.alike hK, hD⟩⟩, hS.F ht⟩) hS.2.2 dX10_stands_30
    · refine W.eq (g2 := F0 m 13 ls [.ref b_9]) rfl ?_
      have tb_9 : oty Z b_9 2 := hk_8 b_9 rfl
      refine lv_astore (lv' := [(5, .ref b_9), (4, .null), (0, .ref o), (1, .int x1), (2, .int x2), (3, .int x3)]) hx hb dX10_stands_13 hl (by decide +kernel) rfl (fun ls hl => ?_)
      refine lv_aloadN hx hb dX10_stands_15 (lv_at hl 1 rfl) ?_
      refine lv_ifnullN (tgt := 25) hx hb dX10_stands_17 (by decide +kernel) ?_
      refine lv_aload_n hx hb dX10_stands_25 rfl (lv_at hl 2 rfl) ?_
      refine lv_iconst (v := (-1)) hx hb dX10_stands_26 (by decide +kernel) ?_
      have hFc := o_free hD hS hA
      refine va_calli (va_runV (As := [.int (-1)]) (rest := []) ⟨hx, hb, hml, hown, hts⟩ (c_X10_refuse l dC dI H.size cq Z gI o to (-1) (by decide +kernel)) (cwV 1 hts gX10_stands_X10_refuse rfl rfl rfl (by decide +kernel) ⟨(Nat.le_of_ble_eq_true rfl), (Nat.le_of_ble_eq_true rfl)⟩) (pr_V (r := (RX10, TX10, 16)) hP hK hD q_1 10 rfl hq_1) rfl rfl hl.1 rfl (lv_room (Nat.le_of_ble_eq_true rfl)) dX10_stands_27 ⟨(Nat.le_of_ble_eq_true rfl), (Nat.le_of_ble_eq_true rfl)⟩) hS (fun q _ h => hFc q h) hFc (fun r_18 u t H locs ht hvm w_17 hB hz1 hk1 hS => ?_)
      obtain ⟨S_19, rfl⟩ : ∃ z, z = u := ⟨_, rfl⟩
      obtain ⟨hP1, hK1, hD1⟩ := hB
      rw [ht] at hP1
      have hP : va_P (dC, dI) vwCl (oW cq S_19) H := hP1
      have hD : va_D A (oW cq S_19) := hD1.weaken (fun _ _ _ h => hFc _ h)
      clear hP1 hK1 hD1 hk1 hz1 hvm ht hFc
      obtain ⟨hIS_19, XS_19, hb_20, hx_21⟩ := w_17
      have X_22 : oX [2107, 2108, 5001] Z S_19 := oX.st oX.rf XS_19 (by decide +kernel)
      have rf_23 : r_18.toInt = -1 := by rw [hx_21]; decide
      exact W.iret (v := r_18) hx hb hr (fun t ht hW => ⟨⟨r_18, S_19, rfl, ⟨hIS_19, X_22⟩, ⟨by rw [ht]; exact hP, va_K.moved hW.alike hK, hD⟩⟩, hS.F ht⟩) hS.2.2 dX10_stands_30
  · refine W.eq (g2 := F0 m 5 ls [.ref b_5]) rfl ?_
    have tb_5 : oty Z b_5 1 := hk_4 b_5 rfl
    refine lv_astore (lv' := [(4, .ref b_5), (0, .ref o), (1, .int x1), (2, .int x2), (3, .int x3)]) hx hb dX10_stands_5 hl (by decide +kernel) rfl (fun ls hl => ?_)
    refine lv_aload hx hb dX10_stands_7 (lv_at hl 0 rfl) ?_
    refine lv_iload_n hx hb dX10_stands_9 rfl (lv_at hl 3 rfl) ?_
    have hFc : ∀ q, va_A [] H.size q → A q := pu_free hS hA
    refine va_callq (va_runS (As := [.ref b_5, .int x2]) (rest := []) ⟨hx, hb, hml, hown, hts⟩ (c_X10_fineAt l dC dI H.size cq Z gI (some b_5) (fun b h => by cases h; exact tb_5) x2) (va_cwS 2 hts gX10_stands_X10_fineAt rfl rfl rfl (by decide +kernel) ⟨(Nat.le_of_ble_eq_true rfl), (Nat.le_of_ble_eq_true rfl)⟩) (pr_S hP hK hD) rfl rfl hl.1 rfl (lv_room (Nat.le_of_ble_eq_true rfl)) dX10_stands_10 ⟨(Nat.le_of_ble_eq_true rfl), (Nat.le_of_ble_eq_true rfl)⟩) hS (fun q _ h => hFc q h) hFc (fun r_25 u t H locs ht hvm w_24 hB hz1 hk1 hS => ?_)
    have hP := pu_keep hP hk1
    clear hk1 hz1 hvm hB ht hFc
    have hk_26 := w_24
    rcases r_25 with _ | b_27
    · refine W.eq (g2 := F0 m 13 ls [.null]) rfl ?_
      refine lv_astoreN (lv' := [(5, .null), (4, .ref b_5), (0, .ref o), (1, .int x1), (2, .int x2), (3, .int x3)]) hx hb dX10_stands_13 hl (by decide +kernel) rfl (fun ls hl => ?_)
      refine lv_aload hx hb dX10_stands_15 (lv_at hl 1 rfl) ?_
      refine lv_ifnull hx hb dX10_stands_17 ?_
      refine lv_aloadN hx hb dX10_stands_20 (lv_at hl 0 rfl) ?_
      refine lv_ifnonnullN hx hb dX10_stands_22 ?_
      refine lv_aload_n hx hb dX10_stands_25 rfl (lv_at hl 2 rfl) ?_
      refine lv_iconst (v := (-1)) hx hb dX10_stands_26 (by decide +kernel) ?_
      have hFc := o_free hD hS hA
      refine va_calli (va_runV (As := [.int (-1)]) (rest := []) ⟨hx, hb, hml, hown, hts⟩ (c_X10_refuse l dC dI H.size cq Z gI o to (-1) (by decide +kernel)) (cwV 1 hts gX10_stands_X10_refuse rfl rfl rfl (by decide +kernel) ⟨(Nat.le_of_ble_eq_true rfl), (Nat.le_of_ble_eq_true rfl)⟩) (pr_V (r := (RX10, TX10, 16)) hP hK hD q_1 10 rfl hq_1) rfl rfl hl.1 rfl (lv_room (Nat.le_of_ble_eq_true rfl)) dX10_stands_27 ⟨(Nat.le_of_ble_eq_true rfl), (Nat.le_of_ble_eq_true rfl)⟩) hS (fun q _ h => hFc q h) hFc (fun r_29 u t H locs ht hvm w_28 hB hz1 hk1 hS => ?_)
      obtain ⟨S_30, rfl⟩ : ∃ z, z = u := ⟨_, rfl⟩
      obtain ⟨hP1, hK1, hD1⟩ := hB
      rw [ht] at hP1
      have hP : va_P (dC, dI) vwCl (oW cq S_30) H := hP1
      have hD : va_D A (oW cq S_30) := hD1.weaken (fun _ _ _ h => hFc _ h)
      clear hP1 hK1 hD1 hk1 hz1 hvm ht hFc
      obtain ⟨hIS_30, XS_30, hb_31, hx_32⟩ := w_28
      have X_33 : oX [2107, 2108, 5001] Z S_30 := oX.st oX.rf XS_30 (by decide +kernel)
      have rf_34 : r_29.toInt = -1 := by rw [hx_32]; decide
      exact W.iret (v := r_29) hx hb hr (fun t ht hW => ⟨⟨r_29, S_30, rfl, ⟨hIS_30, X_33⟩, ⟨by rw [ht]; exact hP, va_K.moved hW.alike hK, hD⟩⟩, hS.F ht⟩) hS.2.2 dX10_stands_30
    · refine W.eq (g2 := F0 m 13 ls [.ref b_27]) rfl ?_
      have tb_27 : oty Z b_27 2 := hk_26 b_27 rfl
      refine lv_astore (lv' := [(5, .ref b_27), (4, .ref b_5), (0, .ref o), (1, .int x1), (2, .int x2), (3, .int x3)]) hx hb dX10_stands_13 hl (by decide +kernel) rfl (fun ls hl => ?_)
      refine lv_aload hx hb dX10_stands_15 (lv_at hl 1 rfl) ?_
      refine lv_ifnull hx hb dX10_stands_17 ?_
      refine lv_aload hx hb dX10_stands_20 (lv_at hl 0 rfl) ?_
      refine lv_ifnonnull (tgt := 31) hx hb dX10_stands_22 (by decide +kernel) ?_
      refine lv_iload_n hx hb dX10_stands_31 rfl (lv_at hl 5 rfl) ?_
      refine lv_if_ge (tgt := 42) hx hb dX10_stands_32 (by decide +kernel) (fun c_35 => ?_) (fun c_35 => ?_)
      · have dc_35 := c_le (a := 0) (b := x3.toInt) (by decide +kernel) rfl c_35
        refine lv_iload_n hx hb dX10_stands_42 rfl (lv_at hl 5 rfl) ?_
        refine lv_aload_n hx hb dX10_stands_43 rfl (lv_at hl 2 rfl) ?_
        refine va_get (D := (dC, dI)) (ci := 10) (v := .int (oI Z o 0)) (C := RX10) (T := TX10) (N := 16) hx hb hts in_wsX10_stands_X10 hown hK hP q_1 hq_1 rfl 0 (by decide +kernel) (hts (.fieldLink RX10 73 "ShipOffice" "now" "I") iw_X10_stands_1) (fun _ h9 => h9) rfl dX10_stands_44 ?_
        refine lv_topi (fun x_36 ex_36 => ?_)
        have hx_36 : 0 ≤ x_36.toInt ∧ x_36.toInt ≤ 3000 := iv_of ex_36 (oInv.iv gI to.2 rfl rfl)
        have gx_36 : x_36.toInt = (oI Z o 0).toInt := iv_to ex_36
        clear ex_36
        refine lv_icmp_le (tgt := 57) hx hb dX10_stands_47 (by decide +kernel) (fun c_37 => ?_) (fun c_37 => ?_)
        · have dc_37 := c_le (a := x3.toInt) (b := x_36.toInt) rfl rfl c_37
          refine lv_aload_n hx hb dX10_stands_57 rfl (lv_at hl 2 rfl) ?_
          refine lv_aload hx hb dX10_stands_58 (lv_at hl 1 rfl) ?_
          refine lv_aload hx hb dX10_stands_60 (lv_at hl 0 rfl) ?_
          refine lv_iload_n hx hb dX10_stands_62 rfl (lv_at hl 5 rfl) ?_
          have hFc := o_free hD hS hA
          refine va_calli (va_runV (As := [.ref b_5, .ref b_27, .int x3]) (rest := []) ⟨hx, hb, hml, hown, hts⟩ (c_X10_standing l dC dI H.size cq Z gI o to b_5 tb_5 b_27 tb_27 x3) (cwV 3 hts gX10_stands_X10_standing rfl rfl rfl (by decide +kernel) ⟨(Nat.le_of_ble_eq_true rfl), (Nat.le_of_ble_eq_true rfl)⟩) (pr_V (r := (RX10, TX10, 16)) hP hK hD q_1 10 rfl hq_1) rfl rfl hl.1 rfl (lv_room (Nat.le_of_ble_eq_true rfl)) dX10_stands_63 ⟨(Nat.le_of_ble_eq_true rfl), (Nat.le_of_ble_eq_true rfl)⟩) hS (fun q _ h => hFc q h) hFc (fun r_39 u t H locs ht hvm w_38 hB hz1 hk1 hS => ?_)
          obtain ⟨S_40, rfl⟩ : ∃ z, z = u := ⟨_, rfl⟩
          obtain ⟨hP1, hK1, hD1⟩ := hB
          rw [ht] at hP1
          have hP : va_P (dC, dI) vwCl (oW cq S_40) H := hP1
          have hD : va_D A (oW cq S_40) := hD1.weaken (fun _ _ _ h => hFc _ h)
          clear hP1 hK1 hD1 hk1 hz1 hvm ht hFc
          obtain ⟨hIS_40, XS_40⟩ := w_38
          have X_41 : oX [2107, 2108, 5001] Z S_40 := oX.st oX.rf XS_40 (by decide +kernel)
          exact W.iret (v := r_39) hx hb hr (fun t ht hW => ⟨⟨r_39, S_40, rfl, ⟨hIS_40, X_41⟩, ⟨by rw [ht]; exact hP, va_K.moved hW.alike hK, hD⟩⟩, hS.F ht⟩) hS.2.2 dX10_stands_66
        · have dc_37 := c_nle (a := x3.toInt) (b := x_36.toInt) rfl rfl c_37
          refine lv_aload_n hx hb dX10_stands_50 rfl (lv_at hl 2 rfl) ?_
          refine lv_bipush (v := (-6)) hx hb dX10_stands_51 (by decide +kernel) ?_
          have hFc := o_free hD hS hA
          refine va_calli (va_runV (As := [.int (-6)]) (rest := []) ⟨hx, hb, hml, hown, hts⟩ (c_X10_refuse l dC dI H.size cq Z gI o to (-6) (by decide +kernel)) (cwV 1 hts gX10_stands_X10_refuse rfl rfl rfl (by decide +kernel) ⟨(Nat.le_of_ble_eq_true rfl), (Nat.le_of_ble_eq_true rfl)⟩) (pr_V (r := (RX10, TX10, 16)) hP hK hD q_1 10 rfl hq_1) rfl rfl hl.1 rfl (lv_room (Nat.le_of_ble_eq_true rfl)) dX10_stands_53 ⟨(Nat.le_of_ble_eq_true rfl), (Nat.le_of_ble_eq_true rfl)⟩) hS (fun q _ h => hFc q h) hFc (fun r_43 u t H locs ht hvm w_42 hB hz1 hk1 hS => ?_)
          obtain ⟨S_44, rfl⟩ : ∃ z, z = u := ⟨_, rfl⟩
          obtain ⟨hP1, hK1, hD1⟩ := hB
          rw [ht] at hP1
          have hP : va_P (dC, dI) vwCl (oW cq S_44) H := hP1
          have hD : va_D A (oW cq S_44) := hD1.weaken (fun _ _ _ h => hFc _ h)
          clear hP1 hK1 hD1 hk1 hz1 hvm ht hFc
          obtain ⟨hIS_44, XS_44, hb_45, hx_46⟩ := w_42
          have X_47 : oX [2107, 2108, 5001] Z S_44 := oX.st oX.rf XS_44 (by decide +kernel)
          have rf_48 : r_43.toInt = -6 := by rw [hx_46]; decide
          exact W.iret (v := r_43) hx hb hr (fun t ht hW => ⟨⟨r_43, S_44, rfl, ⟨hIS_44, X_47⟩, ⟨by rw [ht]; exact hP, va_K.moved hW.alike hK, hD⟩⟩, hS.F ht⟩) hS.2.2 dX10_stands_56
      · have dc_35 := c_nle (a := 0) (b := x3.toInt) (by decide +kernel) rfl c_35
        refine lv_aload_n hx hb dX10_stands_35 rfl (lv_at hl 2 rfl) ?_
        refine lv_bipush (v := (-4)) hx hb dX10_stands_36 (by decide +kernel) ?_
        have hFc := o_free hD hS hA
        refine va_calli (va_runV (As := [.int (-4)]) (rest := []) ⟨hx, hb, hml, hown, hts⟩ (c_X10_refuse l dC dI H.size cq Z gI o to (-4) (by decide +kernel)) (cwV 1 hts gX10_stands_X10_refuse rfl rfl rfl (by decide +kernel) ⟨(Nat.le_of_ble_eq_true rfl), (Nat.le_of_ble_eq_true rfl)⟩) (pr_V (r := (RX10, TX10, 16)) hP hK hD q_1 10 rfl hq_1) rfl rfl hl.1 rfl (lv_room (Nat.le_of_ble_eq_true rfl)) dX10_stands_38 ⟨(Nat.le_of_ble_eq_true rfl), (Nat.le_of_ble_eq_true rfl)⟩) hS (fun q _ h => hFc q h) hFc (fun r_50 u t H locs ht hvm w_49 hB hz1 hk1 hS => ?_)
        obtain ⟨S_51, rfl⟩ : ∃ z, z = u := ⟨_, rfl⟩
        obtain ⟨hP1, hK1, hD1⟩ := hB
        rw [ht] at hP1
        have hP : va_P (dC, dI) vwCl (oW cq S_51) H := hP1
        have hD : va_D A (oW cq S_51) := hD1.weaken (fun _ _ _ h => hFc _ h)
        clear hP1 hK1 hD1 hk1 hz1 hvm ht hFc
        obtain ⟨hIS_51, XS_51, hb_52, hx_53⟩ := w_49
        have X_54 : oX [2107, 2108, 5001] Z S_51 := oX.st oX.rf XS_51 (by decide +kernel)
        have rf_55 : r_50.toInt = -4 := by rw [hx_53]; decide
        exact W.iret (v := r_50) hx hb hr (fun t ht hW => ⟨⟨r_50, S_51, rfl, ⟨hIS_51, X_54⟩, ⟨by rw [ht]; exact hP, va_K.moved hW.alike hK, hD⟩⟩, hS.F ht⟩) hS.2.2 dX10_stands_41
set_option maxHeartbeats 4000000 in
set_option maxRecDepth 100000 in
theorem c_X10_rations (l : Launch) (dC : Nat → ClassId) (dI : Nat → Nat → Nat) (sz : Nat) (cq : Nat → ClassId) (Z : oS) (gI : oInv Z) (o : Nat) (to : oty Z o 10) (x1 : Int32) (x2 : Int32) (x3 : Int32) : Met l yX10_rations wsX10_rations ({ frames := 1, cells := 0, slots := 0, locals := 23 }) (va_Pc [.ref o, .int x1, .int x2, .int x3] (pcW (dC, dI) (oT cq) (oW cq Z) sz)) (va_Qi (fun (r : Int32) (u : oS) => oInv u ∧ oX [116, 117, 2064, 2107, 2120] Z u) (fun u t => va_P (dC, dI) vwCl (oW cq u) t.heap ∧ va_K (dC, dI) vwCl (oT cq) t ∧ va_D (va_A (oW cq Z) sz) (oW cq u)) (va_A (oW cq Z) sz)) 0 0 (va_A (oW cq Z) sz) := by
  refine Met.ofW (cc := cX10_rations) (maxL := 5) (ret := (some .int)) (by decide +kernel) rfl ?_
  intro p e s m args below meth c s₁ B hml hv
  obtain ⟨rfl, hsz, hP, hK, hD0⟩ := hv
  have hx := B.exec
  have hb := B.bytes
  have hr := B.returns
  have hts := atoms_spec (ws := wsX10_rations) B.pre
  have hown : s.vm.findClass RX10 = some m.cls := findClass_of_methodNamed B.named
  have hlocks := B.notSynchronized
  subst hsz
  have hD := hD0.self (sz := s.heap.size)
  generalize hAe : va_A (oW cq Z) s.heap.size = A at hD ⊢
  have hA : ∀ q : Nat, s.heap.size ≤ q → A q := fun q h => by rw [← hAe]; exact Or.inr h
  have hS : va_S A s.heap s.heap [] := va_S.rf
  have hP : va_P (dC, dI) vwCl (oW cq Z) s.heap := hP
  have hl := lv_entry ([.ref o, .int x1, .int x2, .int x3]) (n := 5) (Nat.le_of_ble_eq_true rfl)
  rw [lg_entry_eq]
  generalize (lg_sl ([.ref o, .int x1, .int x2, .int x3]) ++ List.replicate (5 - (lg_sl ([.ref o, .int x1, .int x2, .int x3])).length) Slot.unset).toArray = ls at hl ⊢
  have hl : lv_has ls 5 [(0, .ref o), (1, .int x1), (2, .int x2), (3, .int x3)] := hl
  refine lv_aload_n hx hb dX10_rations_0 rfl (lv_at hl 0 rfl) ?_
  refine lv_iload_n hx hb dX10_rations_1 rfl (lv_at hl 1 rfl) ?_
  have hFc : ∀ q, va_A [] s.heap.size q → A q := pu_free hS hA
  obtain ⟨q_1, hq_1⟩ := og (cq := cq) to.1 (oE_10 to.2)
  refine va_callq (va_runV (As := [.int x1]) (rest := []) ⟨hx, hb, hml, hown, hts⟩ (c_X10_agreementAt l dC dI s.heap.size cq Z gI o to x1) (cwV 1 hts gX10_rations_X10_agreementAt rfl rfl rfl (by decide +kernel) ⟨(Nat.le_of_ble_eq_true rfl), (Nat.le_of_ble_eq_true rfl)⟩) (pr_V (r := (RX10, TX10, 16)) hP hK hD q_1 10 rfl hq_1) rfl rfl hl.1 rfl (lv_room (Nat.le_of_ble_eq_true rfl)) dX10_rations_2 ⟨(Nat.le_of_ble_eq_true rfl), (Nat.le_of_ble_eq_true rfl)⟩) hS (fun q _ h => hFc q h) hFc (fun r_3 u t H locs ht hvm w_2 hB hz1 hk1 hS => ?_)
  have hP := pu_keep hP hk1
  clear hk1 hz1 hvm hB ht hFc
  have hk_4 := w_2
  rcases r_3 with _ | b_5
  · refine W.eq (g2 := F0 m 5 ls [.null]) rfl ?_
    refine lv_astoreN (lv' := [(4, .null), (0, .ref o), (1, .int x1), (2, .int x2), (3, .int x3)]) hx hb dX10_rations_5 hl (by decide +kernel) rfl (fun ls hl => ?_)
    refine lv_aloadN hx hb dX10_rations_7 (lv_at hl 0 rfl) ?_
    refine lv_ifnonnullN hx hb dX10_rations_9 ?_
    refine lv_aload_n hx hb dX10_rations_12 rfl (lv_at hl 1 rfl) ?_
    refine lv_iconst (v := (-1)) hx hb dX10_rations_13 (by decide +kernel) ?_
    have hFc := o_free hD hS hA
    refine va_calli (va_runV (As := [.int (-1)]) (rest := []) ⟨hx, hb, hml, hown, hts⟩ (c_X10_refuse l dC dI H.size cq Z gI o to (-1) (by decide +kernel)) (cwV 1 hts gX10_rations_X10_refuse rfl rfl rfl (by decide +kernel) ⟨(Nat.le_of_ble_eq_true rfl), (Nat.le_of_ble_eq_true rfl)⟩) (pr_V (r := (RX10, TX10, 16)) hP hK hD q_1 10 rfl hq_1) rfl rfl hl.1 rfl (lv_room (Nat.le_of_ble_eq_true rfl)) dX10_rations_14 ⟨(Nat.le_of_ble_eq_true rfl), (Nat.le_of_ble_eq_true rfl)⟩) hS (fun q _ h => hFc q h) hFc (fun r_7 u t H locs ht hvm w_6 hB hz1 hk1 hS => ?_)
    obtain ⟨S_8, rfl⟩ : ∃ z, z = u := ⟨_, rfl⟩
    obtain ⟨hP1, hK1, hD1⟩ := hB
    rw [ht] at hP1
    have hP : va_P (dC, dI) vwCl (oW cq S_8) H := hP1
    have hD : va_D A (oW cq S_8) := hD1.weaken (fun _ _ _ h => hFc _ h)
    clear hP1 hK1 hD1 hk1 hz1 hvm ht hFc
    obtain ⟨hIS_8, XS_8, hb_9, hx_10⟩ := w_6
    have X_11 : oX [116, 117, 2064, 2107, 2120] Z S_8 := oX.st oX.rf XS_8 (by decide +kernel)
    have rf_12 : r_7.toInt = -1 := by rw [hx_10]; decide
    exact W.iret (v := r_7) hx hb hr (fun t ht hW => ⟨⟨r_7, S_8, rfl, ⟨hIS_8, X_11⟩, ⟨by rw [ht]; exact hP, va_K.moved hW.alike hK, hD⟩⟩, hS.F ht⟩) hS.2.2 dX10_rations_17
  · refine W.eq (g2 := F0 m 5 ls [.ref b_5]) rfl ?_
    have tb_5 : oty Z b_5 1 := hk_4 b_5 rfl
    refine lv_astore (lv' := [(4, .ref b_5), (0, .ref o), (1, .int x1), (2, .int x2), (3, .int x3)]) hx hb dX10_rations_5 hl (by decide +kernel) rfl (fun ls hl => ?_)
    refine lv_aload hx hb dX10_rations_7 (lv_at hl 0 rfl) ?_
    refine lv_ifnonnull (tgt := 18) hx hb dX10_rations_9 (by decide +kernel) ?_
    refine lv_iload_n hx hb dX10_rations_18 rfl (lv_at hl 3 rfl) ?_
    refine lv_iconst (v := 1) hx hb dX10_rations_19 (by decide +kernel) ?_
    refine lv_icmp_lt (tgt := 28) hx hb dX10_rations_20 (by decide +kernel) (fun c_13 => ?_) (fun c_13 => ?_)
    · have dc_13 := c_lt (a := x2.toInt) (b := 1) rfl (by decide +kernel) c_13
      refine lv_aload_n hx hb dX10_rations_28 rfl (lv_at hl 1 rfl) ?_
      refine lv_bipush (v := (-4)) hx hb dX10_rations_29 (by decide +kernel) ?_
      have hFc := o_free hD hS hA
      refine va_calli (va_runV (As := [.int (-4)]) (rest := []) ⟨hx, hb, hml, hown, hts⟩ (c_X10_refuse l dC dI H.size cq Z gI o to (-4) (by decide +kernel)) (cwV 1 hts gX10_rations_X10_refuse rfl rfl rfl (by decide +kernel) ⟨(Nat.le_of_ble_eq_true rfl), (Nat.le_of_ble_eq_true rfl)⟩) (pr_V (r := (RX10, TX10, 16)) hP hK hD q_1 10 rfl hq_1) rfl rfl hl.1 rfl (lv_room (Nat.le_of_ble_eq_true rfl)) dX10_rations_31 ⟨(Nat.le_of_ble_eq_true rfl), (Nat.le_of_ble_eq_true rfl)⟩) hS (fun q _ h => hFc q h) hFc (fun r_15 u t H locs ht hvm w_14 hB hz1 hk1 hS => ?_)
      obtain ⟨S_16, rfl⟩ : ∃ z, z = u := ⟨_, rfl⟩
      obtain ⟨hP1, hK1, hD1⟩ := hB
      rw [ht] at hP1
      have hP : va_P (dC, dI) vwCl (oW cq S_16) H := hP1
      have hD : va_D A (oW cq S_16) := hD1.weaken (fun _ _ _ h => hFc _ h)
      clear hP1 hK1 hD1 hk1 hz1 hvm ht hFc
      obtain ⟨hIS_16, XS_16, hb_17, hx_18⟩ := w_14
      have X_19 : oX [116, 117, 2064, 2107, 2120] Z S_16 := oX.st oX.rf XS_16 (by decide +kernel)
      have rf_20 : r_15.toInt = -4 := by rw [hx_18]; decide
      exact W.iret (v := r_15) hx hb hr (fun t ht hW => ⟨⟨r_15, S_16, rfl, ⟨hIS_16, X_19⟩, ⟨by rw [ht]; exact hP, va_K.moved hW.alike hK, hD⟩⟩, hS.F ht⟩) hS.2.2 dX10_rations_34
    · have dc_13 := c_nlt (a := x2.toInt) (b := 1) rfl (by decide +kernel) c_13
      refine lv_iload_n hx hb dX10_rations_23 rfl (lv_at hl 4 rfl) ?_
      refine lv_iconst (v := 1) hx hb dX10_rations_24 (by decide +kernel) ?_
      refine lv_icmp_ge (tgt := 35) hx hb dX10_rations_25 (by decide +kernel) (fun c_21 => ?_) (fun c_21 => ?_)
      · have dc_21 := c_le (a := 1) (b := x3.toInt) (by decide +kernel) rfl c_21
        refine lv_iload_n hx hb dX10_rations_35 rfl (lv_at hl 3 rfl) ?_
        refine lv_sipush (v := 999) hx hb dX10_rations_36 (by decide +kernel) ?_
        refine lv_aload hx hb dX10_rations_39 (lv_at hl 0 rfl) ?_
        obtain ⟨q_22, hq_22⟩ := og (cq := cq) tb_5.1 (oE_1 tb_5.2)
        refine va_get (D := (dC, dI)) (ci := 1) (v := .int (oI Z b_5 17)) (C := RX1) (T := TX1) (N := 18) hx hb hts in_wsX10_rations_X1 hown hK hP q_22 hq_22 rfl 17 (by decide +kernel) (hts (.fieldLink RX10 284 "ShipOffice$Agreement" "shortDays" "I") iw_X10_rations_1) (fun _ h9 => h9) rfl dX10_rations_41 ?_
        refine lv_topi (fun x_23 ex_23 => ?_)
        clear ex_23
        refine lv_isub hx hb dX10_rations_44 ?_
        refine lv_topi (fun x_24 ex_24 => ?_)
        clear ex_24
        refine lv_icmp_gt (tgt := 64) hx hb dX10_rations_45 (by decide +kernel) (fun c_25 => ?_) (fun c_25 => ?_)
        · have dc_25 := c_lt (a := x_24.toInt) (b := x2.toInt) rfl rfl c_25
          refine lv_aload_n hx hb dX10_rations_64 rfl (lv_at hl 1 rfl) ?_
          refine lv_bipush (v := (-6)) hx hb dX10_rations_65 (by decide +kernel) ?_
          have hFc := o_free hD hS hA
          refine va_calli (va_runV (As := [.int (-6)]) (rest := []) ⟨hx, hb, hml, hown, hts⟩ (c_X10_refuse l dC dI H.size cq Z gI o to (-6) (by decide +kernel)) (cwV 1 hts gX10_rations_X10_refuse rfl rfl rfl (by decide +kernel) ⟨(Nat.le_of_ble_eq_true rfl), (Nat.le_of_ble_eq_true rfl)⟩) (pr_V (r := (RX10, TX10, 16)) hP hK hD q_1 10 rfl hq_1) rfl rfl hl.1 rfl (lv_room (Nat.le_of_ble_eq_true rfl)) dX10_rations_67 ⟨(Nat.le_of_ble_eq_true rfl), (Nat.le_of_ble_eq_true rfl)⟩) hS (fun q _ h => hFc q h) hFc (fun r_27 u t H locs ht hvm w_26 hB hz1 hk1 hS => ?_)
          obtain ⟨S_28, rfl⟩ : ∃ z, z = u := ⟨_, rfl⟩
          obtain ⟨hP1, hK1, hD1⟩ := hB
          rw [ht] at hP1
          have hP : va_P (dC, dI) vwCl (oW cq S_28) H := hP1
          have hD : va_D A (oW cq S_28) := hD1.weaken (fun _ _ _ h => hFc _ h)
          clear hP1 hK1 hD1 hk1 hz1 hvm ht hFc
          obtain ⟨hIS_28, XS_28, hb_29, hx_30⟩ := w_26
          have X_31 : oX [116, 117, 2064, 2107, 2120] Z S_28 := oX.st oX.rf XS_28 (by decide +kernel)
          have rf_32 : r_27.toInt = -6 := by rw [hx_30]; decide
          exact W.iret (v := r_27) hx hb hr (fun t ht hW => ⟨⟨r_27, S_28, rfl, ⟨hIS_28, X_31⟩, ⟨by rw [ht]; exact hP, va_K.moved hW.alike hK, hD⟩⟩, hS.F ht⟩) hS.2.2 dX10_rations_70
        · have dc_25 := c_nlt (a := x_24.toInt) (b := x2.toInt) rfl rfl c_25
          refine lv_iload_n hx hb dX10_rations_48 rfl (lv_at hl 4 rfl) ?_
          refine lv_bipush (v := 99) hx hb dX10_rations_49 (by decide +kernel) ?_
          refine lv_icmp_gt (tgt := 64) hx hb dX10_rations_51 (by decide +kernel) (fun c_33 => ?_) (fun c_33 => ?_)
          · have dc_33 := c_lt (a := 99) (b := x3.toInt) (by decide +kernel) rfl c_33
            refine lv_aload_n hx hb dX10_rations_64 rfl (lv_at hl 1 rfl) ?_
            refine lv_bipush (v := (-6)) hx hb dX10_rations_65 (by decide +kernel) ?_
            have hFc := o_free hD hS hA
            refine va_calli (va_runV (As := [.int (-6)]) (rest := []) ⟨hx, hb, hml, hown, hts⟩ (c_X10_refuse l dC dI H.size cq Z gI o to (-6) (by decide +kernel)) (cwV 1 hts gX10_rations_X10_refuse rfl rfl rfl (by decide +kernel) ⟨(Nat.le_of_ble_eq_true rfl), (Nat.le_of_ble_eq_true rfl)⟩) (pr_V (r := (RX10, TX10, 16)) hP hK hD q_1 10 rfl hq_1) rfl rfl hl.1 rfl (lv_room (Nat.le_of_ble_eq_true rfl)) dX10_rations_67 ⟨(Nat.le_of_ble_eq_true rfl), (Nat.le_of_ble_eq_true rfl)⟩) hS (fun q _ h => hFc q h) hFc (fun r_35 u t H locs ht hvm w_34 hB hz1 hk1 hS => ?_)
            obtain ⟨S_36, rfl⟩ : ∃ z, z = u := ⟨_, rfl⟩
            obtain ⟨hP1, hK1, hD1⟩ := hB
            rw [ht] at hP1
            have hP : va_P (dC, dI) vwCl (oW cq S_36) H := hP1
            have hD : va_D A (oW cq S_36) := hD1.weaken (fun _ _ _ h => hFc _ h)
            clear hP1 hK1 hD1 hk1 hz1 hvm ht hFc
            obtain ⟨hIS_36, XS_36, hb_37, hx_38⟩ := w_34
            have X_39 : oX [116, 117, 2064, 2107, 2120] Z S_36 := oX.st oX.rf XS_36 (by decide +kernel)
            have rf_40 : r_35.toInt = -6 := by rw [hx_38]; decide
            exact W.iret (v := r_35) hx hb hr (fun t ht hW => ⟨⟨r_35, S_36, rfl, ⟨hIS_36, X_39⟩, ⟨by rw [ht]; exact hP, va_K.moved hW.alike hK, hD⟩⟩, hS.F ht⟩) hS.2.2 dX10_rations_70
          · have dc_33 := c_nlt (a := 99) (b := x3.toInt) (by decide +kernel) rfl c_33
            refine lv_aload hx hb dX10_rations_54 (lv_at hl 0 rfl) ?_
            refine va_get (D := (dC, dI)) (ci := 1) (v := .int (oI Z b_5 16)) (C := RX1) (T := TX1) (N := 18) hx hb hts in_wsX10_rations_X1 hown hK hP q_22 hq_22 rfl 16 (by decide +kernel) (hts (.fieldLink RX10 287 "ShipOffice$Agreement" "shortCount" "I") iw_X10_rations_2) (fun _ h9 => h9) rfl dX10_rations_56 ?_
            refine lv_topi (fun x_41 ex_41 => ?_)
            have hx_41 : 0 ≤ x_41.toInt ∧ x_41.toInt ≤ 20 := iv_of ex_41 (oInv.iv gI tb_5.2 rfl rfl)
            have gx_41 : x_41.toInt = (oI Z b_5 16).toInt := iv_to ex_41
            clear ex_41
            refine lv_bipush (v := 20) hx hb dX10_rations_59 (by decide +kernel) ?_
            refine lv_icmp_lt (tgt := 71) hx hb dX10_rations_61 (by decide +kernel) (fun c_42 => ?_) (fun c_42 => ?_)
            · have dc_42 := c_lt (a := x_41.toInt) (b := 20) rfl (by decide +kernel) c_42
              refine lv_aload hx hb dX10_rations_71 (lv_at hl 0 rfl) ?_
              refine lv_iload_n hx hb dX10_rations_73 rfl (lv_at hl 3 rfl) ?_
              refine lv_iload_n hx hb dX10_rations_74 rfl (lv_at hl 4 rfl) ?_
              refine lv_aload_n hx hb dX10_rations_75 rfl (lv_at hl 1 rfl) ?_
              refine va_get (D := (dC, dI)) (ci := 10) (v := .int (oI Z o 0)) (C := RX10) (T := TX10) (N := 16) hx hb hts in_wsX10_rations_X10 hown hK hP q_1 hq_1 rfl 0 (by decide +kernel) (hts (.fieldLink RX10 73 "ShipOffice" "now" "I") iw_X10_rations_3) (fun _ h9 => h9) rfl dX10_rations_76 ?_
              refine lv_topi (fun x_43 ex_43 => ?_)
              have hx_43 : 0 ≤ x_43.toInt ∧ x_43.toInt ≤ 3000 := iv_of ex_43 (oInv.iv gI to.2 rfl rfl)
              have gx_43 : x_43.toInt = (oI Z o 0).toInt := iv_to ex_43
              clear ex_43
              have hFc := o_free hD hS hA
              refine va_callv (va_runV (As := [.int x2, .int x3, .int x_43]) (rest := []) ⟨hx, hb, hml, hown, hts⟩ (c_X1_addShort l dC dI H.size cq Z gI b_5 tb_5 x2 x3 x_43) (cwV 3 hts gX10_rations_X1_addShort rfl rfl rfl (by decide +kernel) ⟨(Nat.le_of_ble_eq_true rfl), (Nat.le_of_ble_eq_true rfl)⟩) (pr_V (r := (RX1, TX1, 18)) hP hK hD q_22 1 rfl hq_22) rfl rfl hl.1 rfl (lv_room (Nat.le_of_ble_eq_true rfl)) dX10_rations_79 ⟨(Nat.le_of_ble_eq_true rfl), (Nat.le_of_ble_eq_true rfl)⟩) hS (fun q _ h => hFc q h) hFc (fun u t H locs ht hvm w_44 hB hz1 hk1 hS => ?_)
              obtain ⟨S_46, rfl⟩ : ∃ z, z = u := ⟨_, rfl⟩
              obtain ⟨hP1, hK1, hD1⟩ := hB
              rw [ht] at hP1
              have hP : va_P (dC, dI) vwCl (oW cq S_46) H := hP1
              have hD : va_D A (oW cq S_46) := hD1.weaken (fun _ _ _ h => hFc _ h)
              clear hP1 hK1 hD1 hk1 hz1 hvm ht hFc
              obtain ⟨hIS_46, XS_46⟩ := w_44
              have X_47 : oX [116, 117, 2064, 2107, 2120] Z S_46 := oX.st oX.rf XS_46 (by decide +kernel)
              refine lv_aload hx hb dX10_rations_82 (lv_at hl 0 rfl) ?_
              have t_48 : oty S_46 b_5 1 := (oX.ty XS_46 tb_5)
              obtain ⟨q_49, hq_49⟩ := og (cq := cq) t_48.1 (oE_1 t_48.2)
              refine va_get (D := (dC, dI)) (ci := 1) (v := .int (oI S_46 b_5 17)) (C := RX1) (T := TX1) (N := 18) hx hb hts in_wsX10_rations_X1 hown hK hP q_49 hq_49 rfl 17 (by decide +kernel) (hts (.fieldLink RX10 284 "ShipOffice$Agreement" "shortDays" "I") iw_X10_rations_1) (fun _ h9 => h9) rfl dX10_rations_84 ?_
              refine lv_topi (fun x_50 ex_50 => ?_)
              clear ex_50
              exact W.iret (v := x_50) hx hb hr (fun t ht hW => ⟨⟨x_50, S_46, rfl, ⟨hIS_46, X_47⟩, ⟨by rw [ht]; exact hP, va_K.moved hW.alike hK, hD⟩⟩, hS.F ht⟩) hS.2.2 dX10_rations_87
            · have dc_42 := c_nlt (a := x_41.toInt) (b := 20) rfl (by decide +kernel) c_42
              refine lv_aload_n hx hb dX10_rations_64 rfl (lv_at hl 1 rfl) ?_
              refine lv_bipush (v := (-6)) hx hb dX10_rations_65 (by decide +kernel) ?_
              have hFc := o_free hD hS hA
              refine va_calli (va_runV (As := [.int (-6)]) (rest := []) ⟨hx, hb, hml, hown, hts⟩ (c_X10_refuse l dC dI H.size cq Z gI o to (-6) (by decide +kernel)) (cwV 1 hts gX10_rations_X10_refuse rfl rfl rfl (by decide +kernel) ⟨(Nat.le_of_ble_eq_true rfl), (Nat.le_of_ble_eq_true rfl)⟩) (pr_V (r := (RX10, TX10, 16)) hP hK hD q_1 10 rfl hq_1) rfl rfl hl.1 rfl (lv_room (Nat.le_of_ble_eq_true rfl)) dX10_rations_67 ⟨(Nat.le_of_ble_eq_true rfl), (Nat.le_of_ble_eq_true rfl)⟩) hS (fun q _ h => hFc q h) hFc (fun r_52 u t H locs ht hvm w_51 hB hz1 hk1 hS => ?_)
              obtain ⟨S_53, rfl⟩ : ∃ z, z = u := ⟨_, rfl⟩
              obtain ⟨hP1, hK1, hD1⟩ := hB
              rw [ht] at hP1
              have hP : va_P (dC, dI) vwCl (oW cq S_53) H := hP1
              have hD : va_D A (oW cq S_53) := hD1.weaken (fun _ _ _ h => hFc _ h)
              clear hP1 hK1 hD1 hk1 hz1 hvm ht hFc
              obtain ⟨hIS_53, XS_53, hb_54, hx_55⟩ := w_51
              have X_56 : oX [116, 117, 2064, 2107, 2120] Z S_53 := oX.st oX.rf XS_53 (by decide +kernel)
              have rf_57 : r_52.toInt = -6 := by rw [hx_55]; decide
              exact W.iret (v := r_52) hx hb hr (fun t ht hW => ⟨⟨r_52, S_53, rfl, ⟨hIS_53, X_56⟩, ⟨by rw [ht]; exact hP, va_K.moved hW.alike hK, hD⟩⟩, hS.F ht⟩) hS.2.2 dX10_rations_70
      · have dc_21 := c_nle (a := 1) (b := x3.toInt) (by decide +kernel) rfl c_21
        refine lv_aload_n hx hb dX10_rations_28 rfl (lv_at hl 1 rfl) ?_
        refine lv_bipush (v := (-4)) hx hb dX10_rations_29 (by decide +kernel) ?_
        have hFc := o_free hD hS hA
        refine va_calli (va_runV (As := [.int (-4)]) (rest := []) ⟨hx, hb, hml, hown, hts⟩ (c_X10_refuse l dC dI H.size cq Z gI o to (-4) (by decide +kernel)) (cwV 1 hts gX10_rations_X10_refuse rfl rfl rfl (by decide +kernel) ⟨(Nat.le_of_ble_eq_true rfl), (Nat.le_of_ble_eq_true rfl)⟩) (pr_V (r := (RX10, TX10, 16)) hP hK hD q_1 10 rfl hq_1) rfl rfl hl.1 rfl (lv_room (Nat.le_of_ble_eq_true rfl)) dX10_rations_31 ⟨(Nat.le_of_ble_eq_true rfl), (Nat.le_of_ble_eq_true rfl)⟩) hS (fun q _ h => hFc q h) hFc (fun r_59 u t H locs ht hvm w_58 hB hz1 hk1 hS => ?_)
        obtain ⟨S_60, rfl⟩ : ∃ z, z = u := ⟨_, rfl⟩
        obtain ⟨hP1, hK1, hD1⟩ := hB
        rw [ht] at hP1
        have hP : va_P (dC, dI) vwCl (oW cq S_60) H := hP1
        have hD : va_D A (oW cq S_60) := hD1.weaken (fun _ _ _ h => hFc _ h)
        clear hP1 hK1 hD1 hk1 hz1 hvm ht hFc
        obtain ⟨hIS_60, XS_60, hb_61, hx_62⟩ := w_58
        have X_63 : oX [116, 117, 2064, 2107, 2120] Z S_60 := oX.st oX.rf XS_60 (by decide +kernel)
        have rf_64 : r_59.toInt = -4 := by rw [hx_62]; decide
        exact W.iret (v := r_59) hx hb hr (fun t ht hW => ⟨⟨r_59, S_60, rfl, ⟨hIS_60, X_63⟩, ⟨by rw [ht]; exact hP, va_K.moved hW.alike hK, hD⟩⟩, hS.F ht⟩) hS.2.2 dX10_rations_34
set_option maxHeartbeats 4000000 in
set_option maxRecDepth 100000 in
theorem c_X10_owed (l : Launch) (dC : Nat → ClassId) (dI : Nat → Nat → Nat) (sz : Nat) (cq : Nat → ClassId) (Z : oS) (gI : oInv Z) (o : Nat) (to : oty Z o 10) (x1 : Int32) (x2 : Int32) (x3 : Int32) : Met l yX10_owed wsX10_owed ({ frames := 6, cells := 0, slots := 0, locals := 158 }) (va_Pc [.ref o, .int x1, .int x2, .int x3] (pcW (dC, dI) (oT cq) (oW cq Z) sz)) (va_Qi (fun (r : Int32) (u : oS) => oInv u ∧ oX [2107, 2108, 5001] Z u) (fun u t => va_P (dC, dI) vwCl (oW cq u) t.heap ∧ va_K (dC, dI) vwCl (oT cq) t ∧ va_D (va_A (oW cq Z) sz) (oW cq u)) (va_A (oW cq Z) sz)) 0 0 (va_A (oW cq Z) sz) := by
  refine Met.ofW (cc := cX10_owed) (maxL := 6) (ret := (some .int)) (by decide +kernel) rfl ?_
  intro p e s m args below meth c s₁ B hml hv
  obtain ⟨rfl, hsz, hP, hK, hD0⟩ := hv
  have hx := B.exec
  have hb := B.bytes
  have hr := B.returns
  have hts := atoms_spec (ws := wsX10_owed) B.pre
  have hown : s.vm.findClass RX10 = some m.cls := findClass_of_methodNamed B.named
  have hlocks := B.notSynchronized
  subst hsz
  have hD := hD0.self (sz := s.heap.size)
  generalize hAe : va_A (oW cq Z) s.heap.size = A at hD ⊢
  have hA : ∀ q : Nat, s.heap.size ≤ q → A q := fun q h => by rw [← hAe]; exact Or.inr h
  have hS : va_S A s.heap s.heap [] := va_S.rf
  have hP : va_P (dC, dI) vwCl (oW cq Z) s.heap := hP
  have hl := lv_entry ([.ref o, .int x1, .int x2, .int x3]) (n := 6) (Nat.le_of_ble_eq_true rfl)
  rw [lg_entry_eq]
  generalize (lg_sl ([.ref o, .int x1, .int x2, .int x3]) ++ List.replicate (6 - (lg_sl ([.ref o, .int x1, .int x2, .int x3])).length) Slot.unset).toArray = ls at hl ⊢
  have hl : lv_has ls 6 [(0, .ref o), (1, .int x1), (2, .int x2), (3, .int x3)] := hl
  refine lv_aload_n hx hb dX10_owed_0 rfl (lv_at hl 0 rfl) ?_
  refine lv_iload_n hx hb dX10_owed_1 rfl (lv_at hl 1 rfl) ?_
  have hFc : ∀ q, va_A [] s.heap.size q → A q := pu_free hS hA
  obtain ⟨q_1, hq_1⟩ := og (cq := cq) to.1 (oE_10 to.2)
  refine va_callq (va_runV (As := [.int x1]) (rest := []) ⟨hx, hb, hml, hown, hts⟩ (c_X10_agreementAt l dC dI s.heap.size cq Z gI o to x1) (cwV 1 hts gX10_owed_X10_agreementAt rfl rfl rfl (by decide +kernel) ⟨(Nat.le_of_ble_eq_true rfl), (Nat.le_of_ble_eq_true rfl)⟩) (pr_V (r := (RX10, TX10, 16)) hP hK hD q_1 10 rfl hq_1) rfl rfl hl.1 rfl (lv_room (Nat.le_of_ble_eq_true rfl)) dX10_owed_2 ⟨(Nat.le_of_ble_eq_true rfl), (Nat.le_of_ble_eq_true rfl)⟩) hS (fun q _ h => hFc q h) hFc (fun r_3 u t H locs ht hvm w_2 hB hz1 hk1 hS => ?_)
  have hP := pu_keep hP hk1
  clear hk1 hz1 hvm hB ht hFc
  have hk_4 := w_2
  rcases r_3 with _ | b_5
  · refine W.eq (g2 := F0 m 5 ls [.null]) rfl ?_
    refine lv_astoreN (lv' := [(4, .null), (0, .ref o), (1, .int x1), (2, .int x2), (3, .int x3)]) hx hb dX10_owed_5 hl (by decide +kernel) rfl (fun ls hl => ?_)
    refine lv_aloadN hx hb dX10_owed_7 (lv_at hl 0 rfl) ?_
    refine lv_ifnonnullN hx hb dX10_owed_9 ?_
    refine lv_ldcw (v := 1000000000) hx hb hown (hts (.constant RX10 294 (1000000000)) (by decide +kernel)) dX10_owed_12 ?_
    refine lv_aload_n hx hb dX10_owed_15 rfl (lv_at hl 1 rfl) ?_
    refine lv_iconst (v := (-1)) hx hb dX10_owed_16 (by decide +kernel) ?_
    have hFc := o_free hD hS hA
    refine va_calli (va_runV (As := [.int (-1)]) (rest := [.int 1000000000]) ⟨hx, hb, hml, hown, hts⟩ (c_X10_refuse l dC dI H.size cq Z gI o to (-1) (by decide +kernel)) (cwV 1 hts gX10_owed_X10_refuse rfl rfl rfl (by decide +kernel) ⟨(Nat.le_of_ble_eq_true rfl), (Nat.le_of_ble_eq_true rfl)⟩) (pr_V (r := (RX10, TX10, 16)) hP hK hD q_1 10 rfl hq_1) rfl rfl hl.1 rfl (lv_room (Nat.le_of_ble_eq_true rfl)) dX10_owed_17 ⟨(Nat.le_of_ble_eq_true rfl), (Nat.le_of_ble_eq_true rfl)⟩) hS (fun q _ h => hFc q h) hFc (fun r_7 u t H locs ht hvm w_6 hB hz1 hk1 hS => ?_)
    obtain ⟨S_8, rfl⟩ : ∃ z, z = u := ⟨_, rfl⟩
    obtain ⟨hP1, hK1, hD1⟩ := hB
    rw [ht] at hP1
    have hP : va_P (dC, dI) vwCl (oW cq S_8) H := hP1
    have hD : va_D A (oW cq S_8) := hD1.weaken (fun _ _ _ h => hFc _ h)
    clear hP1 hK1 hD1 hk1 hz1 hvm ht hFc
    obtain ⟨hIS_8, XS_8, hb_9, hx_10⟩ := w_6
    have X_11 : oX [2107, 2108, 5001] Z S_8 := oX.st oX.rf XS_8 (by decide +kernel)
    have rf_12 : r_7.toInt = -1 := by rw [hx_10]; decide
    refine lv_isub hx hb dX10_owed_20 ?_
    refine lv_topi (fun x_13 ex_13 => ?_)
    have hx_13 : x_13.toInt = 1000000000 - r_7.toInt := (iv_to ex_13).trans (sb_i (by decide +kernel) rfl (by omega) (by omega))
    clear ex_13
    exact W.iret (v := x_13) hx hb hr (fun t ht hW => ⟨⟨x_13, S_8, rfl, ⟨hIS_8, X_11⟩, ⟨by rw [ht]; exact hP, va_K.moved hW.alike hK, hD⟩⟩, hS.F ht⟩) hS.2.2 dX10_owed_21
  · refine W.eq (g2 := F0 m 5 ls [.ref b_5]) rfl ?_
    have tb_5 : oty Z b_5 1 := hk_4 b_5 rfl
    refine lv_astore (lv' := [(4, .ref b_5), (0, .ref o), (1, .int x1), (2, .int x2), (3, .int x3)]) hx hb dX10_owed_5 hl (by decide +kernel) rfl (fun ls hl => ?_)
    refine lv_aload hx hb dX10_owed_7 (lv_at hl 0 rfl) ?_
    refine lv_ifnonnull (tgt := 22) hx hb dX10_owed_9 (by decide +kernel) ?_
    refine lv_aload_n hx hb dX10_owed_22 rfl (lv_at hl 1 rfl) ?_
    refine lv_iload_n hx hb dX10_owed_23 rfl (lv_at hl 3 rfl) ?_
    refine lv_iload_n hx hb dX10_owed_24 rfl (lv_at hl 4 rfl) ?_
    have hFc : ∀ q, va_A [] H.size q → A q := pu_free hS hA
    refine va_calli (va_runV (As := [.int x2, .int x3]) (rest := []) ⟨hx, hb, hml, hown, hts⟩ (c_X10_askRefusal l dC dI H.size cq Z gI o to x2 x3) (cwV 2 hts gX10_owed_X10_askRefusal rfl rfl rfl (by decide +kernel) ⟨(Nat.le_of_ble_eq_true rfl), (Nat.le_of_ble_eq_true rfl)⟩) (pr_V (r := (RX10, TX10, 16)) hP hK hD q_1 10 rfl hq_1) rfl rfl hl.1 rfl (lv_room (Nat.le_of_ble_eq_true rfl)) dX10_owed_25 ⟨(Nat.le_of_ble_eq_true rfl), (Nat.le_of_ble_eq_true rfl)⟩) hS (fun q _ h => hFc q h) hFc (fun r_15 u t H locs ht hvm w_14 hB hz1 hk1 hS => ?_)
    have hP := pu_keep hP hk1
    clear hk1 hz1 hvm hB ht hFc
    obtain ⟨hb_16, hx_17⟩ := w_14
    refine lv_istore (lv' := [(5, .int r_15), (4, .ref b_5), (0, .ref o), (1, .int x1), (2, .int x2), (3, .int x3)]) hx hb dX10_owed_28 hl (by decide +kernel) rfl (fun ls hl => ?_)
    refine lv_iload hx hb dX10_owed_30 (lv_at hl 0 rfl) ?_
    refine lv_if_eq (tgt := 46) hx hb dX10_owed_32 (by decide +kernel) (fun c_18 => ?_) (fun c_18 => ?_)
    · have dc_18 := c_eq (a := r_15.toInt) (b := 0) rfl (by decide +kernel) c_18
      have hi_19 := hx_17 c_18
      refine lv_aload_n hx hb dX10_owed_46 rfl (lv_at hl 2 rfl) ?_
      refine lv_aload hx hb dX10_owed_47 (lv_at hl 1 rfl) ?_
      refine lv_iload_n hx hb dX10_owed_49 rfl (lv_at hl 4 rfl) ?_
      refine lv_iload_n hx hb dX10_owed_50 rfl (lv_at hl 5 rfl) ?_
      have hFc := o_free hD hS hA
      refine va_calli (va_runV (As := [.ref b_5, .int x2, .int x3]) (rest := []) ⟨hx, hb, hml, hown, hts⟩ (c_X10_owedOn l dC dI H.size cq Z gI o to b_5 tb_5 x2 (by omega) x3) (cwV 3 hts gX10_owed_X10_owedOn rfl rfl rfl (by decide +kernel) ⟨(Nat.le_of_ble_eq_true rfl), (Nat.le_of_ble_eq_true rfl)⟩) (pr_V (r := (RX10, TX10, 16)) hP hK hD q_1 10 rfl hq_1) rfl rfl hl.1 rfl (lv_room (Nat.le_of_ble_eq_true rfl)) dX10_owed_51 ⟨(Nat.le_of_ble_eq_true rfl), (Nat.le_of_ble_eq_true rfl)⟩) hS (fun q _ h => hFc q h) hFc (fun r_21 u t H locs ht hvm w_20 hB hz1 hk1 hS => ?_)
      obtain ⟨S_22, rfl⟩ : ∃ z, z = u := ⟨_, rfl⟩
      obtain ⟨hP1, hK1, hD1⟩ := hB
      rw [ht] at hP1
      have hP : va_P (dC, dI) vwCl (oW cq S_22) H := hP1
      have hD : va_D A (oW cq S_22) := hD1.weaken (fun _ _ _ h => hFc _ h)
      clear hP1 hK1 hD1 hk1 hz1 hvm ht hFc
      obtain ⟨hIS_22, XS_22⟩ := w_20
      have X_23 : oX [2107, 2108, 5001] Z S_22 := oX.st oX.rf XS_22 (by decide +kernel)
      exact W.iret (v := r_21) hx hb hr (fun t ht hW => ⟨⟨r_21, S_22, rfl, ⟨hIS_22, X_23⟩, ⟨by rw [ht]; exact hP, va_K.moved hW.alike hK, hD⟩⟩, hS.F ht⟩) hS.2.2 dX10_owed_54
    · have dc_18 := c_ne (a := r_15.toInt) (b := 0) rfl (by decide +kernel) c_18
      refine lv_ldcw (v := 1000000000) hx hb hown (hts (.constant RX10 294 (1000000000)) (by decide +kernel)) dX10_owed_35 ?_
      refine lv_aload_n hx hb dX10_owed_38 rfl (lv_at hl 2 rfl) ?_
      refine lv_iload hx hb dX10_owed_39 (lv_at hl 0 rfl) ?_
      have hFc := o_free hD hS hA
      refine va_calli (va_runV (As := [.int r_15]) (rest := [.int 1000000000]) ⟨hx, hb, hml, hown, hts⟩ (c_X10_refuse l dC dI H.size cq Z gI o to r_15 (by omega)) (cwV 1 hts gX10_owed_X10_refuse rfl rfl rfl (by decide +kernel) ⟨(Nat.le_of_ble_eq_true rfl), (Nat.le_of_ble_eq_true rfl)⟩) (pr_V (r := (RX10, TX10, 16)) hP hK hD q_1 10 rfl hq_1) rfl rfl hl.1 rfl (lv_room (Nat.le_of_ble_eq_true rfl)) dX10_owed_41 ⟨(Nat.le_of_ble_eq_true rfl), (Nat.le_of_ble_eq_true rfl)⟩) hS (fun q _ h => hFc q h) hFc (fun r_25 u t H locs ht hvm w_24 hB hz1 hk1 hS => ?_)
      obtain ⟨S_26, rfl⟩ : ∃ z, z = u := ⟨_, rfl⟩
      obtain ⟨hP1, hK1, hD1⟩ := hB
      rw [ht] at hP1
      have hP : va_P (dC, dI) vwCl (oW cq S_26) H := hP1
      have hD : va_D A (oW cq S_26) := hD1.weaken (fun _ _ _ h => hFc _ h)
      clear hP1 hK1 hD1 hk1 hz1 hvm ht hFc
      obtain ⟨hIS_26, XS_26, hb_27, hx_28⟩ := w_24
      have X_29 : oX [2107, 2108, 5001] Z S_26 := oX.st oX.rf XS_26 (by decide +kernel)
      refine lv_isub hx hb dX10_owed_44 ?_
      refine lv_topi (fun x_30 ex_30 => ?_)
      have hx_30 : x_30.toInt = 1000000000 - r_25.toInt := (iv_to ex_30).trans (sb_i (by decide +kernel) rfl (by omega) (by omega))
      clear ex_30
      exact W.iret (v := x_30) hx hb hr (fun t ht hW => ⟨⟨x_30, S_26, rfl, ⟨hIS_26, X_29⟩, ⟨by rw [ht]; exact hP, va_K.moved hW.alike hK, hD⟩⟩, hS.F ht⟩) hS.2.2 dX10_owed_45
set_option maxHeartbeats 4000000 in
set_option maxRecDepth 100000 in
theorem c_X10_agreementOf (l : Launch) (dC : Nat → ClassId) (dI : Nat → Nat → Nat) (sz : Nat) (cq : Nat → ClassId) (Z : oS) (gI : oInv Z) (o : Nat) (to : oty Z o 10) (x1 : Int32) (x2 : Int32) : Met l yX10_agreementOf wsX10_agreementOf ({ frames := 1, cells := 0, slots := 0, locals := 21 }) (va_Pc [.ref o, .int x1, .int x2] (pcW (dC, dI) (oT cq) (oW cq Z) sz)) (va_Qi (fun (r : Int32) (u : oS) => oInv u ∧ oX [2107] Z u) (fun u t => va_P (dC, dI) vwCl (oW cq u) t.heap ∧ va_K (dC, dI) vwCl (oT cq) t ∧ va_D (va_A (oW cq Z) sz) (oW cq u)) (va_A (oW cq Z) sz)) 0 0 (va_A (oW cq Z) sz) := by
  refine Met.ofW (cc := cX10_agreementOf) (maxL := 4) (ret := (some .int)) (by decide +kernel) rfl ?_
  intro p e s m args below meth c s₁ B hml hv
  obtain ⟨rfl, hsz, hP, hK, hD0⟩ := hv
  have hx := B.exec
  have hb := B.bytes
  have hr := B.returns
  have hts := atoms_spec (ws := wsX10_agreementOf) B.pre
  have hown : s.vm.findClass RX10 = some m.cls := findClass_of_methodNamed B.named
  have hlocks := B.notSynchronized
  subst hsz
  have hD := hD0.self (sz := s.heap.size)
  generalize hAe : va_A (oW cq Z) s.heap.size = A at hD ⊢
  have hA : ∀ q : Nat, s.heap.size ≤ q → A q := fun q h => by rw [← hAe]; exact Or.inr h
  have hS : va_S A s.heap s.heap [] := va_S.rf
  have hP : va_P (dC, dI) vwCl (oW cq Z) s.heap := hP
  have hl := lv_entry ([.ref o, .int x1, .int x2]) (n := 4) (Nat.le_of_ble_eq_true rfl)
  rw [lg_entry_eq]
  generalize (lg_sl ([.ref o, .int x1, .int x2]) ++ List.replicate (4 - (lg_sl ([.ref o, .int x1, .int x2])).length) Slot.unset).toArray = ls at hl ⊢
  have hl : lv_has ls 4 [(0, .ref o), (1, .int x1), (2, .int x2)] := hl
  refine lv_aload_n hx hb dX10_agreementOf_0 rfl (lv_at hl 0 rfl) ?_
  refine lv_iload_n hx hb dX10_agreementOf_1 rfl (lv_at hl 1 rfl) ?_
  have hFc : ∀ q, va_A [] s.heap.size q → A q := pu_free hS hA
  obtain ⟨q_1, hq_1⟩ := og (cq := cq) to.1 (oE_10 to.2)
  refine va_callq (va_runV (As := [.int x1]) (rest := []) ⟨hx, hb, hml, hown, hts⟩ (c_X10_agreementAt l dC dI s.heap.size cq Z gI o to x1) (cwV 1 hts gX10_agreementOf_X10_agreementAt rfl rfl rfl (by decide +kernel) ⟨(Nat.le_of_ble_eq_true rfl), (Nat.le_of_ble_eq_true rfl)⟩) (pr_V (r := (RX10, TX10, 16)) hP hK hD q_1 10 rfl hq_1) rfl rfl hl.1 rfl (lv_room (Nat.le_of_ble_eq_true rfl)) dX10_agreementOf_2 ⟨(Nat.le_of_ble_eq_true rfl), (Nat.le_of_ble_eq_true rfl)⟩) hS (fun q _ h => hFc q h) hFc (fun r_3 u t H locs ht hvm w_2 hB hz1 hk1 hS => ?_)
  have hP := pu_keep hP hk1
  clear hk1 hz1 hvm hB ht hFc
  have hk_4 := w_2
  rcases r_3 with _ | b_5
  · refine W.eq (g2 := F0 m 5 ls [.null]) rfl ?_
    refine lv_astore_nN (lv' := [(3, .null), (0, .ref o), (1, .int x1), (2, .int x2)]) hx hb dX10_agreementOf_5 rfl hl (by decide +kernel) rfl (fun ls hl => ?_)
    refine lv_aload_nN hx hb dX10_agreementOf_6 rfl (lv_at hl 0 rfl) ?_
    refine lv_ifnonnullN hx hb dX10_agreementOf_7 ?_
    refine lv_aload_n hx hb dX10_agreementOf_10 rfl (lv_at hl 1 rfl) ?_
    refine lv_iconst (v := (-1)) hx hb dX10_agreementOf_11 (by decide +kernel) ?_
    have hFc := o_free hD hS hA
    refine va_calli (va_runV (As := [.int (-1)]) (rest := []) ⟨hx, hb, hml, hown, hts⟩ (c_X10_refuse l dC dI H.size cq Z gI o to (-1) (by decide +kernel)) (cwV 1 hts gX10_agreementOf_X10_refuse rfl rfl rfl (by decide +kernel) ⟨(Nat.le_of_ble_eq_true rfl), (Nat.le_of_ble_eq_true rfl)⟩) (pr_V (r := (RX10, TX10, 16)) hP hK hD q_1 10 rfl hq_1) rfl rfl hl.1 rfl (lv_room (Nat.le_of_ble_eq_true rfl)) dX10_agreementOf_12 ⟨(Nat.le_of_ble_eq_true rfl), (Nat.le_of_ble_eq_true rfl)⟩) hS (fun q _ h => hFc q h) hFc (fun r_7 u t H locs ht hvm w_6 hB hz1 hk1 hS => ?_)
    obtain ⟨S_8, rfl⟩ : ∃ z, z = u := ⟨_, rfl⟩
    obtain ⟨hP1, hK1, hD1⟩ := hB
    rw [ht] at hP1
    have hP : va_P (dC, dI) vwCl (oW cq S_8) H := hP1
    have hD : va_D A (oW cq S_8) := hD1.weaken (fun _ _ _ h => hFc _ h)
    clear hP1 hK1 hD1 hk1 hz1 hvm ht hFc
    obtain ⟨hIS_8, XS_8, hb_9, hx_10⟩ := w_6
    have X_11 : oX [2107] Z S_8 := oX.st oX.rf XS_8 (by decide +kernel)
    have rf_12 : r_7.toInt = -1 := by rw [hx_10]; decide
    exact W.iret (v := r_7) hx hb hr (fun t ht hW => ⟨⟨r_7, S_8, rfl, ⟨hIS_8, X_11⟩, ⟨by rw [ht]; exact hP, va_K.moved hW.alike hK, hD⟩⟩, hS.F ht⟩) hS.2.2 dX10_agreementOf_15
  · refine W.eq (g2 := F0 m 5 ls [.ref b_5]) rfl ?_
    have tb_5 : oty Z b_5 1 := hk_4 b_5 rfl
    refine lv_astore_n (lv' := [(3, .ref b_5), (0, .ref o), (1, .int x1), (2, .int x2)]) hx hb dX10_agreementOf_5 rfl hl (by decide +kernel) rfl (fun ls hl => ?_)
    refine lv_aload_n hx hb dX10_agreementOf_6 rfl (lv_at hl 0 rfl) ?_
    refine lv_ifnonnull (tgt := 16) hx hb dX10_agreementOf_7 (by decide +kernel) ?_
    refine lv_iload_n hx hb dX10_agreementOf_16 rfl (lv_at hl 3 rfl) ?_
    by_cases q_13 : x2 = 0
    · refine lv_topi (fun y ey => ?_)
      obtain rfl : y = 0 := ey.trans q_13
      refine lv_tableIn (x := 0) (off := 55) (tgt := 72) hx hb dX10_agreementOf_17 (by decide +kernel) (by decide +kernel) (by decide +kernel) (by decide +kernel) ?_
      refine lv_aload_n hx hb dX10_agreementOf_72 rfl (lv_at hl 0 rfl) ?_
      obtain ⟨q_14, hq_14⟩ := og (cq := cq) tb_5.1 (oE_1 tb_5.2)
      obtain ⟨b_15, hb_15⟩ := oInv.nn (i := 0) gI tb_5 rfl
      refine va_get (D := (dC, dI)) (ci := 1) (v := .ref b_15) (C := RX1) (T := TX1) (N := 18) hx hb hts in_wsX10_agreementOf_X1 hown hK hP q_14 hq_14 rfl 0 (by decide +kernel) (hts (.fieldLink RX10 299 "ShipOffice$Agreement" "man" "LShipOffice$Man;") iw_X10_agreementOf_1) (fun _ h9 => h9) (o_rd hb_15) dX10_agreementOf_73 ?_
      have tb_15 : oty Z b_15 6 := oInv.rd gI tb_5.2 hb_15 rfl rfl
      obtain ⟨q_16, hq_16⟩ := og (cq := cq) tb_15.1 (oE_6 tb_15.2)
      refine va_get (D := (dC, dI)) (ci := 6) (v := .int (oI Z b_15 0)) (C := RX6) (T := TX6) (N := 6) hx hb hts in_wsX10_agreementOf_X6 hown hK hP q_16 hq_16 rfl 0 (by decide +kernel) (hts (.fieldLink RX10 303 "ShipOffice$Man" "number" "I") iw_X10_agreementOf_2) (fun _ h9 => h9) rfl dX10_agreementOf_76 ?_
      refine lv_topi (fun x_17 ex_17 => ?_)
      clear ex_17
      exact W.iret (v := x_17) hx hb hr (fun t ht hW => ⟨⟨x_17, Z, rfl, ⟨gI, oX.rf⟩, ⟨by rw [ht]; exact hP, va_K.moved hW.alike hK, hD⟩⟩, hS.F ht⟩) hS.2.2 dX10_agreementOf_79
    have n_18 := c_ne (a := x2.toInt) (b := 0) rfl (by decide +kernel) q_13
    by_cases q_19 : x2 = 1
    · refine lv_topi (fun y ey => ?_)
      obtain rfl : y = 1 := ey.trans q_19
      refine lv_tableIn (x := 1) (off := 63) (tgt := 80) hx hb dX10_agreementOf_17 (by decide +kernel) (by decide +kernel) (by decide +kernel) (by decide +kernel) ?_
      refine lv_aload_n hx hb dX10_agreementOf_80 rfl (lv_at hl 0 rfl) ?_
      obtain ⟨q_20, hq_20⟩ := og (cq := cq) tb_5.1 (oE_1 tb_5.2)
      obtain ⟨b_21, hb_21⟩ := oInv.nn (i := 1) gI tb_5 rfl
      refine va_get (D := (dC, dI)) (ci := 1) (v := .ref b_21) (C := RX1) (T := TX1) (N := 18) hx hb hts in_wsX10_agreementOf_X1 hown hK hP q_20 hq_20 rfl 1 (by decide +kernel) (hts (.fieldLink RX10 118 "ShipOffice$Agreement" "voyage" "LShipOffice$Voyage;") iw_X10_agreementOf_3) (fun _ h9 => h9) (o_rd hb_21) dX10_agreementOf_81 ?_
      have tb_21 : oty Z b_21 9 := oInv.rd gI tb_5.2 hb_21 rfl rfl
      obtain ⟨q_22, hq_22⟩ := og (cq := cq) tb_21.1 (oE_9 tb_21.2)
      refine va_get (D := (dC, dI)) (ci := 9) (v := .int (oI Z b_21 0)) (C := RX9) (T := TX9) (N := 10) hx hb hts in_wsX10_agreementOf_X9 hown hK hP q_22 hq_22 rfl 0 (by decide +kernel) (hts (.fieldLink RX10 306 "ShipOffice$Voyage" "number" "I") iw_X10_agreementOf_4) (fun _ h9 => h9) rfl dX10_agreementOf_84 ?_
      refine lv_topi (fun x_23 ex_23 => ?_)
      clear ex_23
      exact W.iret (v := x_23) hx hb hr (fun t ht hW => ⟨⟨x_23, Z, rfl, ⟨gI, oX.rf⟩, ⟨by rw [ht]; exact hP, va_K.moved hW.alike hK, hD⟩⟩, hS.F ht⟩) hS.2.2 dX10_agreementOf_87
    have n_24 := c_ne (a := x2.toInt) (b := 1) rfl (by decide +kernel) q_19
    by_cases q_25 : x2 = 2
    · refine lv_topi (fun y ey => ?_)
      obtain rfl : y = 2 := ey.trans q_25
      refine lv_tableIn (x := 2) (off := 71) (tgt := 88) hx hb dX10_agreementOf_17 (by decide +kernel) (by decide +kernel) (by decide +kernel) (by decide +kernel) ?_
      refine lv_aload_n hx hb dX10_agreementOf_88 rfl (lv_at hl 0 rfl) ?_
      obtain ⟨q_26, hq_26⟩ := og (cq := cq) tb_5.1 (oE_1 tb_5.2)
      refine va_get (D := (dC, dI)) (ci := 1) (v := .int (oI Z b_5 4)) (C := RX1) (T := TX1) (N := 18) hx hb hts in_wsX10_agreementOf_X1 hown hK hP q_26 hq_26 rfl 4 (by decide +kernel) (hts (.fieldLink RX10 223 "ShipOffice$Agreement" "wage" "I") iw_X10_agreementOf_5) (fun _ h9 => h9) rfl dX10_agreementOf_89 ?_
      refine lv_topi (fun x_27 ex_27 => ?_)
      clear ex_27
      exact W.iret (v := x_27) hx hb hr (fun t ht hW => ⟨⟨x_27, Z, rfl, ⟨gI, oX.rf⟩, ⟨by rw [ht]; exact hP, va_K.moved hW.alike hK, hD⟩⟩, hS.F ht⟩) hS.2.2 dX10_agreementOf_92
    have n_28 := c_ne (a := x2.toInt) (b := 2) rfl (by decide +kernel) q_25
    by_cases q_29 : x2 = 3
    · refine lv_topi (fun y ey => ?_)
      obtain rfl : y = 3 := ey.trans q_29
      refine lv_tableIn (x := 3) (off := 76) (tgt := 93) hx hb dX10_agreementOf_17 (by decide +kernel) (by decide +kernel) (by decide +kernel) (by decide +kernel) ?_
      refine lv_aload_n hx hb dX10_agreementOf_93 rfl (lv_at hl 0 rfl) ?_
      obtain ⟨q_30, hq_30⟩ := og (cq := cq) tb_5.1 (oE_1 tb_5.2)
      refine va_get (D := (dC, dI)) (ci := 1) (v := .int (oI Z b_5 5)) (C := RX1) (T := TX1) (N := 18) hx hb hts in_wsX10_agreementOf_X1 hown hK hP q_30 hq_30 rfl 5 (by decide +kernel) (hts (.fieldLink RX10 226 "ShipOffice$Agreement" "rank" "I") iw_X10_agreementOf_6) (fun _ h9 => h9) rfl dX10_agreementOf_94 ?_
      refine lv_topi (fun x_31 ex_31 => ?_)
      clear ex_31
      exact W.iret (v := x_31) hx hb hr (fun t ht hW => ⟨⟨x_31, Z, rfl, ⟨gI, oX.rf⟩, ⟨by rw [ht]; exact hP, va_K.moved hW.alike hK, hD⟩⟩, hS.F ht⟩) hS.2.2 dX10_agreementOf_97
    have n_32 := c_ne (a := x2.toInt) (b := 3) rfl (by decide +kernel) q_29
    by_cases q_33 : x2 = 4
    · refine lv_topi (fun y ey => ?_)
      obtain rfl : y = 4 := ey.trans q_33
      refine lv_tableIn (x := 4) (off := 81) (tgt := 98) hx hb dX10_agreementOf_17 (by decide +kernel) (by decide +kernel) (by decide +kernel) (by decide +kernel) ?_
      refine lv_aload_n hx hb dX10_agreementOf_98 rfl (lv_at hl 0 rfl) ?_
      obtain ⟨q_34, hq_34⟩ := og (cq := cq) tb_5.1 (oE_1 tb_5.2)
      refine va_get (D := (dC, dI)) (ci := 1) (v := .int (oI Z b_5 2)) (C := RX1) (T := TX1) (N := 18) hx hb hts in_wsX10_agreementOf_X1 hown hK hP q_34 hq_34 rfl 2 (by decide +kernel) (hts (.fieldLink RX10 255 "ShipOffice$Agreement" "signedOn" "I") iw_X10_agreementOf_7) (fun _ h9 => h9) rfl dX10_agreementOf_99 ?_
      refine lv_topi (fun x_35 ex_35 => ?_)
      clear ex_35
      exact W.iret (v := x_35) hx hb hr (fun t ht hW => ⟨⟨x_35, Z, rfl, ⟨gI, oX.rf⟩, ⟨by rw [ht]; exact hP, va_K.moved hW.alike hK, hD⟩⟩, hS.F ht⟩) hS.2.2 dX10_agreementOf_102
    have n_36 := c_ne (a := x2.toInt) (b := 4) rfl (by decide +kernel) q_33
    by_cases q_37 : x2 = 5
    · refine lv_topi (fun y ey => ?_)
      obtain rfl : y = 5 := ey.trans q_37
      refine lv_tableIn (x := 5) (off := 86) (tgt := 103) hx hb dX10_agreementOf_17 (by decide +kernel) (by decide +kernel) (by decide +kernel) (by decide +kernel) ?_
      refine lv_aload_n hx hb dX10_agreementOf_103 rfl (lv_at hl 0 rfl) ?_
      obtain ⟨q_38, hq_38⟩ := og (cq := cq) tb_5.1 (oE_1 tb_5.2)
      refine va_get (D := (dC, dI)) (ci := 1) (v := .int (oI Z b_5 6)) (C := RX1) (T := TX1) (N := 18) hx hb hts in_wsX10_agreementOf_X1 hown hK hP q_38 hq_38 rfl 6 (by decide +kernel) (hts (.fieldLink RX10 126 "ShipOffice$Agreement" "offDay" "I") iw_X10_agreementOf_8) (fun _ h9 => h9) rfl dX10_agreementOf_104 ?_
      refine lv_topi (fun x_39 ex_39 => ?_)
      have gx_39 : x_39.toInt = (oI Z b_5 6).toInt := iv_to ex_39
      clear ex_39
      refine lv_ldc (v := 1000000) hx hb hown (hts (.constant RX10 114 (1000000)) (by decide +kernel)) dX10_agreementOf_107 ?_
      refine lv_icmp_ne (tgt := 117) hx hb dX10_agreementOf_109 (by decide +kernel) (fun c_40 => ?_) (fun c_40 => ?_)
      · have dc_40 := c_ne (a := x_39.toInt) (b := 1000000) rfl (by decide +kernel) c_40
        refine lv_aload_n hx hb dX10_agreementOf_117 rfl (lv_at hl 0 rfl) ?_
        refine va_get (D := (dC, dI)) (ci := 1) (v := .int (oI Z b_5 6)) (C := RX1) (T := TX1) (N := 18) hx hb hts in_wsX10_agreementOf_X1 hown hK hP q_38 hq_38 rfl 6 (by decide +kernel) (hts (.fieldLink RX10 126 "ShipOffice$Agreement" "offDay" "I") iw_X10_agreementOf_8) (fun _ h9 => h9) rfl dX10_agreementOf_118 ?_
        refine lv_topi (fun x_41 ex_41 => ?_)
        have gx_41 : x_41.toInt = (oI Z b_5 6).toInt := iv_to ex_41
        clear ex_41
        exact W.iret (v := x_41) hx hb hr (fun t ht hW => ⟨⟨x_41, Z, rfl, ⟨gI, oX.rf⟩, ⟨by rw [ht]; exact hP, va_K.moved hW.alike hK, hD⟩⟩, hS.F ht⟩) hS.2.2 dX10_agreementOf_121
      · have dc_40 := c_eq (a := x_39.toInt) (b := 1000000) rfl (by decide +kernel) c_40
        refine lv_bipush (v := (-9)) hx hb dX10_agreementOf_112 (by decide +kernel) ?_
        refine lv_goto (tgt := 121) hx hb dX10_agreementOf_114 (by decide +kernel) ?_
        exact W.iret (v := (-9)) hx hb hr (fun t ht hW => ⟨⟨(-9), Z, rfl, ⟨gI, oX.rf⟩, ⟨by rw [ht]; exact hP, va_K.moved hW.alike hK, hD⟩⟩, hS.F ht⟩) hS.2.2 dX10_agreementOf_121
    have n_42 := c_ne (a := x2.toInt) (b := 5) rfl (by decide +kernel) q_37
    by_cases q_43 : x2 = 6
    · refine lv_topi (fun y ey => ?_)
      obtain rfl : y = 6 := ey.trans q_43
      refine lv_tableIn (x := 6) (off := 105) (tgt := 122) hx hb dX10_agreementOf_17 (by decide +kernel) (by decide +kernel) (by decide +kernel) (by decide +kernel) ?_
      refine lv_aload_n hx hb dX10_agreementOf_122 rfl (lv_at hl 0 rfl) ?_
      obtain ⟨q_44, hq_44⟩ := og (cq := cq) tb_5.1 (oE_1 tb_5.2)
      refine va_get (D := (dC, dI)) (ci := 1) (v := .int (oI Z b_5 9)) (C := RX1) (T := TX1) (N := 18) hx hb hts in_wsX10_agreementOf_X1 hown hK hP q_44 hq_44 rfl 9 (by decide +kernel) (hts (.fieldLink RX10 240 "ShipOffice$Agreement" "note" "I") iw_X10_agreementOf_9) (fun _ h9 => h9) rfl dX10_agreementOf_123 ?_
      refine lv_topi (fun x_45 ex_45 => ?_)
      clear ex_45
      exact W.iret (v := x_45) hx hb hr (fun t ht hW => ⟨⟨x_45, Z, rfl, ⟨gI, oX.rf⟩, ⟨by rw [ht]; exact hP, va_K.moved hW.alike hK, hD⟩⟩, hS.F ht⟩) hS.2.2 dX10_agreementOf_126
    have n_46 := c_ne (a := x2.toInt) (b := 6) rfl (by decide +kernel) q_43
    by_cases q_47 : x2 = 7
    · refine lv_topi (fun y ey => ?_)
      obtain rfl : y = 7 := ey.trans q_47
      refine lv_tableIn (x := 7) (off := 110) (tgt := 127) hx hb dX10_agreementOf_17 (by decide +kernel) (by decide +kernel) (by decide +kernel) (by decide +kernel) ?_
      refine lv_aload_n hx hb dX10_agreementOf_127 rfl (lv_at hl 0 rfl) ?_
      obtain ⟨q_48, hq_48⟩ := og (cq := cq) tb_5.1 (oE_1 tb_5.2)
      refine va_get (D := (dC, dI)) (ci := 1) (v := .int (oI Z b_5 10)) (C := RX1) (T := TX1) (N := 18) hx hb hts in_wsX10_agreementOf_X1 hown hK hP q_48 hq_48 rfl 10 (by decide +kernel) (hts (.fieldLink RX10 243 "ShipOffice$Agreement" "given" "I") iw_X10_agreementOf_10) (fun _ h9 => h9) rfl dX10_agreementOf_128 ?_
      refine lv_topi (fun x_49 ex_49 => ?_)
      clear ex_49
      refine lv_if_ne (tgt := 139) hx hb dX10_agreementOf_131 (by decide +kernel) (fun c_50 => ?_) (fun c_50 => ?_)
      · have dc_50 := c_ne (a := x_49.toInt) (b := 0) rfl (by decide +kernel) c_50
        refine lv_aload_n hx hb dX10_agreementOf_139 rfl (lv_at hl 0 rfl) ?_
        refine va_get (D := (dC, dI)) (ci := 1) (v := .int (oI Z b_5 10)) (C := RX1) (T := TX1) (N := 18) hx hb hts in_wsX10_agreementOf_X1 hown hK hP q_48 hq_48 rfl 10 (by decide +kernel) (hts (.fieldLink RX10 243 "ShipOffice$Agreement" "given" "I") iw_X10_agreementOf_10) (fun _ h9 => h9) rfl dX10_agreementOf_140 ?_
        refine lv_topi (fun x_51 ex_51 => ?_)
        clear ex_51
        exact W.iret (v := x_51) hx hb hr (fun t ht hW => ⟨⟨x_51, Z, rfl, ⟨gI, oX.rf⟩, ⟨by rw [ht]; exact hP, va_K.moved hW.alike hK, hD⟩⟩, hS.F ht⟩) hS.2.2 dX10_agreementOf_143
      · have dc_50 := c_eq (a := x_49.toInt) (b := 0) rfl (by decide +kernel) c_50
        refine lv_bipush (v := (-9)) hx hb dX10_agreementOf_134 (by decide +kernel) ?_
        refine lv_goto (tgt := 143) hx hb dX10_agreementOf_136 (by decide +kernel) ?_
        exact W.iret (v := (-9)) hx hb hr (fun t ht hW => ⟨⟨(-9), Z, rfl, ⟨gI, oX.rf⟩, ⟨by rw [ht]; exact hP, va_K.moved hW.alike hK, hD⟩⟩, hS.F ht⟩) hS.2.2 dX10_agreementOf_143
    have n_52 := c_ne (a := x2.toInt) (b := 7) rfl (by decide +kernel) q_47
    by_cases q_53 : x2 = 8
    · refine lv_topi (fun y ey => ?_)
      obtain rfl : y = 8 := ey.trans q_53
      refine lv_tableIn (x := 8) (off := 127) (tgt := 144) hx hb dX10_agreementOf_17 (by decide +kernel) (by decide +kernel) (by decide +kernel) (by decide +kernel) ?_
      refine lv_aload_n hx hb dX10_agreementOf_144 rfl (lv_at hl 0 rfl) ?_
      obtain ⟨q_54, hq_54⟩ := og (cq := cq) tb_5.1 (oE_1 tb_5.2)
      refine va_get (D := (dC, dI)) (ci := 1) (v := .int (oI Z b_5 11)) (C := RX1) (T := TX1) (N := 18) hx hb hts in_wsX10_agreementOf_X1 hown hK hP q_54 hq_54 rfl 11 (by decide +kernel) (hts (.fieldLink RX10 246 "ShipOffice$Agreement" "allotment" "I") iw_X10_agreementOf_11) (fun _ h9 => h9) rfl dX10_agreementOf_145 ?_
      refine lv_topi (fun x_55 ex_55 => ?_)
      clear ex_55
      exact W.iret (v := x_55) hx hb hr (fun t ht hW => ⟨⟨x_55, Z, rfl, ⟨gI, oX.rf⟩, ⟨by rw [ht]; exact hP, va_K.moved hW.alike hK, hD⟩⟩, hS.F ht⟩) hS.2.2 dX10_agreementOf_148
    have n_56 := c_ne (a := x2.toInt) (b := 8) rfl (by decide +kernel) q_53
    by_cases q_57 : x2 = 9
    · refine lv_topi (fun y ey => ?_)
      obtain rfl : y = 9 := ey.trans q_57
      refine lv_tableIn (x := 9) (off := 132) (tgt := 149) hx hb dX10_agreementOf_17 (by decide +kernel) (by decide +kernel) (by decide +kernel) (by decide +kernel) ?_
      refine lv_aload_n hx hb dX10_agreementOf_149 rfl (lv_at hl 0 rfl) ?_
      have hFc : ∀ q, va_A [] H.size q → A q := pu_free hS hA
      obtain ⟨q_58, hq_58⟩ := og (cq := cq) tb_5.1 (oE_1 tb_5.2)
      refine va_calli (va_runV (As := []) (rest := []) ⟨hx, hb, hml, hown, hts⟩ (c_X1_goesOn l dC dI H.size cq Z gI b_5 tb_5) (cwV 0 hts gX10_agreementOf_X1_goesOn rfl rfl rfl (by decide +kernel) ⟨(Nat.le_of_ble_eq_true rfl), (Nat.le_of_ble_eq_true rfl)⟩) (pr_V (r := (RX1, TX1, 18)) hP hK hD q_58 1 rfl hq_58) rfl rfl hl.1 rfl (lv_room (Nat.le_of_ble_eq_true rfl)) dX10_agreementOf_150 ⟨(Nat.le_of_ble_eq_true rfl), (Nat.le_of_ble_eq_true rfl)⟩) hS (fun q _ h => hFc q h) hFc (fun r_60 u t H locs ht hvm w_59 hB hz1 hk1 hS => ?_)
      have hP := pu_keep hP hk1
      clear hk1 hz1 hvm hB ht hFc
      have hb_61 := w_59
      refine lv_if_eq (tgt := 160) hx hb dX10_agreementOf_153 (by decide +kernel) (fun c_62 => ?_) (fun c_62 => ?_)
      · have dc_62 := c_eq (a := r_60.toInt) (b := 0) rfl (by decide +kernel) c_62
        refine lv_iconst (v := 0) hx hb dX10_agreementOf_160 (by decide +kernel) ?_
        exact W.iret (v := 0) hx hb hr (fun t ht hW => ⟨⟨0, Z, rfl, ⟨gI, oX.rf⟩, ⟨by rw [ht]; exact hP, va_K.moved hW.alike hK, hD⟩⟩, hS.F ht⟩) hS.2.2 dX10_agreementOf_161
      · have dc_62 := c_ne (a := r_60.toInt) (b := 0) rfl (by decide +kernel) c_62
        refine lv_iconst (v := 1) hx hb dX10_agreementOf_156 (by decide +kernel) ?_
        refine lv_goto (tgt := 161) hx hb dX10_agreementOf_157 (by decide +kernel) ?_
        exact W.iret (v := 1) hx hb hr (fun t ht hW => ⟨⟨1, Z, rfl, ⟨gI, oX.rf⟩, ⟨by rw [ht]; exact hP, va_K.moved hW.alike hK, hD⟩⟩, hS.F ht⟩) hS.2.2 dX10_agreementOf_161
    have n_63 := c_ne (a := x2.toInt) (b := 9) rfl (by decide +kernel) q_57
    refine lv_tableOut (tgt := 162) hx hb dX10_agreementOf_17 (by omega) (by decide +kernel) ?_
    refine lv_aload_n hx hb dX10_agreementOf_162 rfl (lv_at hl 1 rfl) ?_
    refine lv_bipush (v := (-2)) hx hb dX10_agreementOf_163 (by decide +kernel) ?_
    have hFc := o_free hD hS hA
    refine va_calli (va_runV (As := [.int (-2)]) (rest := []) ⟨hx, hb, hml, hown, hts⟩ (c_X10_refuse l dC dI H.size cq Z gI o to (-2) (by decide +kernel)) (cwV 1 hts gX10_agreementOf_X10_refuse rfl rfl rfl (by decide +kernel) ⟨(Nat.le_of_ble_eq_true rfl), (Nat.le_of_ble_eq_true rfl)⟩) (pr_V (r := (RX10, TX10, 16)) hP hK hD q_1 10 rfl hq_1) rfl rfl hl.1 rfl (lv_room (Nat.le_of_ble_eq_true rfl)) dX10_agreementOf_165 ⟨(Nat.le_of_ble_eq_true rfl), (Nat.le_of_ble_eq_true rfl)⟩) hS (fun q _ h => hFc q h) hFc (fun r_65 u t H locs ht hvm w_64 hB hz1 hk1 hS => ?_)
    obtain ⟨S_66, rfl⟩ : ∃ z, z = u := ⟨_, rfl⟩
    obtain ⟨hP1, hK1, hD1⟩ := hB
    rw [ht] at hP1
    have hP : va_P (dC, dI) vwCl (oW cq S_66) H := hP1
    have hD : va_D A (oW cq S_66) := hD1.weaken (fun _ _ _ h => hFc _ h)
    clear hP1 hK1 hD1 hk1 hz1 hvm ht hFc
    obtain ⟨hIS_66, XS_66, hb_67, hx_68⟩ := w_64
    have X_69 : oX [2107] Z S_66 := oX.st oX.rf XS_66 (by decide +kernel)
    have rf_70 : r_65.toInt = -2 := by rw [hx_68]; decide
    exact W.iret (v := r_65) hx hb hr (fun t ht hW => ⟨⟨r_65, S_66, rfl, ⟨hIS_66, X_69⟩, ⟨by rw [ht]; exact hP, va_K.moved hW.alike hK, hD⟩⟩, hS.F ht⟩) hS.2.2 dX10_agreementOf_168
set_option maxHeartbeats 4000000 in
set_option maxRecDepth 100000 in
theorem c_X10_aboard (l : Launch) (dC : Nat → ClassId) (dI : Nat → Nat → Nat) (sz : Nat) (cq : Nat → ClassId) (Z : oS) (gI : oInv Z) (o : Nat) (to : oty Z o 10) (x1 : Int32) (x2 : Int32) (x3 : Int32) : Met l yX10_aboard wsX10_aboard ({ frames := 3, cells := 0, slots := 0, locals := 74 }) (va_Pc [.ref o, .int x1, .int x2, .int x3] (pcW (dC, dI) (oT cq) (oW cq Z) sz)) (va_Qi (fun (r : Int32) (u : oS) => oInv u ∧ oX [2107] Z u) (fun u t => va_P (dC, dI) vwCl (oW cq u) t.heap ∧ va_K (dC, dI) vwCl (oT cq) t ∧ va_D (va_A (oW cq Z) sz) (oW cq u)) (va_A (oW cq Z) sz)) 0 0 (va_A (oW cq Z) sz) := by
  refine Met.ofW (cc := cX10_aboard) (maxL := 6) (ret := (some .int)) (by decide +kernel) rfl ?_
  intro p e s m args below meth c s₁ B hml hv
  obtain ⟨rfl, hsz, hP, hK, hD0⟩ := hv
  have hx := B.exec
  have hb := B.bytes
  have hr := B.returns
  have hts := atoms_spec (ws := wsX10_aboard) B.pre
  have hown : s.vm.findClass RX10 = some m.cls := findClass_of_methodNamed B.named
  have hlocks := B.notSynchronized
  subst hsz
  have hD := hD0.self (sz := s.heap.size)
  generalize hAe : va_A (oW cq Z) s.heap.size = A at hD ⊢
  have hA : ∀ q : Nat, s.heap.size ≤ q → A q := fun q h => by rw [← hAe]; exact Or.inr h
  have hS : va_S A s.heap s.heap [] := va_S.rf
  have hP : va_P (dC, dI) vwCl (oW cq Z) s.heap := hP
  have hl := lv_entry ([.ref o, .int x1, .int x2, .int x3]) (n := 6) (Nat.le_of_ble_eq_true rfl)
  rw [lg_entry_eq]
  generalize (lg_sl ([.ref o, .int x1, .int x2, .int x3]) ++ List.replicate (6 - (lg_sl ([.ref o, .int x1, .int x2, .int x3])).length) Slot.unset).toArray = ls at hl ⊢
  have hl : lv_has ls 6 [(0, .ref o), (1, .int x1), (2, .int x2), (3, .int x3)] := hl
  refine lv_aload_n hx hb dX10_aboard_0 rfl (lv_at hl 0 rfl) ?_
  refine lv_iload_n hx hb dX10_aboard_1 rfl (lv_at hl 1 rfl) ?_
  have hFc : ∀ q, va_A [] s.heap.size q → A q := pu_free hS hA
  obtain ⟨q_1, hq_1⟩ := og (cq := cq) to.1 (oE_10 to.2)
  refine va_callq (va_runV (As := [.int x1]) (rest := []) ⟨hx, hb, hml, hown, hts⟩ (c_X10_voyageAt l dC dI s.heap.size cq Z gI o to x1) (cwV 1 hts gX10_aboard_X10_voyageAt rfl rfl rfl (by decide +kernel) ⟨(Nat.le_of_ble_eq_true rfl), (Nat.le_of_ble_eq_true rfl)⟩) (pr_V (r := (RX10, TX10, 16)) hP hK hD q_1 10 rfl hq_1) rfl rfl hl.1 rfl (lv_room (Nat.le_of_ble_eq_true rfl)) dX10_aboard_2 ⟨(Nat.le_of_ble_eq_true rfl), (Nat.le_of_ble_eq_true rfl)⟩) hS (fun q _ h => hFc q h) hFc (fun r_3 u t H locs ht hvm w_2 hB hz1 hk1 hS => ?_)
  have hP := pu_keep hP hk1
  clear hk1 hz1 hvm hB ht hFc
  have hk_4 := w_2
  rcases r_3 with _ | b_5
  · refine W.eq (g2 := F0 m 5 ls [.null]) rfl ?_
    refine lv_astoreN (lv' := [(4, .null), (0, .ref o), (1, .int x1), (2, .int x2), (3, .int x3)]) hx hb dX10_aboard_5 hl (by decide +kernel) rfl (fun ls hl => ?_)
    refine lv_aloadN hx hb dX10_aboard_7 (lv_at hl 0 rfl) ?_
    refine lv_ifnonnullN hx hb dX10_aboard_9 ?_
    refine lv_aload_n hx hb dX10_aboard_12 rfl (lv_at hl 1 rfl) ?_
    refine lv_iconst (v := (-1)) hx hb dX10_aboard_13 (by decide +kernel) ?_
    have hFc := o_free hD hS hA
    refine va_calli (va_runV (As := [.int (-1)]) (rest := []) ⟨hx, hb, hml, hown, hts⟩ (c_X10_refuse l dC dI H.size cq Z gI o to (-1) (by decide +kernel)) (cwV 1 hts gX10_aboard_X10_refuse rfl rfl rfl (by decide +kernel) ⟨(Nat.le_of_ble_eq_true rfl), (Nat.le_of_ble_eq_true rfl)⟩) (pr_V (r := (RX10, TX10, 16)) hP hK hD q_1 10 rfl hq_1) rfl rfl hl.1 rfl (lv_room (Nat.le_of_ble_eq_true rfl)) dX10_aboard_14 ⟨(Nat.le_of_ble_eq_true rfl), (Nat.le_of_ble_eq_true rfl)⟩) hS (fun q _ h => hFc q h) hFc (fun r_7 u t H locs ht hvm w_6 hB hz1 hk1 hS => ?_)
    obtain ⟨S_8, rfl⟩ : ∃ z, z = u := ⟨_, rfl⟩
    obtain ⟨hP1, hK1, hD1⟩ := hB
    rw [ht] at hP1
    have hP : va_P (dC, dI) vwCl (oW cq S_8) H := hP1
    have hD : va_D A (oW cq S_8) := hD1.weaken (fun _ _ _ h => hFc _ h)
    clear hP1 hK1 hD1 hk1 hz1 hvm ht hFc
    obtain ⟨hIS_8, XS_8, hb_9, hx_10⟩ := w_6
    have X_11 : oX [2107] Z S_8 := oX.st oX.rf XS_8 (by decide +kernel)
    have rf_12 : r_7.toInt = -1 := by rw [hx_10]; decide
    exact W.iret (v := r_7) hx hb hr (fun t ht hW => ⟨⟨r_7, S_8, rfl, ⟨hIS_8, X_11⟩, ⟨by rw [ht]; exact hP, va_K.moved hW.alike hK, hD⟩⟩, hS.F ht⟩) hS.2.2 dX10_aboard_17
  · refine W.eq (g2 := F0 m 5 ls [.ref b_5]) rfl ?_
    have tb_5 : oty Z b_5 9 := hk_4 b_5 rfl
    refine lv_astore (lv' := [(4, .ref b_5), (0, .ref o), (1, .int x1), (2, .int x2), (3, .int x3)]) hx hb dX10_aboard_5 hl (by decide +kernel) rfl (fun ls hl => ?_)
    refine lv_aload hx hb dX10_aboard_7 (lv_at hl 0 rfl) ?_
    refine lv_ifnonnull (tgt := 18) hx hb dX10_aboard_9 (by decide +kernel) ?_
    refine lv_aload_n hx hb dX10_aboard_18 rfl (lv_at hl 1 rfl) ?_
    refine lv_iload_n hx hb dX10_aboard_19 rfl (lv_at hl 3 rfl) ?_
    refine lv_iload_n hx hb dX10_aboard_20 rfl (lv_at hl 4 rfl) ?_
    have hFc : ∀ q, va_A [] H.size q → A q := pu_free hS hA
    refine va_calli (va_runV (As := [.int x2, .int x3]) (rest := []) ⟨hx, hb, hml, hown, hts⟩ (c_X10_askRefusal l dC dI H.size cq Z gI o to x2 x3) (cwV 2 hts gX10_aboard_X10_askRefusal rfl rfl rfl (by decide +kernel) ⟨(Nat.le_of_ble_eq_true rfl), (Nat.le_of_ble_eq_true rfl)⟩) (pr_V (r := (RX10, TX10, 16)) hP hK hD q_1 10 rfl hq_1) rfl rfl hl.1 rfl (lv_room (Nat.le_of_ble_eq_true rfl)) dX10_aboard_21 ⟨(Nat.le_of_ble_eq_true rfl), (Nat.le_of_ble_eq_true rfl)⟩) hS (fun q _ h => hFc q h) hFc (fun r_14 u t H locs ht hvm w_13 hB hz1 hk1 hS => ?_)
    have hP := pu_keep hP hk1
    clear hk1 hz1 hvm hB ht hFc
    obtain ⟨hb_15, hx_16⟩ := w_13
    refine lv_istore (lv' := [(5, .int r_14), (4, .ref b_5), (0, .ref o), (1, .int x1), (2, .int x2), (3, .int x3)]) hx hb dX10_aboard_24 hl (by decide +kernel) rfl (fun ls hl => ?_)
    refine lv_iload hx hb dX10_aboard_26 (lv_at hl 0 rfl) ?_
    refine lv_if_eq (tgt := 38) hx hb dX10_aboard_28 (by decide +kernel) (fun c_17 => ?_) (fun c_17 => ?_)
    · have dc_17 := c_eq (a := r_14.toInt) (b := 0) rfl (by decide +kernel) c_17
      have hi_18 := hx_16 c_17
      refine lv_aload_n hx hb dX10_aboard_38 rfl (lv_at hl 2 rfl) ?_
      refine lv_aload hx hb dX10_aboard_39 (lv_at hl 1 rfl) ?_
      refine lv_iload_n hx hb dX10_aboard_41 rfl (lv_at hl 4 rfl) ?_
      refine lv_iload_n hx hb dX10_aboard_42 rfl (lv_at hl 5 rfl) ?_
      have hFc : ∀ q, va_A [] H.size q → A q := pu_free hS hA
      refine va_calli (va_runV (As := [.ref b_5, .int x2, .int x3]) (rest := []) ⟨hx, hb, hml, hown, hts⟩ (c_X10_menAboard l dC dI H.size cq Z gI o to b_5 tb_5 x2 x3) (cwV 3 hts gX10_aboard_X10_menAboard rfl rfl rfl (by decide +kernel) ⟨(Nat.le_of_ble_eq_true rfl), (Nat.le_of_ble_eq_true rfl)⟩) (pr_V (r := (RX10, TX10, 16)) hP hK hD q_1 10 rfl hq_1) rfl rfl hl.1 rfl (lv_room (Nat.le_of_ble_eq_true rfl)) dX10_aboard_43 ⟨(Nat.le_of_ble_eq_true rfl), (Nat.le_of_ble_eq_true rfl)⟩) hS (fun q _ h => hFc q h) hFc (fun r_20 u t H locs ht hvm w_19 hB hz1 hk1 hS => ?_)
      have hP := pu_keep hP hk1
      clear hk1 hz1 hvm hB ht hFc
      exact W.iret (v := r_20) hx hb hr (fun t ht hW => ⟨⟨r_20, Z, rfl, ⟨gI, oX.rf⟩, ⟨by rw [ht]; exact hP, va_K.moved hW.alike hK, hD⟩⟩, hS.F ht⟩) hS.2.2 dX10_aboard_46
    · have dc_17 := c_ne (a := r_14.toInt) (b := 0) rfl (by decide +kernel) c_17
      refine lv_aload_n hx hb dX10_aboard_31 rfl (lv_at hl 2 rfl) ?_
      refine lv_iload hx hb dX10_aboard_32 (lv_at hl 0 rfl) ?_
      have hFc := o_free hD hS hA
      refine va_calli (va_runV (As := [.int r_14]) (rest := []) ⟨hx, hb, hml, hown, hts⟩ (c_X10_refuse l dC dI H.size cq Z gI o to r_14 (by omega)) (cwV 1 hts gX10_aboard_X10_refuse rfl rfl rfl (by decide +kernel) ⟨(Nat.le_of_ble_eq_true rfl), (Nat.le_of_ble_eq_true rfl)⟩) (pr_V (r := (RX10, TX10, 16)) hP hK hD q_1 10 rfl hq_1) rfl rfl hl.1 rfl (lv_room (Nat.le_of_ble_eq_true rfl)) dX10_aboard_34 ⟨(Nat.le_of_ble_eq_true rfl), (Nat.le_of_ble_eq_true rfl)⟩) hS (fun q _ h => hFc q h) hFc (fun r_22 u t H locs ht hvm w_21 hB hz1 hk1 hS => ?_)
      obtain ⟨S_23, rfl⟩ : ∃ z, z = u := ⟨_, rfl⟩
      obtain ⟨hP1, hK1, hD1⟩ := hB
      rw [ht] at hP1
      have hP : va_P (dC, dI) vwCl (oW cq S_23) H := hP1
      have hD : va_D A (oW cq S_23) := hD1.weaken (fun _ _ _ h => hFc _ h)
      clear hP1 hK1 hD1 hk1 hz1 hvm ht hFc
      obtain ⟨hIS_23, XS_23, hb_24, hx_25⟩ := w_21
      have X_26 : oX [2107] Z S_23 := oX.st oX.rf XS_23 (by decide +kernel)
      exact W.iret (v := r_22) hx hb hr (fun t ht hW => ⟨⟨r_22, S_23, rfl, ⟨hIS_23, X_26⟩, ⟨by rw [ht]; exact hP, va_K.moved hW.alike hK, hD⟩⟩, hS.F ht⟩) hS.2.2 dX10_aboard_37
set_option maxHeartbeats 4000000 in
set_option maxRecDepth 100000 in
theorem c_X10_group (l : Launch) (dC : Nat → ClassId) (dI : Nat → Nat → Nat) (sz : Nat) (cq : Nat → ClassId) (Z : oS) (gI : oInv Z) (o : Nat) (to : oty Z o 10) (x1 : Int32) : Met l yX10_group wsX10_group ({ frames := 1, cells := 0, slots := 0, locals := 21 }) (va_Pc [.ref o, .int x1] (pcW (dC, dI) (oT cq) (oW cq Z) sz)) (va_Qi (fun (r : Int32) (u : oS) => oInv u ∧ oX [2107] Z u) (fun u t => va_P (dC, dI) vwCl (oW cq u) t.heap ∧ va_K (dC, dI) vwCl (oT cq) t ∧ va_D (va_A (oW cq Z) sz) (oW cq u)) (va_A (oW cq Z) sz)) 0 0 (va_A (oW cq Z) sz) := by
  refine Met.ofW (cc := cX10_group) (maxL := 3) (ret := (some .int)) (by decide +kernel) rfl ?_
  intro p e s m args below meth c s₁ B hml hv
  obtain ⟨rfl, hsz, hP, hK, hD0⟩ := hv
  have hx := B.exec
  have hb := B.bytes
  have hr := B.returns
  have hts := atoms_spec (ws := wsX10_group) B.pre
  have hown : s.vm.findClass RX10 = some m.cls := findClass_of_methodNamed B.named
  have hlocks := B.notSynchronized
  subst hsz
  have hD := hD0.self (sz := s.heap.size)
  generalize hAe : va_A (oW cq Z) s.heap.size = A at hD ⊢
  have hA : ∀ q : Nat, s.heap.size ≤ q → A q := fun q h => by rw [← hAe]; exact Or.inr h
  have hS : va_S A s.heap s.heap [] := va_S.rf
  have hP : va_P (dC, dI) vwCl (oW cq Z) s.heap := hP
  have hl := lv_entry ([.ref o, .int x1]) (n := 3) (Nat.le_of_ble_eq_true rfl)
  rw [lg_entry_eq]
  generalize (lg_sl ([.ref o, .int x1]) ++ List.replicate (3 - (lg_sl ([.ref o, .int x1])).length) Slot.unset).toArray = ls at hl ⊢
  have hl : lv_has ls 3 [(0, .ref o), (1, .int x1)] := hl
  refine lv_aload_n hx hb dX10_group_0 rfl (lv_at hl 0 rfl) ?_
  refine lv_iload_n hx hb dX10_group_1 rfl (lv_at hl 1 rfl) ?_
  have hFc : ∀ q, va_A [] s.heap.size q → A q := pu_free hS hA
  obtain ⟨q_1, hq_1⟩ := og (cq := cq) to.1 (oE_10 to.2)
  refine va_callq (va_runV (As := [.int x1]) (rest := []) ⟨hx, hb, hml, hown, hts⟩ (c_X10_manAt l dC dI s.heap.size cq Z gI o to x1) (cwV 1 hts gX10_group_X10_manAt rfl rfl rfl (by decide +kernel) ⟨(Nat.le_of_ble_eq_true rfl), (Nat.le_of_ble_eq_true rfl)⟩) (pr_V (r := (RX10, TX10, 16)) hP hK hD q_1 10 rfl hq_1) rfl rfl hl.1 rfl (lv_room (Nat.le_of_ble_eq_true rfl)) dX10_group_2 ⟨(Nat.le_of_ble_eq_true rfl), (Nat.le_of_ble_eq_true rfl)⟩) hS (fun q _ h => hFc q h) hFc (fun r_3 u t H locs ht hvm w_2 hB hz1 hk1 hS => ?_)
  have hP := pu_keep hP hk1
  clear hk1 hz1 hvm hB ht hFc
  have hk_4 := w_2
  rcases r_3 with _ | b_5
  · refine W.eq (g2 := F0 m 5 ls [.null]) rfl ?_
    refine lv_astore_nN (lv' := [(2, .null), (0, .ref o), (1, .int x1)]) hx hb dX10_group_5 rfl hl (by decide +kernel) rfl (fun ls hl => ?_)
    refine lv_aload_nN hx hb dX10_group_6 rfl (lv_at hl 0 rfl) ?_
    refine lv_ifnonnullN hx hb dX10_group_7 ?_
    refine lv_aload_n hx hb dX10_group_10 rfl (lv_at hl 1 rfl) ?_
    refine lv_iconst (v := (-1)) hx hb dX10_group_11 (by decide +kernel) ?_
    have hFc := o_free hD hS hA
    refine va_calli (va_runV (As := [.int (-1)]) (rest := []) ⟨hx, hb, hml, hown, hts⟩ (c_X10_refuse l dC dI H.size cq Z gI o to (-1) (by decide +kernel)) (cwV 1 hts gX10_group_X10_refuse rfl rfl rfl (by decide +kernel) ⟨(Nat.le_of_ble_eq_true rfl), (Nat.le_of_ble_eq_true rfl)⟩) (pr_V (r := (RX10, TX10, 16)) hP hK hD q_1 10 rfl hq_1) rfl rfl hl.1 rfl (lv_room (Nat.le_of_ble_eq_true rfl)) dX10_group_12 ⟨(Nat.le_of_ble_eq_true rfl), (Nat.le_of_ble_eq_true rfl)⟩) hS (fun q _ h => hFc q h) hFc (fun r_7 u t H locs ht hvm w_6 hB hz1 hk1 hS => ?_)
    obtain ⟨S_8, rfl⟩ : ∃ z, z = u := ⟨_, rfl⟩
    obtain ⟨hP1, hK1, hD1⟩ := hB
    rw [ht] at hP1
    have hP : va_P (dC, dI) vwCl (oW cq S_8) H := hP1
    have hD : va_D A (oW cq S_8) := hD1.weaken (fun _ _ _ h => hFc _ h)
    clear hP1 hK1 hD1 hk1 hz1 hvm ht hFc
    obtain ⟨hIS_8, XS_8, hb_9, hx_10⟩ := w_6
    have X_11 : oX [2107] Z S_8 := oX.st oX.rf XS_8 (by decide +kernel)
    have rf_12 : r_7.toInt = -1 := by rw [hx_10]; decide
    refine lv_goto (tgt := 22) hx hb dX10_group_15 (by decide +kernel) ?_
    exact W.iret (v := r_7) hx hb hr (fun t ht hW => ⟨⟨r_7, S_8, rfl, ⟨hIS_8, X_11⟩, ⟨by rw [ht]; exact hP, va_K.moved hW.alike hK, hD⟩⟩, hS.F ht⟩) hS.2.2 dX10_group_22
  · refine W.eq (g2 := F0 m 5 ls [.ref b_5]) rfl ?_
    have tb_5 : oty Z b_5 6 := hk_4 b_5 rfl
    refine lv_astore_n (lv' := [(2, .ref b_5), (0, .ref o), (1, .int x1)]) hx hb dX10_group_5 rfl hl (by decide +kernel) rfl (fun ls hl => ?_)
    refine lv_aload_n hx hb dX10_group_6 rfl (lv_at hl 0 rfl) ?_
    refine lv_ifnonnull (tgt := 18) hx hb dX10_group_7 (by decide +kernel) ?_
    refine lv_aload_n hx hb dX10_group_18 rfl (lv_at hl 0 rfl) ?_
    obtain ⟨q_13, hq_13⟩ := og (cq := cq) tb_5.1 (oE_6 tb_5.2)
    refine va_get (D := (dC, dI)) (ci := 6) (v := .int (oI Z b_5 5)) (C := RX6) (T := TX6) (N := 6) hx hb hts in_wsX10_group_X6 hown hK hP q_13 hq_13 rfl 5 (by decide +kernel) (hts (.fieldLink RX10 311 "ShipOffice$Man" "leastAlike" "I") iw_X10_group_1) (fun _ h9 => h9) rfl dX10_group_19 ?_
    refine lv_topi (fun x_14 ex_14 => ?_)
    clear ex_14
    exact W.iret (v := x_14) hx hb hr (fun t ht hW => ⟨⟨x_14, Z, rfl, ⟨gI, oX.rf⟩, ⟨by rw [ht]; exact hP, va_K.moved hW.alike hK, hD⟩⟩, hS.F ht⟩) hS.2.2 dX10_group_22
set_option maxHeartbeats 4000000 in
set_option maxRecDepth 100000 in
theorem c_X10_borrowed (l : Launch) (dC : Nat → ClassId) (dI : Nat → Nat → Nat) (sz : Nat) (cq : Nat → ClassId) (Z : oS) (gI : oInv Z) (o : Nat) (to : oty Z o 10) (x1 : Int32) : Met l yX10_borrowed wsX10_borrowed ({ frames := 2, cells := 0, slots := 0, locals := 44 }) (va_Pc [.ref o, .int x1] (pcW (dC, dI) (oT cq) (oW cq Z) sz)) (va_Qi (fun (r : Int32) (u : oS) => oInv u ∧ oX [2107] Z u) (fun u t => va_P (dC, dI) vwCl (oW cq u) t.heap ∧ va_K (dC, dI) vwCl (oT cq) t ∧ va_D (va_A (oW cq Z) sz) (oW cq u)) (va_A (oW cq Z) sz)) 0 0 (va_A (oW cq Z) sz) := by
  refine Met.ofW (cc := cX10_borrowed) (maxL := 3) (ret := (some .int)) (by decide +kernel) rfl ?_
  intro p e s m args below meth c s₁ B hml hv
  obtain ⟨rfl, hsz, hP, hK, hD0⟩ := hv
  have hx := B.exec
  have hb := B.bytes
  have hr := B.returns
  have hts := atoms_spec (ws := wsX10_borrowed) B.pre
  have hown : s.vm.findClass RX10 = some m.cls := findClass_of_methodNamed B.named
  have hlocks := B.notSynchronized
  subst hsz
  have hD := hD0.self (sz := s.heap.size)
  generalize hAe : va_A (oW cq Z) s.heap.size = A at hD ⊢
  have hA : ∀ q : Nat, s.heap.size ≤ q → A q := fun q h => by rw [← hAe]; exact Or.inr h
  have hS : va_S A s.heap s.heap [] := va_S.rf
  have hP : va_P (dC, dI) vwCl (oW cq Z) s.heap := hP
  have hl := lv_entry ([.ref o, .int x1]) (n := 3) (Nat.le_of_ble_eq_true rfl)
  rw [lg_entry_eq]
  generalize (lg_sl ([.ref o, .int x1]) ++ List.replicate (3 - (lg_sl ([.ref o, .int x1])).length) Slot.unset).toArray = ls at hl ⊢
  have hl : lv_has ls 3 [(0, .ref o), (1, .int x1)] := hl
  refine lv_aload_n hx hb dX10_borrowed_0 rfl (lv_at hl 0 rfl) ?_
  refine lv_iload_n hx hb dX10_borrowed_1 rfl (lv_at hl 1 rfl) ?_
  have hFc : ∀ q, va_A [] s.heap.size q → A q := pu_free hS hA
  obtain ⟨q_1, hq_1⟩ := og (cq := cq) to.1 (oE_10 to.2)
  refine va_callq (va_runV (As := [.int x1]) (rest := []) ⟨hx, hb, hml, hown, hts⟩ (c_X10_agreementAt l dC dI s.heap.size cq Z gI o to x1) (cwV 1 hts gX10_borrowed_X10_agreementAt rfl rfl rfl (by decide +kernel) ⟨(Nat.le_of_ble_eq_true rfl), (Nat.le_of_ble_eq_true rfl)⟩) (pr_V (r := (RX10, TX10, 16)) hP hK hD q_1 10 rfl hq_1) rfl rfl hl.1 rfl (lv_room (Nat.le_of_ble_eq_true rfl)) dX10_borrowed_2 ⟨(Nat.le_of_ble_eq_true rfl), (Nat.le_of_ble_eq_true rfl)⟩) hS (fun q _ h => hFc q h) hFc (fun r_3 u t H locs ht hvm w_2 hB hz1 hk1 hS => ?_)
  have hP := pu_keep hP hk1
  clear hk1 hz1 hvm hB ht hFc
  have hk_4 := w_2
  rcases r_3 with _ | b_5
  · refine W.eq (g2 := F0 m 5 ls [.null]) rfl ?_
    refine lv_astore_nN (lv' := [(2, .null), (0, .ref o), (1, .int x1)]) hx hb dX10_borrowed_5 rfl hl (by decide +kernel) rfl (fun ls hl => ?_)
    refine lv_aload_nN hx hb dX10_borrowed_6 rfl (lv_at hl 0 rfl) ?_
    refine lv_ifnonnullN hx hb dX10_borrowed_7 ?_
    refine lv_aload_n hx hb dX10_borrowed_10 rfl (lv_at hl 1 rfl) ?_
    refine lv_iconst (v := (-1)) hx hb dX10_borrowed_11 (by decide +kernel) ?_
    have hFc := o_free hD hS hA
    refine va_calli (va_runV (As := [.int (-1)]) (rest := []) ⟨hx, hb, hml, hown, hts⟩ (c_X10_refuse l dC dI H.size cq Z gI o to (-1) (by decide +kernel)) (cwV 1 hts gX10_borrowed_X10_refuse rfl rfl rfl (by decide +kernel) ⟨(Nat.le_of_ble_eq_true rfl), (Nat.le_of_ble_eq_true rfl)⟩) (pr_V (r := (RX10, TX10, 16)) hP hK hD q_1 10 rfl hq_1) rfl rfl hl.1 rfl (lv_room (Nat.le_of_ble_eq_true rfl)) dX10_borrowed_12 ⟨(Nat.le_of_ble_eq_true rfl), (Nat.le_of_ble_eq_true rfl)⟩) hS (fun q _ h => hFc q h) hFc (fun r_7 u t H locs ht hvm w_6 hB hz1 hk1 hS => ?_)
    obtain ⟨S_8, rfl⟩ : ∃ z, z = u := ⟨_, rfl⟩
    obtain ⟨hP1, hK1, hD1⟩ := hB
    rw [ht] at hP1
    have hP : va_P (dC, dI) vwCl (oW cq S_8) H := hP1
    have hD : va_D A (oW cq S_8) := hD1.weaken (fun _ _ _ h => hFc _ h)
    clear hP1 hK1 hD1 hk1 hz1 hvm ht hFc
    obtain ⟨hIS_8, XS_8, hb_9, hx_10⟩ := w_6
    have X_11 : oX [2107] Z S_8 := oX.st oX.rf XS_8 (by decide +kernel)
    have rf_12 : r_7.toInt = -1 := by rw [hx_10]; decide
    exact W.iret (v := r_7) hx hb hr (fun t ht hW => ⟨⟨r_7, S_8, rfl, ⟨hIS_8, X_11⟩, ⟨by rw [ht]; exact hP, va_K.moved hW.alike hK, hD⟩⟩, hS.F ht⟩) hS.2.2 dX10_borrowed_15
  · refine W.eq (g2 := F0 m 5 ls [.ref b_5]) rfl ?_
    have tb_5 : oty Z b_5 1 := hk_4 b_5 rfl
    refine lv_astore_n (lv' := [(2, .ref b_5), (0, .ref o), (1, .int x1)]) hx hb dX10_borrowed_5 rfl hl (by decide +kernel) rfl (fun ls hl => ?_)
    refine lv_aload_n hx hb dX10_borrowed_6 rfl (lv_at hl 0 rfl) ?_
    refine lv_ifnonnull (tgt := 16) hx hb dX10_borrowed_7 (by decide +kernel) ?_
    refine lv_aload_n hx hb dX10_borrowed_16 rfl (lv_at hl 0 rfl) ?_
    obtain ⟨q_13, hq_13⟩ := og (cq := cq) tb_5.1 (oE_1 tb_5.2)
    rcases hb_15 : oP Z b_5 3 with _ | b_14
    · refine va_get (D := (dC, dI)) (ci := 1) (v := .null) (C := RX1) (T := TX1) (N := 18) hx hb hts in_wsX10_borrowed_X1 hown hK hP q_13 hq_13 rfl 3 (by decide +kernel) (hts (.fieldLink RX10 314 "ShipOffice$Agreement" "paper" "LShipOffice$Agreement;") iw_X10_borrowed_1) (fun _ h9 => h9) (o_rd hb_15) dX10_borrowed_17 ?_
      refine lv_ifnonnullN hx hb dX10_borrowed_20 ?_
      refine lv_iconst (v := 0) hx hb dX10_borrowed_23 (by decide +kernel) ?_
      exact W.iret (v := 0) hx hb hr (fun t ht hW => ⟨⟨0, Z, rfl, ⟨gI, oX.rf⟩, ⟨by rw [ht]; exact hP, va_K.moved hW.alike hK, hD⟩⟩, hS.F ht⟩) hS.2.2 dX10_borrowed_24
    · refine va_get (D := (dC, dI)) (ci := 1) (v := .ref b_14) (C := RX1) (T := TX1) (N := 18) hx hb hts in_wsX10_borrowed_X1 hown hK hP q_13 hq_13 rfl 3 (by decide +kernel) (hts (.fieldLink RX10 314 "ShipOffice$Agreement" "paper" "LShipOffice$Agreement;") iw_X10_borrowed_1) (fun _ h9 => h9) (o_rd hb_15) dX10_borrowed_17 ?_
      have tb_14 : oty Z b_14 1 := oInv.rd gI tb_5.2 hb_15 rfl rfl
      refine lv_ifnonnull (tgt := 25) hx hb dX10_borrowed_20 (by decide +kernel) ?_
      refine lv_aload_n hx hb dX10_borrowed_25 rfl (lv_at hl 0 rfl) ?_
      refine va_get (D := (dC, dI)) (ci := 1) (v := .ref b_14) (C := RX1) (T := TX1) (N := 18) hx hb hts in_wsX10_borrowed_X1 hown hK hP q_13 hq_13 rfl 3 (by decide +kernel) (hts (.fieldLink RX10 314 "ShipOffice$Agreement" "paper" "LShipOffice$Agreement;") iw_X10_borrowed_1) (fun _ h9 => h9) (o_rd hb_15) dX10_borrowed_26 ?_
      obtain ⟨q_16, hq_16⟩ := og (cq := cq) tb_14.1 (oE_1 tb_14.2)
      obtain ⟨b_17, hb_17⟩ := oInv.nn (i := 0) gI tb_14 rfl
      refine va_get (D := (dC, dI)) (ci := 1) (v := .ref b_17) (C := RX1) (T := TX1) (N := 18) hx hb hts in_wsX10_borrowed_X1 hown hK hP q_16 hq_16 rfl 0 (by decide +kernel) (hts (.fieldLink RX10 299 "ShipOffice$Agreement" "man" "LShipOffice$Man;") iw_X10_borrowed_2) (fun _ h9 => h9) (o_rd hb_17) dX10_borrowed_29 ?_
      have tb_17 : oty Z b_17 6 := oInv.rd gI tb_14.2 hb_17 rfl rfl
      obtain ⟨q_18, hq_18⟩ := og (cq := cq) tb_17.1 (oE_6 tb_17.2)
      refine va_get (D := (dC, dI)) (ci := 6) (v := .int (oI Z b_17 5)) (C := RX6) (T := TX6) (N := 6) hx hb hts in_wsX10_borrowed_X6 hown hK hP q_18 hq_18 rfl 5 (by decide +kernel) (hts (.fieldLink RX10 311 "ShipOffice$Man" "leastAlike" "I") iw_X10_borrowed_3) (fun _ h9 => h9) rfl dX10_borrowed_32 ?_
      refine lv_topi (fun x_19 ex_19 => ?_)
      clear ex_19
      refine lv_aload_n hx hb dX10_borrowed_35 rfl (lv_at hl 0 rfl) ?_
      obtain ⟨b_20, hb_20⟩ := oInv.nn (i := 0) gI tb_5 rfl
      refine va_get (D := (dC, dI)) (ci := 1) (v := .ref b_20) (C := RX1) (T := TX1) (N := 18) hx hb hts in_wsX10_borrowed_X1 hown hK hP q_13 hq_13 rfl 0 (by decide +kernel) (hts (.fieldLink RX10 299 "ShipOffice$Agreement" "man" "LShipOffice$Man;") iw_X10_borrowed_2) (fun _ h9 => h9) (o_rd hb_20) dX10_borrowed_36 ?_
      have tb_20 : oty Z b_20 6 := oInv.rd gI tb_5.2 hb_20 rfl rfl
      obtain ⟨q_21, hq_21⟩ := og (cq := cq) tb_20.1 (oE_6 tb_20.2)
      refine va_get (D := (dC, dI)) (ci := 6) (v := .int (oI Z b_20 5)) (C := RX6) (T := TX6) (N := 6) hx hb hts in_wsX10_borrowed_X6 hown hK hP q_21 hq_21 rfl 5 (by decide +kernel) (hts (.fieldLink RX10 311 "ShipOffice$Man" "leastAlike" "I") iw_X10_borrowed_3) (fun _ h9 => h9) rfl dX10_borrowed_39 ?_
      refine lv_topi (fun x_22 ex_22 => ?_)
      clear ex_22
      refine lv_icmp_ne (tgt := 53) hx hb dX10_borrowed_42 (by decide +kernel) (fun c_23 => ?_) (fun c_23 => ?_)
      · have dc_23 := c_ne (a := x_19.toInt) (b := x_22.toInt) rfl rfl c_23
        refine lv_iconst (v := 1) hx hb dX10_borrowed_53 (by decide +kernel) ?_
        refine lv_goto (tgt := 58) hx hb dX10_borrowed_54 (by decide +kernel) ?_
        exact W.iret (v := 1) hx hb hr (fun t ht hW => ⟨⟨1, Z, rfl, ⟨gI, oX.rf⟩, ⟨by rw [ht]; exact hP, va_K.moved hW.alike hK, hD⟩⟩, hS.F ht⟩) hS.2.2 dX10_borrowed_58
      · have dc_23 := c_eq (a := x_19.toInt) (b := x_22.toInt) rfl rfl c_23
        refine lv_aload_n hx hb dX10_borrowed_45 rfl (lv_at hl 1 rfl) ?_
        refine lv_aload_n hx hb dX10_borrowed_46 rfl (lv_at hl 0 rfl) ?_
        have hFc : ∀ q, va_A [] H.size q → A q := pu_free hS hA
        refine va_calli (va_runV (As := [.ref b_5]) (rest := []) ⟨hx, hb, hml, hown, hts⟩ (c_X10_isShownTwice l dC dI H.size cq Z gI o to b_5 tb_5) (cwV 1 hts gX10_borrowed_X10_isShownTwice rfl rfl rfl (by decide +kernel) ⟨(Nat.le_of_ble_eq_true rfl), (Nat.le_of_ble_eq_true rfl)⟩) (pr_V (r := (RX10, TX10, 16)) hP hK hD q_1 10 rfl hq_1) rfl rfl hl.1 rfl (lv_room (Nat.le_of_ble_eq_true rfl)) dX10_borrowed_47 ⟨(Nat.le_of_ble_eq_true rfl), (Nat.le_of_ble_eq_true rfl)⟩) hS (fun q _ h => hFc q h) hFc (fun r_25 u t H locs ht hvm w_24 hB hz1 hk1 hS => ?_)
        have hP := pu_keep hP hk1
        clear hk1 hz1 hvm hB ht hFc
        have hb_26 := w_24
        refine lv_if_eq (tgt := 57) hx hb dX10_borrowed_50 (by decide +kernel) (fun c_27 => ?_) (fun c_27 => ?_)
        · have dc_27 := c_eq (a := r_25.toInt) (b := 0) rfl (by decide +kernel) c_27
          refine lv_iconst (v := 0) hx hb dX10_borrowed_57 (by decide +kernel) ?_
          exact W.iret (v := 0) hx hb hr (fun t ht hW => ⟨⟨0, Z, rfl, ⟨gI, oX.rf⟩, ⟨by rw [ht]; exact hP, va_K.moved hW.alike hK, hD⟩⟩, hS.F ht⟩) hS.2.2 dX10_borrowed_58
        · have dc_27 := c_ne (a := r_25.toInt) (b := 0) rfl (by decide +kernel) c_27
          refine lv_iconst (v := 1) hx hb dX10_borrowed_53 (by decide +kernel) ?_
          refine lv_goto (tgt := 58) hx hb dX10_borrowed_54 (by decide +kernel) ?_
          exact W.iret (v := 1) hx hb hr (fun t ht hW => ⟨⟨1, Z, rfl, ⟨gI, oX.rf⟩, ⟨by rw [ht]; exact hP, va_K.moved hW.alike hK, hD⟩⟩, hS.F ht⟩) hS.2.2 dX10_borrowed_58
set_option maxHeartbeats 4000000 in
set_option maxRecDepth 100000 in
theorem c_X10_home (l : Launch) (dC : Nat → ClassId) (dI : Nat → Nat → Nat) (sz : Nat) (cq : Nat → ClassId) (Z : oS) (gI : oInv Z) (o : Nat) (to : oty Z o 10) (x1 : Int32) : Met l yX10_home wsX10_home ({ frames := 3, cells := 0, slots := 0, locals := 72 }) (va_Pc [.ref o, .int x1] (pcW (dC, dI) (oT cq) (oW cq Z) sz)) (va_Qi (fun (r : Int32) (u : oS) => oInv u ∧ oX [2107, 2110] Z u) (fun u t => va_P (dC, dI) vwCl (oW cq u) t.heap ∧ va_K (dC, dI) vwCl (oT cq) t ∧ va_D (va_A (oW cq Z) sz) (oW cq u)) (va_A (oW cq Z) sz)) 0 0 (va_A (oW cq Z) sz) := by
  refine Met.ofW (cc := cX10_home) (maxL := 6) (ret := (some .int)) (by decide +kernel) rfl ?_
  intro p e s m args below meth c s₁ B hml hv
  obtain ⟨rfl, hsz, hP, hK, hD0⟩ := hv
  have hx := B.exec
  have hb := B.bytes
  have hr := B.returns
  have hts := atoms_spec (ws := wsX10_home) B.pre
  have hown : s.vm.findClass RX10 = some m.cls := findClass_of_methodNamed B.named
  have hlocks := B.notSynchronized
  subst hsz
  have hD := hD0.self (sz := s.heap.size)
  generalize hAe : va_A (oW cq Z) s.heap.size = A at hD ⊢
  have hA : ∀ q : Nat, s.heap.size ≤ q → A q := fun q h => by rw [← hAe]; exact Or.inr h
  have hS : va_S A s.heap s.heap [] := va_S.rf
  have hP : va_P (dC, dI) vwCl (oW cq Z) s.heap := hP
  have hl := lv_entry ([.ref o, .int x1]) (n := 6) (Nat.le_of_ble_eq_true rfl)
  rw [lg_entry_eq]
  generalize (lg_sl ([.ref o, .int x1]) ++ List.replicate (6 - (lg_sl ([.ref o, .int x1])).length) Slot.unset).toArray = ls at hl ⊢
  have hl : lv_has ls 6 [(0, .ref o), (1, .int x1)] := hl
  refine lv_aload_n hx hb dX10_home_0 rfl (lv_at hl 0 rfl) ?_
  refine lv_iload_n hx hb dX10_home_1 rfl (lv_at hl 1 rfl) ?_
  have hFc : ∀ q, va_A [] s.heap.size q → A q := pu_free hS hA
  obtain ⟨q_1, hq_1⟩ := og (cq := cq) to.1 (oE_10 to.2)
  refine va_callq (va_runV (As := [.int x1]) (rest := []) ⟨hx, hb, hml, hown, hts⟩ (c_X10_manAt l dC dI s.heap.size cq Z gI o to x1) (cwV 1 hts gX10_home_X10_manAt rfl rfl rfl (by decide +kernel) ⟨(Nat.le_of_ble_eq_true rfl), (Nat.le_of_ble_eq_true rfl)⟩) (pr_V (r := (RX10, TX10, 16)) hP hK hD q_1 10 rfl hq_1) rfl rfl hl.1 rfl (lv_room (Nat.le_of_ble_eq_true rfl)) dX10_home_2 ⟨(Nat.le_of_ble_eq_true rfl), (Nat.le_of_ble_eq_true rfl)⟩) hS (fun q _ h => hFc q h) hFc (fun r_3 u t H locs ht hvm w_2 hB hz1 hk1 hS => ?_)
  have hP := pu_keep hP hk1
  clear hk1 hz1 hvm hB ht hFc
  have hk_4 := w_2
  rcases r_3 with _ | b_5
  · refine W.eq (g2 := F0 m 5 ls [.null]) rfl ?_
    refine lv_astore_nN (lv' := [(2, .null), (0, .ref o), (1, .int x1)]) hx hb dX10_home_5 rfl hl (by decide +kernel) rfl (fun ls hl => ?_)
    refine lv_aload_nN hx hb dX10_home_6 rfl (lv_at hl 0 rfl) ?_
    refine lv_ifnonnullN hx hb dX10_home_7 ?_
    refine lv_aload_n hx hb dX10_home_10 rfl (lv_at hl 1 rfl) ?_
    refine lv_iconst (v := (-1)) hx hb dX10_home_11 (by decide +kernel) ?_
    have hFc := o_free hD hS hA
    refine va_calli (va_runV (As := [.int (-1)]) (rest := []) ⟨hx, hb, hml, hown, hts⟩ (c_X10_refuse l dC dI H.size cq Z gI o to (-1) (by decide +kernel)) (cwV 1 hts gX10_home_X10_refuse rfl rfl rfl (by decide +kernel) ⟨(Nat.le_of_ble_eq_true rfl), (Nat.le_of_ble_eq_true rfl)⟩) (pr_V (r := (RX10, TX10, 16)) hP hK hD q_1 10 rfl hq_1) rfl rfl hl.1 rfl (lv_room (Nat.le_of_ble_eq_true rfl)) dX10_home_12 ⟨(Nat.le_of_ble_eq_true rfl), (Nat.le_of_ble_eq_true rfl)⟩) hS (fun q _ h => hFc q h) hFc (fun r_7 u t H locs ht hvm w_6 hB hz1 hk1 hS => ?_)
    obtain ⟨S_8, rfl⟩ : ∃ z, z = u := ⟨_, rfl⟩
    obtain ⟨hP1, hK1, hD1⟩ := hB
    rw [ht] at hP1
    have hP : va_P (dC, dI) vwCl (oW cq S_8) H := hP1
    have hD : va_D A (oW cq S_8) := hD1.weaken (fun _ _ _ h => hFc _ h)
    clear hP1 hK1 hD1 hk1 hz1 hvm ht hFc
    obtain ⟨hIS_8, XS_8, hb_9, hx_10⟩ := w_6
    have X_11 : oX [2107, 2110] Z S_8 := oX.st oX.rf XS_8 (by decide +kernel)
    have rf_12 : r_7.toInt = -1 := by rw [hx_10]; decide
    exact W.iret (v := r_7) hx hb hr (fun t ht hW => ⟨⟨r_7, S_8, rfl, ⟨hIS_8, X_11⟩, ⟨by rw [ht]; exact hP, va_K.moved hW.alike hK, hD⟩⟩, hS.F ht⟩) hS.2.2 dX10_home_15
  · refine W.eq (g2 := F0 m 5 ls [.ref b_5]) rfl ?_
    have tb_5 : oty Z b_5 6 := hk_4 b_5 rfl
    refine lv_astore_n (lv' := [(2, .ref b_5), (0, .ref o), (1, .int x1)]) hx hb dX10_home_5 rfl hl (by decide +kernel) rfl (fun ls hl => ?_)
    refine lv_aload_n hx hb dX10_home_6 rfl (lv_at hl 0 rfl) ?_
    refine lv_ifnonnull (tgt := 16) hx hb dX10_home_7 (by decide +kernel) ?_
    refine lv_iconst (v := 0) hx hb dX10_home_16 (by decide +kernel) ?_
    refine lv_istore_n (lv' := [(3, .int 0), (2, .ref b_5), (0, .ref o), (1, .int x1)]) hx hb dX10_home_17 rfl hl (by decide +kernel) rfl (fun ls hl => ?_)
    have cut_13 : ∀ (n : Nat) (y_14 : Int32) (S_15 : oS) (H : Heap) (locs : List Loc) (ls : Array Slot), 60 - y_14.toInt ≤ (n : Int) → (0 ≤ y_14.toInt ∧ y_14.toInt ≤ 60) → oInv S_15 → oX [2107, 2110] Z S_15 → va_P (dC, dI) vwCl (oW cq S_15) H → va_D A (oW cq S_15) → va_S A s.heap H locs → lv_has ls 6 [(3, .int y_14), (2, .ref b_5), (0, .ref o), (1, .int x1)] → W p l e (headSpec wsX10_home { frames := 3, cells := 0, slots := 0, locals := 72 }).room s m #[Value.ref o, Value.int x1] below meth c H locs 0 0 (MQ below (va_Qi (fun (r : Int32) (u : oS) => oInv u ∧ oX [2107, 2110] Z u) (fun u t => va_P (dC, dI) vwCl (oW cq u) t.heap ∧ va_K (dC, dI) vwCl (oT cq) t ∧ va_D A (oW cq u)) A) #[Value.ref o, Value.int x1] s 0 0 A) (F0 m 18 ls []) := by
      intro n
      induction n using Nat.strongRecOn with
      | ind n ih =>
        intro y_14 S_15 H locs ls hm hy_14 hIS_15 XS_15 hP hD hS hl
        have YS_15 : oX [2107, 2110] Z S_15 := oX.st oX.rf XS_15 (fun _ q => q)
        refine lv_iload_n hx hb dX10_home_18 rfl (lv_at hl 0 rfl) ?_
        refine lv_aload_n hx hb dX10_home_19 rfl (lv_at hl 2 rfl) ?_
        have t_16 : oty S_15 o 10 := (oX.ty XS_15 to)
        obtain ⟨q_17, hq_17⟩ := og (cq := cq) t_16.1 (oE_10 t_16.2)
        refine va_get (D := (dC, dI)) (ci := 10) (v := .int (oI S_15 o 6)) (C := RX10) (T := TX10) (N := 16) hx hb hts in_wsX10_home_X10 hown hK hP q_17 hq_17 rfl 6 (by decide +kernel) (hts (.fieldLink RX10 115 "ShipOffice" "agreementCount" "I") iw_X10_home_1) (fun _ h9 => h9) rfl dX10_home_20 ?_
        refine lv_topi (fun x_18 ex_18 => ?_)
        have hx_18 : 0 ≤ x_18.toInt ∧ x_18.toInt ≤ 60 := iv_of ex_18 (oInv.iv hIS_15 t_16.2 rfl rfl)
        have gx_18 : x_18.toInt = (oI S_15 o 6).toInt := iv_to ex_18
        clear ex_18
        refine lv_icmp_ge (tgt := 107) hx hb dX10_home_23 (by decide +kernel) (fun c_19 => ?_) (fun c_19 => ?_)
        · have dc_19 := c_le (a := x_18.toInt) (b := y_14.toInt) rfl rfl c_19
          refine lv_aload_n hx hb dX10_home_107 rfl (lv_at hl 2 rfl) ?_
          refine lv_bipush (v := (-3)) hx hb dX10_home_108 (by decide +kernel) ?_
          have hFc := o_free hD hS hA
          refine va_calli (va_runV (As := [.int (-3)]) (rest := []) ⟨hx, hb, hml, hown, hts⟩ (c_X10_refuse l dC dI H.size cq S_15 hIS_15 o t_16 (-3) (by decide +kernel)) (cwV 1 hts gX10_home_X10_refuse rfl rfl rfl (by decide +kernel) ⟨(Nat.le_of_ble_eq_true rfl), (Nat.le_of_ble_eq_true rfl)⟩) (pr_V (r := (RX10, TX10, 16)) hP hK hD q_17 10 rfl hq_17) rfl rfl hl.1 rfl (lv_room (Nat.le_of_ble_eq_true rfl)) dX10_home_110 ⟨(Nat.le_of_ble_eq_true rfl), (Nat.le_of_ble_eq_true rfl)⟩) hS (fun q _ h => hFc q h) hFc (fun r_21 u t H locs ht hvm w_20 hB hz1 hk1 hS => ?_)
          obtain ⟨S_22, rfl⟩ : ∃ z, z = u := ⟨_, rfl⟩
          obtain ⟨hP1, hK1, hD1⟩ := hB
          rw [ht] at hP1
          have hP : va_P (dC, dI) vwCl (oW cq S_22) H := hP1
          have hD : va_D A (oW cq S_22) := hD1.weaken (fun _ _ _ h => hFc _ h)
          clear hP1 hK1 hD1 hk1 hz1 hvm ht hFc
          obtain ⟨hIS_22, XS_22, hb_23, hx_24⟩ := w_20
          have X_25 : oX [2107, 2110] Z S_22 := oX.st YS_15 XS_22 (by decide +kernel)
          have rf_26 : r_21.toInt = -3 := by rw [hx_24]; decide
          exact W.iret (v := r_21) hx hb hr (fun t ht hW => ⟨⟨r_21, S_22, rfl, ⟨hIS_22, X_25⟩, ⟨by rw [ht]; exact hP, va_K.moved hW.alike hK, hD⟩⟩, hS.F ht⟩) hS.2.2 dX10_home_113
        · have dc_19 := c_nle (a := x_18.toInt) (b := y_14.toInt) rfl rfl c_19
          refine lv_aload_n hx hb dX10_home_26 rfl (lv_at hl 2 rfl) ?_
          obtain ⟨b_27, hb_27⟩ := oInv.nn (i := 5) hIS_15 t_16 rfl
          refine va_get (D := (dC, dI)) (ci := 10) (v := .ref b_27) (C := RX10) (T := TX10) (N := 16) hx hb hts in_wsX10_home_X10 hown hK hP q_17 hq_17 rfl 5 (by decide +kernel) (hts (.fieldLink RX10 23 "ShipOffice" "agreements" "[LShipOffice$Agreement;") iw_X10_home_2) (fun _ h9 => h9) (o_rd hb_27) dX10_home_27 ?_
          have tb_27 : oty S_15 b_27 16 := oInv.rd hIS_15 t_16.2 hb_27 rfl rfl
          refine lv_iload_n hx hb dX10_home_30 rfl (lv_at hl 0 rfl) ?_
          obtain ⟨q_28, hq_28⟩ := og (cq := cq) tb_27.1 (oE_16 tb_27.2)
          refine va_aldq hx hb hK hP q_28 5 hq_28 rfl (vp_in_iff.mpr (by omega)) dX10_home_31 ?_
          obtain ⟨b_29, hb_29⟩ := oInv.el (i := 6) (x := y_14) hIS_15 t_16 rfl hb_27 (by omega) (by omega)
          refine W.eq (g2 := F0 m 32 ls [.ref b_29]) (congrArg (fun z => F0 m 32 ls [va_rf z]) hb_29) ?_
          have tb_29 : oty S_15 b_29 1 := oInv.rd hIS_15 tb_27.2 hb_29 rfl rfl
          refine lv_astore (lv' := [(4, .ref b_29), (3, .int y_14), (2, .ref b_5), (0, .ref o), (1, .int x1)]) hx hb dX10_home_32 hl (by decide +kernel) rfl (fun ls hl => ?_)
          refine lv_aload hx hb dX10_home_34 (lv_at hl 0 rfl) ?_
          obtain ⟨q_30, hq_30⟩ := og (cq := cq) tb_29.1 (oE_1 tb_29.2)
          obtain ⟨b_31, hb_31⟩ := oInv.nn (i := 0) hIS_15 tb_29 rfl
          refine va_get (D := (dC, dI)) (ci := 1) (v := .ref b_31) (C := RX1) (T := TX1) (N := 18) hx hb hts in_wsX10_home_X1 hown hK hP q_30 hq_30 rfl 0 (by decide +kernel) (hts (.fieldLink RX10 299 "ShipOffice$Agreement" "man" "LShipOffice$Man;") iw_X10_home_3) (fun _ h9 => h9) (o_rd hb_31) dX10_home_36 ?_
          have tb_31 : oty S_15 b_31 6 := oInv.rd hIS_15 tb_29.2 hb_31 rfl rfl
          refine lv_aload_n hx hb dX10_home_39 rfl (lv_at hl 2 rfl) ?_
          refine lv_acmp_ne (rx := (some b_31)) (ry := (some b_5)) (tgt := 63) hx hb dX10_home_40 (by decide +kernel) (fun c_32 => ?_) (fun c_32 => ?_)
          · clear c_32
            refine lv_null hx hb dX10_home_63 ?_
            refine lv_astoreN (lv' := [(5, .null), (4, .ref b_29), (3, .int y_14), (2, .ref b_5), (0, .ref o), (1, .int x1)]) hx hb dX10_home_64 hl (by decide +kernel) rfl (fun ls hl => ?_)
            refine lv_aloadN hx hb dX10_home_66 (lv_at hl 0 rfl) ?_
            refine lv_ifnullN (tgt := 101) hx hb dX10_home_68 (by decide +kernel) ?_
            obtain ⟨x_33, ex_33⟩ : ∃ zq : Int32, y_14 + 1 = zq := ⟨_, rfl⟩
            have hx_33 : x_33.toInt = y_14.toInt + 1 := (iv_to ex_33).symm.trans (ad_i rfl (by decide +kernel) (by omega) (by omega))
            refine lv_iinc (v := x_33) (lv' := [(3, .int x_33), (5, .null), (4, .ref b_29), (2, .ref b_5), (0, .ref o), (1, .int x1)]) hx hb dX10_home_101 hl (k := 2) rfl ex_33 (by decide +kernel) rfl (fun ls hl => ?_)
            clear ex_33
            refine lv_goto (tgt := 18) hx hb dX10_home_104 (by decide +kernel) ?_
            exact ih (n - 1) (by omega) x_33 S_15 _ _ ls (by omega) (by omega) hIS_15 (oX.st oX.rf XS_15 (by decide +kernel)) hP hD hS (lv_sub hl [0, 3, 4, 5] rfl)
          · clear c_32
            refine lv_aload hx hb dX10_home_43 (lv_at hl 0 rfl) ?_
            refine lv_aload_n hx hb dX10_home_45 rfl (lv_at hl 3 rfl) ?_
            refine va_get (D := (dC, dI)) (ci := 10) (v := .int (oI S_15 o 0)) (C := RX10) (T := TX10) (N := 16) hx hb hts in_wsX10_home_X10 hown hK hP q_17 hq_17 rfl 0 (by decide +kernel) (hts (.fieldLink RX10 73 "ShipOffice" "now" "I") iw_X10_home_4) (fun _ h9 => h9) rfl dX10_home_46 ?_
            refine lv_topi (fun x_34 ex_34 => ?_)
            have hx_34 : 0 ≤ x_34.toInt ∧ x_34.toInt ≤ 3000 := iv_of ex_34 (oInv.iv hIS_15 t_16.2 rfl rfl)
            have gx_34 : x_34.toInt = (oI S_15 o 0).toInt := iv_to ex_34
            clear ex_34
            refine lv_aload_n hx hb dX10_home_49 rfl (lv_at hl 3 rfl) ?_
            refine va_get (D := (dC, dI)) (ci := 10) (v := .int (oI S_15 o 0)) (C := RX10) (T := TX10) (N := 16) hx hb hts in_wsX10_home_X10 hown hK hP q_17 hq_17 rfl 0 (by decide +kernel) (hts (.fieldLink RX10 73 "ShipOffice" "now" "I") iw_X10_home_4) (fun _ h9 => h9) rfl dX10_home_50 ?_
            refine lv_topi (fun x_35 ex_35 => ?_)
            have hx_35 : 0 ≤ x_35.toInt ∧ x_35.toInt ≤ 3000 := iv_of ex_35 (oInv.iv hIS_15 t_16.2 rfl rfl)
            have gx_35 : x_35.toInt = (oI S_15 o 0).toInt := iv_to ex_35
            clear ex_35
            refine lv_aload_n hx hb dX10_home_53 rfl (lv_at hl 3 rfl) ?_
            obtain ⟨b_36, hb_36⟩ := oInv.nn (i := 8) hIS_15 t_16 rfl
            refine va_get (D := (dC, dI)) (ci := 10) (v := .ref b_36) (C := RX10) (T := TX10) (N := 16) hx hb hts in_wsX10_home_X10 hown hK hP q_17 hq_17 rfl 8 (by decide +kernel) (hts (.fieldLink RX10 30 "ShipOffice" "law" "LShipOffice$Law;") iw_X10_home_5) (fun _ h9 => h9) (o_rd hb_36) dX10_home_54 ?_
            have tb_36 : oty S_15 b_36 5 := oInv.rd hIS_15 t_16.2 hb_36 rfl rfl
            have hFc : ∀ q, va_A [] H.size q → A q := pu_free hS hA
            refine va_callq (va_runV (As := [.int x_34, .int x_35, .ref b_36]) (rest := []) ⟨hx, hb, hml, hown, hts⟩ (c_X1_leavingOn l dC dI H.size cq S_15 hIS_15 b_29 tb_29 x_34 x_35 b_36 tb_36) (cwV 3 hts gX10_home_X1_leavingOn rfl rfl rfl (by decide +kernel) ⟨(Nat.le_of_ble_eq_true rfl), (Nat.le_of_ble_eq_true rfl)⟩) (pr_V (r := (RX1, TX1, 18)) hP hK hD q_30 1 rfl hq_30) rfl rfl hl.1 rfl (lv_room (Nat.le_of_ble_eq_true rfl)) dX10_home_57 ⟨(Nat.le_of_ble_eq_true rfl), (Nat.le_of_ble_eq_true rfl)⟩) hS (fun q _ h => hFc q h) hFc (fun r_38 u t H locs ht hvm w_37 hB hz1 hk1 hS => ?_)
            have hP := pu_keep hP hk1
            clear hk1 hz1 hvm hB ht hFc
            have hk_39 := w_37
            rcases r_38 with _ | b_40
            · refine W.eq (g2 := F0 m 60 ls [.null]) rfl ?_
              refine lv_goto (tgt := 64) hx hb dX10_home_60 (by decide +kernel) ?_
              refine lv_astoreN (lv' := [(5, .null), (4, .ref b_29), (3, .int y_14), (2, .ref b_5), (0, .ref o), (1, .int x1)]) hx hb dX10_home_64 hl (by decide +kernel) rfl (fun ls hl => ?_)
              refine lv_aloadN hx hb dX10_home_66 (lv_at hl 0 rfl) ?_
              refine lv_ifnullN (tgt := 101) hx hb dX10_home_68 (by decide +kernel) ?_
              obtain ⟨x_41, ex_41⟩ : ∃ zq : Int32, y_14 + 1 = zq := ⟨_, rfl⟩
              have hx_41 : x_41.toInt = y_14.toInt + 1 := (iv_to ex_41).symm.trans (ad_i rfl (by decide +kernel) (by omega) (by omega))
              refine lv_iinc (v := x_41) (lv' := [(3, .int x_41), (5, .null), (4, .ref b_29), (2, .ref b_5), (0, .ref o), (1, .int x1)]) hx hb dX10_home_101 hl (k := 2) rfl ex_41 (by decide +kernel) rfl (fun ls hl => ?_)
              clear ex_41
              refine lv_goto (tgt := 18) hx hb dX10_home_104 (by decide +kernel) ?_
              exact ih (n - 1) (by omega) x_41 S_15 _ _ ls (by omega) (by omega) hIS_15 (oX.st oX.rf XS_15 (by decide +kernel)) hP hD hS (lv_sub hl [0, 3, 4, 5] rfl)
            · refine W.eq (g2 := F0 m 60 ls [.ref b_40]) rfl ?_
              have tb_40 : oty S_15 b_40 3 := hk_39 b_40 rfl
              refine lv_goto (tgt := 64) hx hb dX10_home_60 (by decide +kernel) ?_
              refine lv_astore (lv' := [(5, .ref b_40), (4, .ref b_29), (3, .int y_14), (2, .ref b_5), (0, .ref o), (1, .int x1)]) hx hb dX10_home_64 hl (by decide +kernel) rfl (fun ls hl => ?_)
              refine lv_aload hx hb dX10_home_66 (lv_at hl 0 rfl) ?_
              refine lv_ifnull hx hb dX10_home_68 ?_
              refine lv_aload hx hb dX10_home_71 (lv_at hl 0 rfl) ?_
              obtain ⟨q_42, hq_42⟩ := og (cq := cq) tb_40.1 (oE_3 tb_40.2)
              refine va_get (D := (dC, dI)) (ci := 3) (v := .int (oI S_15 b_40 3)) (C := RX3) (T := TX3) (N := 6) hx hb hts in_wsX10_home_X3 hown hK hP q_42 hq_42 rfl 3 (by decide +kernel) (hts (.fieldLink RX10 326 "ShipOffice$Happening" "way" "I") iw_X10_home_6) (fun _ h9 => h9) rfl dX10_home_73 ?_
              refine lv_topi (fun x_43 ex_43 => ?_)
              have gx_43 : x_43.toInt = (oI S_15 b_40 3).toInt := iv_to ex_43
              clear ex_43
              refine lv_iconst (v := 1) hx hb dX10_home_76 (by decide +kernel) ?_
              refine lv_icmp_ne (tgt := 101) hx hb dX10_home_77 (by decide +kernel) (fun c_44 => ?_) (fun c_44 => ?_)
              · have dc_44 := c_ne (a := x_43.toInt) (b := 1) rfl (by decide +kernel) c_44
                obtain ⟨x_45, ex_45⟩ : ∃ zq : Int32, y_14 + 1 = zq := ⟨_, rfl⟩
                have hx_45 : x_45.toInt = y_14.toInt + 1 := (iv_to ex_45).symm.trans (ad_i rfl (by decide +kernel) (by omega) (by omega))
                refine lv_iinc (v := x_45) (lv' := [(3, .int x_45), (5, .ref b_40), (4, .ref b_29), (2, .ref b_5), (0, .ref o), (1, .int x1)]) hx hb dX10_home_101 hl (k := 2) rfl ex_45 (by decide +kernel) rfl (fun ls hl => ?_)
                clear ex_45
                refine lv_goto (tgt := 18) hx hb dX10_home_104 (by decide +kernel) ?_
                exact ih (n - 1) (by omega) x_45 S_15 _ _ ls (by omega) (by omega) hIS_15 (oX.st oX.rf XS_15 (by decide +kernel)) hP hD hS (lv_sub hl [0, 3, 4, 5] rfl)
              · have dc_44 := c_eq (a := x_43.toInt) (b := 1) rfl (by decide +kernel) c_44
                refine lv_aload_n hx hb dX10_home_80 rfl (lv_at hl 4 rfl) ?_
                obtain ⟨b_46, hb_46⟩ := oInv.nn (i := 10) hIS_15 t_16 rfl
                refine va_get (D := (dC, dI)) (ci := 10) (v := .ref b_46) (C := RX10) (T := TX10) (N := 16) hx hb hts in_wsX10_home_X10 hown hK hP q_17 hq_17 rfl 10 (by decide +kernel) (hts (.fieldLink RX10 44 "ShipOffice" "sea" "LShipOffice$Sea;") iw_X10_home_7) (fun _ h9 => h9) (o_rd hb_46) dX10_home_81 ?_
                have tb_46 : oty S_15 b_46 7 := oInv.rd hIS_15 t_16.2 hb_46 rfl rfl
                refine lv_aload hx hb dX10_home_84 (lv_at hl 0 rfl) ?_
                refine va_get (D := (dC, dI)) (ci := 3) (v := .int (oI S_15 b_40 4)) (C := RX3) (T := TX3) (N := 6) hx hb hts in_wsX10_home_X3 hown hK hP q_42 hq_42 rfl 4 (by decide +kernel) (hts (.fieldLink RX10 329 "ShipOffice$Happening" "port" "I") iw_X10_home_8) (fun _ h9 => h9) rfl dX10_home_86 ?_
                refine lv_topi (fun x_47 ex_47 => ?_)
                have gx_47 : x_47.toInt = (oI S_15 b_40 4).toInt := iv_to ex_47
                have w_48 := hIS_15.2.2.2.2.2.2 b_40 tb_40.2
                clear ex_47
                refine lv_aload hx hb dX10_home_89 (lv_at hl 1 rfl) ?_
                obtain ⟨b_49, hb_49⟩ := oInv.nn (i := 1) hIS_15 tb_29 rfl
                refine va_get (D := (dC, dI)) (ci := 1) (v := .ref b_49) (C := RX1) (T := TX1) (N := 18) hx hb hts in_wsX10_home_X1 hown hK hP q_30 hq_30 rfl 1 (by decide +kernel) (hts (.fieldLink RX10 118 "ShipOffice$Agreement" "voyage" "LShipOffice$Voyage;") iw_X10_home_9) (fun _ h9 => h9) (o_rd hb_49) dX10_home_91 ?_
                have tb_49 : oty S_15 b_49 9 := oInv.rd hIS_15 tb_29.2 hb_49 rfl rfl
                obtain ⟨q_50, hq_50⟩ := og (cq := cq) tb_49.1 (oE_9 tb_49.2)
                refine va_get (D := (dC, dI)) (ci := 9) (v := .int (oI S_15 b_49 2)) (C := RX9) (T := TX9) (N := 10) hx hb hts in_wsX10_home_X9 hown hK hP q_50 hq_50 rfl 2 (by decide +kernel) (hts (.fieldLink RX10 332 "ShipOffice$Voyage" "port" "I") iw_X10_home_10) (fun _ h9 => h9) rfl dX10_home_94 ?_
                refine lv_topi (fun x_51 ex_51 => ?_)
                have hx_51 : 0 ≤ x_51.toInt ∧ x_51.toInt ≤ 9 := iv_of ex_51 (oInv.iv hIS_15 tb_49.2 rfl rfl)
                clear ex_51
                have hFc := o_free hD hS hA
                obtain ⟨q_52, hq_52⟩ := og (cq := cq) tb_46.1 (oE_7 tb_46.2)
                refine va_calli (va_runV (As := [.int x_47, .int x_51]) (rest := []) ⟨hx, hb, hml, hown, hts⟩ (c_X7_way l dC dI H.size cq S_15 hIS_15 b_46 tb_46 x_47 (by omega) x_51 (by omega)) (cwV 2 hts gX10_home_X7_way rfl rfl rfl (by decide +kernel) ⟨(Nat.le_of_ble_eq_true rfl), (Nat.le_of_ble_eq_true rfl)⟩) (pr_V (r := (RX7, TX7, 2)) hP hK hD q_52 7 rfl hq_52) rfl rfl hl.1 rfl (lv_room (Nat.le_of_ble_eq_true rfl)) dX10_home_97 ⟨(Nat.le_of_ble_eq_true rfl), (Nat.le_of_ble_eq_true rfl)⟩) hS (fun q _ h => hFc q h) hFc (fun r_54 u t H locs ht hvm w_53 hB hz1 hk1 hS => ?_)
                obtain ⟨S_55, rfl⟩ : ∃ z, z = u := ⟨_, rfl⟩
                obtain ⟨hP1, hK1, hD1⟩ := hB
                rw [ht] at hP1
                have hP : va_P (dC, dI) vwCl (oW cq S_55) H := hP1
                have hD : va_D A (oW cq S_55) := hD1.weaken (fun _ _ _ h => hFc _ h)
                clear hP1 hK1 hD1 hk1 hz1 hvm ht hFc
                obtain ⟨hIS_55, XS_55⟩ := w_53
                have X_56 : oX [2107, 2110] Z S_55 := oX.st YS_15 XS_55 (by decide +kernel)
                exact W.iret (v := r_54) hx hb hr (fun t ht hW => ⟨⟨r_54, S_55, rfl, ⟨hIS_55, X_56⟩, ⟨by rw [ht]; exact hP, va_K.moved hW.alike hK, hD⟩⟩, hS.F ht⟩) hS.2.2 dX10_home_100
    have kc_57 : (0 : Int32).toInt = 0 := by decide
    exact cut_13 61 0 Z _ _ ls (by omega) (by decide +kernel) gI oX.rf hP hD hS (lv_sub hl [0, 1, 2, 3] rfl)
set_option maxHeartbeats 4000000 in
set_option maxRecDepth 100000 in
theorem c_X10_crew (l : Launch) (dC : Nat → ClassId) (dI : Nat → Nat → Nat) (sz : Nat) (tL tS tG : Nat) (cq : Nat → ClassId) (Z : oS) (gI : oInv Z) (o : Nat) (to : oty Z o 10) (x1 : Int32) (x2 : Int32) : Met l yX10_crew wsX10_crew ({ frames := 3, cells := 0, slots := 0, locals := 72 }) (va_Pc [.ref o, .int x1, .int x2] (pcO (dC, dI) (oT cq) (oW cq Z) sz tL tS tG (oW cq Z))) (va_Qi (fun (r : Int32) (u : oS) => oInv u ∧ oX [402, 404, 405, 2018, 2061, 2062, 2107] Z u) (fun u t => va_P (dC, dI) vwCl (oW cq u) t.heap ∧ va_K (dC, dI) vwCl (oT cq) t ∧ va_D (va_A (oW cq Z) sz) (oW cq u)) (va_A (oW cq Z) sz)) 0 0 (va_A (oW cq Z) sz) := by
  refine Met.ofW (cc := cX10_crew) (maxL := 4) (ret := (some .int)) (by decide +kernel) rfl ?_
  intro p e s m args below meth c s₁ B hml hv
  obtain ⟨rfl, ⟨hsz, hP, hK, hD0⟩, hZ⟩ := hv
  have hx := B.exec
  have hb := B.bytes
  have hr := B.returns
  have hts := atoms_spec (ws := wsX10_crew) B.pre
  have hown : s.vm.findClass RX10 = some m.cls := findClass_of_methodNamed B.named
  have hlocks := B.notSynchronized
  subst hsz
  have hD := hD0.self (sz := s.heap.size)
  generalize hAe : va_A (oW cq Z) s.heap.size = A at hD hZ ⊢
  have hA : ∀ q : Nat, s.heap.size ≤ q → A q := fun q h => by rw [← hAe]; exact Or.inr h
  have hS : va_S A s.heap s.heap [] := va_S.rf
  have hP : va_P (dC, dI) vwCl (oW cq Z) s.heap := hP
  have hl := lv_entry ([.ref o, .int x1, .int x2]) (n := 4) (Nat.le_of_ble_eq_true rfl)
  rw [lg_entry_eq]
  generalize (lg_sl ([.ref o, .int x1, .int x2]) ++ List.replicate (4 - (lg_sl ([.ref o, .int x1, .int x2])).length) Slot.unset).toArray = ls at hl ⊢
  have hl : lv_has ls 4 [(0, .ref o), (1, .int x1), (2, .int x2)] := hl
  refine lv_iload_n hx hb dX10_crew_0 rfl (lv_at hl 1 rfl) ?_
  refine lv_if_ge (tgt := 11) hx hb dX10_crew_1 (by decide +kernel) (fun c_1 => ?_) (fun c_1 => ?_)
  · have dc_1 := c_le (a := 0) (b := x1.toInt) (by decide +kernel) rfl c_1
    refine lv_iload_n hx hb dX10_crew_11 rfl (lv_at hl 1 rfl) ?_
    refine lv_bipush (v := 80) hx hb dX10_crew_12 (by decide +kernel) ?_
    refine lv_icmp_le (tgt := 24) hx hb dX10_crew_14 (by decide +kernel) (fun c_2 => ?_) (fun c_2 => ?_)
    · have dc_2 := c_le (a := x1.toInt) (b := 80) rfl (by decide +kernel) c_2
      refine lv_iload_n hx hb dX10_crew_24 rfl (lv_at hl 2 rfl) ?_
      refine lv_if_lt (tgt := 34) hx hb dX10_crew_25 (by decide +kernel) (fun c_3 => ?_) (fun c_3 => ?_)
      · have dc_3 := c_lt (a := x2.toInt) (b := 0) rfl (by decide +kernel) c_3
        refine lv_aload_n hx hb dX10_crew_34 rfl (lv_at hl 0 rfl) ?_
        refine lv_bipush (v := (-2)) hx hb dX10_crew_35 (by decide +kernel) ?_
        have hFc := o_free hD hS hA
        obtain ⟨q_4, hq_4⟩ := og (cq := cq) to.1 (oE_10 to.2)
        refine va_calli (va_runV (As := [.int (-2)]) (rest := []) ⟨hx, hb, hml, hown, hts⟩ (c_X10_refuse l dC dI s.heap.size cq Z gI o to (-2) (by decide +kernel)) (cwV 1 hts gX10_crew_X10_refuse rfl rfl rfl (by decide +kernel) ⟨(Nat.le_of_ble_eq_true rfl), (Nat.le_of_ble_eq_true rfl)⟩) (pr_V (r := (RX10, TX10, 16)) hP hK hD q_4 10 rfl hq_4) rfl rfl hl.1 rfl (lv_room (Nat.le_of_ble_eq_true rfl)) dX10_crew_37 ⟨(Nat.le_of_ble_eq_true rfl), (Nat.le_of_ble_eq_true rfl)⟩) hS (fun q _ h => hFc q h) hFc (fun r_6 u t H locs ht hvm w_5 hB hz1 hk1 hS => ?_)
        obtain ⟨S_7, rfl⟩ : ∃ z, z = u := ⟨_, rfl⟩
        obtain ⟨hP1, hK1, hD1⟩ := hB
        rw [ht] at hP1
        have hP : va_P (dC, dI) vwCl (oW cq S_7) H := hP1
        have hD : va_D A (oW cq S_7) := hD1.weaken (fun _ _ _ h => hFc _ h)
        clear hP1 hK1 hD1 hk1 hz1 hvm ht hFc
        obtain ⟨hIS_7, XS_7, hb_8, hx_9⟩ := w_5
        have X_10 : oX [402, 404, 405, 2018, 2061, 2062, 2107] Z S_7 := oX.st oX.rf XS_7 (by decide +kernel)
        have rf_11 : r_6.toInt = -2 := by rw [hx_9]; decide
        exact W.iret (v := r_6) hx hb hr (fun t ht hW => ⟨⟨r_6, S_7, rfl, ⟨hIS_7, X_10⟩, ⟨by rw [ht]; exact hP, va_K.moved hW.alike hK, hD⟩⟩, hS.F ht⟩) hS.2.2 dX10_crew_40
      · have dc_3 := c_nlt (a := x2.toInt) (b := 0) rfl (by decide +kernel) c_3
        refine lv_iload_n hx hb dX10_crew_28 rfl (lv_at hl 2 rfl) ?_
        refine lv_bipush (v := 8) hx hb dX10_crew_29 (by decide +kernel) ?_
        refine lv_icmp_le (tgt := 41) hx hb dX10_crew_31 (by decide +kernel) (fun c_12 => ?_) (fun c_12 => ?_)
        · have dc_12 := c_le (a := x2.toInt) (b := 8) rfl (by decide +kernel) c_12
          refine lv_aload_n hx hb dX10_crew_41 rfl (lv_at hl 0 rfl) ?_
          obtain ⟨q_13, hq_13⟩ := og (cq := cq) to.1 (oE_10 to.2)
          obtain ⟨b_14, hb_14⟩ := oInv.nn (i := 11) gI to rfl
          refine va_get (D := (dC, dI)) (ci := 10) (v := .ref b_14) (C := RX10) (T := TX10) (N := 16) hx hb hts in_wsX10_crew_X10 hown hK hP q_13 hq_13 rfl 11 (by decide +kernel) (hts (.fieldLink RX10 51 "ShipOffice" "hiring" "LShipOffice$Hiring;") iw_X10_crew_1) (fun _ h9 => h9) (o_rd hb_14) dX10_crew_42 ?_
          have tb_14 : oty Z b_14 4 := oInv.rd gI to.2 hb_14 rfl rfl
          refine lv_iload_n hx hb dX10_crew_45 rfl (lv_at hl 1 rfl) ?_
          have hFc := o_free hD hS hA
          obtain ⟨q_15, hq_15⟩ := og (cq := cq) tb_14.1 (oE_4 tb_14.2)
          refine va_callv (va_runV (As := [.int x1]) (rest := []) ⟨hx, hb, hml, hown, hts⟩ (c_X4_begin l dC dI s.heap.size tL tS tG cq Z gI b_14 tb_14 x1 (by omega)) (cwV 1 hts gX10_crew_X4_begin rfl rfl rfl (by decide +kernel) ⟨(Nat.le_of_ble_eq_true rfl), (Nat.le_of_ble_eq_true rfl)⟩) (pr_VO (r := (RX4, TX4, 6)) hP hK hD q_15 4 rfl hq_15 (hZ.go hS hFc)) rfl rfl hl.1 rfl (lv_room (Nat.le_of_ble_eq_true rfl)) dX10_crew_46 ⟨(Nat.le_of_ble_eq_true rfl), (Nat.le_of_ble_eq_true rfl)⟩) hS (fun q _ h => hFc q h) hFc (fun u t H locs ht hvm w_16 hB hz1 hk1 hS => ?_)
          obtain ⟨S_18, rfl⟩ : ∃ z, z = u := ⟨_, rfl⟩
          obtain ⟨hP1, hK1, hD1⟩ := hB
          rw [ht] at hP1
          have hP : va_P (dC, dI) vwCl (oW cq S_18) H := hP1
          have hD : va_D A (oW cq S_18) := hD1.weaken (fun _ _ _ h => hFc _ h)
          clear hP1 hK1 hD1 hk1 hz1 hvm ht hFc
          obtain ⟨hIS_18, XS_18⟩ := w_16
          have X_19 : oX [402, 404, 405, 2018, 2061, 2062, 2107] Z S_18 := oX.st oX.rf XS_18 (by decide +kernel)
          refine lv_iconst (v := 0) hx hb dX10_crew_49 (by decide +kernel) ?_
          refine lv_istore_n (lv' := [(3, .int 0), (0, .ref o), (1, .int x1), (2, .int x2)]) hx hb dX10_crew_50 rfl hl (by decide +kernel) rfl (fun ls hl => ?_)
          have cut_20 : ∀ (n : Nat) (y_21 : Int32) (S_22 : oS) (H : Heap) (locs : List Loc) (ls : Array Slot), 40 - y_21.toInt ≤ (n : Int) → (0 ≤ y_21.toInt ∧ y_21.toInt ≤ 40) → oInv S_22 → oX [402, 404, 405, 2018, 2061, 2062, 2107] S_18 S_22 → va_P (dC, dI) vwCl (oW cq S_22) H → va_D A (oW cq S_22) → va_S A s.heap H locs → lv_has ls 4 [(3, .int y_21), (0, .ref o), (1, .int x1), (2, .int x2)] → W p l e (headSpec wsX10_crew { frames := 3, cells := 0, slots := 0, locals := 72 }).room s m #[Value.ref o, Value.int x1, Value.int x2] below meth c H locs 0 0 (MQ below (va_Qi (fun (r : Int32) (u : oS) => oInv u ∧ oX [402, 404, 405, 2018, 2061, 2062, 2107] Z u) (fun u t => va_P (dC, dI) vwCl (oW cq u) t.heap ∧ va_K (dC, dI) vwCl (oT cq) t ∧ va_D A (oW cq u)) A) #[Value.ref o, Value.int x1, Value.int x2] s 0 0 A) (F0 m 51 ls []) := by
            intro n
            induction n using Nat.strongRecOn with
            | ind n ih =>
              intro y_21 S_22 H locs ls hm hy_21 hIS_22 XS_22 hP hD hS hl
              have YS_22 : oX [402, 404, 405, 2018, 2061, 2062, 2107] Z S_22 := oX.st X_19 XS_22 (fun _ q => q)
              refine lv_iload_n hx hb dX10_crew_51 rfl (lv_at hl 0 rfl) ?_
              refine lv_aload_n hx hb dX10_crew_52 rfl (lv_at hl 1 rfl) ?_
              have t_23 : oty S_22 o 10 := (oX.ty XS_22 (oX.ty XS_18 to))
              obtain ⟨q_24, hq_24⟩ := og (cq := cq) t_23.1 (oE_10 t_23.2)
              refine va_get (D := (dC, dI)) (ci := 10) (v := .int (oI S_22 o 2)) (C := RX10) (T := TX10) (N := 16) hx hb hts in_wsX10_crew_X10 hown hK hP q_24 hq_24 rfl 2 (by decide +kernel) (hts (.fieldLink RX10 86 "ShipOffice" "manCount" "I") iw_X10_crew_2) (fun _ h9 => h9) rfl dX10_crew_53 ?_
              refine lv_topi (fun x_25 ex_25 => ?_)
              have hx_25 : 0 ≤ x_25.toInt ∧ x_25.toInt ≤ 40 := iv_of ex_25 (oInv.iv hIS_22 t_23.2 rfl rfl)
              have gx_25 : x_25.toInt = (oI S_22 o 2).toInt := iv_to ex_25
              clear ex_25
              refine lv_icmp_ge (tgt := 103) hx hb dX10_crew_56 (by decide +kernel) (fun c_26 => ?_) (fun c_26 => ?_)
              · have dc_26 := c_le (a := x_25.toInt) (b := y_21.toInt) rfl rfl c_26
                refine lv_iload_n hx hb dX10_crew_103 rfl (lv_at hl 3 rfl) ?_
                refine lv_if_ne (tgt := 117) hx hb dX10_crew_104 (by decide +kernel) (fun c_27 => ?_) (fun c_27 => ?_)
                · have dc_27 := c_ne (a := x2.toInt) (b := 0) rfl (by decide +kernel) c_27
                  refine lv_aload_n hx hb dX10_crew_117 rfl (lv_at hl 1 rfl) ?_
                  obtain ⟨b_28, hb_28⟩ := oInv.nn (i := 11) hIS_22 t_23 rfl
                  refine va_get (D := (dC, dI)) (ci := 10) (v := .ref b_28) (C := RX10) (T := TX10) (N := 16) hx hb hts in_wsX10_crew_X10 hown hK hP q_24 hq_24 rfl 11 (by decide +kernel) (hts (.fieldLink RX10 51 "ShipOffice" "hiring" "LShipOffice$Hiring;") iw_X10_crew_1) (fun _ h9 => h9) (o_rd hb_28) dX10_crew_118 ?_
                  have tb_28 : oty S_22 b_28 4 := oInv.rd hIS_22 t_23.2 hb_28 rfl rfl
                  refine lv_iload_n hx hb dX10_crew_121 rfl (lv_at hl 3 rfl) ?_
                  refine lv_iconst (v := 1) hx hb dX10_crew_122 (by decide +kernel) ?_
                  refine lv_isub hx hb dX10_crew_123 ?_
                  refine lv_topi (fun x_29 ex_29 => ?_)
                  have hx_29 : x_29.toInt = x2.toInt - 1 := (iv_to ex_29).trans (sb_i rfl (by decide +kernel) (by omega) (by omega))
                  clear ex_29
                  have hFc : ∀ q, va_A [] H.size q → A q := pu_free hS hA
                  obtain ⟨q_30, hq_30⟩ := og (cq := cq) tb_28.1 (oE_4 tb_28.2)
                  refine va_calli (va_runV (As := [.int x_29]) (rest := []) ⟨hx, hb, hml, hown, hts⟩ (c_X4_hand l dC dI H.size cq S_22 hIS_22 b_28 tb_28 x_29) (cwV 1 hts gX10_crew_X4_hand rfl rfl rfl (by decide +kernel) ⟨(Nat.le_of_ble_eq_true rfl), (Nat.le_of_ble_eq_true rfl)⟩) (pr_V (r := (RX4, TX4, 6)) hP hK hD q_30 4 rfl hq_30) rfl rfl hl.1 rfl (lv_room (Nat.le_of_ble_eq_true rfl)) dX10_crew_124 ⟨(Nat.le_of_ble_eq_true rfl), (Nat.le_of_ble_eq_true rfl)⟩) hS (fun q _ h => hFc q h) hFc (fun r_32 u t H locs ht hvm w_31 hB hz1 hk1 hS => ?_)
                  have hP := pu_keep hP hk1
                  clear hk1 hz1 hvm hB ht hFc
                  exact W.iret (v := r_32) hx hb hr (fun t ht hW => ⟨⟨r_32, S_22, rfl, ⟨hIS_22, YS_22⟩, ⟨by rw [ht]; exact hP, va_K.moved hW.alike hK, hD⟩⟩, hS.F ht⟩) hS.2.2 dX10_crew_127
                · have dc_27 := c_eq (a := x2.toInt) (b := 0) rfl (by decide +kernel) c_27
                  refine lv_aload_n hx hb dX10_crew_107 rfl (lv_at hl 1 rfl) ?_
                  obtain ⟨b_33, hb_33⟩ := oInv.nn (i := 11) hIS_22 t_23 rfl
                  refine va_get (D := (dC, dI)) (ci := 10) (v := .ref b_33) (C := RX10) (T := TX10) (N := 16) hx hb hts in_wsX10_crew_X10 hown hK hP q_24 hq_24 rfl 11 (by decide +kernel) (hts (.fieldLink RX10 51 "ShipOffice" "hiring" "LShipOffice$Hiring;") iw_X10_crew_1) (fun _ h9 => h9) (o_rd hb_33) dX10_crew_108 ?_
                  have tb_33 : oty S_22 b_33 4 := oInv.rd hIS_22 t_23.2 hb_33 rfl rfl
                  have hFc : ∀ q, va_A [] H.size q → A q := pu_free hS hA
                  obtain ⟨q_34, hq_34⟩ := og (cq := cq) tb_33.1 (oE_4 tb_33.2)
                  refine va_calli (va_runV (As := []) (rest := []) ⟨hx, hb, hml, hown, hts⟩ (c_X4_leastSum l dC dI H.size cq S_22 hIS_22 b_33 tb_33) (cwV 0 hts gX10_crew_X4_leastSum rfl rfl rfl (by decide +kernel) ⟨(Nat.le_of_ble_eq_true rfl), (Nat.le_of_ble_eq_true rfl)⟩) (pr_V (r := (RX4, TX4, 6)) hP hK hD q_34 4 rfl hq_34) rfl rfl hl.1 rfl (lv_room (Nat.le_of_ble_eq_true rfl)) dX10_crew_111 ⟨(Nat.le_of_ble_eq_true rfl), (Nat.le_of_ble_eq_true rfl)⟩) hS (fun q _ h => hFc q h) hFc (fun r_36 u t H locs ht hvm w_35 hB hz1 hk1 hS => ?_)
                  have hP := pu_keep hP hk1
                  clear hk1 hz1 hvm hB ht hFc
                  refine lv_goto (tgt := 127) hx hb dX10_crew_114 (by decide +kernel) ?_
                  exact W.iret (v := r_36) hx hb hr (fun t ht hW => ⟨⟨r_36, S_22, rfl, ⟨hIS_22, YS_22⟩, ⟨by rw [ht]; exact hP, va_K.moved hW.alike hK, hD⟩⟩, hS.F ht⟩) hS.2.2 dX10_crew_127
              · have dc_26 := c_nle (a := x_25.toInt) (b := y_21.toInt) rfl rfl c_26
                refine lv_aload_n hx hb dX10_crew_59 rfl (lv_at hl 1 rfl) ?_
                obtain ⟨b_37, hb_37⟩ := oInv.nn (i := 1) hIS_22 t_23 rfl
                refine va_get (D := (dC, dI)) (ci := 10) (v := .ref b_37) (C := RX10) (T := TX10) (N := 16) hx hb hts in_wsX10_crew_X10 hown hK hP q_24 hq_24 rfl 1 (by decide +kernel) (hts (.fieldLink RX10 11 "ShipOffice" "men" "[LShipOffice$Man;") iw_X10_crew_3) (fun _ h9 => h9) (o_rd hb_37) dX10_crew_60 ?_
                have tb_37 : oty S_22 b_37 14 := oInv.rd hIS_22 t_23.2 hb_37 rfl rfl
                refine lv_iload_n hx hb dX10_crew_63 rfl (lv_at hl 0 rfl) ?_
                obtain ⟨q_38, hq_38⟩ := og (cq := cq) tb_37.1 (oE_14 tb_37.2)
                refine va_aldq hx hb hK hP q_38 3 hq_38 rfl (vp_in_iff.mpr (by omega)) dX10_crew_64 ?_
                obtain ⟨b_39, hb_39⟩ := oInv.el (i := 2) (x := y_21) hIS_22 t_23 rfl hb_37 (by omega) (by omega)
                refine W.eq (g2 := F0 m 65 ls [.ref b_39]) (congrArg (fun z => F0 m 65 ls [va_rf z]) hb_39) ?_
                have tb_39 : oty S_22 b_39 6 := oInv.rd hIS_22 tb_37.2 hb_39 rfl rfl
                have hFc : ∀ q, va_A [] H.size q → A q := pu_free hS hA
                obtain ⟨q_40, hq_40⟩ := og (cq := cq) tb_39.1 (oE_6 tb_39.2)
                refine va_calli (va_runV (As := []) (rest := []) ⟨hx, hb, hml, hown, hts⟩ (c_X6_asks l dC dI H.size cq S_22 hIS_22 b_39 tb_39) (cwV 0 hts gX10_crew_X6_asks rfl rfl rfl (by decide +kernel) ⟨(Nat.le_of_ble_eq_true rfl), (Nat.le_of_ble_eq_true rfl)⟩) (pr_V (r := (RX6, TX6, 6)) hP hK hD q_40 6 rfl hq_40) rfl rfl hl.1 rfl (lv_room (Nat.le_of_ble_eq_true rfl)) dX10_crew_65 ⟨(Nat.le_of_ble_eq_true rfl), (Nat.le_of_ble_eq_true rfl)⟩) hS (fun q _ h => hFc q h) hFc (fun r_42 u t H locs ht hvm w_41 hB hz1 hk1 hS => ?_)
                have hP := pu_keep hP hk1
                clear hk1 hz1 hvm hB ht hFc
                have hb_43 := w_41
                refine lv_if_eq (tgt := 97) hx hb dX10_crew_68 (by decide +kernel) (fun c_44 => ?_) (fun c_44 => ?_)
                · have dc_44 := c_eq (a := r_42.toInt) (b := 0) rfl (by decide +kernel) c_44
                  obtain ⟨x_45, ex_45⟩ : ∃ zq : Int32, y_21 + 1 = zq := ⟨_, rfl⟩
                  have hx_45 : x_45.toInt = y_21.toInt + 1 := (iv_to ex_45).symm.trans (ad_i rfl (by decide +kernel) (by omega) (by omega))
                  refine lv_iinc (v := x_45) (lv' := [(3, .int x_45), (0, .ref o), (1, .int x1), (2, .int x2)]) hx hb dX10_crew_97 hl (k := 0) rfl ex_45 (by decide +kernel) rfl (fun ls hl => ?_)
                  clear ex_45
                  refine lv_goto (tgt := 51) hx hb dX10_crew_100 (by decide +kernel) ?_
                  exact ih (n - 1) (by omega) x_45 S_22 _ _ ls (by omega) (by omega) hIS_22 (oX.st oX.rf XS_22 (by decide +kernel)) hP hD hS (lv_sub hl [0, 1, 2, 3] rfl)
                · have dc_44 := c_ne (a := r_42.toInt) (b := 0) rfl (by decide +kernel) c_44
                  refine lv_aload_n hx hb dX10_crew_71 rfl (lv_at hl 1 rfl) ?_
                  refine lv_aload_n hx hb dX10_crew_72 rfl (lv_at hl 1 rfl) ?_
                  refine va_get (D := (dC, dI)) (ci := 10) (v := .ref b_37) (C := RX10) (T := TX10) (N := 16) hx hb hts in_wsX10_crew_X10 hown hK hP q_24 hq_24 rfl 1 (by decide +kernel) (hts (.fieldLink RX10 11 "ShipOffice" "men" "[LShipOffice$Man;") iw_X10_crew_3) (fun _ h9 => h9) (o_rd hb_37) dX10_crew_73 ?_
                  refine lv_iload_n hx hb dX10_crew_76 rfl (lv_at hl 0 rfl) ?_
                  refine va_aldq hx hb hK hP q_38 3 hq_38 rfl (vp_in_iff.mpr (by omega)) dX10_crew_77 ?_
                  obtain ⟨b_46, hb_46⟩ := oInv.el (i := 2) (x := y_21) hIS_22 t_23 rfl hb_37 (by omega) (by omega)
                  refine W.eq (g2 := F0 m 78 ls [.ref b_46, .ref o]) (congrArg (fun z => F0 m 78 ls [va_rf z, .ref o]) hb_46) ?_
                  have tb_46 : oty S_22 b_46 6 := oInv.rd hIS_22 tb_37.2 hb_46 rfl rfl
                  have hFc : ∀ q, va_A [] H.size q → A q := pu_free hS hA
                  refine va_calli (va_runV (As := [.ref b_46]) (rest := []) ⟨hx, hb, hml, hown, hts⟩ (c_X10_isFree l dC dI H.size cq S_22 hIS_22 o t_23 b_46 tb_46) (cwV 1 hts gX10_crew_X10_isFree rfl rfl rfl (by decide +kernel) ⟨(Nat.le_of_ble_eq_true rfl), (Nat.le_of_ble_eq_true rfl)⟩) (pr_V (r := (RX10, TX10, 16)) hP hK hD q_24 10 rfl hq_24) rfl rfl hl.1 rfl (lv_room (Nat.le_of_ble_eq_true rfl)) dX10_crew_78 ⟨(Nat.le_of_ble_eq_true rfl), (Nat.le_of_ble_eq_true rfl)⟩) hS (fun q _ h => hFc q h) hFc (fun r_48 u t H locs ht hvm w_47 hB hz1 hk1 hS => ?_)
                  have hP := pu_keep hP hk1
                  clear hk1 hz1 hvm hB ht hFc
                  have hb_49 := w_47
                  refine lv_if_eq (tgt := 97) hx hb dX10_crew_81 (by decide +kernel) (fun c_50 => ?_) (fun c_50 => ?_)
                  · have dc_50 := c_eq (a := r_48.toInt) (b := 0) rfl (by decide +kernel) c_50
                    obtain ⟨x_51, ex_51⟩ : ∃ zq : Int32, y_21 + 1 = zq := ⟨_, rfl⟩
                    have hx_51 : x_51.toInt = y_21.toInt + 1 := (iv_to ex_51).symm.trans (ad_i rfl (by decide +kernel) (by omega) (by omega))
                    refine lv_iinc (v := x_51) (lv' := [(3, .int x_51), (0, .ref o), (1, .int x1), (2, .int x2)]) hx hb dX10_crew_97 hl (k := 0) rfl ex_51 (by decide +kernel) rfl (fun ls hl => ?_)
                    clear ex_51
                    refine lv_goto (tgt := 51) hx hb dX10_crew_100 (by decide +kernel) ?_
                    exact ih (n - 1) (by omega) x_51 S_22 _ _ ls (by omega) (by omega) hIS_22 (oX.st oX.rf XS_22 (by decide +kernel)) hP hD hS (lv_sub hl [0, 1, 2, 3] rfl)
                  · have dc_50 := c_ne (a := r_48.toInt) (b := 0) rfl (by decide +kernel) c_50
                    refine lv_aload_n hx hb dX10_crew_84 rfl (lv_at hl 1 rfl) ?_
                    obtain ⟨b_52, hb_52⟩ := oInv.nn (i := 11) hIS_22 t_23 rfl
                    refine va_get (D := (dC, dI)) (ci := 10) (v := .ref b_52) (C := RX10) (T := TX10) (N := 16) hx hb hts in_wsX10_crew_X10 hown hK hP q_24 hq_24 rfl 11 (by decide +kernel) (hts (.fieldLink RX10 51 "ShipOffice" "hiring" "LShipOffice$Hiring;") iw_X10_crew_1) (fun _ h9 => h9) (o_rd hb_52) dX10_crew_85 ?_
                    have tb_52 : oty S_22 b_52 4 := oInv.rd hIS_22 t_23.2 hb_52 rfl rfl
                    refine lv_aload_n hx hb dX10_crew_88 rfl (lv_at hl 1 rfl) ?_
                    refine va_get (D := (dC, dI)) (ci := 10) (v := .ref b_37) (C := RX10) (T := TX10) (N := 16) hx hb hts in_wsX10_crew_X10 hown hK hP q_24 hq_24 rfl 1 (by decide +kernel) (hts (.fieldLink RX10 11 "ShipOffice" "men" "[LShipOffice$Man;") iw_X10_crew_3) (fun _ h9 => h9) (o_rd hb_37) dX10_crew_89 ?_
                    refine lv_iload_n hx hb dX10_crew_92 rfl (lv_at hl 0 rfl) ?_
                    refine va_aldq hx hb hK hP q_38 3 hq_38 rfl (vp_in_iff.mpr (by omega)) dX10_crew_93 ?_
                    obtain ⟨b_53, hb_53⟩ := oInv.el (i := 2) (x := y_21) hIS_22 t_23 rfl hb_37 (by omega) (by omega)
                    refine W.eq (g2 := F0 m 94 ls [.ref b_53, .ref b_52]) (congrArg (fun z => F0 m 94 ls [va_rf z, .ref b_52]) hb_53) ?_
                    have tb_53 : oty S_22 b_53 6 := oInv.rd hIS_22 tb_37.2 hb_53 rfl rfl
                    have hFc := o_free hD hS hA
                    obtain ⟨q_54, hq_54⟩ := og (cq := cq) tb_52.1 (oE_4 tb_52.2)
                    refine va_callv (va_runV (As := [.ref b_53]) (rest := []) ⟨hx, hb, hml, hown, hts⟩ (c_X4_offer l dC dI H.size tL tS tG cq S_22 hIS_22 b_52 tb_52 b_53 tb_53) (cwV 1 hts gX10_crew_X4_offer rfl rfl rfl (by decide +kernel) ⟨(Nat.le_of_ble_eq_true rfl), (Nat.le_of_ble_eq_true rfl)⟩) (pr_VO (r := (RX4, TX4, 6)) hP hK hD q_54 4 rfl hq_54 (hZ.go hS hFc)) rfl rfl hl.1 rfl (lv_room (Nat.le_of_ble_eq_true rfl)) dX10_crew_94 ⟨(Nat.le_of_ble_eq_true rfl), (Nat.le_of_ble_eq_true rfl)⟩) hS (fun q _ h => hFc q h) hFc (fun u t H locs ht hvm w_55 hB hz1 hk1 hS => ?_)
                    obtain ⟨S_57, rfl⟩ : ∃ z, z = u := ⟨_, rfl⟩
                    obtain ⟨hP1, hK1, hD1⟩ := hB
                    rw [ht] at hP1
                    have hP : va_P (dC, dI) vwCl (oW cq S_57) H := hP1
                    have hD : va_D A (oW cq S_57) := hD1.weaken (fun _ _ _ h => hFc _ h)
                    clear hP1 hK1 hD1 hk1 hz1 hvm ht hFc
                    obtain ⟨hIS_57, XS_57⟩ := w_55
                    have X_58 : oX [402, 404, 405, 2018, 2061, 2062, 2107] Z S_57 := oX.st YS_22 XS_57 (by decide +kernel)
                    obtain ⟨x_59, ex_59⟩ : ∃ zq : Int32, y_21 + 1 = zq := ⟨_, rfl⟩
                    have hx_59 : x_59.toInt = y_21.toInt + 1 := (iv_to ex_59).symm.trans (ad_i rfl (by decide +kernel) (by omega) (by omega))
                    refine lv_iinc (v := x_59) (lv' := [(3, .int x_59), (0, .ref o), (1, .int x1), (2, .int x2)]) hx hb dX10_crew_97 hl (k := 0) rfl ex_59 (by decide +kernel) rfl (fun ls hl => ?_)
                    clear ex_59
                    refine lv_goto (tgt := 51) hx hb dX10_crew_100 (by decide +kernel) ?_
                    exact ih (n - 1) (by omega) x_59 S_57 _ _ ls (by omega) (by omega) hIS_57 (oX.st (oX.st oX.rf XS_22 (by decide +kernel)) XS_57 (by decide +kernel)) hP hD hS (lv_sub hl [0, 1, 2, 3] rfl)
          have kc_60 : (0 : Int32).toInt = 0 := by decide
          exact cut_20 41 0 S_18 _ _ ls (by omega) (by decide +kernel) hIS_18 oX.rf hP hD hS (lv_sub hl [0, 1, 2, 3] rfl)
        · have dc_12 := c_nle (a := x2.toInt) (b := 8) rfl (by decide +kernel) c_12
          refine lv_aload_n hx hb dX10_crew_34 rfl (lv_at hl 0 rfl) ?_
          refine lv_bipush (v := (-2)) hx hb dX10_crew_35 (by decide +kernel) ?_
          have hFc := o_free hD hS hA
          obtain ⟨q_61, hq_61⟩ := og (cq := cq) to.1 (oE_10 to.2)
          refine va_calli (va_runV (As := [.int (-2)]) (rest := []) ⟨hx, hb, hml, hown, hts⟩ (c_X10_refuse l dC dI s.heap.size cq Z gI o to (-2) (by decide +kernel)) (cwV 1 hts gX10_crew_X10_refuse rfl rfl rfl (by decide +kernel) ⟨(Nat.le_of_ble_eq_true rfl), (Nat.le_of_ble_eq_true rfl)⟩) (pr_V (r := (RX10, TX10, 16)) hP hK hD q_61 10 rfl hq_61) rfl rfl hl.1 rfl (lv_room (Nat.le_of_ble_eq_true rfl)) dX10_crew_37 ⟨(Nat.le_of_ble_eq_true rfl), (Nat.le_of_ble_eq_true rfl)⟩) hS (fun q _ h => hFc q h) hFc (fun r_63 u t H locs ht hvm w_62 hB hz1 hk1 hS => ?_)
          obtain ⟨S_64, rfl⟩ : ∃ z, z = u := ⟨_, rfl⟩
          obtain ⟨hP1, hK1, hD1⟩ := hB
          rw [ht] at hP1
          have hP : va_P (dC, dI) vwCl (oW cq S_64) H := hP1
          have hD : va_D A (oW cq S_64) := hD1.weaken (fun _ _ _ h => hFc _ h)
          clear hP1 hK1 hD1 hk1 hz1 hvm ht hFc
          obtain ⟨hIS_64, XS_64, hb_65, hx_66⟩ := w_62
          have X_67 : oX [402, 404, 405, 2018, 2061, 2062, 2107] Z S_64 := oX.st oX.rf XS_64 (by decide +kernel)
          have rf_68 : r_63.toInt = -2 := by rw [hx_66]; decide
          exact W.iret (v := r_63) hx hb hr (fun t ht hW => ⟨⟨r_63, S_64, rfl, ⟨hIS_64, X_67⟩, ⟨by rw [ht]; exact hP, va_K.moved hW.alike hK, hD⟩⟩, hS.F ht⟩) hS.2.2 dX10_crew_40
    · have dc_2 := c_nle (a := x1.toInt) (b := 80) rfl (by decide +kernel) c_2
      refine lv_aload_n hx hb dX10_crew_17 rfl (lv_at hl 0 rfl) ?_
      refine lv_bipush (v := (-6)) hx hb dX10_crew_18 (by decide +kernel) ?_
      have hFc := o_free hD hS hA
      obtain ⟨q_69, hq_69⟩ := og (cq := cq) to.1 (oE_10 to.2)
      refine va_calli (va_runV (As := [.int (-6)]) (rest := []) ⟨hx, hb, hml, hown, hts⟩ (c_X10_refuse l dC dI s.heap.size cq Z gI o to (-6) (by decide +kernel)) (cwV 1 hts gX10_crew_X10_refuse rfl rfl rfl (by decide +kernel) ⟨(Nat.le_of_ble_eq_true rfl), (Nat.le_of_ble_eq_true rfl)⟩) (pr_V (r := (RX10, TX10, 16)) hP hK hD q_69 10 rfl hq_69) rfl rfl hl.1 rfl (lv_room (Nat.le_of_ble_eq_true rfl)) dX10_crew_20 ⟨(Nat.le_of_ble_eq_true rfl), (Nat.le_of_ble_eq_true rfl)⟩) hS (fun q _ h => hFc q h) hFc (fun r_71 u t H locs ht hvm w_70 hB hz1 hk1 hS => ?_)
      obtain ⟨S_72, rfl⟩ : ∃ z, z = u := ⟨_, rfl⟩
      obtain ⟨hP1, hK1, hD1⟩ := hB
      rw [ht] at hP1
      have hP : va_P (dC, dI) vwCl (oW cq S_72) H := hP1
      have hD : va_D A (oW cq S_72) := hD1.weaken (fun _ _ _ h => hFc _ h)
      clear hP1 hK1 hD1 hk1 hz1 hvm ht hFc
      obtain ⟨hIS_72, XS_72, hb_73, hx_74⟩ := w_70
      have X_75 : oX [402, 404, 405, 2018, 2061, 2062, 2107] Z S_72 := oX.st oX.rf XS_72 (by decide +kernel)
      have rf_76 : r_71.toInt = -6 := by rw [hx_74]; decide
      exact W.iret (v := r_71) hx hb hr (fun t ht hW => ⟨⟨r_71, S_72, rfl, ⟨hIS_72, X_75⟩, ⟨by rw [ht]; exact hP, va_K.moved hW.alike hK, hD⟩⟩, hS.F ht⟩) hS.2.2 dX10_crew_23
  · have dc_1 := c_nle (a := 0) (b := x1.toInt) (by decide +kernel) rfl c_1
    refine lv_aload_n hx hb dX10_crew_4 rfl (lv_at hl 0 rfl) ?_
    refine lv_bipush (v := (-4)) hx hb dX10_crew_5 (by decide +kernel) ?_
    have hFc := o_free hD hS hA
    obtain ⟨q_77, hq_77⟩ := og (cq := cq) to.1 (oE_10 to.2)
    refine va_calli (va_runV (As := [.int (-4)]) (rest := []) ⟨hx, hb, hml, hown, hts⟩ (c_X10_refuse l dC dI s.heap.size cq Z gI o to (-4) (by decide +kernel)) (cwV 1 hts gX10_crew_X10_refuse rfl rfl rfl (by decide +kernel) ⟨(Nat.le_of_ble_eq_true rfl), (Nat.le_of_ble_eq_true rfl)⟩) (pr_V (r := (RX10, TX10, 16)) hP hK hD q_77 10 rfl hq_77) rfl rfl hl.1 rfl (lv_room (Nat.le_of_ble_eq_true rfl)) dX10_crew_7 ⟨(Nat.le_of_ble_eq_true rfl), (Nat.le_of_ble_eq_true rfl)⟩) hS (fun q _ h => hFc q h) hFc (fun r_79 u t H locs ht hvm w_78 hB hz1 hk1 hS => ?_)
    obtain ⟨S_80, rfl⟩ : ∃ z, z = u := ⟨_, rfl⟩
    obtain ⟨hP1, hK1, hD1⟩ := hB
    rw [ht] at hP1
    have hP : va_P (dC, dI) vwCl (oW cq S_80) H := hP1
    have hD : va_D A (oW cq S_80) := hD1.weaken (fun _ _ _ h => hFc _ h)
    clear hP1 hK1 hD1 hk1 hz1 hvm ht hFc
    obtain ⟨hIS_80, XS_80, hb_81, hx_82⟩ := w_78
    have X_83 : oX [402, 404, 405, 2018, 2061, 2062, 2107] Z S_80 := oX.st oX.rf XS_80 (by decide +kernel)
    have rf_84 : r_79.toInt = -4 := by rw [hx_82]; decide
    exact W.iret (v := r_79) hx hb hr (fun t ht hW => ⟨⟨r_79, S_80, rfl, ⟨hIS_80, X_83⟩, ⟨by rw [ht]; exact hP, va_K.moved hW.alike hK, hD⟩⟩, hS.F ht⟩) hS.2.2 dX10_crew_10
set_option maxHeartbeats 4000000 in
set_option maxRecDepth 100000 in
theorem c_X10_check (l : Launch) (dC : Nat → ClassId) (dI : Nat → Nat → Nat) (sz : Nat) (cq : Nat → ClassId) (Z : oS) (gI : oInv Z) (o : Nat) (to : oty Z o 10) (x1 : Int32) (x2 : Int32) (x3 : Int32) : Met l yX10_check wsX10_check ({ frames := 6, cells := 0, slots := 0, locals := 158 }) (va_Pc [.ref o, .int x1, .int x2, .int x3] (pcW (dC, dI) (oT cq) (oW cq Z) sz)) (va_Qi (fun (r : Int32) (u : oS) => oInv u ∧ oX [1014, 2107, 2108, 5001] Z u) (fun u t => va_P (dC, dI) vwCl (oW cq u) t.heap ∧ va_K (dC, dI) vwCl (oT cq) t ∧ va_D (va_A (oW cq Z) sz) (oW cq u)) (va_A (oW cq Z) sz)) 0 0 (va_A (oW cq Z) sz) := by
  refine Met.ofW (cc := cX10_check) (maxL := 9) (ret := (some .int)) (by decide +kernel) rfl ?_
  intro p e s m args below meth c s₁ B hml hv
  obtain ⟨rfl, hsz, hP, hK, hD0⟩ := hv
  have hx := B.exec
  have hb := B.bytes
  have hr := B.returns
  have hts := atoms_spec (ws := wsX10_check) B.pre
  have hown : s.vm.findClass RX10 = some m.cls := findClass_of_methodNamed B.named
  have hlocks := B.notSynchronized
  subst hsz
  have hD := hD0.self (sz := s.heap.size)
  generalize hAe : va_A (oW cq Z) s.heap.size = A at hD ⊢
  have hA : ∀ q : Nat, s.heap.size ≤ q → A q := fun q h => by rw [← hAe]; exact Or.inr h
  have hS : va_S A s.heap s.heap [] := va_S.rf
  have hP : va_P (dC, dI) vwCl (oW cq Z) s.heap := hP
  have hl := lv_entry ([.ref o, .int x1, .int x2, .int x3]) (n := 9) (Nat.le_of_ble_eq_true rfl)
  rw [lg_entry_eq]
  generalize (lg_sl ([.ref o, .int x1, .int x2, .int x3]) ++ List.replicate (9 - (lg_sl ([.ref o, .int x1, .int x2, .int x3])).length) Slot.unset).toArray = ls at hl ⊢
  have hl : lv_has ls 9 [(0, .ref o), (1, .int x1), (2, .int x2), (3, .int x3)] := hl
  refine lv_aload_n hx hb dX10_check_0 rfl (lv_at hl 0 rfl) ?_
  refine lv_iload_n hx hb dX10_check_1 rfl (lv_at hl 1 rfl) ?_
  have hFc : ∀ q, va_A [] s.heap.size q → A q := pu_free hS hA
  obtain ⟨q_1, hq_1⟩ := og (cq := cq) to.1 (oE_10 to.2)
  refine va_callq (va_runV (As := [.int x1]) (rest := []) ⟨hx, hb, hml, hown, hts⟩ (c_X10_voyageAt l dC dI s.heap.size cq Z gI o to x1) (cwV 1 hts gX10_check_X10_voyageAt rfl rfl rfl (by decide +kernel) ⟨(Nat.le_of_ble_eq_true rfl), (Nat.le_of_ble_eq_true rfl)⟩) (pr_V (r := (RX10, TX10, 16)) hP hK hD q_1 10 rfl hq_1) rfl rfl hl.1 rfl (lv_room (Nat.le_of_ble_eq_true rfl)) dX10_check_2 ⟨(Nat.le_of_ble_eq_true rfl), (Nat.le_of_ble_eq_true rfl)⟩) hS (fun q _ h => hFc q h) hFc (fun r_3 u t H locs ht hvm w_2 hB hz1 hk1 hS => ?_)
  have hP := pu_keep hP hk1
  clear hk1 hz1 hvm hB ht hFc
  have hk_4 := w_2
  rcases r_3 with _ | b_5
  · refine W.eq (g2 := F0 m 5 ls [.null]) rfl ?_
    refine lv_astoreN (lv' := [(4, .null), (0, .ref o), (1, .int x1), (2, .int x2), (3, .int x3)]) hx hb dX10_check_5 hl (by decide +kernel) rfl (fun ls hl => ?_)
    refine lv_aloadN hx hb dX10_check_7 (lv_at hl 0 rfl) ?_
    refine lv_ifnonnullN hx hb dX10_check_9 ?_
    refine lv_aload_n hx hb dX10_check_12 rfl (lv_at hl 1 rfl) ?_
    refine lv_iconst (v := (-1)) hx hb dX10_check_13 (by decide +kernel) ?_
    have hFc := o_free hD hS hA
    refine va_calli (va_runV (As := [.int (-1)]) (rest := []) ⟨hx, hb, hml, hown, hts⟩ (c_X10_refuse l dC dI H.size cq Z gI o to (-1) (by decide +kernel)) (cwV 1 hts gX10_check_X10_refuse rfl rfl rfl (by decide +kernel) ⟨(Nat.le_of_ble_eq_true rfl), (Nat.le_of_ble_eq_true rfl)⟩) (pr_V (r := (RX10, TX10, 16)) hP hK hD q_1 10 rfl hq_1) rfl rfl hl.1 rfl (lv_room (Nat.le_of_ble_eq_true rfl)) dX10_check_14 ⟨(Nat.le_of_ble_eq_true rfl), (Nat.le_of_ble_eq_true rfl)⟩) hS (fun q _ h => hFc q h) hFc (fun r_7 u t H locs ht hvm w_6 hB hz1 hk1 hS => ?_)
    obtain ⟨S_8, rfl⟩ : ∃ z, z = u := ⟨_, rfl⟩
    obtain ⟨hP1, hK1, hD1⟩ := hB
    rw [ht] at hP1
    have hP : va_P (dC, dI) vwCl (oW cq S_8) H := hP1
    have hD : va_D A (oW cq S_8) := hD1.weaken (fun _ _ _ h => hFc _ h)
    clear hP1 hK1 hD1 hk1 hz1 hvm ht hFc
    obtain ⟨hIS_8, XS_8, hb_9, hx_10⟩ := w_6
    have X_11 : oX [1014, 2107, 2108, 5001] Z S_8 := oX.st oX.rf XS_8 (by decide +kernel)
    have rf_12 : r_7.toInt = -1 := by rw [hx_10]; decide
    exact W.iret (v := r_7) hx hb hr (fun t ht hW => ⟨⟨r_7, S_8, rfl, ⟨hIS_8, X_11⟩, ⟨by rw [ht]; exact hP, va_K.moved hW.alike hK, hD⟩⟩, hS.F ht⟩) hS.2.2 dX10_check_17
  · refine W.eq (g2 := F0 m 5 ls [.ref b_5]) rfl ?_
    have tb_5 : oty Z b_5 9 := hk_4 b_5 rfl
    refine lv_astore (lv' := [(4, .ref b_5), (0, .ref o), (1, .int x1), (2, .int x2), (3, .int x3)]) hx hb dX10_check_5 hl (by decide +kernel) rfl (fun ls hl => ?_)
    refine lv_aload hx hb dX10_check_7 (lv_at hl 0 rfl) ?_
    refine lv_ifnonnull (tgt := 18) hx hb dX10_check_9 (by decide +kernel) ?_
    refine lv_aload_n hx hb dX10_check_18 rfl (lv_at hl 1 rfl) ?_
    refine lv_iload_n hx hb dX10_check_19 rfl (lv_at hl 3 rfl) ?_
    refine lv_iload_n hx hb dX10_check_20 rfl (lv_at hl 4 rfl) ?_
    have hFc : ∀ q, va_A [] H.size q → A q := pu_free hS hA
    refine va_calli (va_runV (As := [.int x2, .int x3]) (rest := []) ⟨hx, hb, hml, hown, hts⟩ (c_X10_askRefusal l dC dI H.size cq Z gI o to x2 x3) (cwV 2 hts gX10_check_X10_askRefusal rfl rfl rfl (by decide +kernel) ⟨(Nat.le_of_ble_eq_true rfl), (Nat.le_of_ble_eq_true rfl)⟩) (pr_V (r := (RX10, TX10, 16)) hP hK hD q_1 10 rfl hq_1) rfl rfl hl.1 rfl (lv_room (Nat.le_of_ble_eq_true rfl)) dX10_check_21 ⟨(Nat.le_of_ble_eq_true rfl), (Nat.le_of_ble_eq_true rfl)⟩) hS (fun q _ h => hFc q h) hFc (fun r_14 u t H locs ht hvm w_13 hB hz1 hk1 hS => ?_)
    have hP := pu_keep hP hk1
    clear hk1 hz1 hvm hB ht hFc
    obtain ⟨hb_15, hx_16⟩ := w_13
    refine lv_istore (lv' := [(5, .int r_14), (4, .ref b_5), (0, .ref o), (1, .int x1), (2, .int x2), (3, .int x3)]) hx hb dX10_check_24 hl (by decide +kernel) rfl (fun ls hl => ?_)
    refine lv_iload hx hb dX10_check_26 (lv_at hl 0 rfl) ?_
    refine lv_if_eq (tgt := 38) hx hb dX10_check_28 (by decide +kernel) (fun c_17 => ?_) (fun c_17 => ?_)
    · have dc_17 := c_eq (a := r_14.toInt) (b := 0) rfl (by decide +kernel) c_17
      have hi_18 := hx_16 c_17
      refine lv_aload_n hx hb dX10_check_38 rfl (lv_at hl 2 rfl) ?_
      refine va_get (D := (dC, dI)) (ci := 10) (v := .int (oI Z o 14)) (C := RX10) (T := TX10) (N := 16) hx hb hts in_wsX10_check_X10 hown hK hP q_1 hq_1 rfl 14 (by decide +kernel) (hts (.fieldLink RX10 353 "ShipOffice" "rowCount" "I") iw_X10_check_1) (fun _ h9 => h9) rfl dX10_check_39 ?_
      refine lv_topi (fun x_19 ex_19 => ?_)
      have hx_19 : 0 ≤ x_19.toInt ∧ x_19.toInt ≤ 12 := iv_of ex_19 (oInv.iv gI to.2 rfl rfl)
      have gx_19 : x_19.toInt = (oI Z o 14).toInt := iv_to ex_19
      clear ex_19
      refine lv_istore (lv' := [(6, .int x_19), (5, .int r_14), (4, .ref b_5), (0, .ref o), (1, .int x1), (2, .int x2), (3, .int x3)]) hx hb dX10_check_42 hl (by decide +kernel) rfl (fun ls hl => ?_)
      refine lv_aload_n hx hb dX10_check_44 rfl (lv_at hl 3 rfl) ?_
      refine lv_iconst (v := 0) hx hb dX10_check_45 (by decide +kernel) ?_
      refine va_put (D := (dC, dI)) (ci := 10) (v := .int 0) (ty := .int) (C := RX10) (T := TX10) (N := 16) hx hb hts in_wsX10_check_X10 tyX10 tyX10_ok nmX10 hown hK hP hD hS q_1 hq_1 rfl 14 (by decide +kernel) (hts (.fieldLink RX10 353 "ShipOffice" "rowCount" "I") iw_X10_check_1) (fun _ h9 => h9) rfl (by decide +kernel) rfl rfl (Nat.le_of_ble_eq_true rfl) dX10_check_46 (fun H locs hP1 hD1 hS => ?_)
      obtain ⟨S_20, eS_20⟩ : ∃ zq, zq = setI Z o 14 0 := ⟨_, rfl⟩
      have hP : va_P (dC, dI) vwCl (oW cq S_20) H := by rw [eS_20]; exact cP (oset to.1 hq_1 hD rfl (he_10_14 to.2) neI) hP1
      have hD : va_D A (oW cq S_20) := by rw [eS_20]; exact cD (oset to.1 hq_1 hD rfl (he_10_14 to.2) neI) hD1
      clear hP1 hD1
      have hIS_20 : oInv S_20 := by rw [eS_20]; exact oInv.I0 (k := 10) (lo := 0) (hi := 12) gI to.2 (by decide +kernel) rfl rfl rfl (by decide +kernel)
      have XS_20 : oX [1014] Z S_20 := by rw [eS_20]; exact oX.I (k := 10) (key := 1014) to.2 rfl (List.mem_singleton.mpr rfl)
      have X_21 : oX [1014, 2107, 2108, 5001] Z S_20 := oX.st oX.rf XS_20 (by decide +kernel)
      have g_22 : (oI S_20 o 14).toInt = 0 := by rw [eS_20, setI_same]; decide
      refine lv_iconst (v := 0) hx hb dX10_check_49 (by decide +kernel) ?_
      refine lv_istore (lv' := [(7, .int 0), (6, .int x_19), (5, .int r_14), (4, .ref b_5), (0, .ref o), (1, .int x1), (2, .int x2), (3, .int x3)]) hx hb dX10_check_50 hl (by decide +kernel) rfl (fun ls hl => ?_)
      refine lv_iconst (v := 0) hx hb dX10_check_52 (by decide +kernel) ?_
      refine lv_istore (lv' := [(8, .int 0), (7, .int 0), (6, .int x_19), (5, .int r_14), (4, .ref b_5), (0, .ref o), (1, .int x1), (2, .int x2), (3, .int x3)]) hx hb dX10_check_53 hl (by decide +kernel) rfl (fun ls hl => ?_)
      have cut_23 : ∀ (n : Nat) (y_24 : Int32) (y_25 : Int32) (S_26 : oS) (H : Heap) (locs : List Loc) (ls : Array Slot), 60 - y_25.toInt ≤ (n : Int) → (0 ≤ y_24.toInt ∧ y_24.toInt ≤ 60) → (0 ≤ y_25.toInt ∧ y_25.toInt ≤ 60) → y_24.toInt ≤ y_25.toInt → oInv S_26 → oX [1014, 2107, 2108, 5001] S_20 S_26 → va_P (dC, dI) vwCl (oW cq S_26) H → va_D A (oW cq S_26) → va_S A s.heap H locs → lv_has ls 9 [(7, .int y_24), (8, .int y_25), (6, .int x_19), (5, .int r_14), (4, .ref b_5), (0, .ref o), (1, .int x1), (2, .int x2), (3, .int x3)] → W p l e (headSpec wsX10_check { frames := 6, cells := 0, slots := 0, locals := 158 }).room s m #[Value.ref o, Value.int x1, Value.int x2, Value.int x3] below meth c H locs 0 0 (MQ below (va_Qi (fun (r : Int32) (u : oS) => oInv u ∧ oX [1014, 2107, 2108, 5001] Z u) (fun u t => va_P (dC, dI) vwCl (oW cq u) t.heap ∧ va_K (dC, dI) vwCl (oT cq) t ∧ va_D A (oW cq u)) A) #[Value.ref o, Value.int x1, Value.int x2, Value.int x3] s 0 0 A) (F0 m 55 ls []) := by
        intro n
        induction n using Nat.strongRecOn with
        | ind n ih =>
          intro y_24 y_25 S_26 H locs ls hm hy_24 hy_25 hq0_cut_23 hIS_26 XS_26 hP hD hS hl
          have YS_26 : oX [1014, 2107, 2108, 5001] Z S_26 := oX.st X_21 XS_26 (fun _ q => q)
          refine lv_iload hx hb dX10_check_55 (lv_at hl 1 rfl) ?_
          refine lv_aload_n hx hb dX10_check_57 rfl (lv_at hl 5 rfl) ?_
          have t_27 : oty S_26 o 10 := (oX.ty XS_26 (oX.ty XS_20 to))
          obtain ⟨q_28, hq_28⟩ := og (cq := cq) t_27.1 (oE_10 t_27.2)
          refine va_get (D := (dC, dI)) (ci := 10) (v := .int (oI S_26 o 6)) (C := RX10) (T := TX10) (N := 16) hx hb hts in_wsX10_check_X10 hown hK hP q_28 hq_28 rfl 6 (by decide +kernel) (hts (.fieldLink RX10 115 "ShipOffice" "agreementCount" "I") iw_X10_check_2) (fun _ h9 => h9) rfl dX10_check_58 ?_
          refine lv_topi (fun x_29 ex_29 => ?_)
          have hx_29 : 0 ≤ x_29.toInt ∧ x_29.toInt ≤ 60 := iv_of ex_29 (oInv.iv hIS_26 t_27.2 rfl rfl)
          have gx_29 : x_29.toInt = (oI S_26 o 6).toInt := iv_to ex_29
          clear ex_29
          refine lv_icmp_ge (tgt := 121) hx hb dX10_check_61 (by decide +kernel) (fun c_30 => ?_) (fun c_30 => ?_)
          · have dc_30 := c_le (a := x_29.toInt) (b := y_25.toInt) rfl rfl c_30
            refine lv_iload hx hb dX10_check_121 (lv_at hl 0 rfl) ?_
            refine lv_iload hx hb dX10_check_123 (lv_at hl 2 rfl) ?_
            refine lv_icmp_ge (tgt := 133) hx hb dX10_check_125 (by decide +kernel) (fun c_31 => ?_) (fun c_31 => ?_)
            · have dc_31 := c_le (a := x_19.toInt) (b := y_24.toInt) rfl rfl c_31
              refine lv_bipush (v := (-9)) hx hb dX10_check_133 (by decide +kernel) ?_
              exact W.iret (v := (-9)) hx hb hr (fun t ht hW => ⟨⟨(-9), S_26, rfl, ⟨hIS_26, YS_26⟩, ⟨by rw [ht]; exact hP, va_K.moved hW.alike hK, hD⟩⟩, hS.F ht⟩) hS.2.2 dX10_check_135
            · have dc_31 := c_nle (a := x_19.toInt) (b := y_24.toInt) rfl rfl c_31
              refine lv_iload hx hb dX10_check_128 (lv_at hl 0 rfl) ?_
              refine lv_goto (tgt := 135) hx hb dX10_check_130 (by decide +kernel) ?_
              exact W.iret (v := y_24) hx hb hr (fun t ht hW => ⟨⟨y_24, S_26, rfl, ⟨hIS_26, YS_26⟩, ⟨by rw [ht]; exact hP, va_K.moved hW.alike hK, hD⟩⟩, hS.F ht⟩) hS.2.2 dX10_check_135
          · have dc_30 := c_nle (a := x_29.toInt) (b := y_25.toInt) rfl rfl c_30
            refine lv_aload_n hx hb dX10_check_64 rfl (lv_at hl 5 rfl) ?_
            obtain ⟨b_32, hb_32⟩ := oInv.nn (i := 5) hIS_26 t_27 rfl
            refine va_get (D := (dC, dI)) (ci := 10) (v := .ref b_32) (C := RX10) (T := TX10) (N := 16) hx hb hts in_wsX10_check_X10 hown hK hP q_28 hq_28 rfl 5 (by decide +kernel) (hts (.fieldLink RX10 23 "ShipOffice" "agreements" "[LShipOffice$Agreement;") iw_X10_check_3) (fun _ h9 => h9) (o_rd hb_32) dX10_check_65 ?_
            have tb_32 : oty S_26 b_32 16 := oInv.rd hIS_26 t_27.2 hb_32 rfl rfl
            refine lv_iload hx hb dX10_check_68 (lv_at hl 1 rfl) ?_
            obtain ⟨q_33, hq_33⟩ := og (cq := cq) tb_32.1 (oE_16 tb_32.2)
            refine va_aldq hx hb hK hP q_33 5 hq_33 rfl (vp_in_iff.mpr (by omega)) dX10_check_70 ?_
            obtain ⟨b_34, hb_34⟩ := oInv.el (i := 6) (x := y_25) hIS_26 t_27 rfl hb_32 (by omega) (by omega)
            refine W.eq (g2 := F0 m 71 ls [.ref b_34]) (congrArg (fun z => F0 m 71 ls [va_rf z]) hb_34) ?_
            have tb_34 : oty S_26 b_34 1 := oInv.rd hIS_26 tb_32.2 hb_34 rfl rfl
            obtain ⟨q_35, hq_35⟩ := og (cq := cq) tb_34.1 (oE_1 tb_34.2)
            obtain ⟨b_36, hb_36⟩ := oInv.nn (i := 1) hIS_26 tb_34 rfl
            refine va_get (D := (dC, dI)) (ci := 1) (v := .ref b_36) (C := RX1) (T := TX1) (N := 18) hx hb hts in_wsX10_check_X1 hown hK hP q_35 hq_35 rfl 1 (by decide +kernel) (hts (.fieldLink RX10 118 "ShipOffice$Agreement" "voyage" "LShipOffice$Voyage;") iw_X10_check_4) (fun _ h9 => h9) (o_rd hb_36) dX10_check_71 ?_
            have tb_36 : oty S_26 b_36 9 := oInv.rd hIS_26 tb_34.2 hb_36 rfl rfl
            refine lv_aload hx hb dX10_check_74 (lv_at hl 4 rfl) ?_
            refine lv_acmp_ne (rx := (some b_36)) (ry := (some b_5)) (tgt := 115) hx hb dX10_check_76 (by decide +kernel) (fun c_37 => ?_) (fun c_37 => ?_)
            · clear c_37
              obtain ⟨x_38, ex_38⟩ : ∃ zq : Int32, y_25 + 1 = zq := ⟨_, rfl⟩
              have hx_38 : x_38.toInt = y_25.toInt + 1 := (iv_to ex_38).symm.trans (ad_i rfl (by decide +kernel) (by omega) (by omega))
              refine lv_iinc (v := x_38) (lv' := [(8, .int x_38), (7, .int y_24), (6, .int x_19), (5, .int r_14), (4, .ref b_5), (0, .ref o), (1, .int x1), (2, .int x2), (3, .int x3)]) hx hb dX10_check_115 hl (k := 1) rfl ex_38 (by decide +kernel) rfl (fun ls hl => ?_)
              clear ex_38
              refine lv_goto (tgt := 55) hx hb dX10_check_118 (by decide +kernel) ?_
              exact ih (n - 1) (by omega) y_24 x_38 S_26 _ _ ls (by omega) (by omega) (by omega) (by omega) hIS_26 (oX.st oX.rf XS_26 (by decide +kernel)) hP hD hS (lv_sub hl [1, 0, 2, 3, 4, 5, 6, 7, 8] rfl)
            · clear c_37
              refine lv_iload hx hb dX10_check_79 (lv_at hl 0 rfl) ?_
              refine lv_iload hx hb dX10_check_81 (lv_at hl 2 rfl) ?_
              refine lv_icmp_ge (tgt := 109) hx hb dX10_check_83 (by decide +kernel) (fun c_39 => ?_) (fun c_39 => ?_)
              · have dc_39 := c_le (a := x_19.toInt) (b := y_24.toInt) rfl rfl c_39
                refine lv_iload hx hb dX10_check_109 (lv_at hl 0 rfl) ?_
                exact W.iret (v := y_24) hx hb hr (fun t ht hW => ⟨⟨y_24, S_26, rfl, ⟨hIS_26, YS_26⟩, ⟨by rw [ht]; exact hP, va_K.moved hW.alike hK, hD⟩⟩, hS.F ht⟩) hS.2.2 dX10_check_111
              · have dc_39 := c_nle (a := x_19.toInt) (b := y_24.toInt) rfl rfl c_39
                refine lv_aload_n hx hb dX10_check_86 rfl (lv_at hl 5 rfl) ?_
                obtain ⟨b_40, hb_40⟩ := oInv.nn (i := 13) hIS_26 t_27 rfl
                refine va_get (D := (dC, dI)) (ci := 10) (v := .ref b_40) (C := RX10) (T := TX10) (N := 16) hx hb hts in_wsX10_check_X10 hown hK hP q_28 hq_28 rfl 13 (by decide +kernel) (hts (.fieldLink RX10 63 "ShipOffice" "row" "[I") iw_X10_check_5) (fun _ h9 => h9) (o_rd hb_40) dX10_check_87 ?_
                have tb_40 : oty S_26 b_40 112 := oInv.rd hIS_26 t_27.2 hb_40 rfl rfl
                refine lv_iload hx hb dX10_check_90 (lv_at hl 0 rfl) ?_
                obtain ⟨q_41, hq_41⟩ := og (cq := cq) tb_40.1 (oE_a1 (n := 12) tb_40.2 (by decide +kernel))
                refine va_iald hx hb hK hP q_41 0 hq_41 rfl (vp_in_iff.mpr (by omega)) dX10_check_92 ?_
                refine lv_topi (fun x_42 ex_42 => ?_)
                clear ex_42
                refine lv_aload_n hx hb dX10_check_93 rfl (lv_at hl 5 rfl) ?_
                refine lv_aload_n hx hb dX10_check_94 rfl (lv_at hl 5 rfl) ?_
                refine va_get (D := (dC, dI)) (ci := 10) (v := .ref b_32) (C := RX10) (T := TX10) (N := 16) hx hb hts in_wsX10_check_X10 hown hK hP q_28 hq_28 rfl 5 (by decide +kernel) (hts (.fieldLink RX10 23 "ShipOffice" "agreements" "[LShipOffice$Agreement;") iw_X10_check_3) (fun _ h9 => h9) (o_rd hb_32) dX10_check_95 ?_
                refine lv_iload hx hb dX10_check_98 (lv_at hl 1 rfl) ?_
                refine va_aldq hx hb hK hP q_33 5 hq_33 rfl (vp_in_iff.mpr (by omega)) dX10_check_100 ?_
                obtain ⟨b_43, hb_43⟩ := oInv.el (i := 6) (x := y_25) hIS_26 t_27 rfl hb_32 (by omega) (by omega)
                refine W.eq (g2 := F0 m 101 ls [.ref b_43, .ref o, .int x_42]) (congrArg (fun z => F0 m 101 ls [va_rf z, .ref o, .int x_42]) hb_43) ?_
                have tb_43 : oty S_26 b_43 1 := oInv.rd hIS_26 tb_32.2 hb_43 rfl rfl
                refine lv_iload_n hx hb dX10_check_101 rfl (lv_at hl 7 rfl) ?_
                refine lv_iload_n hx hb dX10_check_102 rfl (lv_at hl 8 rfl) ?_
                have hFc := o_free hD hS hA
                refine va_calli (va_runV (As := [.ref b_43, .int x2, .int x3]) (rest := [.int x_42]) ⟨hx, hb, hml, hown, hts⟩ (c_X10_owedOn l dC dI H.size cq S_26 hIS_26 o t_27 b_43 tb_43 x2 (by omega) x3) (cwV 3 hts gX10_check_X10_owedOn rfl rfl rfl (by decide +kernel) ⟨(Nat.le_of_ble_eq_true rfl), (Nat.le_of_ble_eq_true rfl)⟩) (pr_V (r := (RX10, TX10, 16)) hP hK hD q_28 10 rfl hq_28) rfl rfl hl.1 rfl (lv_room (Nat.le_of_ble_eq_true rfl)) dX10_check_103 ⟨(Nat.le_of_ble_eq_true rfl), (Nat.le_of_ble_eq_true rfl)⟩) hS (fun q _ h => hFc q h) hFc (fun r_45 u t H locs ht hvm w_44 hB hz1 hk1 hS => ?_)
                obtain ⟨S_46, rfl⟩ : ∃ z, z = u := ⟨_, rfl⟩
                obtain ⟨hP1, hK1, hD1⟩ := hB
                rw [ht] at hP1
                have hP : va_P (dC, dI) vwCl (oW cq S_46) H := hP1
                have hD : va_D A (oW cq S_46) := hD1.weaken (fun _ _ _ h => hFc _ h)
                clear hP1 hK1 hD1 hk1 hz1 hvm ht hFc
                obtain ⟨hIS_46, XS_46⟩ := w_44
                have X_47 : oX [1014, 2107, 2108, 5001] Z S_46 := oX.st YS_26 XS_46 (by decide +kernel)
                refine lv_icmp_eq (tgt := 112) hx hb dX10_check_106 (by decide +kernel) (fun c_48 => ?_) (fun c_48 => ?_)
                · have dc_48 := c_eq (a := x_42.toInt) (b := r_45.toInt) rfl rfl c_48
                  obtain ⟨x_49, ex_49⟩ : ∃ zq : Int32, y_24 + 1 = zq := ⟨_, rfl⟩
                  have hx_49 : x_49.toInt = y_24.toInt + 1 := (iv_to ex_49).symm.trans (ad_i rfl (by decide +kernel) (by omega) (by omega))
                  refine lv_iinc (v := x_49) (lv' := [(7, .int x_49), (8, .int y_25), (6, .int x_19), (5, .int r_14), (4, .ref b_5), (0, .ref o), (1, .int x1), (2, .int x2), (3, .int x3)]) hx hb dX10_check_112 hl (k := 0) rfl ex_49 (by decide +kernel) rfl (fun ls hl => ?_)
                  clear ex_49
                  obtain ⟨x_50, ex_50⟩ : ∃ zq : Int32, y_25 + 1 = zq := ⟨_, rfl⟩
                  have hx_50 : x_50.toInt = y_25.toInt + 1 := (iv_to ex_50).symm.trans (ad_i rfl (by decide +kernel) (by omega) (by omega))
                  refine lv_iinc (v := x_50) (lv' := [(8, .int x_50), (7, .int x_49), (6, .int x_19), (5, .int r_14), (4, .ref b_5), (0, .ref o), (1, .int x1), (2, .int x2), (3, .int x3)]) hx hb dX10_check_115 hl (k := 1) rfl ex_50 (by decide +kernel) rfl (fun ls hl => ?_)
                  clear ex_50
                  refine lv_goto (tgt := 55) hx hb dX10_check_118 (by decide +kernel) ?_
                  exact ih (n - 1) (by omega) x_49 x_50 S_46 _ _ ls (by omega) (by omega) (by omega) (by omega) hIS_46 (oX.st (oX.st oX.rf XS_26 (by decide +kernel)) XS_46 (by decide +kernel)) hP hD hS (lv_sub hl [1, 0, 2, 3, 4, 5, 6, 7, 8] rfl)
                · have dc_48 := c_ne (a := x_42.toInt) (b := r_45.toInt) rfl rfl c_48
                  refine lv_iload hx hb dX10_check_109 (lv_at hl 0 rfl) ?_
                  exact W.iret (v := y_24) hx hb hr (fun t ht hW => ⟨⟨y_24, S_46, rfl, ⟨hIS_46, X_47⟩, ⟨by rw [ht]; exact hP, va_K.moved hW.alike hK, hD⟩⟩, hS.F ht⟩) hS.2.2 dX10_check_111
      have kc_51 : (0 : Int32).toInt = 0 := by decide
      exact cut_23 61 0 0 S_20 _ _ ls (by omega) (by decide +kernel) (by decide +kernel) (by decide +kernel) hIS_20 oX.rf hP hD hS (lv_sub hl [1, 0, 2, 3, 4, 5, 6, 7, 8] rfl)
    · have dc_17 := c_ne (a := r_14.toInt) (b := 0) rfl (by decide +kernel) c_17
      refine lv_aload_n hx hb dX10_check_31 rfl (lv_at hl 2 rfl) ?_
      refine lv_iload hx hb dX10_check_32 (lv_at hl 0 rfl) ?_
      have hFc := o_free hD hS hA
      refine va_calli (va_runV (As := [.int r_14]) (rest := []) ⟨hx, hb, hml, hown, hts⟩ (c_X10_refuse l dC dI H.size cq Z gI o to r_14 (by omega)) (cwV 1 hts gX10_check_X10_refuse rfl rfl rfl (by decide +kernel) ⟨(Nat.le_of_ble_eq_true rfl), (Nat.le_of_ble_eq_true rfl)⟩) (pr_V (r := (RX10, TX10, 16)) hP hK hD q_1 10 rfl hq_1) rfl rfl hl.1 rfl (lv_room (Nat.le_of_ble_eq_true rfl)) dX10_check_34 ⟨(Nat.le_of_ble_eq_true rfl), (Nat.le_of_ble_eq_true rfl)⟩) hS (fun q _ h => hFc q h) hFc (fun r_53 u t H locs ht hvm w_52 hB hz1 hk1 hS => ?_)
      obtain ⟨S_54, rfl⟩ : ∃ z, z = u := ⟨_, rfl⟩
      obtain ⟨hP1, hK1, hD1⟩ := hB
      rw [ht] at hP1
      have hP : va_P (dC, dI) vwCl (oW cq S_54) H := hP1
      have hD : va_D A (oW cq S_54) := hD1.weaken (fun _ _ _ h => hFc _ h)
      clear hP1 hK1 hD1 hk1 hz1 hvm ht hFc
      obtain ⟨hIS_54, XS_54, hb_55, hx_56⟩ := w_52
      have X_57 : oX [1014, 2107, 2108, 5001] Z S_54 := oX.st oX.rf XS_54 (by decide +kernel)
      exact W.iret (v := r_53) hx hb hr (fun t ht hW => ⟨⟨r_53, S_54, rfl, ⟨hIS_54, X_57⟩, ⟨by rw [ht]; exact hP, va_K.moved hW.alike hK, hD⟩⟩, hS.F ht⟩) hS.2.2 dX10_check_37
set_option maxHeartbeats 4000000 in
set_option maxRecDepth 100000 in
theorem c_X10_count (l : Launch) (dC : Nat → ClassId) (dI : Nat → Nat → Nat) (sz : Nat) (cq : Nat → ClassId) (Z : oS) (gI : oInv Z) (o : Nat) (to : oty Z o 10) (x1 : Int32) : Met l yX10_count wsX10_count ({ frames := 2, cells := 0, slots := 0, locals := 46 }) (va_Pc [.ref o, .int x1] (pcW (dC, dI) (oT cq) (oW cq Z) sz)) (va_Qi (fun (r : Int32) (u : Unit) => True) (fun _ _ => True) (va_A [] sz)) 0 0 (va_A [] sz) := by
  refine Met.ofW (cc := cX10_count) (maxL := 2) (ret := (some .int)) (by decide +kernel) rfl ?_
  intro p e s m args below meth c s₁ B hml hv
  obtain ⟨rfl, hsz, hP, hK, hD0⟩ := hv
  have hx := B.exec
  have hb := B.bytes
  have hr := B.returns
  have hts := atoms_spec (ws := wsX10_count) B.pre
  have hown : s.vm.findClass RX10 = some m.cls := findClass_of_methodNamed B.named
  have hlocks := B.notSynchronized
  subst hsz
  have hD := hD0
  generalize hAe : va_A [] s.heap.size = A at ⊢
  have hA : ∀ q : Nat, s.heap.size ≤ q → A q := fun q h => by rw [← hAe]; exact Or.inr h
  have hS : va_S A s.heap s.heap [] := va_S.rf
  have hP : va_P (dC, dI) vwCl (oW cq Z) s.heap := hP
  have hl := lv_entry ([.ref o, .int x1]) (n := 2) (Nat.le_of_ble_eq_true rfl)
  rw [lg_entry_eq]
  generalize (lg_sl ([.ref o, .int x1]) ++ List.replicate (2 - (lg_sl ([.ref o, .int x1])).length) Slot.unset).toArray = ls at hl ⊢
  have hl : lv_has ls 2 [(0, .ref o), (1, .int x1)] := hl
  refine lv_iload_n hx hb dX10_count_0 rfl (lv_at hl 1 rfl) ?_
  by_cases q_1 : x1 = 0
  · refine lv_topi (fun y ey => ?_)
    obtain rfl : y = 0 := ey.trans q_1
    refine lv_tableIn (x := 0) (off := 87) (tgt := 88) hx hb dX10_count_1 (by decide +kernel) (by decide +kernel) (by decide +kernel) (by decide +kernel) ?_
    refine lv_aload_n hx hb dX10_count_88 rfl (lv_at hl 0 rfl) ?_
    obtain ⟨q_2, hq_2⟩ := og (cq := cq) to.1 (oE_10 to.2)
    refine va_get (D := (dC, dI)) (ci := 10) (v := .int (oI Z o 0)) (C := RX10) (T := TX10) (N := 16) hx hb hts in_wsX10_count_X10 hown hK hP q_2 hq_2 rfl 0 (by decide +kernel) (hts (.fieldLink RX10 73 "ShipOffice" "now" "I") iw_X10_count_1) (fun _ h9 => h9) rfl dX10_count_89 ?_
    refine lv_topi (fun x_3 ex_3 => ?_)
    have hx_3 : 0 ≤ x_3.toInt ∧ x_3.toInt ≤ 3000 := iv_of ex_3 (oInv.iv gI to.2 rfl rfl)
    have gx_3 : x_3.toInt = (oI Z o 0).toInt := iv_to ex_3
    clear ex_3
    exact W.iret (v := x_3) hx hb hr (fun t ht hW => ⟨⟨x_3, (), rfl, trivial, trivial⟩, hS.F ht⟩) hS.2.2 dX10_count_92
  have n_4 := c_ne (a := x1.toInt) (b := 0) rfl (by decide +kernel) q_1
  by_cases q_5 : x1 = 1
  · refine lv_topi (fun y ey => ?_)
    obtain rfl : y = 1 := ey.trans q_5
    refine lv_tableIn (x := 1) (off := 92) (tgt := 93) hx hb dX10_count_1 (by decide +kernel) (by decide +kernel) (by decide +kernel) (by decide +kernel) ?_
    refine lv_aload_n hx hb dX10_count_93 rfl (lv_at hl 0 rfl) ?_
    obtain ⟨q_6, hq_6⟩ := og (cq := cq) to.1 (oE_10 to.2)
    refine va_get (D := (dC, dI)) (ci := 10) (v := .int (oI Z o 2)) (C := RX10) (T := TX10) (N := 16) hx hb hts in_wsX10_count_X10 hown hK hP q_6 hq_6 rfl 2 (by decide +kernel) (hts (.fieldLink RX10 86 "ShipOffice" "manCount" "I") iw_X10_count_2) (fun _ h9 => h9) rfl dX10_count_94 ?_
    refine lv_topi (fun x_7 ex_7 => ?_)
    have hx_7 : 0 ≤ x_7.toInt ∧ x_7.toInt ≤ 40 := iv_of ex_7 (oInv.iv gI to.2 rfl rfl)
    have gx_7 : x_7.toInt = (oI Z o 2).toInt := iv_to ex_7
    clear ex_7
    exact W.iret (v := x_7) hx hb hr (fun t ht hW => ⟨⟨x_7, (), rfl, trivial, trivial⟩, hS.F ht⟩) hS.2.2 dX10_count_97
  have n_8 := c_ne (a := x1.toInt) (b := 1) rfl (by decide +kernel) q_5
  by_cases q_9 : x1 = 2
  · refine lv_topi (fun y ey => ?_)
    obtain rfl : y = 2 := ey.trans q_9
    refine lv_tableIn (x := 2) (off := 97) (tgt := 98) hx hb dX10_count_1 (by decide +kernel) (by decide +kernel) (by decide +kernel) (by decide +kernel) ?_
    refine lv_aload_n hx hb dX10_count_98 rfl (lv_at hl 0 rfl) ?_
    obtain ⟨q_10, hq_10⟩ := og (cq := cq) to.1 (oE_10 to.2)
    refine va_get (D := (dC, dI)) (ci := 10) (v := .int (oI Z o 4)) (C := RX10) (T := TX10) (N := 16) hx hb hts in_wsX10_count_X10 hown hK hP q_10 hq_10 rfl 4 (by decide +kernel) (hts (.fieldLink RX10 99 "ShipOffice" "voyageCount" "I") iw_X10_count_3) (fun _ h9 => h9) rfl dX10_count_99 ?_
    refine lv_topi (fun x_11 ex_11 => ?_)
    have hx_11 : 0 ≤ x_11.toInt ∧ x_11.toInt ≤ 20 := iv_of ex_11 (oInv.iv gI to.2 rfl rfl)
    have gx_11 : x_11.toInt = (oI Z o 4).toInt := iv_to ex_11
    clear ex_11
    exact W.iret (v := x_11) hx hb hr (fun t ht hW => ⟨⟨x_11, (), rfl, trivial, trivial⟩, hS.F ht⟩) hS.2.2 dX10_count_102
  have n_12 := c_ne (a := x1.toInt) (b := 2) rfl (by decide +kernel) q_9
  by_cases q_13 : x1 = 3
  · refine lv_topi (fun y ey => ?_)
    obtain rfl : y = 3 := ey.trans q_13
    refine lv_tableIn (x := 3) (off := 102) (tgt := 103) hx hb dX10_count_1 (by decide +kernel) (by decide +kernel) (by decide +kernel) (by decide +kernel) ?_
    refine lv_aload_n hx hb dX10_count_103 rfl (lv_at hl 0 rfl) ?_
    have hFc : ∀ q, va_A [] s.heap.size q → A q := pu_free hS hA
    obtain ⟨q_14, hq_14⟩ := og (cq := cq) to.1 (oE_10 to.2)
    refine va_calli (va_runV (As := []) (rest := []) ⟨hx, hb, hml, hown, hts⟩ (c_X10_openVoyages l dC dI s.heap.size cq Z gI o to) (cwV 0 hts gX10_count_X10_openVoyages rfl rfl rfl (by decide +kernel) ⟨(Nat.le_of_ble_eq_true rfl), (Nat.le_of_ble_eq_true rfl)⟩) (pr_V (r := (RX10, TX10, 16)) hP hK hD q_14 10 rfl hq_14) rfl rfl hl.1 rfl (lv_room (Nat.le_of_ble_eq_true rfl)) dX10_count_104 ⟨(Nat.le_of_ble_eq_true rfl), (Nat.le_of_ble_eq_true rfl)⟩) hS (fun q _ h => hFc q h) hFc (fun r_16 u t H locs ht hvm w_15 hB hz1 hk1 hS => ?_)
    have hP := pu_keep hP hk1
    clear hk1 hz1 hvm hB ht hFc
    exact W.iret (v := r_16) hx hb hr (fun t ht hW => ⟨⟨r_16, (), rfl, trivial, trivial⟩, hS.F ht⟩) hS.2.2 dX10_count_107
  have n_17 := c_ne (a := x1.toInt) (b := 3) rfl (by decide +kernel) q_13
  by_cases q_18 : x1 = 4
  · refine lv_topi (fun y ey => ?_)
    obtain rfl : y = 4 := ey.trans q_18
    refine lv_tableIn (x := 4) (off := 107) (tgt := 108) hx hb dX10_count_1 (by decide +kernel) (by decide +kernel) (by decide +kernel) (by decide +kernel) ?_
    refine lv_aload_n hx hb dX10_count_108 rfl (lv_at hl 0 rfl) ?_
    obtain ⟨q_19, hq_19⟩ := og (cq := cq) to.1 (oE_10 to.2)
    refine va_get (D := (dC, dI)) (ci := 10) (v := .int (oI Z o 6)) (C := RX10) (T := TX10) (N := 16) hx hb hts in_wsX10_count_X10 hown hK hP q_19 hq_19 rfl 6 (by decide +kernel) (hts (.fieldLink RX10 115 "ShipOffice" "agreementCount" "I") iw_X10_count_4) (fun _ h9 => h9) rfl dX10_count_109 ?_
    refine lv_topi (fun x_20 ex_20 => ?_)
    have hx_20 : 0 ≤ x_20.toInt ∧ x_20.toInt ≤ 60 := iv_of ex_20 (oInv.iv gI to.2 rfl rfl)
    have gx_20 : x_20.toInt = (oI Z o 6).toInt := iv_to ex_20
    clear ex_20
    exact W.iret (v := x_20) hx hb hr (fun t ht hW => ⟨⟨x_20, (), rfl, trivial, trivial⟩, hS.F ht⟩) hS.2.2 dX10_count_112
  have n_21 := c_ne (a := x1.toInt) (b := 4) rfl (by decide +kernel) q_18
  by_cases q_22 : x1 = 5
  · refine lv_topi (fun y ey => ?_)
    obtain rfl : y = 5 := ey.trans q_22
    refine lv_tableIn (x := 5) (off := 112) (tgt := 113) hx hb dX10_count_1 (by decide +kernel) (by decide +kernel) (by decide +kernel) (by decide +kernel) ?_
    refine lv_aload_n hx hb dX10_count_113 rfl (lv_at hl 0 rfl) ?_
    have hFc : ∀ q, va_A [] s.heap.size q → A q := pu_free hS hA
    obtain ⟨q_23, hq_23⟩ := og (cq := cq) to.1 (oE_10 to.2)
    refine va_calli (va_runV (As := []) (rest := []) ⟨hx, hb, hml, hown, hts⟩ (c_X10_openAgreements l dC dI s.heap.size cq Z gI o to) (cwV 0 hts gX10_count_X10_openAgreements rfl rfl rfl (by decide +kernel) ⟨(Nat.le_of_ble_eq_true rfl), (Nat.le_of_ble_eq_true rfl)⟩) (pr_V (r := (RX10, TX10, 16)) hP hK hD q_23 10 rfl hq_23) rfl rfl hl.1 rfl (lv_room (Nat.le_of_ble_eq_true rfl)) dX10_count_114 ⟨(Nat.le_of_ble_eq_true rfl), (Nat.le_of_ble_eq_true rfl)⟩) hS (fun q _ h => hFc q h) hFc (fun r_25 u t H locs ht hvm w_24 hB hz1 hk1 hS => ?_)
    have hP := pu_keep hP hk1
    clear hk1 hz1 hvm hB ht hFc
    exact W.iret (v := r_25) hx hb hr (fun t ht hW => ⟨⟨r_25, (), rfl, trivial, trivial⟩, hS.F ht⟩) hS.2.2 dX10_count_117
  have n_26 := c_ne (a := x1.toInt) (b := 5) rfl (by decide +kernel) q_22
  by_cases q_27 : x1 = 6
  · refine lv_topi (fun y ey => ?_)
    obtain rfl : y = 6 := ey.trans q_27
    refine lv_tableIn (x := 6) (off := 117) (tgt := 118) hx hb dX10_count_1 (by decide +kernel) (by decide +kernel) (by decide +kernel) (by decide +kernel) ?_
    refine lv_aload_n hx hb dX10_count_118 rfl (lv_at hl 0 rfl) ?_
    obtain ⟨q_28, hq_28⟩ := og (cq := cq) to.1 (oE_10 to.2)
    refine va_get (D := (dC, dI)) (ci := 10) (v := .int (oI Z o 7)) (C := RX10) (T := TX10) (N := 16) hx hb hts in_wsX10_count_X10 hown hK hP q_28 hq_28 rfl 7 (by decide +kernel) (hts (.fieldLink RX10 139 "ShipOffice" "happeningCount" "I") iw_X10_count_5) (fun _ h9 => h9) rfl dX10_count_119 ?_
    refine lv_topi (fun x_29 ex_29 => ?_)
    clear ex_29
    exact W.iret (v := x_29) hx hb hr (fun t ht hW => ⟨⟨x_29, (), rfl, trivial, trivial⟩, hS.F ht⟩) hS.2.2 dX10_count_122
  have n_30 := c_ne (a := x1.toInt) (b := 6) rfl (by decide +kernel) q_27
  by_cases q_31 : x1 = 7
  · refine lv_topi (fun y ey => ?_)
    obtain rfl : y = 7 := ey.trans q_31
    refine lv_tableIn (x := 7) (off := 122) (tgt := 123) hx hb dX10_count_1 (by decide +kernel) (by decide +kernel) (by decide +kernel) (by decide +kernel) ?_
    refine lv_aload_n hx hb dX10_count_123 rfl (lv_at hl 0 rfl) ?_
    obtain ⟨q_32, hq_32⟩ := og (cq := cq) to.1 (oE_10 to.2)
    obtain ⟨b_33, hb_33⟩ := oInv.nn (i := 8) gI to rfl
    refine va_get (D := (dC, dI)) (ci := 10) (v := .ref b_33) (C := RX10) (T := TX10) (N := 16) hx hb hts in_wsX10_count_X10 hown hK hP q_32 hq_32 rfl 8 (by decide +kernel) (hts (.fieldLink RX10 30 "ShipOffice" "law" "LShipOffice$Law;") iw_X10_count_6) (fun _ h9 => h9) (o_rd hb_33) dX10_count_124 ?_
    have tb_33 : oty Z b_33 5 := oInv.rd gI to.2 hb_33 rfl rfl
    obtain ⟨q_34, hq_34⟩ := og (cq := cq) tb_33.1 (oE_5 tb_33.2)
    refine va_get (D := (dC, dI)) (ci := 5) (v := .int (oI Z b_33 2)) (C := RX5) (T := TX5) (N := 3) hx hb hts in_wsX10_count_X5 hown hK hP q_34 hq_34 rfl 2 (by decide +kernel) (hts (.fieldLink RX10 178 "ShipOffice$Law" "actCount" "I") iw_X10_count_7) (fun _ h9 => h9) rfl dX10_count_127 ?_
    refine lv_topi (fun x_35 ex_35 => ?_)
    have hx_35 : 0 ≤ x_35.toInt ∧ x_35.toInt ≤ 30 := iv_of ex_35 (oInv.iv gI tb_33.2 rfl rfl)
    have gx_35 : x_35.toInt = (oI Z b_33 2).toInt := iv_to ex_35
    clear ex_35
    exact W.iret (v := x_35) hx hb hr (fun t ht hW => ⟨⟨x_35, (), rfl, trivial, trivial⟩, hS.F ht⟩) hS.2.2 dX10_count_130
  have n_36 := c_ne (a := x1.toInt) (b := 7) rfl (by decide +kernel) q_31
  by_cases q_37 : x1 = 8
  · refine lv_topi (fun y ey => ?_)
    obtain rfl : y = 8 := ey.trans q_37
    refine lv_tableIn (x := 8) (off := 130) (tgt := 131) hx hb dX10_count_1 (by decide +kernel) (by decide +kernel) (by decide +kernel) (by decide +kernel) ?_
    refine lv_aload_n hx hb dX10_count_131 rfl (lv_at hl 0 rfl) ?_
    obtain ⟨q_38, hq_38⟩ := og (cq := cq) to.1 (oE_10 to.2)
    obtain ⟨b_39, hb_39⟩ := oInv.nn (i := 9) gI to rfl
    refine va_get (D := (dC, dI)) (ci := 10) (v := .ref b_39) (C := RX10) (T := TX10) (N := 16) hx hb hts in_wsX10_count_X10 hown hK hP q_38 hq_38 rfl 9 (by decide +kernel) (hts (.fieldLink RX10 37 "ShipOffice" "tape" "LShipOffice$Tape;") iw_X10_count_8) (fun _ h9 => h9) (o_rd hb_39) dX10_count_132 ?_
    have tb_39 : oty Z b_39 8 := oInv.rd gI to.2 hb_39 rfl rfl
    obtain ⟨q_40, hq_40⟩ := og (cq := cq) tb_39.1 (oE_8 tb_39.2)
    refine va_get (D := (dC, dI)) (ci := 8) (v := .int (oI Z b_39 1)) (C := RX8) (T := TX8) (N := 6) hx hb hts in_wsX10_count_X8 hown hK hP q_40 hq_40 rfl 1 (by decide +kernel) (hts (.fieldLink RX10 169 "ShipOffice$Tape" "size" "I") iw_X10_count_9) (fun _ h9 => h9) rfl dX10_count_135 ?_
    refine lv_topi (fun x_41 ex_41 => ?_)
    have hx_41 : 0 ≤ x_41.toInt ∧ x_41.toInt ≤ 60 := iv_of ex_41 (oInv.iv gI tb_39.2 rfl rfl)
    have gx_41 : x_41.toInt = (oI Z b_39 1).toInt := iv_to ex_41
    clear ex_41
    exact W.iret (v := x_41) hx hb hr (fun t ht hW => ⟨⟨x_41, (), rfl, trivial, trivial⟩, hS.F ht⟩) hS.2.2 dX10_count_138
  have n_42 := c_ne (a := x1.toInt) (b := 8) rfl (by decide +kernel) q_37
  by_cases q_43 : x1 = 9
  · refine lv_topi (fun y ey => ?_)
    obtain rfl : y = 9 := ey.trans q_43
    refine lv_tableIn (x := 9) (off := 138) (tgt := 139) hx hb dX10_count_1 (by decide +kernel) (by decide +kernel) (by decide +kernel) (by decide +kernel) ?_
    refine lv_aload_n hx hb dX10_count_139 rfl (lv_at hl 0 rfl) ?_
    obtain ⟨q_44, hq_44⟩ := og (cq := cq) to.1 (oE_10 to.2)
    refine va_get (D := (dC, dI)) (ci := 10) (v := .int (oI Z o 14)) (C := RX10) (T := TX10) (N := 16) hx hb hts in_wsX10_count_X10 hown hK hP q_44 hq_44 rfl 14 (by decide +kernel) (hts (.fieldLink RX10 353 "ShipOffice" "rowCount" "I") iw_X10_count_10) (fun _ h9 => h9) rfl dX10_count_140 ?_
    refine lv_topi (fun x_45 ex_45 => ?_)
    have hx_45 : 0 ≤ x_45.toInt ∧ x_45.toInt ≤ 12 := iv_of ex_45 (oInv.iv gI to.2 rfl rfl)
    have gx_45 : x_45.toInt = (oI Z o 14).toInt := iv_to ex_45
    clear ex_45
    exact W.iret (v := x_45) hx hb hr (fun t ht hW => ⟨⟨x_45, (), rfl, trivial, trivial⟩, hS.F ht⟩) hS.2.2 dX10_count_143
  have n_46 := c_ne (a := x1.toInt) (b := 9) rfl (by decide +kernel) q_43
  by_cases q_47 : x1 = 10
  · refine lv_topi (fun y ey => ?_)
    obtain rfl : y = 10 := ey.trans q_47
    refine lv_tableIn (x := 10) (off := 148) (tgt := 149) hx hb dX10_count_1 (by decide +kernel) (by decide +kernel) (by decide +kernel) (by decide +kernel) ?_
    refine lv_iload_n hx hb dX10_count_149 rfl (lv_at hl 1 rfl) ?_
    refine lv_bipush (v := 11) hx hb dX10_count_150 (by decide +kernel) ?_
    refine lv_icmp_lt (tgt := 173) hx hb dX10_count_152 (by decide +kernel) (fun c_48 => ?_) (fun c_48 => ?_)
    · have dc_48 := c_lt (a := x1.toInt) (b := 11) rfl (by decide +kernel) c_48
      refine lv_bipush (v := (-9)) hx hb dX10_count_173 (by decide +kernel) ?_
      exact W.iret (v := (-9)) hx hb hr (fun t ht hW => ⟨⟨(-9), (), rfl, trivial, trivial⟩, hS.F ht⟩) hS.2.2 dX10_count_175
    · have dc_48 := c_nlt (a := x1.toInt) (b := 11) rfl (by decide +kernel) c_48
      refine lv_iload_n hx hb dX10_count_155 rfl (lv_at hl 1 rfl) ?_
      refine lv_bipush (v := 16) hx hb dX10_count_156 (by decide +kernel) ?_
      refine lv_icmp_gt (tgt := 173) hx hb dX10_count_158 (by decide +kernel) (fun c_49 => ?_) (fun c_49 => ?_)
      · have dc_49 := c_lt (a := 16) (b := x1.toInt) (by decide +kernel) rfl c_49
        refine lv_bipush (v := (-9)) hx hb dX10_count_173 (by decide +kernel) ?_
        exact W.iret (v := (-9)) hx hb hr (fun t ht hW => ⟨⟨(-9), (), rfl, trivial, trivial⟩, hS.F ht⟩) hS.2.2 dX10_count_175
      · have dc_49 := c_nlt (a := 16) (b := x1.toInt) (by decide +kernel) rfl c_49
        refine lv_aload_n hx hb dX10_count_161 rfl (lv_at hl 0 rfl) ?_
        obtain ⟨q_50, hq_50⟩ := og (cq := cq) to.1 (oE_10 to.2)
        obtain ⟨b_51, hb_51⟩ := oInv.nn (i := 15) gI to rfl
        refine va_get (D := (dC, dI)) (ci := 10) (v := .ref b_51) (C := RX10) (T := TX10) (N := 16) hx hb hts in_wsX10_count_X10 hown hK hP q_50 hq_50 rfl 15 (by decide +kernel) (hts (.fieldLink RX10 66 "ShipOffice" "refusals" "[I") iw_X10_count_11) (fun _ h9 => h9) (o_rd hb_51) dX10_count_162 ?_
        have tb_51 : oty Z b_51 107 := oInv.rd gI to.2 hb_51 rfl rfl
        refine lv_iload_n hx hb dX10_count_165 rfl (lv_at hl 1 rfl) ?_
        refine lv_bipush (v := 10) hx hb dX10_count_166 (by decide +kernel) ?_
        refine lv_isub hx hb dX10_count_168 ?_
        refine lv_topi (fun x_52 ex_52 => ?_)
        have hx_52 : x_52.toInt = x1.toInt - 10 := (iv_to ex_52).trans (sb_i rfl (by decide +kernel) (by omega) (by omega))
        clear ex_52
        obtain ⟨q_53, hq_53⟩ := og (cq := cq) tb_51.1 (oE_a1 (n := 7) tb_51.2 (by decide +kernel))
        refine va_iald hx hb hK hP q_53 0 hq_53 rfl (vp_in_iff.mpr (by omega)) dX10_count_169 ?_
        refine lv_topi (fun x_54 ex_54 => ?_)
        clear ex_54
        refine lv_goto (tgt := 175) hx hb dX10_count_170 (by decide +kernel) ?_
        exact W.iret (v := x_54) hx hb hr (fun t ht hW => ⟨⟨x_54, (), rfl, trivial, trivial⟩, hS.F ht⟩) hS.2.2 dX10_count_175
  have n_55 := c_ne (a := x1.toInt) (b := 10) rfl (by decide +kernel) q_47
  by_cases q_56 : x1 = 11
  · refine lv_topi (fun y ey => ?_)
    obtain rfl : y = 11 := ey.trans q_56
    refine lv_tableIn (x := 11) (off := 148) (tgt := 149) hx hb dX10_count_1 (by decide +kernel) (by decide +kernel) (by decide +kernel) (by decide +kernel) ?_
    refine lv_iload_n hx hb dX10_count_149 rfl (lv_at hl 1 rfl) ?_
    refine lv_bipush (v := 11) hx hb dX10_count_150 (by decide +kernel) ?_
    refine lv_icmp_lt (tgt := 173) hx hb dX10_count_152 (by decide +kernel) (fun c_57 => ?_) (fun c_57 => ?_)
    · have dc_57 := c_lt (a := x1.toInt) (b := 11) rfl (by decide +kernel) c_57
      refine lv_bipush (v := (-9)) hx hb dX10_count_173 (by decide +kernel) ?_
      exact W.iret (v := (-9)) hx hb hr (fun t ht hW => ⟨⟨(-9), (), rfl, trivial, trivial⟩, hS.F ht⟩) hS.2.2 dX10_count_175
    · have dc_57 := c_nlt (a := x1.toInt) (b := 11) rfl (by decide +kernel) c_57
      refine lv_iload_n hx hb dX10_count_155 rfl (lv_at hl 1 rfl) ?_
      refine lv_bipush (v := 16) hx hb dX10_count_156 (by decide +kernel) ?_
      refine lv_icmp_gt (tgt := 173) hx hb dX10_count_158 (by decide +kernel) (fun c_58 => ?_) (fun c_58 => ?_)
      · have dc_58 := c_lt (a := 16) (b := x1.toInt) (by decide +kernel) rfl c_58
        refine lv_bipush (v := (-9)) hx hb dX10_count_173 (by decide +kernel) ?_
        exact W.iret (v := (-9)) hx hb hr (fun t ht hW => ⟨⟨(-9), (), rfl, trivial, trivial⟩, hS.F ht⟩) hS.2.2 dX10_count_175
      · have dc_58 := c_nlt (a := 16) (b := x1.toInt) (by decide +kernel) rfl c_58
        refine lv_aload_n hx hb dX10_count_161 rfl (lv_at hl 0 rfl) ?_
        obtain ⟨q_59, hq_59⟩ := og (cq := cq) to.1 (oE_10 to.2)
        obtain ⟨b_60, hb_60⟩ := oInv.nn (i := 15) gI to rfl
        refine va_get (D := (dC, dI)) (ci := 10) (v := .ref b_60) (C := RX10) (T := TX10) (N := 16) hx hb hts in_wsX10_count_X10 hown hK hP q_59 hq_59 rfl 15 (by decide +kernel) (hts (.fieldLink RX10 66 "ShipOffice" "refusals" "[I") iw_X10_count_11) (fun _ h9 => h9) (o_rd hb_60) dX10_count_162 ?_
        have tb_60 : oty Z b_60 107 := oInv.rd gI to.2 hb_60 rfl rfl
        refine lv_iload_n hx hb dX10_count_165 rfl (lv_at hl 1 rfl) ?_
        refine lv_bipush (v := 10) hx hb dX10_count_166 (by decide +kernel) ?_
        refine lv_isub hx hb dX10_count_168 ?_
        refine lv_topi (fun x_61 ex_61 => ?_)
        have hx_61 : x_61.toInt = x1.toInt - 10 := (iv_to ex_61).trans (sb_i rfl (by decide +kernel) (by omega) (by omega))
        clear ex_61
        obtain ⟨q_62, hq_62⟩ := og (cq := cq) tb_60.1 (oE_a1 (n := 7) tb_60.2 (by decide +kernel))
        refine va_iald hx hb hK hP q_62 0 hq_62 rfl (vp_in_iff.mpr (by omega)) dX10_count_169 ?_
        refine lv_topi (fun x_63 ex_63 => ?_)
        clear ex_63
        refine lv_goto (tgt := 175) hx hb dX10_count_170 (by decide +kernel) ?_
        exact W.iret (v := x_63) hx hb hr (fun t ht hW => ⟨⟨x_63, (), rfl, trivial, trivial⟩, hS.F ht⟩) hS.2.2 dX10_count_175
  have n_64 := c_ne (a := x1.toInt) (b := 11) rfl (by decide +kernel) q_56
  by_cases q_65 : x1 = 12
  · refine lv_topi (fun y ey => ?_)
    obtain rfl : y = 12 := ey.trans q_65
    refine lv_tableIn (x := 12) (off := 148) (tgt := 149) hx hb dX10_count_1 (by decide +kernel) (by decide +kernel) (by decide +kernel) (by decide +kernel) ?_
    refine lv_iload_n hx hb dX10_count_149 rfl (lv_at hl 1 rfl) ?_
    refine lv_bipush (v := 11) hx hb dX10_count_150 (by decide +kernel) ?_
    refine lv_icmp_lt (tgt := 173) hx hb dX10_count_152 (by decide +kernel) (fun c_66 => ?_) (fun c_66 => ?_)
    · have dc_66 := c_lt (a := x1.toInt) (b := 11) rfl (by decide +kernel) c_66
      refine lv_bipush (v := (-9)) hx hb dX10_count_173 (by decide +kernel) ?_
      exact W.iret (v := (-9)) hx hb hr (fun t ht hW => ⟨⟨(-9), (), rfl, trivial, trivial⟩, hS.F ht⟩) hS.2.2 dX10_count_175
    · have dc_66 := c_nlt (a := x1.toInt) (b := 11) rfl (by decide +kernel) c_66
      refine lv_iload_n hx hb dX10_count_155 rfl (lv_at hl 1 rfl) ?_
      refine lv_bipush (v := 16) hx hb dX10_count_156 (by decide +kernel) ?_
      refine lv_icmp_gt (tgt := 173) hx hb dX10_count_158 (by decide +kernel) (fun c_67 => ?_) (fun c_67 => ?_)
      · have dc_67 := c_lt (a := 16) (b := x1.toInt) (by decide +kernel) rfl c_67
        refine lv_bipush (v := (-9)) hx hb dX10_count_173 (by decide +kernel) ?_
        exact W.iret (v := (-9)) hx hb hr (fun t ht hW => ⟨⟨(-9), (), rfl, trivial, trivial⟩, hS.F ht⟩) hS.2.2 dX10_count_175
      · have dc_67 := c_nlt (a := 16) (b := x1.toInt) (by decide +kernel) rfl c_67
        refine lv_aload_n hx hb dX10_count_161 rfl (lv_at hl 0 rfl) ?_
        obtain ⟨q_68, hq_68⟩ := og (cq := cq) to.1 (oE_10 to.2)
        obtain ⟨b_69, hb_69⟩ := oInv.nn (i := 15) gI to rfl
        refine va_get (D := (dC, dI)) (ci := 10) (v := .ref b_69) (C := RX10) (T := TX10) (N := 16) hx hb hts in_wsX10_count_X10 hown hK hP q_68 hq_68 rfl 15 (by decide +kernel) (hts (.fieldLink RX10 66 "ShipOffice" "refusals" "[I") iw_X10_count_11) (fun _ h9 => h9) (o_rd hb_69) dX10_count_162 ?_
        have tb_69 : oty Z b_69 107 := oInv.rd gI to.2 hb_69 rfl rfl
        refine lv_iload_n hx hb dX10_count_165 rfl (lv_at hl 1 rfl) ?_
        refine lv_bipush (v := 10) hx hb dX10_count_166 (by decide +kernel) ?_
        refine lv_isub hx hb dX10_count_168 ?_
        refine lv_topi (fun x_70 ex_70 => ?_)
        have hx_70 : x_70.toInt = x1.toInt - 10 := (iv_to ex_70).trans (sb_i rfl (by decide +kernel) (by omega) (by omega))
        clear ex_70
        obtain ⟨q_71, hq_71⟩ := og (cq := cq) tb_69.1 (oE_a1 (n := 7) tb_69.2 (by decide +kernel))
        refine va_iald hx hb hK hP q_71 0 hq_71 rfl (vp_in_iff.mpr (by omega)) dX10_count_169 ?_
        refine lv_topi (fun x_72 ex_72 => ?_)
        clear ex_72
        refine lv_goto (tgt := 175) hx hb dX10_count_170 (by decide +kernel) ?_
        exact W.iret (v := x_72) hx hb hr (fun t ht hW => ⟨⟨x_72, (), rfl, trivial, trivial⟩, hS.F ht⟩) hS.2.2 dX10_count_175
  have n_73 := c_ne (a := x1.toInt) (b := 12) rfl (by decide +kernel) q_65
  by_cases q_74 : x1 = 13
  · refine lv_topi (fun y ey => ?_)
    obtain rfl : y = 13 := ey.trans q_74
    refine lv_tableIn (x := 13) (off := 148) (tgt := 149) hx hb dX10_count_1 (by decide +kernel) (by decide +kernel) (by decide +kernel) (by decide +kernel) ?_
    refine lv_iload_n hx hb dX10_count_149 rfl (lv_at hl 1 rfl) ?_
    refine lv_bipush (v := 11) hx hb dX10_count_150 (by decide +kernel) ?_
    refine lv_icmp_lt (tgt := 173) hx hb dX10_count_152 (by decide +kernel) (fun c_75 => ?_) (fun c_75 => ?_)
    · have dc_75 := c_lt (a := x1.toInt) (b := 11) rfl (by decide +kernel) c_75
      refine lv_bipush (v := (-9)) hx hb dX10_count_173 (by decide +kernel) ?_
      exact W.iret (v := (-9)) hx hb hr (fun t ht hW => ⟨⟨(-9), (), rfl, trivial, trivial⟩, hS.F ht⟩) hS.2.2 dX10_count_175
    · have dc_75 := c_nlt (a := x1.toInt) (b := 11) rfl (by decide +kernel) c_75
      refine lv_iload_n hx hb dX10_count_155 rfl (lv_at hl 1 rfl) ?_
      refine lv_bipush (v := 16) hx hb dX10_count_156 (by decide +kernel) ?_
      refine lv_icmp_gt (tgt := 173) hx hb dX10_count_158 (by decide +kernel) (fun c_76 => ?_) (fun c_76 => ?_)
      · have dc_76 := c_lt (a := 16) (b := x1.toInt) (by decide +kernel) rfl c_76
        refine lv_bipush (v := (-9)) hx hb dX10_count_173 (by decide +kernel) ?_
        exact W.iret (v := (-9)) hx hb hr (fun t ht hW => ⟨⟨(-9), (), rfl, trivial, trivial⟩, hS.F ht⟩) hS.2.2 dX10_count_175
      · have dc_76 := c_nlt (a := 16) (b := x1.toInt) (by decide +kernel) rfl c_76
        refine lv_aload_n hx hb dX10_count_161 rfl (lv_at hl 0 rfl) ?_
        obtain ⟨q_77, hq_77⟩ := og (cq := cq) to.1 (oE_10 to.2)
        obtain ⟨b_78, hb_78⟩ := oInv.nn (i := 15) gI to rfl
        refine va_get (D := (dC, dI)) (ci := 10) (v := .ref b_78) (C := RX10) (T := TX10) (N := 16) hx hb hts in_wsX10_count_X10 hown hK hP q_77 hq_77 rfl 15 (by decide +kernel) (hts (.fieldLink RX10 66 "ShipOffice" "refusals" "[I") iw_X10_count_11) (fun _ h9 => h9) (o_rd hb_78) dX10_count_162 ?_
        have tb_78 : oty Z b_78 107 := oInv.rd gI to.2 hb_78 rfl rfl
        refine lv_iload_n hx hb dX10_count_165 rfl (lv_at hl 1 rfl) ?_
        refine lv_bipush (v := 10) hx hb dX10_count_166 (by decide +kernel) ?_
        refine lv_isub hx hb dX10_count_168 ?_
        refine lv_topi (fun x_79 ex_79 => ?_)
        have hx_79 : x_79.toInt = x1.toInt - 10 := (iv_to ex_79).trans (sb_i rfl (by decide +kernel) (by omega) (by omega))
        clear ex_79
        obtain ⟨q_80, hq_80⟩ := og (cq := cq) tb_78.1 (oE_a1 (n := 7) tb_78.2 (by decide +kernel))
        refine va_iald hx hb hK hP q_80 0 hq_80 rfl (vp_in_iff.mpr (by omega)) dX10_count_169 ?_
        refine lv_topi (fun x_81 ex_81 => ?_)
        clear ex_81
        refine lv_goto (tgt := 175) hx hb dX10_count_170 (by decide +kernel) ?_
        exact W.iret (v := x_81) hx hb hr (fun t ht hW => ⟨⟨x_81, (), rfl, trivial, trivial⟩, hS.F ht⟩) hS.2.2 dX10_count_175
  have n_82 := c_ne (a := x1.toInt) (b := 13) rfl (by decide +kernel) q_74
  by_cases q_83 : x1 = 14
  · refine lv_topi (fun y ey => ?_)
    obtain rfl : y = 14 := ey.trans q_83
    refine lv_tableIn (x := 14) (off := 148) (tgt := 149) hx hb dX10_count_1 (by decide +kernel) (by decide +kernel) (by decide +kernel) (by decide +kernel) ?_
    refine lv_iload_n hx hb dX10_count_149 rfl (lv_at hl 1 rfl) ?_
    refine lv_bipush (v := 11) hx hb dX10_count_150 (by decide +kernel) ?_
    refine lv_icmp_lt (tgt := 173) hx hb dX10_count_152 (by decide +kernel) (fun c_84 => ?_) (fun c_84 => ?_)
    · have dc_84 := c_lt (a := x1.toInt) (b := 11) rfl (by decide +kernel) c_84
      refine lv_bipush (v := (-9)) hx hb dX10_count_173 (by decide +kernel) ?_
      exact W.iret (v := (-9)) hx hb hr (fun t ht hW => ⟨⟨(-9), (), rfl, trivial, trivial⟩, hS.F ht⟩) hS.2.2 dX10_count_175
    · have dc_84 := c_nlt (a := x1.toInt) (b := 11) rfl (by decide +kernel) c_84
      refine lv_iload_n hx hb dX10_count_155 rfl (lv_at hl 1 rfl) ?_
      refine lv_bipush (v := 16) hx hb dX10_count_156 (by decide +kernel) ?_
      refine lv_icmp_gt (tgt := 173) hx hb dX10_count_158 (by decide +kernel) (fun c_85 => ?_) (fun c_85 => ?_)
      · have dc_85 := c_lt (a := 16) (b := x1.toInt) (by decide +kernel) rfl c_85
        refine lv_bipush (v := (-9)) hx hb dX10_count_173 (by decide +kernel) ?_
        exact W.iret (v := (-9)) hx hb hr (fun t ht hW => ⟨⟨(-9), (), rfl, trivial, trivial⟩, hS.F ht⟩) hS.2.2 dX10_count_175
      · have dc_85 := c_nlt (a := 16) (b := x1.toInt) (by decide +kernel) rfl c_85
        refine lv_aload_n hx hb dX10_count_161 rfl (lv_at hl 0 rfl) ?_
        obtain ⟨q_86, hq_86⟩ := og (cq := cq) to.1 (oE_10 to.2)
        obtain ⟨b_87, hb_87⟩ := oInv.nn (i := 15) gI to rfl
        refine va_get (D := (dC, dI)) (ci := 10) (v := .ref b_87) (C := RX10) (T := TX10) (N := 16) hx hb hts in_wsX10_count_X10 hown hK hP q_86 hq_86 rfl 15 (by decide +kernel) (hts (.fieldLink RX10 66 "ShipOffice" "refusals" "[I") iw_X10_count_11) (fun _ h9 => h9) (o_rd hb_87) dX10_count_162 ?_
        have tb_87 : oty Z b_87 107 := oInv.rd gI to.2 hb_87 rfl rfl
        refine lv_iload_n hx hb dX10_count_165 rfl (lv_at hl 1 rfl) ?_
        refine lv_bipush (v := 10) hx hb dX10_count_166 (by decide +kernel) ?_
        refine lv_isub hx hb dX10_count_168 ?_
        refine lv_topi (fun x_88 ex_88 => ?_)
        have hx_88 : x_88.toInt = x1.toInt - 10 := (iv_to ex_88).trans (sb_i rfl (by decide +kernel) (by omega) (by omega))
        clear ex_88
        obtain ⟨q_89, hq_89⟩ := og (cq := cq) tb_87.1 (oE_a1 (n := 7) tb_87.2 (by decide +kernel))
        refine va_iald hx hb hK hP q_89 0 hq_89 rfl (vp_in_iff.mpr (by omega)) dX10_count_169 ?_
        refine lv_topi (fun x_90 ex_90 => ?_)
        clear ex_90
        refine lv_goto (tgt := 175) hx hb dX10_count_170 (by decide +kernel) ?_
        exact W.iret (v := x_90) hx hb hr (fun t ht hW => ⟨⟨x_90, (), rfl, trivial, trivial⟩, hS.F ht⟩) hS.2.2 dX10_count_175
  have n_91 := c_ne (a := x1.toInt) (b := 14) rfl (by decide +kernel) q_83
  by_cases q_92 : x1 = 15
  · refine lv_topi (fun y ey => ?_)
    obtain rfl : y = 15 := ey.trans q_92
    refine lv_tableIn (x := 15) (off := 148) (tgt := 149) hx hb dX10_count_1 (by decide +kernel) (by decide +kernel) (by decide +kernel) (by decide +kernel) ?_
    refine lv_iload_n hx hb dX10_count_149 rfl (lv_at hl 1 rfl) ?_
    refine lv_bipush (v := 11) hx hb dX10_count_150 (by decide +kernel) ?_
    refine lv_icmp_lt (tgt := 173) hx hb dX10_count_152 (by decide +kernel) (fun c_93 => ?_) (fun c_93 => ?_)
    · have dc_93 := c_lt (a := x1.toInt) (b := 11) rfl (by decide +kernel) c_93
      refine lv_bipush (v := (-9)) hx hb dX10_count_173 (by decide +kernel) ?_
      exact W.iret (v := (-9)) hx hb hr (fun t ht hW => ⟨⟨(-9), (), rfl, trivial, trivial⟩, hS.F ht⟩) hS.2.2 dX10_count_175
    · have dc_93 := c_nlt (a := x1.toInt) (b := 11) rfl (by decide +kernel) c_93
      refine lv_iload_n hx hb dX10_count_155 rfl (lv_at hl 1 rfl) ?_
      refine lv_bipush (v := 16) hx hb dX10_count_156 (by decide +kernel) ?_
      refine lv_icmp_gt (tgt := 173) hx hb dX10_count_158 (by decide +kernel) (fun c_94 => ?_) (fun c_94 => ?_)
      · have dc_94 := c_lt (a := 16) (b := x1.toInt) (by decide +kernel) rfl c_94
        refine lv_bipush (v := (-9)) hx hb dX10_count_173 (by decide +kernel) ?_
        exact W.iret (v := (-9)) hx hb hr (fun t ht hW => ⟨⟨(-9), (), rfl, trivial, trivial⟩, hS.F ht⟩) hS.2.2 dX10_count_175
      · have dc_94 := c_nlt (a := 16) (b := x1.toInt) (by decide +kernel) rfl c_94
        refine lv_aload_n hx hb dX10_count_161 rfl (lv_at hl 0 rfl) ?_
        obtain ⟨q_95, hq_95⟩ := og (cq := cq) to.1 (oE_10 to.2)
        obtain ⟨b_96, hb_96⟩ := oInv.nn (i := 15) gI to rfl
        refine va_get (D := (dC, dI)) (ci := 10) (v := .ref b_96) (C := RX10) (T := TX10) (N := 16) hx hb hts in_wsX10_count_X10 hown hK hP q_95 hq_95 rfl 15 (by decide +kernel) (hts (.fieldLink RX10 66 "ShipOffice" "refusals" "[I") iw_X10_count_11) (fun _ h9 => h9) (o_rd hb_96) dX10_count_162 ?_
        have tb_96 : oty Z b_96 107 := oInv.rd gI to.2 hb_96 rfl rfl
        refine lv_iload_n hx hb dX10_count_165 rfl (lv_at hl 1 rfl) ?_
        refine lv_bipush (v := 10) hx hb dX10_count_166 (by decide +kernel) ?_
        refine lv_isub hx hb dX10_count_168 ?_
        refine lv_topi (fun x_97 ex_97 => ?_)
        have hx_97 : x_97.toInt = x1.toInt - 10 := (iv_to ex_97).trans (sb_i rfl (by decide +kernel) (by omega) (by omega))
        clear ex_97
        obtain ⟨q_98, hq_98⟩ := og (cq := cq) tb_96.1 (oE_a1 (n := 7) tb_96.2 (by decide +kernel))
        refine va_iald hx hb hK hP q_98 0 hq_98 rfl (vp_in_iff.mpr (by omega)) dX10_count_169 ?_
        refine lv_topi (fun x_99 ex_99 => ?_)
        clear ex_99
        refine lv_goto (tgt := 175) hx hb dX10_count_170 (by decide +kernel) ?_
        exact W.iret (v := x_99) hx hb hr (fun t ht hW => ⟨⟨x_99, (), rfl, trivial, trivial⟩, hS.F ht⟩) hS.2.2 dX10_count_175
  have n_100 := c_ne (a := x1.toInt) (b := 15) rfl (by decide +kernel) q_92
  by_cases q_101 : x1 = 16
  · refine lv_topi (fun y ey => ?_)
    obtain rfl : y = 16 := ey.trans q_101
    refine lv_tableIn (x := 16) (off := 148) (tgt := 149) hx hb dX10_count_1 (by decide +kernel) (by decide +kernel) (by decide +kernel) (by decide +kernel) ?_
    refine lv_iload_n hx hb dX10_count_149 rfl (lv_at hl 1 rfl) ?_
    refine lv_bipush (v := 11) hx hb dX10_count_150 (by decide +kernel) ?_
    refine lv_icmp_lt (tgt := 173) hx hb dX10_count_152 (by decide +kernel) (fun c_102 => ?_) (fun c_102 => ?_)
    · have dc_102 := c_lt (a := x1.toInt) (b := 11) rfl (by decide +kernel) c_102
      refine lv_bipush (v := (-9)) hx hb dX10_count_173 (by decide +kernel) ?_
      exact W.iret (v := (-9)) hx hb hr (fun t ht hW => ⟨⟨(-9), (), rfl, trivial, trivial⟩, hS.F ht⟩) hS.2.2 dX10_count_175
    · have dc_102 := c_nlt (a := x1.toInt) (b := 11) rfl (by decide +kernel) c_102
      refine lv_iload_n hx hb dX10_count_155 rfl (lv_at hl 1 rfl) ?_
      refine lv_bipush (v := 16) hx hb dX10_count_156 (by decide +kernel) ?_
      refine lv_icmp_gt (tgt := 173) hx hb dX10_count_158 (by decide +kernel) (fun c_103 => ?_) (fun c_103 => ?_)
      · have dc_103 := c_lt (a := 16) (b := x1.toInt) (by decide +kernel) rfl c_103
        refine lv_bipush (v := (-9)) hx hb dX10_count_173 (by decide +kernel) ?_
        exact W.iret (v := (-9)) hx hb hr (fun t ht hW => ⟨⟨(-9), (), rfl, trivial, trivial⟩, hS.F ht⟩) hS.2.2 dX10_count_175
      · have dc_103 := c_nlt (a := 16) (b := x1.toInt) (by decide +kernel) rfl c_103
        refine lv_aload_n hx hb dX10_count_161 rfl (lv_at hl 0 rfl) ?_
        obtain ⟨q_104, hq_104⟩ := og (cq := cq) to.1 (oE_10 to.2)
        obtain ⟨b_105, hb_105⟩ := oInv.nn (i := 15) gI to rfl
        refine va_get (D := (dC, dI)) (ci := 10) (v := .ref b_105) (C := RX10) (T := TX10) (N := 16) hx hb hts in_wsX10_count_X10 hown hK hP q_104 hq_104 rfl 15 (by decide +kernel) (hts (.fieldLink RX10 66 "ShipOffice" "refusals" "[I") iw_X10_count_11) (fun _ h9 => h9) (o_rd hb_105) dX10_count_162 ?_
        have tb_105 : oty Z b_105 107 := oInv.rd gI to.2 hb_105 rfl rfl
        refine lv_iload_n hx hb dX10_count_165 rfl (lv_at hl 1 rfl) ?_
        refine lv_bipush (v := 10) hx hb dX10_count_166 (by decide +kernel) ?_
        refine lv_isub hx hb dX10_count_168 ?_
        refine lv_topi (fun x_106 ex_106 => ?_)
        have hx_106 : x_106.toInt = x1.toInt - 10 := (iv_to ex_106).trans (sb_i rfl (by decide +kernel) (by omega) (by omega))
        clear ex_106
        obtain ⟨q_107, hq_107⟩ := og (cq := cq) tb_105.1 (oE_a1 (n := 7) tb_105.2 (by decide +kernel))
        refine va_iald hx hb hK hP q_107 0 hq_107 rfl (vp_in_iff.mpr (by omega)) dX10_count_169 ?_
        refine lv_topi (fun x_108 ex_108 => ?_)
        clear ex_108
        refine lv_goto (tgt := 175) hx hb dX10_count_170 (by decide +kernel) ?_
        exact W.iret (v := x_108) hx hb hr (fun t ht hW => ⟨⟨x_108, (), rfl, trivial, trivial⟩, hS.F ht⟩) hS.2.2 dX10_count_175
  have n_109 := c_ne (a := x1.toInt) (b := 16) rfl (by decide +kernel) q_101
  by_cases q_110 : x1 = 17
  · refine lv_topi (fun y ey => ?_)
    obtain rfl : y = 17 := ey.trans q_110
    refine lv_tableIn (x := 17) (off := 143) (tgt := 144) hx hb dX10_count_1 (by decide +kernel) (by decide +kernel) (by decide +kernel) (by decide +kernel) ?_
    refine lv_aload_n hx hb dX10_count_144 rfl (lv_at hl 0 rfl) ?_
    have hFc : ∀ q, va_A [] s.heap.size q → A q := pu_free hS hA
    obtain ⟨q_111, hq_111⟩ := og (cq := cq) to.1 (oE_10 to.2)
    refine va_calli (va_runV (As := []) (rest := []) ⟨hx, hb, hml, hown, hts⟩ (c_X10_menWhoAsk l dC dI s.heap.size cq Z gI o to) (cwV 0 hts gX10_count_X10_menWhoAsk rfl rfl rfl (by decide +kernel) ⟨(Nat.le_of_ble_eq_true rfl), (Nat.le_of_ble_eq_true rfl)⟩) (pr_V (r := (RX10, TX10, 16)) hP hK hD q_111 10 rfl hq_111) rfl rfl hl.1 rfl (lv_room (Nat.le_of_ble_eq_true rfl)) dX10_count_145 ⟨(Nat.le_of_ble_eq_true rfl), (Nat.le_of_ble_eq_true rfl)⟩) hS (fun q _ h => hFc q h) hFc (fun r_113 u t H locs ht hvm w_112 hB hz1 hk1 hS => ?_)
    have hP := pu_keep hP hk1
    clear hk1 hz1 hvm hB ht hFc
    exact W.iret (v := r_113) hx hb hr (fun t ht hW => ⟨⟨r_113, (), rfl, trivial, trivial⟩, hS.F ht⟩) hS.2.2 dX10_count_148
  have n_114 := c_ne (a := x1.toInt) (b := 17) rfl (by decide +kernel) q_110
  refine lv_tableOut (tgt := 149) hx hb dX10_count_1 (by omega) (by decide +kernel) ?_
  refine lv_iload_n hx hb dX10_count_149 rfl (lv_at hl 1 rfl) ?_
  refine lv_bipush (v := 11) hx hb dX10_count_150 (by decide +kernel) ?_
  refine lv_icmp_lt (tgt := 173) hx hb dX10_count_152 (by decide +kernel) (fun c_115 => ?_) (fun c_115 => ?_)
  · have dc_115 := c_lt (a := x1.toInt) (b := 11) rfl (by decide +kernel) c_115
    refine lv_bipush (v := (-9)) hx hb dX10_count_173 (by decide +kernel) ?_
    exact W.iret (v := (-9)) hx hb hr (fun t ht hW => ⟨⟨(-9), (), rfl, trivial, trivial⟩, hS.F ht⟩) hS.2.2 dX10_count_175
  · have dc_115 := c_nlt (a := x1.toInt) (b := 11) rfl (by decide +kernel) c_115
    refine lv_iload_n hx hb dX10_count_155 rfl (lv_at hl 1 rfl) ?_
    refine lv_bipush (v := 16) hx hb dX10_count_156 (by decide +kernel) ?_
    refine lv_icmp_gt (tgt := 173) hx hb dX10_count_158 (by decide +kernel) (fun c_116 => ?_) (fun c_116 => ?_)
    · have dc_116 := c_lt (a := 16) (b := x1.toInt) (by decide +kernel) rfl c_116
      refine lv_bipush (v := (-9)) hx hb dX10_count_173 (by decide +kernel) ?_
      exact W.iret (v := (-9)) hx hb hr (fun t ht hW => ⟨⟨(-9), (), rfl, trivial, trivial⟩, hS.F ht⟩) hS.2.2 dX10_count_175
    · have dc_116 := c_nlt (a := 16) (b := x1.toInt) (by decide +kernel) rfl c_116
      refine lv_aload_n hx hb dX10_count_161 rfl (lv_at hl 0 rfl) ?_
      obtain ⟨q_117, hq_117⟩ := og (cq := cq) to.1 (oE_10 to.2)
      obtain ⟨b_118, hb_118⟩ := oInv.nn (i := 15) gI to rfl
      refine va_get (D := (dC, dI)) (ci := 10) (v := .ref b_118) (C := RX10) (T := TX10) (N := 16) hx hb hts in_wsX10_count_X10 hown hK hP q_117 hq_117 rfl 15 (by decide +kernel) (hts (.fieldLink RX10 66 "ShipOffice" "refusals" "[I") iw_X10_count_11) (fun _ h9 => h9) (o_rd hb_118) dX10_count_162 ?_
      have tb_118 : oty Z b_118 107 := oInv.rd gI to.2 hb_118 rfl rfl
      refine lv_iload_n hx hb dX10_count_165 rfl (lv_at hl 1 rfl) ?_
      refine lv_bipush (v := 10) hx hb dX10_count_166 (by decide +kernel) ?_
      refine lv_isub hx hb dX10_count_168 ?_
      refine lv_topi (fun x_119 ex_119 => ?_)
      have hx_119 : x_119.toInt = x1.toInt - 10 := (iv_to ex_119).trans (sb_i rfl (by decide +kernel) (by omega) (by omega))
      clear ex_119
      obtain ⟨q_120, hq_120⟩ := og (cq := cq) tb_118.1 (oE_a1 (n := 7) tb_118.2 (by decide +kernel))
      refine va_iald hx hb hK hP q_120 0 hq_120 rfl (vp_in_iff.mpr (by omega)) dX10_count_169 ?_
      refine lv_topi (fun x_121 ex_121 => ?_)
      clear ex_121
      refine lv_goto (tgt := 175) hx hb dX10_count_170 (by decide +kernel) ?_
      exact W.iret (v := x_121) hx hb hr (fun t ht hW => ⟨⟨x_121, (), rfl, trivial, trivial⟩, hS.F ht⟩) hS.2.2 dX10_count_175
