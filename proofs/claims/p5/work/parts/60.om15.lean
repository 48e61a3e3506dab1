abbrev cX10_man : ByteArray := prog_1_method_4_code
def yX10_man : MethodName := ⟨RX10, "man", "(III)I"⟩
abbrev cX10_voyage : ByteArray := prog_1_method_5_code
def yX10_voyage : MethodName := ⟨RX10, "voyage", "(II)I"⟩
abbrev cX10_heard : ByteArray := prog_1_method_8_code
def yX10_heard : MethodName := ⟨RX10, "heard", "(II)I"⟩
abbrev cX10_left : ByteArray := prog_1_method_10_code
def yX10_left : MethodName := ⟨RX10, "left", "(IIII)I"⟩
abbrev cX10_died : ByteArray := prog_1_method_11_code
def yX10_died : MethodName := ⟨RX10, "died", "(II)I"⟩
abbrev cX10_back : ByteArray := prog_1_method_12_code
def yX10_back : MethodName := ⟨RX10, "back", "(II)I"⟩
abbrev cX10_sign : ByteArray := prog_1_method_15_code
def yX10_sign : MethodName := ⟨RX10, "sign", "(IIIII)I"⟩
abbrev cX10_fine : ByteArray := prog_1_method_22_code
def yX10_fine : MethodName := ⟨RX10, "fine", "(IIIZ)I"⟩
abbrev cX10_addTiding : ByteArray := prog_1_method_46_code
def yX10_addTiding : MethodName := ⟨RX10, "addTiding", "(LShipOffice$Agreement;IIII)I"⟩
theorem gw_X1_init : wsX1_init.all goodWord = true := by decide +kernel
theorem gw_X2_init : wsX2_init.all goodWord = true := by decide +kernel
theorem gw_X3_init : wsX3_init.all goodWord = true := by decide +kernel
theorem gw_X6_init : wsX6_init.all goodWord = true := by decide +kernel
theorem gw_X9_init : wsX9_init.all goodWord = true := by decide +kernel
theorem gw_X9_takesHands : wsX9_takesHands.all goodWord = true := by decide +kernel
theorem gw_X10_joinGroups : wsX10_joinGroups.all goodWord = true := by decide +kernel
def wsX10_man_r1 : List Cond := [Cond.constant RX10 85 (99999), Cond.fieldLink RX10 73 "ShipOffice" "now" "I", Cond.fieldLink RX10 86 "ShipOffice" "manCount" "I", Cond.fieldLink RX10 11 "ShipOffice" "men" "[LShipOffice$Man;", Cond.classLink RX10 9 RX6, Cond.instantiable RX6 6, Cond.initialized RX6, Cond.methodLink RX10 69 yX10_refuse, Cond.instanceMethod yX10_refuse, Cond.selects RX10 yX10_refuse yX10_refuse, Cond.initialized RX10, Cond.code yX10_refuse cX10_refuse 2 (some .int), Cond.fieldLink RX10 66 "ShipOffice" "refusals" "[I", Cond.methodLink RX10 89 yX6_init, Cond.instanceMethod yX6_init, Cond.code yX6_init cX6_init 5 none, Cond.methodLink RX6 3 objectInit, Cond.instanceMethod objectInit, Cond.code objectInit ⟨#[0xb1]⟩ 1 none, Cond.arrayClass .int, Cond.fieldLink RX6 9 "ShipOffice$Man" "wages" "[I", Cond.fieldLink RX6 15 "ShipOffice$Man" "number" "I", Cond.fieldLink RX6 19 "ShipOffice$Man" "name" "I", Cond.fieldLink RX6 22 "ShipOffice$Man" "marks" "I"]
def wsX10_man_r2 : List Cond := [Cond.fieldLink RX6 25 "ShipOffice$Man" "born" "I", Cond.fieldLink RX6 28 "ShipOffice$Man" "leastAlike" "I", Cond.methodLink RX10 92 yX10_joinGroups, Cond.instanceMethod yX10_joinGroups, Cond.selects RX10 yX10_joinGroups yX10_joinGroups, Cond.code yX10_joinGroups cX10_joinGroups 3 none, Cond.fieldLink RX10 311 "ShipOffice$Man" "leastAlike" "I", Cond.methodLink RX10 371 yX6_isAlike, Cond.instanceMethod yX6_isAlike, Cond.selects RX6 yX6_isAlike yX6_isAlike, Cond.code yX6_isAlike cX6_isAlike 2 (some .boolean), Cond.methodLink RX6 31 yX6_digitsApart, Cond.static yX6_digitsApart, Cond.code yX6_digitsApart cX6_digitsApart 6 (some .int), Cond.methodLink RX10 374 yX10_mergeGroups, Cond.instanceMethod yX10_mergeGroups, Cond.selects RX10 yX10_mergeGroups yX10_mergeGroups, Cond.code yX10_mergeGroups cX10_mergeGroups 6 none, Cond.methodLink RX10 378 Lib.Math.min.name, Cond.static Lib.Math.min.name, Cond.initialized "java/lang/Math", Cond.code Lib.Math.min.name Lib.Math.min.code 2 (some .int), Cond.methodLink RX10 383 Lib.Math.max.name, Cond.static Lib.Math.max.name]
def wsX10_man_r3 : List Cond := [Cond.code Lib.Math.max.name Lib.Math.max.code 2 (some .int)]
def wsX10_man : List Cond := .code yX10_man cX10_man 4 (some .int) :: ((wsX10_man_r1 ++ (wsX10_man_r2 ++ wsX10_man_r3)) ++ wsX100 ++ wsX60)
theorem il_X10_man_1 : ∀ w ∈ wsX10_man_r1, w ∈ wsX10_man := fun w h => (List.mem_cons_of_mem _ (List.mem_append_left _ (List.mem_append_left _ (List.mem_append_left _ h))))
theorem il_X10_man_2 : ∀ w ∈ wsX10_man_r2, w ∈ wsX10_man := fun w h => (List.mem_cons_of_mem _ (List.mem_append_left _ (List.mem_append_left _ (List.mem_append_right _ (List.mem_append_left _ h)))))
theorem il_X10_man_3 : ∀ w ∈ wsX10_man_r3, w ∈ wsX10_man := fun w h => (List.mem_cons_of_mem _ (List.mem_append_left _ (List.mem_append_left _ (List.mem_append_right _ (List.mem_append_right _ h)))))
theorem il_X10_man_4 : ∀ w ∈ wsX100, w ∈ wsX10_man := fun w h => (List.mem_cons_of_mem _ (List.mem_append_left _ (List.mem_append_right _ h)))
theorem il_X10_man_5 : ∀ w ∈ wsX60, w ∈ wsX10_man := fun w h => (List.mem_cons_of_mem _ (List.mem_append_right _ h))
theorem iw_X10_man_1 : Cond.fieldLink RX10 73 "ShipOffice" "now" "I" ∈ wsX10_man := (mmI il_X10_man_1 1 rfl)
theorem iw_X10_man_2 : Cond.fieldLink RX10 86 "ShipOffice" "manCount" "I" ∈ wsX10_man := (mmI il_X10_man_1 2 rfl)
theorem iw_X10_man_3 : Cond.fieldLink RX10 11 "ShipOffice" "men" "[LShipOffice$Man;" ∈ wsX10_man := (mmI il_X10_man_1 3 rfl)
theorem iw_X10_man_4 : Cond.classLink RX10 9 RX6 ∈ wsX10_man := (mmI il_X10_man_1 4 rfl)
theorem iw_X10_man_5 : Cond.instantiable RX6 6 ∈ wsX10_man := (mmI il_X10_man_1 5 rfl)
theorem iw_X10_man_6 : Cond.initialized RX6 ∈ wsX10_man := (mmI il_X10_man_1 6 rfl)
theorem iw_X10_man_7 : Cond.methodLink RX10 89 yX6_init ∈ wsX10_man := (mmI il_X10_man_1 13 rfl)
theorem iw_X10_man_8 : Cond.instanceMethod yX6_init ∈ wsX10_man := (mmI il_X10_man_1 14 rfl)
theorem gw_X10_hasVoyage : wsX10_hasVoyage.all goodWord = true := by decide +kernel
def wsX10_voyage_r1 : List Cond := [Cond.fieldLink RX10 99 "ShipOffice" "voyageCount" "I", Cond.fieldLink RX10 17 "ShipOffice" "voyages" "[LShipOffice$Voyage;", Cond.classLink RX10 15 RX9, Cond.instantiable RX9 10, Cond.initialized RX9, Cond.fieldLink RX10 73 "ShipOffice" "now" "I", Cond.methodLink RX10 77 yX10_isPort, Cond.static yX10_isPort, Cond.initialized RX10, Cond.code yX10_isPort cX10_isPort 1 (some .boolean), Cond.methodLink RX10 69 yX10_refuse, Cond.instanceMethod yX10_refuse, Cond.selects RX10 yX10_refuse yX10_refuse, Cond.code yX10_refuse cX10_refuse 2 (some .int), Cond.fieldLink RX10 66 "ShipOffice" "refusals" "[I", Cond.methodLink RX10 96 yX10_hasVoyage, Cond.instanceMethod yX10_hasVoyage, Cond.selects RX10 yX10_hasVoyage yX10_hasVoyage, Cond.code yX10_hasVoyage cX10_hasVoyage 3 (some .boolean), Cond.fieldLink RX10 386 "ShipOffice$Voyage" "ship" "I", Cond.fieldLink RX10 107 "ShipOffice$Voyage" "isOver" "Z", Cond.methodLink RX10 102 yX9_init, Cond.instanceMethod yX9_init, Cond.code yX9_init cX9_init 5 none]
def wsX10_voyage_r2 : List Cond := [Cond.methodLink RX9 3 objectInit, Cond.instanceMethod objectInit, Cond.code objectInit ⟨#[0xb1]⟩ 1 none, Cond.constant RX9 9 (1000000), Cond.fieldLink RX9 10 "ShipOffice$Voyage" "sailedDay" "I", Cond.fieldLink RX9 16 "ShipOffice$Voyage" "sailedTold" "I", Cond.fieldLink RX9 19 "ShipOffice$Voyage" "lostDay" "I", Cond.fieldLink RX9 22 "ShipOffice$Voyage" "lostTold" "I", Cond.fieldLink RX9 25 "ShipOffice$Voyage" "number" "I", Cond.fieldLink RX9 28 "ShipOffice$Voyage" "ship" "I", Cond.fieldLink RX9 31 "ShipOffice$Voyage" "port" "I", Cond.fieldLink RX9 34 "ShipOffice$Voyage" "openedOn" "I"]
def wsX10_voyage : List Cond := .code yX10_voyage cX10_voyage 3 (some .int) :: ((wsX10_voyage_r1 ++ wsX10_voyage_r2) ++ wsX100 ++ wsX90)
theorem il_X10_voyage_1 : ∀ w ∈ wsX10_voyage_r1, w ∈ wsX10_voyage := fun w h => (List.mem_cons_of_mem _ (List.mem_append_left _ (List.mem_append_left _ (List.mem_append_left _ h))))
theorem il_X10_voyage_2 : ∀ w ∈ wsX10_voyage_r2, w ∈ wsX10_voyage := fun w h => (List.mem_cons_of_mem _ (List.mem_append_left _ (List.mem_append_left _ (List.mem_append_right _ h))))
theorem il_X10_voyage_3 : ∀ w ∈ wsX100, w ∈ wsX10_voyage := fun w h => (List.mem_cons_of_mem _ (List.mem_append_left _ (List.mem_append_right _ h)))
theorem il_X10_voyage_4 : ∀ w ∈ wsX90, w ∈ wsX10_voyage := fun w h => (List.mem_cons_of_mem _ (List.mem_append_right _ h))
theorem iw_X10_voyage_1 : Cond.fieldLink RX10 99 "ShipOffice" "voyageCount" "I" ∈ wsX10_voyage := (mmI il_X10_voyage_1 0 rfl)
theorem iw_X10_voyage_2 : Cond.fieldLink RX10 17 "ShipOffice" "voyages" "[LShipOffice$Voyage;" ∈ wsX10_voyage := (mmI il_X10_voyage_1 1 rfl)
theorem iw_X10_voyage_3 : Cond.classLink RX10 15 RX9 ∈ wsX10_voyage := (mmI il_X10_voyage_1 2 rfl)
theorem iw_X10_voyage_4 : Cond.instantiable RX9 10 ∈ wsX10_voyage := (mmI il_X10_voyage_1 3 rfl)
theorem iw_X10_voyage_5 : Cond.initialized RX9 ∈ wsX10_voyage := (mmI il_X10_voyage_1 4 rfl)
theorem iw_X10_voyage_6 : Cond.fieldLink RX10 73 "ShipOffice" "now" "I" ∈ wsX10_voyage := (mmI il_X10_voyage_1 5 rfl)
theorem iw_X10_voyage_7 : Cond.methodLink RX10 102 yX9_init ∈ wsX10_voyage := (mmI il_X10_voyage_1 21 rfl)
theorem iw_X10_voyage_8 : Cond.instanceMethod yX9_init ∈ wsX10_voyage := (mmI il_X10_voyage_1 22 rfl)
def wsX10_heard_r1 : List Cond := [Cond.classLink RX10 142 RX3, Cond.instantiable RX3 6, Cond.initialized RX3, Cond.fieldLink RX10 73 "ShipOffice" "now" "I", Cond.fieldLink RX10 144 "ShipOffice$Voyage" "heardOf" "LShipOffice$Happening;", Cond.fieldLink RX10 139 "ShipOffice" "happeningCount" "I", Cond.methodLink RX10 103 yX10_voyageAt, Cond.instanceMethod yX10_voyageAt, Cond.selects RX10 yX10_voyageAt yX10_voyageAt, Cond.initialized RX10, Cond.code yX10_voyageAt cX10_voyageAt 2 (some (.object "ShipOffice$Voyage")), Cond.fieldLink RX10 99 "ShipOffice" "voyageCount" "I", Cond.fieldLink RX10 17 "ShipOffice" "voyages" "[LShipOffice$Voyage;", Cond.methodLink RX10 69 yX10_refuse, Cond.instanceMethod yX10_refuse, Cond.selects RX10 yX10_refuse yX10_refuse, Cond.code yX10_refuse cX10_refuse 2 (some .int), Cond.fieldLink RX10 66 "ShipOffice" "refusals" "[I", Cond.methodLink RX10 132 yX10_voyageRefusal, Cond.instanceMethod yX10_voyageRefusal, Cond.selects RX10 yX10_voyageRefusal yX10_voyageRefusal, Cond.code yX10_voyageRefusal cX10_voyageRefusal 4 (some .int), Cond.fieldLink RX10 107 "ShipOffice$Voyage" "isOver" "Z", Cond.fieldLink RX10 365 "ShipOffice$Voyage" "openedOn" "I"]
def wsX10_heard_r2 : List Cond := [Cond.methodLink RX10 148 yX3_init, Cond.instanceMethod yX3_init, Cond.code yX3_init cX3_init 7 none, Cond.methodLink RX3 1 objectInit, Cond.instanceMethod objectInit, Cond.code objectInit ⟨#[0xb1]⟩ 1 none, Cond.fieldLink RX3 7 "ShipOffice$Happening" "kind" "I", Cond.fieldLink RX3 13 "ShipOffice$Happening" "day" "I", Cond.fieldLink RX3 16 "ShipOffice$Happening" "told" "I", Cond.fieldLink RX3 19 "ShipOffice$Happening" "way" "I", Cond.fieldLink RX3 22 "ShipOffice$Happening" "port" "I", Cond.fieldLink RX3 25 "ShipOffice$Happening" "before" "LShipOffice$Happening;"]
def wsX10_heard : List Cond := .code yX10_heard cX10_heard 5 (some .int) :: ((wsX10_heard_r1 ++ wsX10_heard_r2) ++ wsX30 ++ wsX100 ++ wsX90)
theorem il_X10_heard_1 : ∀ w ∈ wsX10_heard_r1, w ∈ wsX10_heard := fun w h => (List.mem_cons_of_mem _ (List.mem_append_left _ (List.mem_append_left _ (List.mem_append_left _ (List.mem_append_left _ h)))))
theorem il_X10_heard_2 : ∀ w ∈ wsX10_heard_r2, w ∈ wsX10_heard := fun w h => (List.mem_cons_of_mem _ (List.mem_append_left _ (List.mem_append_left _ (List.mem_append_left _ (List.mem_append_right _ h)))))
theorem il_X10_heard_3 : ∀ w ∈ wsX30, w ∈ wsX10_heard := fun w h => (List.mem_cons_of_mem _ (List.mem_append_left _ (List.mem_append_left _ (List.mem_append_right _ h))))
theorem il_X10_heard_4 : ∀ w ∈ wsX100, w ∈ wsX10_heard := fun w h => (List.mem_cons_of_mem _ (List.mem_append_left _ (List.mem_append_right _ h)))
theorem il_X10_heard_5 : ∀ w ∈ wsX90, w ∈ wsX10_heard := fun w h => (List.mem_cons_of_mem _ (List.mem_append_right _ h))
theorem iw_X10_heard_1 : Cond.classLink RX10 142 RX3 ∈ wsX10_heard := (mmI il_X10_heard_1 0 rfl)
theorem iw_X10_heard_2 : Cond.instantiable RX3 6 ∈ wsX10_heard := (mmI il_X10_heard_1 1 rfl)
theorem iw_X10_heard_3 : Cond.initialized RX3 ∈ wsX10_heard := (mmI il_X10_heard_1 2 rfl)
theorem iw_X10_heard_4 : Cond.fieldLink RX10 73 "ShipOffice" "now" "I" ∈ wsX10_heard := (mmI il_X10_heard_1 3 rfl)
theorem iw_X10_heard_5 : Cond.fieldLink RX10 144 "ShipOffice$Voyage" "heardOf" "LShipOffice$Happening;" ∈ wsX10_heard := (mmI il_X10_heard_1 4 rfl)
theorem iw_X10_heard_6 : Cond.methodLink RX10 148 yX3_init ∈ wsX10_heard := (mmI il_X10_heard_2 0 rfl)
theorem iw_X10_heard_7 : Cond.instanceMethod yX3_init ∈ wsX10_heard := (mmI il_X10_heard_2 1 rfl)
theorem iw_X10_heard_8 : Cond.fieldLink RX10 139 "ShipOffice" "happeningCount" "I" ∈ wsX10_heard := (mmI il_X10_heard_1 5 rfl)
theorem gw_X10_tidingRefusal : wsX10_tidingRefusal.all goodWord = true := by decide +kernel
def wsX10_addTiding : List Cond := .code yX10_addTiding cX10_addTiding 6 (some .int) :: ([.classLink RX10 142 RX3, .instantiable RX3 6, .initialized RX3, .fieldLink RX10 73 "ShipOffice" "now" "I", .fieldLink RX10 368 "ShipOffice$Agreement" "tidings" "LShipOffice$Happening;", .fieldLink RX10 139 "ShipOffice" "happeningCount" "I", .methodLink RX10 148 yX3_init, .instanceMethod yX3_init, .code yX3_init cX3_init 7 none, .methodLink RX3 1 objectInit, .instanceMethod objectInit, .code objectInit ⟨#[0xb1]⟩ 1 none, .fieldLink RX3 7 "ShipOffice$Happening" "kind" "I", .fieldLink RX3 13 "ShipOffice$Happening" "day" "I", .fieldLink RX3 16 "ShipOffice$Happening" "told" "I", .fieldLink RX3 19 "ShipOffice$Happening" "way" "I", .fieldLink RX3 22 "ShipOffice$Happening" "port" "I", .fieldLink RX3 25 "ShipOffice$Happening" "before" "LShipOffice$Happening;"] ++ wsX30 ++ wsX100 ++ wsX10)
theorem gw_X10_addTiding : wsX10_addTiding.all goodWord = true := by decide +kernel
theorem il_X10_addTiding_1 : ∀ w ∈ ([.classLink RX10 142 RX3, .instantiable RX3 6, .initialized RX3, .fieldLink RX10 73 "ShipOffice" "now" "I", .fieldLink RX10 368 "ShipOffice$Agreement" "tidings" "LShipOffice$Happening;", .fieldLink RX10 139 "ShipOffice" "happeningCount" "I", .methodLink RX10 148 yX3_init, .instanceMethod yX3_init, .code yX3_init cX3_init 7 none, .methodLink RX3 1 objectInit, .instanceMethod objectInit, .code objectInit ⟨#[0xb1]⟩ 1 none, .fieldLink RX3 7 "ShipOffice$Happening" "kind" "I", .fieldLink RX3 13 "ShipOffice$Happening" "day" "I", .fieldLink RX3 16 "ShipOffice$Happening" "told" "I", .fieldLink RX3 19 "ShipOffice$Happening" "way" "I", .fieldLink RX3 22 "ShipOffice$Happening" "port" "I", .fieldLink RX3 25 "ShipOffice$Happening" "before" "LShipOffice$Happening;"] : List Cond), w ∈ wsX10_addTiding := fun w h => (List.mem_cons_of_mem _ (List.mem_append_left _ (List.mem_append_left _ (List.mem_append_left _ h))))
theorem il_X10_addTiding_2 : ∀ w ∈ wsX30, w ∈ wsX10_addTiding := fun w h => (List.mem_cons_of_mem _ (List.mem_append_left _ (List.mem_append_left _ (List.mem_append_right _ h))))
theorem iw_X10_addTiding_1 : Cond.classLink RX10 142 RX3 ∈ wsX10_addTiding := (mmI il_X10_addTiding_1 0 rfl)
theorem iw_X10_addTiding_2 : Cond.instantiable RX3 6 ∈ wsX10_addTiding := (mmI il_X10_addTiding_1 1 rfl)
theorem iw_X10_addTiding_3 : Cond.initialized RX3 ∈ wsX10_addTiding := (mmI il_X10_addTiding_1 2 rfl)
theorem iw_X10_addTiding_4 : Cond.fieldLink RX10 73 "ShipOffice" "now" "I" ∈ wsX10_addTiding := (mmI il_X10_addTiding_1 3 rfl)
theorem iw_X10_addTiding_5 : Cond.fieldLink RX10 368 "ShipOffice$Agreement" "tidings" "LShipOffice$Happening;" ∈ wsX10_addTiding := (mmI il_X10_addTiding_1 4 rfl)
theorem iw_X10_addTiding_6 : Cond.methodLink RX10 148 yX3_init ∈ wsX10_addTiding := (mmI il_X10_addTiding_1 6 rfl)
theorem iw_X10_addTiding_7 : Cond.instanceMethod yX3_init ∈ wsX10_addTiding := (mmI il_X10_addTiding_1 7 rfl)
theorem iw_X10_addTiding_8 : Cond.fieldLink RX10 139 "ShipOffice" "happeningCount" "I" ∈ wsX10_addTiding := (mmI il_X10_addTiding_1 5 rfl)
def wsX10_left_r1 : List Cond := [Cond.methodLink RX10 154 yX10_agreementAt, Cond.instanceMethod yX10_agreementAt, Cond.selects RX10 yX10_agreementAt yX10_agreementAt, Cond.initialized RX10, Cond.code yX10_agreementAt cX10_agreementAt 2 (some (.object "ShipOffice$Agreement")), Cond.fieldLink RX10 115 "ShipOffice" "agreementCount" "I", Cond.fieldLink RX10 23 "ShipOffice" "agreements" "[LShipOffice$Agreement;", Cond.methodLink RX10 77 yX10_isPort, Cond.static yX10_isPort, Cond.code yX10_isPort cX10_isPort 1 (some .boolean), Cond.methodLink RX10 69 yX10_refuse, Cond.instanceMethod yX10_refuse, Cond.selects RX10 yX10_refuse yX10_refuse, Cond.code yX10_refuse cX10_refuse 2 (some .int), Cond.fieldLink RX10 66 "ShipOffice" "refusals" "[I", Cond.methodLink RX10 158 yX10_tidingRefusal, Cond.instanceMethod yX10_tidingRefusal, Cond.selects RX10 yX10_tidingRefusal yX10_tidingRefusal, Cond.code yX10_tidingRefusal cX10_tidingRefusal 3 (some .int), Cond.fieldLink RX10 126 "ShipOffice$Agreement" "offDay" "I", Cond.constant RX10 114 (1000000), Cond.fieldLink RX10 255 "ShipOffice$Agreement" "signedOn" "I", Cond.fieldLink RX10 73 "ShipOffice" "now" "I", Cond.fieldLink RX10 139 "ShipOffice" "happeningCount" "I"]
def wsX10_left_r2 : List Cond := [Cond.methodLink RX10 162 yX10_addTiding, Cond.instanceMethod yX10_addTiding, Cond.selects RX10 yX10_addTiding yX10_addTiding, Cond.code yX10_addTiding cX10_addTiding 6 (some .int), Cond.classLink RX10 142 RX3, Cond.instantiable RX3 6, Cond.initialized RX3, Cond.fieldLink RX10 368 "ShipOffice$Agreement" "tidings" "LShipOffice$Happening;", Cond.methodLink RX10 148 yX3_init, Cond.instanceMethod yX3_init, Cond.code yX3_init cX3_init 7 none, Cond.methodLink RX3 1 objectInit, Cond.instanceMethod objectInit, Cond.code objectInit ⟨#[0xb1]⟩ 1 none, Cond.fieldLink RX3 7 "ShipOffice$Happening" "kind" "I", Cond.fieldLink RX3 13 "ShipOffice$Happening" "day" "I", Cond.fieldLink RX3 16 "ShipOffice$Happening" "told" "I", Cond.fieldLink RX3 19 "ShipOffice$Happening" "way" "I", Cond.fieldLink RX3 22 "ShipOffice$Happening" "port" "I", Cond.fieldLink RX3 25 "ShipOffice$Happening" "before" "LShipOffice$Happening;"]
def wsX10_left : List Cond := .code yX10_left cX10_left 7 (some .int) :: ((wsX10_left_r1 ++ wsX10_left_r2) ++ wsX100 ++ wsX10 ++ wsX30)
theorem il_X10_left_1 : ∀ w ∈ wsX10_left_r1, w ∈ wsX10_left := fun w h => (List.mem_cons_of_mem _ (List.mem_append_left _ (List.mem_append_left _ (List.mem_append_left _ (List.mem_append_left _ h)))))
theorem il_X10_left_2 : ∀ w ∈ wsX10_left_r2, w ∈ wsX10_left := fun w h => (List.mem_cons_of_mem _ (List.mem_append_left _ (List.mem_append_left _ (List.mem_append_left _ (List.mem_append_right _ h)))))
theorem il_X10_left_3 : ∀ w ∈ wsX100, w ∈ wsX10_left := fun w h => (List.mem_cons_of_mem _ (List.mem_append_left _ (List.mem_append_left _ (List.mem_append_right _ h))))
theorem il_X10_left_4 : ∀ w ∈ wsX10, w ∈ wsX10_left := fun w h => (List.mem_cons_of_mem _ (List.mem_append_left _ (List.mem_append_right _ h)))
theorem il_X10_left_5 : ∀ w ∈ wsX30, w ∈ wsX10_left := fun w h => (List.mem_cons_of_mem _ (List.mem_append_right _ h))
def wsX10_died_r1 : List Cond := [Cond.fieldLink RX10 166 "ShipOffice$Agreement" "isDead" "Z", Cond.methodLink RX10 154 yX10_agreementAt, Cond.instanceMethod yX10_agreementAt, Cond.selects RX10 yX10_agreementAt yX10_agreementAt, Cond.initialized RX10, Cond.code yX10_agreementAt cX10_agreementAt 2 (some (.object "ShipOffice$Agreement")), Cond.fieldLink RX10 115 "ShipOffice" "agreementCount" "I", Cond.fieldLink RX10 23 "ShipOffice" "agreements" "[LShipOffice$Agreement;", Cond.methodLink RX10 69 yX10_refuse, Cond.instanceMethod yX10_refuse, Cond.selects RX10 yX10_refuse yX10_refuse, Cond.code yX10_refuse cX10_refuse 2 (some .int), Cond.fieldLink RX10 66 "ShipOffice" "refusals" "[I", Cond.methodLink RX10 158 yX10_tidingRefusal, Cond.instanceMethod yX10_tidingRefusal, Cond.selects RX10 yX10_tidingRefusal yX10_tidingRefusal, Cond.code yX10_tidingRefusal cX10_tidingRefusal 3 (some .int), Cond.fieldLink RX10 126 "ShipOffice$Agreement" "offDay" "I", Cond.constant RX10 114 (1000000), Cond.fieldLink RX10 255 "ShipOffice$Agreement" "signedOn" "I", Cond.fieldLink RX10 73 "ShipOffice" "now" "I", Cond.fieldLink RX10 139 "ShipOffice" "happeningCount" "I", Cond.methodLink RX10 162 yX10_addTiding, Cond.instanceMethod yX10_addTiding]
def wsX10_died_r2 : List Cond := [Cond.selects RX10 yX10_addTiding yX10_addTiding, Cond.code yX10_addTiding cX10_addTiding 6 (some .int), Cond.classLink RX10 142 RX3, Cond.instantiable RX3 6, Cond.initialized RX3, Cond.fieldLink RX10 368 "ShipOffice$Agreement" "tidings" "LShipOffice$Happening;", Cond.methodLink RX10 148 yX3_init, Cond.instanceMethod yX3_init, Cond.code yX3_init cX3_init 7 none, Cond.methodLink RX3 1 objectInit, Cond.instanceMethod objectInit, Cond.code objectInit ⟨#[0xb1]⟩ 1 none, Cond.fieldLink RX3 7 "ShipOffice$Happening" "kind" "I", Cond.fieldLink RX3 13 "ShipOffice$Happening" "day" "I", Cond.fieldLink RX3 16 "ShipOffice$Happening" "told" "I", Cond.fieldLink RX3 19 "ShipOffice$Happening" "way" "I", Cond.fieldLink RX3 22 "ShipOffice$Happening" "port" "I", Cond.fieldLink RX3 25 "ShipOffice$Happening" "before" "LShipOffice$Happening;"]
def wsX10_died : List Cond := .code yX10_died cX10_died 5 (some .int) :: ((wsX10_died_r1 ++ wsX10_died_r2) ++ wsX10 ++ wsX100 ++ wsX30)
theorem il_X10_died_1 : ∀ w ∈ wsX10_died_r1, w ∈ wsX10_died := fun w h => (List.mem_cons_of_mem _ (List.mem_append_left _ (List.mem_append_left _ (List.mem_append_left _ (List.mem_append_left _ h)))))
theorem il_X10_died_2 : ∀ w ∈ wsX10_died_r2, w ∈ wsX10_died := fun w h => (List.mem_cons_of_mem _ (List.mem_append_left _ (List.mem_append_left _ (List.mem_append_left _ (List.mem_append_right _ h)))))
theorem il_X10_died_3 : ∀ w ∈ wsX10, w ∈ wsX10_died := fun w h => (List.mem_cons_of_mem _ (List.mem_append_left _ (List.mem_append_left _ (List.mem_append_right _ h))))
theorem il_X10_died_4 : ∀ w ∈ wsX100, w ∈ wsX10_died := fun w h => (List.mem_cons_of_mem _ (List.mem_append_left _ (List.mem_append_right _ h)))
theorem il_X10_died_5 : ∀ w ∈ wsX30, w ∈ wsX10_died := fun w h => (List.mem_cons_of_mem _ (List.mem_append_right _ h))
theorem iw_X10_died_1 : Cond.fieldLink RX10 166 "ShipOffice$Agreement" "isDead" "Z" ∈ wsX10_died := (mmI il_X10_died_1 0 rfl)
def wsX10_back_r1 : List Cond := [Cond.methodLink RX10 154 yX10_agreementAt, Cond.instanceMethod yX10_agreementAt, Cond.selects RX10 yX10_agreementAt yX10_agreementAt, Cond.initialized RX10, Cond.code yX10_agreementAt cX10_agreementAt 2 (some (.object "ShipOffice$Agreement")), Cond.fieldLink RX10 115 "ShipOffice" "agreementCount" "I", Cond.fieldLink RX10 23 "ShipOffice" "agreements" "[LShipOffice$Agreement;", Cond.methodLink RX10 69 yX10_refuse, Cond.instanceMethod yX10_refuse, Cond.selects RX10 yX10_refuse yX10_refuse, Cond.code yX10_refuse cX10_refuse 2 (some .int), Cond.fieldLink RX10 66 "ShipOffice" "refusals" "[I", Cond.methodLink RX10 158 yX10_tidingRefusal, Cond.instanceMethod yX10_tidingRefusal, Cond.selects RX10 yX10_tidingRefusal yX10_tidingRefusal, Cond.code yX10_tidingRefusal cX10_tidingRefusal 3 (some .int), Cond.fieldLink RX10 126 "ShipOffice$Agreement" "offDay" "I", Cond.constant RX10 114 (1000000), Cond.fieldLink RX10 255 "ShipOffice$Agreement" "signedOn" "I", Cond.fieldLink RX10 73 "ShipOffice" "now" "I", Cond.fieldLink RX10 139 "ShipOffice" "happeningCount" "I", Cond.methodLink RX10 162 yX10_addTiding, Cond.instanceMethod yX10_addTiding, Cond.selects RX10 yX10_addTiding yX10_addTiding]
def wsX10_back_r2 : List Cond := [Cond.code yX10_addTiding cX10_addTiding 6 (some .int), Cond.classLink RX10 142 RX3, Cond.instantiable RX3 6, Cond.initialized RX3, Cond.fieldLink RX10 368 "ShipOffice$Agreement" "tidings" "LShipOffice$Happening;", Cond.methodLink RX10 148 yX3_init, Cond.instanceMethod yX3_init, Cond.code yX3_init cX3_init 7 none, Cond.methodLink RX3 1 objectInit, Cond.instanceMethod objectInit, Cond.code objectInit ⟨#[0xb1]⟩ 1 none, Cond.fieldLink RX3 7 "ShipOffice$Happening" "kind" "I", Cond.fieldLink RX3 13 "ShipOffice$Happening" "day" "I", Cond.fieldLink RX3 16 "ShipOffice$Happening" "told" "I", Cond.fieldLink RX3 19 "ShipOffice$Happening" "way" "I", Cond.fieldLink RX3 22 "ShipOffice$Happening" "port" "I", Cond.fieldLink RX3 25 "ShipOffice$Happening" "before" "LShipOffice$Happening;"]
def wsX10_back : List Cond := .code yX10_back cX10_back 5 (some .int) :: ((wsX10_back_r1 ++ wsX10_back_r2) ++ wsX100 ++ wsX10 ++ wsX30)
theorem il_X10_back_1 : ∀ w ∈ wsX10_back_r1, w ∈ wsX10_back := fun w h => (List.mem_cons_of_mem _ (List.mem_append_left _ (List.mem_append_left _ (List.mem_append_left _ (List.mem_append_left _ h)))))
theorem il_X10_back_2 : ∀ w ∈ wsX10_back_r2, w ∈ wsX10_back := fun w h => (List.mem_cons_of_mem _ (List.mem_append_left _ (List.mem_append_left _ (List.mem_append_left _ (List.mem_append_right _ h)))))
theorem il_X10_back_3 : ∀ w ∈ wsX100, w ∈ wsX10_back := fun w h => (List.mem_cons_of_mem _ (List.mem_append_left _ (List.mem_append_left _ (List.mem_append_right _ h))))
theorem il_X10_back_4 : ∀ w ∈ wsX10, w ∈ wsX10_back := fun w h => (List.mem_cons_of_mem _ (List.mem_append_left _ (List.mem_append_right _ h)))
theorem il_X10_back_5 : ∀ w ∈ wsX30, w ∈ wsX10_back := fun w h => (List.mem_cons_of_mem _ (List.mem_append_right _ h))
theorem gw_X10_signWorth : wsX10_signWorth.all goodWord = true := by decide +kernel
def wsX10_sign_r1 : List Cond := [Cond.fieldLink RX10 115 "ShipOffice" "agreementCount" "I", Cond.fieldLink RX10 126 "ShipOffice$Agreement" "offDay" "I", Cond.constant RX10 114 (1000000), Cond.classLink RX10 21 RX1, Cond.instantiable RX1 18, Cond.initialized RX1, Cond.fieldLink RX10 73 "ShipOffice" "now" "I", Cond.fieldLink RX10 223 "ShipOffice$Agreement" "wage" "I", Cond.fieldLink RX10 226 "ShipOffice$Agreement" "rank" "I", Cond.fieldLink RX10 23 "ShipOffice" "agreements" "[LShipOffice$Agreement;", Cond.methodLink RX10 205 yX10_manAt, Cond.instanceMethod yX10_manAt, Cond.selects RX10 yX10_manAt yX10_manAt, Cond.initialized RX10, Cond.code yX10_manAt cX10_manAt 2 (some (.object "ShipOffice$Man")), Cond.fieldLink RX10 86 "ShipOffice" "manCount" "I", Cond.fieldLink RX10 11 "ShipOffice" "men" "[LShipOffice$Man;", Cond.methodLink RX10 103 yX10_voyageAt, Cond.instanceMethod yX10_voyageAt, Cond.selects RX10 yX10_voyageAt yX10_voyageAt, Cond.code yX10_voyageAt cX10_voyageAt 2 (some (.object "ShipOffice$Voyage")), Cond.fieldLink RX10 99 "ShipOffice" "voyageCount" "I", Cond.fieldLink RX10 17 "ShipOffice" "voyages" "[LShipOffice$Voyage;", Cond.methodLink RX10 154 yX10_agreementAt]
def wsX10_sign_r2 : List Cond := [Cond.instanceMethod yX10_agreementAt, Cond.selects RX10 yX10_agreementAt yX10_agreementAt, Cond.code yX10_agreementAt cX10_agreementAt 2 (some (.object "ShipOffice$Agreement")), Cond.methodLink RX10 69 yX10_refuse, Cond.instanceMethod yX10_refuse, Cond.selects RX10 yX10_refuse yX10_refuse, Cond.code yX10_refuse cX10_refuse 2 (some .int), Cond.fieldLink RX10 66 "ShipOffice" "refusals" "[I", Cond.methodLink RX10 209 yX9_takesHands, Cond.instanceMethod yX9_takesHands, Cond.selects RX9 yX9_takesHands yX9_takesHands, Cond.initialized RX9, Cond.code yX9_takesHands cX9_takesHands 1 (some .boolean), Cond.fieldLink RX9 37 "ShipOffice$Voyage" "isOver" "Z", Cond.fieldLink RX9 16 "ShipOffice$Voyage" "sailedTold" "I", Cond.constant RX9 9 (1000000), Cond.fieldLink RX9 22 "ShipOffice$Voyage" "lostTold" "I", Cond.methodLink RX10 212 yX10_isFree, Cond.instanceMethod yX10_isFree, Cond.selects RX10 yX10_isFree yX10_isFree, Cond.code yX10_isFree cX10_isFree 3 (some .boolean), Cond.fieldLink RX10 299 "ShipOffice$Agreement" "man" "LShipOffice$Man;", Cond.methodLink RX10 122 yX1_goesOn, Cond.instanceMethod yX1_goesOn]
def wsX10_sign_r3 : List Cond := [Cond.selects RX1 yX1_goesOn yX1_goesOn, Cond.code yX1_goesOn cX1_goesOn 1 (some .boolean), Cond.fieldLink RX1 10 "ShipOffice$Agreement" "offDay" "I", Cond.constant RX1 9 (1000000), Cond.fieldLink RX1 44 "ShipOffice$Agreement" "isDead" "Z", Cond.fieldLink RX1 33 "ShipOffice$Agreement" "voyage" "LShipOffice$Voyage;", Cond.fieldLink RX1 48 "ShipOffice$Voyage" "lostTold" "I", Cond.methodLink RX10 216 yX10_signWorth, Cond.instanceMethod yX10_signWorth, Cond.selects RX10 yX10_signWorth yX10_signWorth, Cond.code yX10_signWorth cX10_signWorth 4 (some .int), Cond.fieldLink RX10 59 "ShipOffice" "letters" "[I", Cond.fieldLink RX10 30 "ShipOffice" "law" "LShipOffice$Law;", Cond.methodLink RX10 393 yJ7_fill_53178, Cond.static yJ7_fill_53178, Cond.initialized RJ7, Cond.code yJ7_fill_53178 cJ7_fill_53178 4 none, Cond.methodLink RX10 397 yX6_yearsOn, Cond.instanceMethod yX6_yearsOn, Cond.selects RX6 yX6_yearsOn yX6_yearsOn, Cond.initialized RX6, Cond.code yX6_yearsOn cX6_yearsOn 2 (some .int), Cond.fieldLink RX6 25 "ShipOffice$Man" "born" "I", Cond.methodLink RX10 400 yX5_inForce]
def wsX10_sign_r4 : List Cond := [Cond.instanceMethod yX5_inForce, Cond.selects RX5 yX5_inForce yX5_inForce, Cond.initialized RX5, Cond.code yX5_inForce cX5_inForce 6 (some (.object "ShipOffice$Act")), Cond.fieldLink RX5 17 "ShipOffice$Law" "customs" "[LShipOffice$Act;", Cond.fieldLink RX5 23 "ShipOffice$Law" "actCount" "I", Cond.fieldLink RX5 11 "ShipOffice$Law" "acts" "[LShipOffice$Act;", Cond.fieldLink RX5 27 "ShipOffice$Act" "purpose" "I", Cond.fieldLink RX5 30 "ShipOffice$Act" "day" "I", Cond.methodLink RX10 404 yX0_worth, Cond.instanceMethod yX0_worth, Cond.selects RX0 yX0_worth yX0_worth, Cond.initialized RX0, Cond.code yX0_worth cX0_worth 8 (some .int), Cond.fieldLink RX0 16 "ShipOffice$Act" "code" "[I", Cond.fieldLink RX0 20 "ShipOffice$Act" "stack" "[I", Cond.methodLink RX0 36 yX0_joined, Cond.static yX0_joined, Cond.code yX0_joined cX0_joined 5 (some .int), Cond.methodLink RX0 40 yX0_held, Cond.static yX0_held, Cond.code yX0_held cX0_held 2 (some .int), Cond.constantLong RX0 44 (1000000000), Cond.constant RX0 46 (1000000000)]
def wsX10_sign_r5 : List Cond := [Cond.constantLong RX0 47 (-1000000000), Cond.constant RX0 49 (-1000000000), Cond.methodLink RX10 220 yX1_init, Cond.instanceMethod yX1_init, Cond.code yX1_init cX1_init 5 none, Cond.methodLink RX1 3 objectInit, Cond.instanceMethod objectInit, Cond.code objectInit ⟨#[0xb1]⟩ 1 none, Cond.classLink RX1 16 RX2, Cond.fieldLink RX1 18 "ShipOffice$Agreement" "fines" "[LShipOffice$Fine;", Cond.arrayClass .int, Cond.fieldLink RX1 22 "ShipOffice$Agreement" "shortTold" "[I", Cond.fieldLink RX1 26 "ShipOffice$Agreement" "shortSum" "[I", Cond.fieldLink RX1 29 "ShipOffice$Agreement" "man" "LShipOffice$Man;", Cond.fieldLink RX1 37 "ShipOffice$Agreement" "signedOn" "I", Cond.fieldLink RX1 40 "ShipOffice$Agreement" "paper" "LShipOffice$Agreement;"]
def wsX10_sign : List Cond := .code yX10_sign cX10_sign 11 (some .int) :: ((wsX10_sign_r1 ++ (wsX10_sign_r2 ++ (wsX10_sign_r3 ++ (wsX10_sign_r4 ++ wsX10_sign_r5)))) ++ wsX100 ++ wsX10 ++ wsX90 ++ wsX60 ++ wsX50 ++ wsX00)
theorem il_X10_sign_1 : ∀ w ∈ wsX10_sign_r1, w ∈ wsX10_sign := fun w h => (List.mem_cons_of_mem _ (List.mem_append_left _ (List.mem_append_left _ (List.mem_append_left _ (List.mem_append_left _ (List.mem_append_left _ (List.mem_append_left _ (List.mem_append_left _ h))))))))
theorem il_X10_sign_2 : ∀ w ∈ wsX10_sign_r2, w ∈ wsX10_sign := fun w h => (List.mem_cons_of_mem _ (List.mem_append_left _ (List.mem_append_left _ (List.mem_append_left _ (List.mem_append_left _ (List.mem_append_left _ (List.mem_append_left _ (List.mem_append_right _ (List.mem_append_left _ h)))))))))
theorem il_X10_sign_3 : ∀ w ∈ wsX10_sign_r3, w ∈ wsX10_sign := fun w h => (List.mem_cons_of_mem _ (List.mem_append_left _ (List.mem_append_left _ (List.mem_append_left _ (List.mem_append_left _ (List.mem_append_left _ (List.mem_append_left _ (List.mem_append_right _ (List.mem_append_right _ (List.mem_append_left _ h))))))))))
theorem il_X10_sign_4 : ∀ w ∈ wsX10_sign_r4, w ∈ wsX10_sign := fun w h => (List.mem_cons_of_mem _ (List.mem_append_left _ (List.mem_append_left _ (List.mem_append_left _ (List.mem_append_left _ (List.mem_append_left _ (List.mem_append_left _ (List.mem_append_right _ (List.mem_append_right _ (List.mem_append_right _ (List.mem_append_left _ h)))))))))))
theorem il_X10_sign_5 : ∀ w ∈ wsX10_sign_r5, w ∈ wsX10_sign := fun w h => (List.mem_cons_of_mem _ (List.mem_append_left _ (List.mem_append_left _ (List.mem_append_left _ (List.mem_append_left _ (List.mem_append_left _ (List.mem_append_left _ (List.mem_append_right _ (List.mem_append_right _ (List.mem_append_right _ (List.mem_append_right _ h)))))))))))
theorem il_X10_sign_6 : ∀ w ∈ wsX100, w ∈ wsX10_sign := fun w h => (List.mem_cons_of_mem _ (List.mem_append_left _ (List.mem_append_left _ (List.mem_append_left _ (List.mem_append_left _ (List.mem_append_left _ (List.mem_append_right _ h)))))))
theorem il_X10_sign_7 : ∀ w ∈ wsX10, w ∈ wsX10_sign := fun w h => (List.mem_cons_of_mem _ (List.mem_append_left _ (List.mem_append_left _ (List.mem_append_left _ (List.mem_append_left _ (List.mem_append_right _ h))))))
theorem il_X10_sign_8 : ∀ w ∈ wsX90, w ∈ wsX10_sign := fun w h => (List.mem_cons_of_mem _ (List.mem_append_left _ (List.mem_append_left _ (List.mem_append_left _ (List.mem_append_right _ h)))))
theorem il_X10_sign_9 : ∀ w ∈ wsX60, w ∈ wsX10_sign := fun w h => (List.mem_cons_of_mem _ (List.mem_append_left _ (List.mem_append_left _ (List.mem_append_right _ h))))
theorem il_X10_sign_10 : ∀ w ∈ wsX50, w ∈ wsX10_sign := fun w h => (List.mem_cons_of_mem _ (List.mem_append_left _ (List.mem_append_right _ h)))
theorem il_X10_sign_11 : ∀ w ∈ wsX00, w ∈ wsX10_sign := fun w h => (List.mem_cons_of_mem _ (List.mem_append_right _ h))
theorem iw_X10_sign_1 : Cond.fieldLink RX10 115 "ShipOffice" "agreementCount" "I" ∈ wsX10_sign := (mmI il_X10_sign_1 0 rfl)
theorem iw_X10_sign_2 : Cond.classLink RX10 21 RX1 ∈ wsX10_sign := (mmI il_X10_sign_1 3 rfl)
theorem iw_X10_sign_3 : Cond.instantiable RX1 18 ∈ wsX10_sign := (mmI il_X10_sign_1 4 rfl)
theorem iw_X10_sign_4 : Cond.initialized RX1 ∈ wsX10_sign := (mmI il_X10_sign_1 5 rfl)
theorem iw_X10_sign_5 : Cond.fieldLink RX10 73 "ShipOffice" "now" "I" ∈ wsX10_sign := (mmI il_X10_sign_1 6 rfl)
theorem iw_X10_sign_6 : Cond.methodLink RX10 220 yX1_init ∈ wsX10_sign := (mmI il_X10_sign_5 2 rfl)
theorem iw_X10_sign_7 : Cond.instanceMethod yX1_init ∈ wsX10_sign := (mmI il_X10_sign_5 3 rfl)
theorem iw_X10_sign_8 : Cond.fieldLink RX10 223 "ShipOffice$Agreement" "wage" "I" ∈ wsX10_sign := (mmI il_X10_sign_1 7 rfl)
theorem iw_X10_sign_9 : Cond.fieldLink RX10 226 "ShipOffice$Agreement" "rank" "I" ∈ wsX10_sign := (mmI il_X10_sign_1 8 rfl)
theorem iw_X10_sign_10 : Cond.fieldLink RX10 23 "ShipOffice" "agreements" "[LShipOffice$Agreement;" ∈ wsX10_sign := (mmI il_X10_sign_1 9 rfl)
theorem iw_X10_sign_11 : Cond.fieldLink RX10 126 "ShipOffice$Agreement" "offDay" "I" ∈ wsX10_sign := (mmI il_X10_sign_1 1 rfl)
def wsX10_fine_r1 : List Cond := [Cond.fieldLink RX10 126 "ShipOffice$Agreement" "offDay" "I", Cond.constant RX10 114 (1000000), Cond.fieldLink RX10 255 "ShipOffice$Agreement" "signedOn" "I", Cond.fieldLink RX10 73 "ShipOffice" "now" "I", Cond.fieldLink RX10 258 "ShipOffice$Agreement" "fineCount" "I", Cond.fieldLink RX10 261 "ShipOffice$Agreement" "fines" "[LShipOffice$Fine;", Cond.classLink RX10 265 RX2, Cond.instantiable RX2 3, Cond.initialized RX2, Cond.methodLink RX10 154 yX10_agreementAt, Cond.instanceMethod yX10_agreementAt, Cond.selects RX10 yX10_agreementAt yX10_agreementAt, Cond.initialized RX10, Cond.code yX10_agreementAt cX10_agreementAt 2 (some (.object "ShipOffice$Agreement")), Cond.fieldLink RX10 115 "ShipOffice" "agreementCount" "I", Cond.fieldLink RX10 23 "ShipOffice" "agreements" "[LShipOffice$Agreement;", Cond.methodLink RX10 69 yX10_refuse, Cond.instanceMethod yX10_refuse, Cond.selects RX10 yX10_refuse yX10_refuse, Cond.code yX10_refuse cX10_refuse 2 (some .int), Cond.fieldLink RX10 66 "ShipOffice" "refusals" "[I", Cond.methodLink RX10 267 yX2_init, Cond.instanceMethod yX2_init, Cond.code yX2_init cX2_init 4 none]
def wsX10_fine_r2 : List Cond := [Cond.methodLink RX2 1 objectInit, Cond.instanceMethod objectInit, Cond.code objectInit ⟨#[0xb1]⟩ 1 none, Cond.fieldLink RX2 7 "ShipOffice$Fine" "day" "I", Cond.fieldLink RX2 13 "ShipOffice$Fine" "sum" "I", Cond.fieldLink RX2 16 "ShipOffice$Fine" "isRead" "Z"]
def wsX10_fine : List Cond := .code yX10_fine cX10_fine 6 (some .int) :: ((wsX10_fine_r1 ++ wsX10_fine_r2) ++ wsX10 ++ wsX100 ++ wsX20)
theorem il_X10_fine_1 : ∀ w ∈ wsX10_fine_r1, w ∈ wsX10_fine := fun w h => (List.mem_cons_of_mem _ (List.mem_append_left _ (List.mem_append_left _ (List.mem_append_left _ (List.mem_append_left _ h)))))
theorem il_X10_fine_2 : ∀ w ∈ wsX10_fine_r2, w ∈ wsX10_fine := fun w h => (List.mem_cons_of_mem _ (List.mem_append_left _ (List.mem_append_left _ (List.mem_append_left _ (List.mem_append_right _ h)))))
theorem il_X10_fine_4 : ∀ w ∈ wsX100, w ∈ wsX10_fine := fun w h => (List.mem_cons_of_mem _ (List.mem_append_left _ (List.mem_append_right _ h)))
theorem il_X10_fine_5 : ∀ w ∈ wsX20, w ∈ wsX10_fine := fun w h => (List.mem_cons_of_mem _ (List.mem_append_right _ h))
theorem iw_X10_fine_1 : Cond.fieldLink RX10 126 "ShipOffice$Agreement" "offDay" "I" ∈ wsX10_fine := (mmI il_X10_fine_1 0 rfl)
theorem iw_X10_fine_2 : Cond.fieldLink RX10 255 "ShipOffice$Agreement" "signedOn" "I" ∈ wsX10_fine := (mmI il_X10_fine_1 2 rfl)
theorem iw_X10_fine_3 : Cond.fieldLink RX10 73 "ShipOffice" "now" "I" ∈ wsX10_fine := (mmI il_X10_fine_1 3 rfl)
theorem iw_X10_fine_4 : Cond.fieldLink RX10 258 "ShipOffice$Agreement" "fineCount" "I" ∈ wsX10_fine := (mmI il_X10_fine_1 4 rfl)
theorem iw_X10_fine_5 : Cond.fieldLink RX10 261 "ShipOffice$Agreement" "fines" "[LShipOffice$Fine;" ∈ wsX10_fine := (mmI il_X10_fine_1 5 rfl)
theorem iw_X10_fine_6 : Cond.classLink RX10 265 RX2 ∈ wsX10_fine := (mmI il_X10_fine_1 6 rfl)
theorem iw_X10_fine_7 : Cond.instantiable RX2 3 ∈ wsX10_fine := (mmI il_X10_fine_1 7 rfl)
theorem iw_X10_fine_8 : Cond.initialized RX2 ∈ wsX10_fine := (mmI il_X10_fine_1 8 rfl)
theorem iw_X10_fine_9 : Cond.methodLink RX10 267 yX2_init ∈ wsX10_fine := (mmI il_X10_fine_1 21 rfl)
theorem iw_X10_fine_10 : Cond.instanceMethod yX2_init ∈ wsX10_fine := (mmI il_X10_fine_1 22 rfl)
set_option maxRecDepth 100000 in
theorem ggX10_man_X10_refuse : GoodIn wsX10_man wsX10_refuse := goodIn_sub (mmC (mmI il_X10_man_1 11 rfl) (mmA (mmC (mmI il_X10_man_1 12 rfl) mmN) il_X10_man_4)) gw_X10_refuse
theorem gX10_man_X10_refuse : GoodIn wsX10_man (wsV RX10 69 RX10 yX10_refuse wsX10_refuse) := goodIn_app (goodIn_sub (mmC (mmI il_X10_man_1 7 rfl) (mmC (mmI il_X10_man_1 8 rfl) (mmC (mmI il_X10_man_1 9 rfl) (mmC (mmI il_X10_man_1 10 rfl) mmN)))) (by decide +kernel)) ggX10_man_X10_refuse
set_option maxRecDepth 100000 in
theorem ggX10_man_X6_init : GoodIn wsX10_man wsX6_init := goodIn_sub (mmC (mmI il_X10_man_1 15 rfl) (mmA (mmC (mmI il_X10_man_1 16 rfl) (mmC (mmI il_X10_man_1 17 rfl) (mmC (mmI il_X10_man_1 18 rfl) (mmC (mmI il_X10_man_1 19 rfl) (mmC (mmI il_X10_man_1 20 rfl) (mmC (mmI il_X10_man_1 21 rfl) (mmC (mmI il_X10_man_1 22 rfl) (mmC (mmI il_X10_man_1 23 rfl) (mmC (mmI il_X10_man_2 0 rfl) (mmC (mmI il_X10_man_2 1 rfl) mmN)))))))))) il_X10_man_5)) gw_X6_init
set_option maxRecDepth 20000 in
theorem gX10_man_X6_init : GoodIn wsX10_man (wsX6_init) := ggX10_man_X6_init
set_option maxRecDepth 100000 in
theorem ggX10_man_X10_joinGroups : GoodIn wsX10_man wsX10_joinGroups := goodIn_sub (mmC (mmI il_X10_man_2 5 rfl) (mmA (mmA (mmA (mmC (mmI il_X10_man_1 2 rfl) (mmC (mmI il_X10_man_1 3 rfl) (mmC (mmI il_X10_man_2 6 rfl) (mmC (mmI il_X10_man_2 7 rfl) (mmC (mmI il_X10_man_2 8 rfl) (mmC (mmI il_X10_man_2 9 rfl) (mmC (mmI il_X10_man_1 6 rfl) (mmC (mmI il_X10_man_2 10 rfl) (mmC (mmI il_X10_man_1 23 rfl) (mmC (mmI il_X10_man_1 22 rfl) (mmC (mmI il_X10_man_2 11 rfl) (mmC (mmI il_X10_man_2 12 rfl) (mmC (mmI il_X10_man_2 13 rfl) (mmC (mmI il_X10_man_2 14 rfl) (mmC (mmI il_X10_man_2 15 rfl) (mmC (mmI il_X10_man_2 16 rfl) (mmC (mmI il_X10_man_1 10 rfl) (mmC (mmI il_X10_man_2 17 rfl) (mmC (mmI il_X10_man_2 18 rfl) (mmC (mmI il_X10_man_2 19 rfl) (mmC (mmI il_X10_man_2 20 rfl) (mmC (mmI il_X10_man_2 21 rfl) (mmC (mmI il_X10_man_2 22 rfl) (mmC (mmI il_X10_man_2 23 rfl) mmN)))))))))))))))))))))))) (mmC (mmI il_X10_man_3 0 rfl) mmN)) il_X10_man_4) il_X10_man_5)) gw_X10_joinGroups
theorem gX10_man_X10_joinGroups : GoodIn wsX10_man (wsV RX10 92 RX10 yX10_joinGroups wsX10_joinGroups) := goodIn_app (goodIn_sub (mmC (mmI il_X10_man_2 2 rfl) (mmC (mmI il_X10_man_2 3 rfl) (mmC (mmI il_X10_man_2 4 rfl) (mmC (mmI il_X10_man_1 10 rfl) mmN)))) (by decide +kernel)) ggX10_man_X10_joinGroups
theorem dX10_man_0 : decode cX10_man 0 = .ok (.iload_n 1, 1) := by decide +kernel
theorem dX10_man_1 : decode cX10_man 1 = .ok (.ifCond .lt 14, 3) := by decide +kernel
theorem dX10_man_4 : decode cX10_man 4 = .ok (.iload_n 2, 1) := by decide +kernel
theorem dX10_man_5 : decode cX10_man 5 = .ok (.ifCond .lt 10, 3) := by decide +kernel
theorem dX10_man_8 : decode cX10_man 8 = .ok (.iload_n 3, 1) := by decide +kernel
theorem dX10_man_9 : decode cX10_man 9 = .ok (.sipush (-30000), 3) := by decide +kernel
theorem dX10_man_12 : decode cX10_man 12 = .ok (.if_icmp .ge 10, 3) := by decide +kernel
theorem dX10_man_15 : decode cX10_man 15 = .ok (.aload_n 0, 1) := by decide +kernel
theorem dX10_man_16 : decode cX10_man 16 = .ok (.bipush (-4), 2) := by decide +kernel
theorem dX10_man_18 : decode cX10_man 18 = .ok (.invokevirtual 69, 3) := by decide +kernel
theorem dX10_man_21 : decode cX10_man 21 = .ok (.ireturn, 1) := by decide +kernel
theorem dX10_man_22 : decode cX10_man 22 = .ok (.iload_n 1, 1) := by decide +kernel
theorem dX10_man_23 : decode cX10_man 23 = .ok (.sipush 9999, 3) := by decide +kernel
theorem dX10_man_26 : decode cX10_man 26 = .ok (.if_icmp .gt 26, 3) := by decide +kernel
theorem dX10_man_29 : decode cX10_man 29 = .ok (.iload_n 2, 1) := by decide +kernel
theorem dX10_man_30 : decode cX10_man 30 = .ok (.ldc 85, 2) := by decide +kernel
theorem dX10_man_32 : decode cX10_man 32 = .ok (.if_icmp .gt 20, 3) := by decide +kernel
theorem dX10_man_35 : decode cX10_man 35 = .ok (.iload_n 3, 1) := by decide +kernel
theorem dX10_man_36 : decode cX10_man 36 = .ok (.aload_n 0, 1) := by decide +kernel
theorem dX10_man_37 : decode cX10_man 37 = .ok (.getfield 73, 3) := by decide +kernel
theorem dX10_man_40 : decode cX10_man 40 = .ok (.if_icmp .gt 12, 3) := by decide +kernel
theorem dX10_man_43 : decode cX10_man 43 = .ok (.aload_n 0, 1) := by decide +kernel
theorem dX10_man_44 : decode cX10_man 44 = .ok (.getfield 86, 3) := by decide +kernel
theorem dX10_man_47 : decode cX10_man 47 = .ok (.bipush 40, 2) := by decide +kernel
theorem dX10_man_49 : decode cX10_man 49 = .ok (.if_icmp .lt 10, 3) := by decide +kernel
theorem dX10_man_52 : decode cX10_man 52 = .ok (.aload_n 0, 1) := by decide +kernel
theorem dX10_man_53 : decode cX10_man 53 = .ok (.bipush (-6), 2) := by decide +kernel
theorem dX10_man_55 : decode cX10_man 55 = .ok (.invokevirtual 69, 3) := by decide +kernel
theorem dX10_man_58 : decode cX10_man 58 = .ok (.ireturn, 1) := by decide +kernel
theorem dX10_man_59 : decode cX10_man 59 = .ok (.aload_n 0, 1) := by decide +kernel
theorem dX10_man_60 : decode cX10_man 60 = .ok (.getfield 11, 3) := by decide +kernel
theorem dX10_man_63 : decode cX10_man 63 = .ok (.aload_n 0, 1) := by decide +kernel
theorem dX10_man_64 : decode cX10_man 64 = .ok (.getfield 86, 3) := by decide +kernel
theorem dX10_man_67 : decode cX10_man 67 = .ok (.new 9, 3) := by decide +kernel
theorem dX10_man_70 : decode cX10_man 70 = .ok (.dup, 1) := by decide +kernel
theorem dX10_man_71 : decode cX10_man 71 = .ok (.aload_n 0, 1) := by decide +kernel
theorem dX10_man_72 : decode cX10_man 72 = .ok (.getfield 86, 3) := by decide +kernel
theorem dX10_man_75 : decode cX10_man 75 = .ok (.iload_n 1, 1) := by decide +kernel
theorem dX10_man_76 : decode cX10_man 76 = .ok (.iload_n 2, 1) := by decide +kernel
theorem dX10_man_77 : decode cX10_man 77 = .ok (.iload_n 3, 1) := by decide +kernel
theorem dX10_man_78 : decode cX10_man 78 = .ok (.invokespecial 89, 3) := by decide +kernel
theorem dX10_man_81 : decode cX10_man 81 = .ok (.aastore, 1) := by decide +kernel
theorem dX10_man_82 : decode cX10_man 82 = .ok (.aload_n 0, 1) := by decide +kernel
theorem dX10_man_83 : decode cX10_man 83 = .ok (.dup, 1) := by decide +kernel
theorem dX10_man_84 : decode cX10_man 84 = .ok (.getfield 86, 3) := by decide +kernel
theorem dX10_man_87 : decode cX10_man 87 = .ok (.iconst 1, 1) := by decide +kernel
theorem dX10_man_88 : decode cX10_man 88 = .ok (.iadd, 1) := by decide +kernel
theorem dX10_man_89 : decode cX10_man 89 = .ok (.putfield 86, 3) := by decide +kernel
theorem dX10_man_92 : decode cX10_man 92 = .ok (.aload_n 0, 1) := by decide +kernel
theorem dX10_man_93 : decode cX10_man 93 = .ok (.aload_n 0, 1) := by decide +kernel
theorem dX10_man_94 : decode cX10_man 94 = .ok (.getfield 11, 3) := by decide +kernel
theorem dX10_man_97 : decode cX10_man 97 = .ok (.aload_n 0, 1) := by decide +kernel
theorem dX10_man_98 : decode cX10_man 98 = .ok (.getfield 86, 3) := by decide +kernel
theorem dX10_man_101 : decode cX10_man 101 = .ok (.iconst 1, 1) := by decide +kernel
theorem dX10_man_102 : decode cX10_man 102 = .ok (.isub, 1) := by decide +kernel
theorem dX10_man_103 : decode cX10_man 103 = .ok (.aaload, 1) := by decide +kernel
theorem dX10_man_104 : decode cX10_man 104 = .ok (.invokevirtual 92, 3) := by decide +kernel
theorem dX10_man_107 : decode cX10_man 107 = .ok (.aload_n 0, 1) := by decide +kernel
theorem dX10_man_108 : decode cX10_man 108 = .ok (.getfield 86, 3) := by decide +kernel
theorem dX10_man_111 : decode cX10_man 111 = .ok (.iconst 1, 1) := by decide +kernel
theorem dX10_man_112 : decode cX10_man 112 = .ok (.isub, 1) := by decide +kernel
theorem dX10_man_113 : decode cX10_man 113 = .ok (.ireturn, 1) := by decide +kernel
set_option maxRecDepth 100000 in
theorem ggX10_voyage_X10_isPort : GoodIn wsX10_voyage wsX10_isPort := goodIn_sub (mmC (mmI il_X10_voyage_1 9 rfl) mmN) gw_X10_isPort
set_option maxRecDepth 20000 in
theorem gX10_voyage_X10_isPort : GoodIn wsX10_voyage (va_wsS RX10 77 yX10_isPort wsX10_isPort) := goodIn_app (goodIn_of _ (by decide +kernel)) ggX10_voyage_X10_isPort
set_option maxRecDepth 100000 in
theorem ggX10_voyage_X10_refuse : GoodIn wsX10_voyage wsX10_refuse := goodIn_sub (mmC (mmI il_X10_voyage_1 13 rfl) (mmA (mmC (mmI il_X10_voyage_1 14 rfl) mmN) il_X10_voyage_3)) gw_X10_refuse
theorem gX10_voyage_X10_refuse : GoodIn wsX10_voyage (wsV RX10 69 RX10 yX10_refuse wsX10_refuse) := goodIn_app (goodIn_sub (mmC (mmI il_X10_voyage_1 10 rfl) (mmC (mmI il_X10_voyage_1 11 rfl) (mmC (mmI il_X10_voyage_1 12 rfl) (mmC (mmI il_X10_voyage_1 8 rfl) mmN)))) (by decide +kernel)) ggX10_voyage_X10_refuse
set_option maxRecDepth 100000 in
theorem ggX10_voyage_X10_hasVoyage : GoodIn wsX10_voyage wsX10_hasVoyage := goodIn_sub (mmC (mmI il_X10_voyage_1 18 rfl) (mmA (mmA (mmC (mmI il_X10_voyage_1 0 rfl) (mmC (mmI il_X10_voyage_1 1 rfl) (mmC (mmI il_X10_voyage_1 19 rfl) (mmC (mmI il_X10_voyage_1 20 rfl) mmN)))) il_X10_voyage_3) il_X10_voyage_4)) gw_X10_hasVoyage
theorem gX10_voyage_X10_hasVoyage : GoodIn wsX10_voyage (wsV RX10 96 RX10 yX10_hasVoyage wsX10_hasVoyage) := goodIn_app (goodIn_sub (mmC (mmI il_X10_voyage_1 15 rfl) (mmC (mmI il_X10_voyage_1 16 rfl) (mmC (mmI il_X10_voyage_1 17 rfl) (mmC (mmI il_X10_voyage_1 8 rfl) mmN)))) (by decide +kernel)) ggX10_voyage_X10_hasVoyage
set_option maxRecDepth 100000 in
theorem ggX10_voyage_X9_init : GoodIn wsX10_voyage wsX9_init := goodIn_sub (mmC (mmI il_X10_voyage_1 23 rfl) (mmA (mmC (mmI il_X10_voyage_2 0 rfl) (mmC (mmI il_X10_voyage_2 1 rfl) (mmC (mmI il_X10_voyage_2 2 rfl) (mmC (mmI il_X10_voyage_2 3 rfl) (mmC (mmI il_X10_voyage_2 4 rfl) (mmC (mmI il_X10_voyage_2 5 rfl) (mmC (mmI il_X10_voyage_2 6 rfl) (mmC (mmI il_X10_voyage_2 7 rfl) (mmC (mmI il_X10_voyage_2 8 rfl) (mmC (mmI il_X10_voyage_2 9 rfl) (mmC (mmI il_X10_voyage_2 10 rfl) (mmC (mmI il_X10_voyage_2 11 rfl) mmN)))))))))))) il_X10_voyage_4)) gw_X9_init
set_option maxRecDepth 20000 in
theorem gX10_voyage_X9_init : GoodIn wsX10_voyage (wsX9_init) := ggX10_voyage_X9_init
theorem dX10_voyage_0 : decode cX10_voyage 0 = .ok (.iload_n 1, 1) := by decide +kernel
theorem dX10_voyage_1 : decode cX10_voyage 1 = .ok (.ifCond .lt 16, 3) := by decide +kernel
theorem dX10_voyage_4 : decode cX10_voyage 4 = .ok (.iload_n 1, 1) := by decide +kernel
theorem dX10_voyage_5 : decode cX10_voyage 5 = .ok (.bipush 10, 2) := by decide +kernel
theorem dX10_voyage_7 : decode cX10_voyage 7 = .ok (.if_icmp .ge 10, 3) := by decide +kernel
theorem dX10_voyage_10 : decode cX10_voyage 10 = .ok (.iload_n 2, 1) := by decide +kernel
theorem dX10_voyage_11 : decode cX10_voyage 11 = .ok (.invokestatic 77, 3) := by decide +kernel
theorem dX10_voyage_14 : decode cX10_voyage 14 = .ok (.ifCond .ne 9, 3) := by decide +kernel
theorem dX10_voyage_17 : decode cX10_voyage 17 = .ok (.aload_n 0, 1) := by decide +kernel
theorem dX10_voyage_18 : decode cX10_voyage 18 = .ok (.iconst (-1), 1) := by decide +kernel
theorem dX10_voyage_19 : decode cX10_voyage 19 = .ok (.invokevirtual 69, 3) := by decide +kernel
theorem dX10_voyage_22 : decode cX10_voyage 22 = .ok (.ireturn, 1) := by decide +kernel
theorem dX10_voyage_23 : decode cX10_voyage 23 = .ok (.aload_n 0, 1) := by decide +kernel
theorem dX10_voyage_24 : decode cX10_voyage 24 = .ok (.iload_n 1, 1) := by decide +kernel
theorem dX10_voyage_25 : decode cX10_voyage 25 = .ok (.invokevirtual 96, 3) := by decide +kernel
theorem dX10_voyage_28 : decode cX10_voyage 28 = .ok (.ifCond .eq 10, 3) := by decide +kernel
theorem dX10_voyage_31 : decode cX10_voyage 31 = .ok (.aload_n 0, 1) := by decide +kernel
theorem dX10_voyage_32 : decode cX10_voyage 32 = .ok (.bipush (-3), 2) := by decide +kernel
theorem dX10_voyage_34 : decode cX10_voyage 34 = .ok (.invokevirtual 69, 3) := by decide +kernel
theorem dX10_voyage_37 : decode cX10_voyage 37 = .ok (.ireturn, 1) := by decide +kernel
theorem dX10_voyage_38 : decode cX10_voyage 38 = .ok (.aload_n 0, 1) := by decide +kernel
theorem dX10_voyage_39 : decode cX10_voyage 39 = .ok (.getfield 99, 3) := by decide +kernel
theorem dX10_voyage_42 : decode cX10_voyage 42 = .ok (.bipush 20, 2) := by decide +kernel
theorem dX10_voyage_44 : decode cX10_voyage 44 = .ok (.if_icmp .lt 10, 3) := by decide +kernel
theorem dX10_voyage_47 : decode cX10_voyage 47 = .ok (.aload_n 0, 1) := by decide +kernel
theorem dX10_voyage_48 : decode cX10_voyage 48 = .ok (.bipush (-6), 2) := by decide +kernel
theorem dX10_voyage_50 : decode cX10_voyage 50 = .ok (.invokevirtual 69, 3) := by decide +kernel
theorem dX10_voyage_53 : decode cX10_voyage 53 = .ok (.ireturn, 1) := by decide +kernel
theorem dX10_voyage_54 : decode cX10_voyage 54 = .ok (.aload_n 0, 1) := by decide +kernel
theorem dX10_voyage_55 : decode cX10_voyage 55 = .ok (.getfield 17, 3) := by decide +kernel
theorem dX10_voyage_58 : decode cX10_voyage 58 = .ok (.aload_n 0, 1) := by decide +kernel
theorem dX10_voyage_59 : decode cX10_voyage 59 = .ok (.getfield 99, 3) := by decide +kernel
theorem dX10_voyage_62 : decode cX10_voyage 62 = .ok (.new 15, 3) := by decide +kernel
theorem dX10_voyage_65 : decode cX10_voyage 65 = .ok (.dup, 1) := by decide +kernel
theorem dX10_voyage_66 : decode cX10_voyage 66 = .ok (.aload_n 0, 1) := by decide +kernel
theorem dX10_voyage_67 : decode cX10_voyage 67 = .ok (.getfield 99, 3) := by decide +kernel
theorem dX10_voyage_70 : decode cX10_voyage 70 = .ok (.iload_n 1, 1) := by decide +kernel
theorem dX10_voyage_71 : decode cX10_voyage 71 = .ok (.iload_n 2, 1) := by decide +kernel
theorem dX10_voyage_72 : decode cX10_voyage 72 = .ok (.aload_n 0, 1) := by decide +kernel
theorem dX10_voyage_73 : decode cX10_voyage 73 = .ok (.getfield 73, 3) := by decide +kernel
theorem dX10_voyage_76 : decode cX10_voyage 76 = .ok (.invokespecial 102, 3) := by decide +kernel
theorem dX10_voyage_79 : decode cX10_voyage 79 = .ok (.aastore, 1) := by decide +kernel
theorem dX10_voyage_80 : decode cX10_voyage 80 = .ok (.aload_n 0, 1) := by decide +kernel
theorem dX10_voyage_81 : decode cX10_voyage 81 = .ok (.dup, 1) := by decide +kernel
theorem dX10_voyage_82 : decode cX10_voyage 82 = .ok (.getfield 99, 3) := by decide +kernel
theorem dX10_voyage_85 : decode cX10_voyage 85 = .ok (.iconst 1, 1) := by decide +kernel
theorem dX10_voyage_86 : decode cX10_voyage 86 = .ok (.iadd, 1) := by decide +kernel
theorem dX10_voyage_87 : decode cX10_voyage 87 = .ok (.putfield 99, 3) := by decide +kernel
theorem dX10_voyage_90 : decode cX10_voyage 90 = .ok (.aload_n 0, 1) := by decide +kernel
theorem dX10_voyage_91 : decode cX10_voyage 91 = .ok (.getfield 99, 3) := by decide +kernel
theorem dX10_voyage_94 : decode cX10_voyage 94 = .ok (.iconst 1, 1) := by decide +kernel
theorem dX10_voyage_95 : decode cX10_voyage 95 = .ok (.isub, 1) := by decide +kernel
theorem dX10_voyage_96 : decode cX10_voyage 96 = .ok (.ireturn, 1) := by decide +kernel
set_option maxRecDepth 100000 in
theorem ggX10_heard_X10_voyageAt : GoodIn wsX10_heard wsX10_voyageAt := goodIn_sub (mmC (mmI il_X10_heard_1 10 rfl) (mmA (mmC (mmI il_X10_heard_1 11 rfl) (mmC (mmI il_X10_heard_1 12 rfl) mmN)) il_X10_heard_4)) gw_X10_voyageAt
theorem gX10_heard_X10_voyageAt : GoodIn wsX10_heard (wsV RX10 103 RX10 yX10_voyageAt wsX10_voyageAt) := goodIn_app (goodIn_sub (mmC (mmI il_X10_heard_1 6 rfl) (mmC (mmI il_X10_heard_1 7 rfl) (mmC (mmI il_X10_heard_1 8 rfl) (mmC (mmI il_X10_heard_1 9 rfl) mmN)))) (by decide +kernel)) ggX10_heard_X10_voyageAt
set_option maxRecDepth 100000 in
theorem ggX10_heard_X10_refuse : GoodIn wsX10_heard wsX10_refuse := goodIn_sub (mmC (mmI il_X10_heard_1 16 rfl) (mmA (mmC (mmI il_X10_heard_1 17 rfl) mmN) il_X10_heard_4)) gw_X10_refuse
theorem gX10_heard_X10_refuse : GoodIn wsX10_heard (wsV RX10 69 RX10 yX10_refuse wsX10_refuse) := goodIn_app (goodIn_sub (mmC (mmI il_X10_heard_1 13 rfl) (mmC (mmI il_X10_heard_1 14 rfl) (mmC (mmI il_X10_heard_1 15 rfl) (mmC (mmI il_X10_heard_1 9 rfl) mmN)))) (by decide +kernel)) ggX10_heard_X10_refuse
set_option maxRecDepth 100000 in
theorem ggX10_heard_X10_voyageRefusal : GoodIn wsX10_heard wsX10_voyageRefusal := goodIn_sub (mmC (mmI il_X10_heard_1 21 rfl) (mmA (mmA (mmC (mmI il_X10_heard_1 22 rfl) (mmC (mmI il_X10_heard_1 23 rfl) (mmC (mmI il_X10_heard_1 3 rfl) (mmC (mmI il_X10_heard_1 5 rfl) mmN)))) il_X10_heard_5) il_X10_heard_4)) gw_X10_voyageRefusal
theorem gX10_heard_X10_voyageRefusal : GoodIn wsX10_heard (wsV RX10 132 RX10 yX10_voyageRefusal wsX10_voyageRefusal) := goodIn_app (goodIn_sub (mmC (mmI il_X10_heard_1 18 rfl) (mmC (mmI il_X10_heard_1 19 rfl) (mmC (mmI il_X10_heard_1 20 rfl) (mmC (mmI il_X10_heard_1 9 rfl) mmN)))) (by decide +kernel)) ggX10_heard_X10_voyageRefusal
set_option maxRecDepth 100000 in
theorem ggX10_heard_X3_init : GoodIn wsX10_heard wsX3_init := goodIn_sub (mmC (mmI il_X10_heard_2 2 rfl) (mmA (mmC (mmI il_X10_heard_2 3 rfl) (mmC (mmI il_X10_heard_2 4 rfl) (mmC (mmI il_X10_heard_2 5 rfl) (mmC (mmI il_X10_heard_2 6 rfl) (mmC (mmI il_X10_heard_2 7 rfl) (mmC (mmI il_X10_heard_2 8 rfl) (mmC (mmI il_X10_heard_2 9 rfl) (mmC (mmI il_X10_heard_2 10 rfl) (mmC (mmI il_X10_heard_2 11 rfl) mmN))))))))) il_X10_heard_3)) gw_X3_init
set_option maxRecDepth 20000 in
theorem gX10_heard_X3_init : GoodIn wsX10_heard (wsX3_init) := ggX10_heard_X3_init
theorem dX10_heard_0 : decode cX10_heard 0 = .ok (.aload_n 0, 1) := by decide +kernel
theorem dX10_heard_1 : decode cX10_heard 1 = .ok (.iload_n 1, 1) := by decide +kernel
theorem dX10_heard_2 : decode cX10_heard 2 = .ok (.invokevirtual 103, 3) := by decide +kernel
theorem dX10_heard_5 : decode cX10_heard 5 = .ok (.astore_n 3, 1) := by decide +kernel
theorem dX10_heard_6 : decode cX10_heard 6 = .ok (.aload_n 3, 1) := by decide +kernel
theorem dX10_heard_7 : decode cX10_heard 7 = .ok (.ifnonnull 9, 3) := by decide +kernel
theorem dX10_heard_10 : decode cX10_heard 10 = .ok (.aload_n 0, 1) := by decide +kernel
theorem dX10_heard_11 : decode cX10_heard 11 = .ok (.iconst (-1), 1) := by decide +kernel
theorem dX10_heard_12 : decode cX10_heard 12 = .ok (.invokevirtual 69, 3) := by decide +kernel
theorem dX10_heard_15 : decode cX10_heard 15 = .ok (.ireturn, 1) := by decide +kernel
theorem dX10_heard_16 : decode cX10_heard 16 = .ok (.aload_n 0, 1) := by decide +kernel
theorem dX10_heard_17 : decode cX10_heard 17 = .ok (.aload_n 3, 1) := by decide +kernel
theorem dX10_heard_18 : decode cX10_heard 18 = .ok (.iload_n 2, 1) := by decide +kernel
theorem dX10_heard_19 : decode cX10_heard 19 = .ok (.iconst 0, 1) := by decide +kernel
theorem dX10_heard_20 : decode cX10_heard 20 = .ok (.invokevirtual 132, 3) := by decide +kernel
theorem dX10_heard_23 : decode cX10_heard 23 = .ok (.istore 4, 2) := by decide +kernel
theorem dX10_heard_25 : decode cX10_heard 25 = .ok (.iload 4, 2) := by decide +kernel
theorem dX10_heard_27 : decode cX10_heard 27 = .ok (.ifCond .eq 10, 3) := by decide +kernel
theorem dX10_heard_30 : decode cX10_heard 30 = .ok (.aload_n 0, 1) := by decide +kernel
theorem dX10_heard_31 : decode cX10_heard 31 = .ok (.iload 4, 2) := by decide +kernel
theorem dX10_heard_33 : decode cX10_heard 33 = .ok (.invokevirtual 69, 3) := by decide +kernel
theorem dX10_heard_36 : decode cX10_heard 36 = .ok (.ireturn, 1) := by decide +kernel
theorem dX10_heard_37 : decode cX10_heard 37 = .ok (.aload_n 3, 1) := by decide +kernel
theorem dX10_heard_38 : decode cX10_heard 38 = .ok (.new 142, 3) := by decide +kernel
theorem dX10_heard_41 : decode cX10_heard 41 = .ok (.dup, 1) := by decide +kernel
theorem dX10_heard_42 : decode cX10_heard 42 = .ok (.iconst 3, 1) := by decide +kernel
theorem dX10_heard_43 : decode cX10_heard 43 = .ok (.iload_n 2, 1) := by decide +kernel
theorem dX10_heard_44 : decode cX10_heard 44 = .ok (.aload_n 0, 1) := by decide +kernel
theorem dX10_heard_45 : decode cX10_heard 45 = .ok (.getfield 73, 3) := by decide +kernel
theorem dX10_heard_48 : decode cX10_heard 48 = .ok (.bipush (-9), 2) := by decide +kernel
theorem dX10_heard_50 : decode cX10_heard 50 = .ok (.bipush (-9), 2) := by decide +kernel
theorem dX10_heard_52 : decode cX10_heard 52 = .ok (.aload_n 3, 1) := by decide +kernel
theorem dX10_heard_53 : decode cX10_heard 53 = .ok (.getfield 144, 3) := by decide +kernel
theorem dX10_heard_56 : decode cX10_heard 56 = .ok (.invokespecial 148, 3) := by decide +kernel
theorem dX10_heard_59 : decode cX10_heard 59 = .ok (.putfield 144, 3) := by decide +kernel
theorem dX10_heard_62 : decode cX10_heard 62 = .ok (.aload_n 0, 1) := by decide +kernel
theorem dX10_heard_63 : decode cX10_heard 63 = .ok (.dup, 1) := by decide +kernel
theorem dX10_heard_64 : decode cX10_heard 64 = .ok (.getfield 139, 3) := by decide +kernel
theorem dX10_heard_67 : decode cX10_heard 67 = .ok (.iconst 1, 1) := by decide +kernel
theorem dX10_heard_68 : decode cX10_heard 68 = .ok (.iadd, 1) := by decide +kernel
theorem dX10_heard_69 : decode cX10_heard 69 = .ok (.putfield 139, 3) := by decide +kernel
theorem dX10_heard_72 : decode cX10_heard 72 = .ok (.aload_n 0, 1) := by decide +kernel
theorem dX10_heard_73 : decode cX10_heard 73 = .ok (.getfield 139, 3) := by decide +kernel
theorem dX10_heard_76 : decode cX10_heard 76 = .ok (.ireturn, 1) := by decide +kernel
set_option maxRecDepth 100000 in
theorem ggX10_left_X10_agreementAt : GoodIn wsX10_left wsX10_agreementAt := goodIn_sub (mmC (mmI il_X10_left_1 4 rfl) (mmA (mmC (mmI il_X10_left_1 5 rfl) (mmC (mmI il_X10_left_1 6 rfl) mmN)) il_X10_left_3)) gw_X10_agreementAt
theorem gX10_left_X10_agreementAt : GoodIn wsX10_left (wsV RX10 154 RX10 yX10_agreementAt wsX10_agreementAt) := goodIn_app (goodIn_sub (mmC (mmI il_X10_left_1 0 rfl) (mmC (mmI il_X10_left_1 1 rfl) (mmC (mmI il_X10_left_1 2 rfl) (mmC (mmI il_X10_left_1 3 rfl) mmN)))) (by decide +kernel)) ggX10_left_X10_agreementAt
set_option maxRecDepth 100000 in
theorem ggX10_left_X10_isPort : GoodIn wsX10_left wsX10_isPort := goodIn_sub (mmC (mmI il_X10_left_1 9 rfl) mmN) gw_X10_isPort
set_option maxRecDepth 20000 in
theorem gX10_left_X10_isPort : GoodIn wsX10_left (va_wsS RX10 77 yX10_isPort wsX10_isPort) := goodIn_app (goodIn_of _ (by decide +kernel)) ggX10_left_X10_isPort
set_option maxRecDepth 100000 in
theorem ggX10_left_X10_refuse : GoodIn wsX10_left wsX10_refuse := goodIn_sub (mmC (mmI il_X10_left_1 13 rfl) (mmA (mmC (mmI il_X10_left_1 14 rfl) mmN) il_X10_left_3)) gw_X10_refuse
theorem gX10_left_X10_refuse : GoodIn wsX10_left (wsV RX10 69 RX10 yX10_refuse wsX10_refuse) := goodIn_app (goodIn_sub (mmC (mmI il_X10_left_1 10 rfl) (mmC (mmI il_X10_left_1 11 rfl) (mmC (mmI il_X10_left_1 12 rfl) (mmC (mmI il_X10_left_1 3 rfl) mmN)))) (by decide +kernel)) ggX10_left_X10_refuse
set_option maxRecDepth 100000 in
theorem ggX10_left_X10_tidingRefusal : GoodIn wsX10_left wsX10_tidingRefusal := goodIn_sub (mmC (mmI il_X10_left_1 18 rfl) (mmA (mmA (mmC (mmI il_X10_left_1 19 rfl) (mmC (mmI il_X10_left_1 20 rfl) (mmC (mmI il_X10_left_1 21 rfl) (mmC (mmI il_X10_left_1 22 rfl) (mmC (mmI il_X10_left_1 23 rfl) mmN))))) il_X10_left_4) il_X10_left_3)) gw_X10_tidingRefusal
theorem gX10_left_X10_tidingRefusal : GoodIn wsX10_left (wsV RX10 158 RX10 yX10_tidingRefusal wsX10_tidingRefusal) := goodIn_app (goodIn_sub (mmC (mmI il_X10_left_1 15 rfl) (mmC (mmI il_X10_left_1 16 rfl) (mmC (mmI il_X10_left_1 17 rfl) (mmC (mmI il_X10_left_1 3 rfl) mmN)))) (by decide +kernel)) ggX10_left_X10_tidingRefusal
set_option maxRecDepth 100000 in
theorem ggX10_left_X10_addTiding : GoodIn wsX10_left wsX10_addTiding := goodIn_sub (mmC (mmI il_X10_left_2 3 rfl) (mmA (mmA (mmA (mmC (mmI il_X10_left_2 4 rfl) (mmC (mmI il_X10_left_2 5 rfl) (mmC (mmI il_X10_left_2 6 rfl) (mmC (mmI il_X10_left_1 22 rfl) (mmC (mmI il_X10_left_2 7 rfl) (mmC (mmI il_X10_left_1 23 rfl) (mmC (mmI il_X10_left_2 8 rfl) (mmC (mmI il_X10_left_2 9 rfl) (mmC (mmI il_X10_left_2 10 rfl) (mmC (mmI il_X10_left_2 11 rfl) (mmC (mmI il_X10_left_2 12 rfl) (mmC (mmI il_X10_left_2 13 rfl) (mmC (mmI il_X10_left_2 14 rfl) (mmC (mmI il_X10_left_2 15 rfl) (mmC (mmI il_X10_left_2 16 rfl) (mmC (mmI il_X10_left_2 17 rfl) (mmC (mmI il_X10_left_2 18 rfl) (mmC (mmI il_X10_left_2 19 rfl) mmN)))))))))))))))))) il_X10_left_5) il_X10_left_3) il_X10_left_4)) gw_X10_addTiding
theorem gX10_left_X10_addTiding : GoodIn wsX10_left (wsV RX10 162 RX10 yX10_addTiding wsX10_addTiding) := goodIn_app (goodIn_sub (mmC (mmI il_X10_left_2 0 rfl) (mmC (mmI il_X10_left_2 1 rfl) (mmC (mmI il_X10_left_2 2 rfl) (mmC (mmI il_X10_left_1 3 rfl) mmN)))) (by decide +kernel)) ggX10_left_X10_addTiding
theorem dX10_left_0 : decode cX10_left 0 = .ok (.aload_n 0, 1) := by decide +kernel
theorem dX10_left_1 : decode cX10_left 1 = .ok (.iload_n 1, 1) := by decide +kernel
theorem dX10_left_2 : decode cX10_left 2 = .ok (.invokevirtual 154, 3) := by decide +kernel
theorem dX10_left_5 : decode cX10_left 5 = .ok (.astore 5, 2) := by decide +kernel
theorem dX10_left_7 : decode cX10_left 7 = .ok (.aload 5, 2) := by decide +kernel
theorem dX10_left_9 : decode cX10_left 9 = .ok (.ifnull 11, 3) := by decide +kernel
theorem dX10_left_12 : decode cX10_left 12 = .ok (.iload 4, 2) := by decide +kernel
theorem dX10_left_14 : decode cX10_left 14 = .ok (.invokestatic 77, 3) := by decide +kernel
theorem dX10_left_17 : decode cX10_left 17 = .ok (.ifCond .ne 9, 3) := by decide +kernel
theorem dX10_left_20 : decode cX10_left 20 = .ok (.aload_n 0, 1) := by decide +kernel
theorem dX10_left_21 : decode cX10_left 21 = .ok (.iconst (-1), 1) := by decide +kernel
theorem dX10_left_22 : decode cX10_left 22 = .ok (.invokevirtual 69, 3) := by decide +kernel
theorem dX10_left_25 : decode cX10_left 25 = .ok (.ireturn, 1) := by decide +kernel
theorem dX10_left_26 : decode cX10_left 26 = .ok (.iload_n 3, 1) := by decide +kernel
theorem dX10_left_27 : decode cX10_left 27 = .ok (.ifCond .lt 8, 3) := by decide +kernel
theorem dX10_left_30 : decode cX10_left 30 = .ok (.iload_n 3, 1) := by decide +kernel
theorem dX10_left_31 : decode cX10_left 31 = .ok (.iconst 2, 1) := by decide +kernel
theorem dX10_left_32 : decode cX10_left 32 = .ok (.if_icmp .le 10, 3) := by decide +kernel
theorem dX10_left_35 : decode cX10_left 35 = .ok (.aload_n 0, 1) := by decide +kernel
theorem dX10_left_36 : decode cX10_left 36 = .ok (.bipush (-2), 2) := by decide +kernel
theorem dX10_left_38 : decode cX10_left 38 = .ok (.invokevirtual 69, 3) := by decide +kernel
theorem dX10_left_41 : decode cX10_left 41 = .ok (.ireturn, 1) := by decide +kernel
theorem dX10_left_42 : decode cX10_left 42 = .ok (.aload_n 0, 1) := by decide +kernel
theorem dX10_left_43 : decode cX10_left 43 = .ok (.aload 5, 2) := by decide +kernel
theorem dX10_left_45 : decode cX10_left 45 = .ok (.iload_n 2, 1) := by decide +kernel
theorem dX10_left_46 : decode cX10_left 46 = .ok (.invokevirtual 158, 3) := by decide +kernel
theorem dX10_left_49 : decode cX10_left 49 = .ok (.istore 6, 2) := by decide +kernel
theorem dX10_left_51 : decode cX10_left 51 = .ok (.iload 6, 2) := by decide +kernel
theorem dX10_left_53 : decode cX10_left 53 = .ok (.ifCond .eq 10, 3) := by decide +kernel
theorem dX10_left_56 : decode cX10_left 56 = .ok (.aload_n 0, 1) := by decide +kernel
theorem dX10_left_57 : decode cX10_left 57 = .ok (.iload 6, 2) := by decide +kernel
theorem dX10_left_59 : decode cX10_left 59 = .ok (.invokevirtual 69, 3) := by decide +kernel
theorem dX10_left_62 : decode cX10_left 62 = .ok (.ireturn, 1) := by decide +kernel
theorem dX10_left_63 : decode cX10_left 63 = .ok (.aload_n 0, 1) := by decide +kernel
theorem dX10_left_64 : decode cX10_left 64 = .ok (.aload 5, 2) := by decide +kernel
theorem dX10_left_66 : decode cX10_left 66 = .ok (.iconst 0, 1) := by decide +kernel
theorem dX10_left_67 : decode cX10_left 67 = .ok (.iload_n 2, 1) := by decide +kernel
theorem dX10_left_68 : decode cX10_left 68 = .ok (.iload_n 3, 1) := by decide +kernel
theorem dX10_left_69 : decode cX10_left 69 = .ok (.iload 4, 2) := by decide +kernel
theorem dX10_left_71 : decode cX10_left 71 = .ok (.invokevirtual 162, 3) := by decide +kernel
theorem dX10_left_74 : decode cX10_left 74 = .ok (.ireturn, 1) := by decide +kernel
set_option maxRecDepth 100000 in
theorem ggX10_died_X10_agreementAt : GoodIn wsX10_died wsX10_agreementAt := goodIn_sub (mmC (mmI il_X10_died_1 5 rfl) (mmA (mmC (mmI il_X10_died_1 6 rfl) (mmC (mmI il_X10_died_1 7 rfl) mmN)) il_X10_died_4)) gw_X10_agreementAt
theorem gX10_died_X10_agreementAt : GoodIn wsX10_died (wsV RX10 154 RX10 yX10_agreementAt wsX10_agreementAt) := goodIn_app (goodIn_sub (mmC (mmI il_X10_died_1 1 rfl) (mmC (mmI il_X10_died_1 2 rfl) (mmC (mmI il_X10_died_1 3 rfl) (mmC (mmI il_X10_died_1 4 rfl) mmN)))) (by decide +kernel)) ggX10_died_X10_agreementAt
set_option maxRecDepth 100000 in
theorem ggX10_died_X10_refuse : GoodIn wsX10_died wsX10_refuse := goodIn_sub (mmC (mmI il_X10_died_1 11 rfl) (mmA (mmC (mmI il_X10_died_1 12 rfl) mmN) il_X10_died_4)) gw_X10_refuse
theorem gX10_died_X10_refuse : GoodIn wsX10_died (wsV RX10 69 RX10 yX10_refuse wsX10_refuse) := goodIn_app (goodIn_sub (mmC (mmI il_X10_died_1 8 rfl) (mmC (mmI il_X10_died_1 9 rfl) (mmC (mmI il_X10_died_1 10 rfl) (mmC (mmI il_X10_died_1 4 rfl) mmN)))) (by decide +kernel)) ggX10_died_X10_refuse
set_option maxRecDepth 100000 in
theorem ggX10_died_X10_tidingRefusal : GoodIn wsX10_died wsX10_tidingRefusal := goodIn_sub (mmC (mmI il_X10_died_1 16 rfl) (mmA (mmA (mmC (mmI il_X10_died_1 17 rfl) (mmC (mmI il_X10_died_1 18 rfl) (mmC (mmI il_X10_died_1 19 rfl) (mmC (mmI il_X10_died_1 20 rfl) (mmC (mmI il_X10_died_1 21 rfl) mmN))))) il_X10_died_3) il_X10_died_4)) gw_X10_tidingRefusal
theorem gX10_died_X10_tidingRefusal : GoodIn wsX10_died (wsV RX10 158 RX10 yX10_tidingRefusal wsX10_tidingRefusal) := goodIn_app (goodIn_sub (mmC (mmI il_X10_died_1 13 rfl) (mmC (mmI il_X10_died_1 14 rfl) (mmC (mmI il_X10_died_1 15 rfl) (mmC (mmI il_X10_died_1 4 rfl) mmN)))) (by decide +kernel)) ggX10_died_X10_tidingRefusal
set_option maxRecDepth 100000 in
theorem ggX10_died_X10_addTiding : GoodIn wsX10_died wsX10_addTiding := goodIn_sub (mmC (mmI il_X10_died_2 1 rfl) (mmA (mmA (mmA (mmC (mmI il_X10_died_2 2 rfl) (mmC (mmI il_X10_died_2 3 rfl) (mmC (mmI il_X10_died_2 4 rfl) (mmC (mmI il_X10_died_1 20 rfl) (mmC (mmI il_X10_died_2 5 rfl) (mmC (mmI il_X10_died_1 21 rfl) (mmC (mmI il_X10_died_2 6 rfl) (mmC (mmI il_X10_died_2 7 rfl) (mmC (mmI il_X10_died_2 8 rfl) (mmC (mmI il_X10_died_2 9 rfl) (mmC (mmI il_X10_died_2 10 rfl) (mmC (mmI il_X10_died_2 11 rfl) (mmC (mmI il_X10_died_2 12 rfl) (mmC (mmI il_X10_died_2 13 rfl) (mmC (mmI il_X10_died_2 14 rfl) (mmC (mmI il_X10_died_2 15 rfl) (mmC (mmI il_X10_died_2 16 rfl) (mmC (mmI il_X10_died_2 17 rfl) mmN)))))))))))))))))) il_X10_died_5) il_X10_died_4) il_X10_died_3)) gw_X10_addTiding
theorem gX10_died_X10_addTiding : GoodIn wsX10_died (wsV RX10 162 RX10 yX10_addTiding wsX10_addTiding) := goodIn_app (goodIn_sub (mmC (mmI il_X10_died_1 22 rfl) (mmC (mmI il_X10_died_1 23 rfl) (mmC (mmI il_X10_died_2 0 rfl) (mmC (mmI il_X10_died_1 4 rfl) mmN)))) (by decide +kernel)) ggX10_died_X10_addTiding
theorem dX10_died_0 : decode cX10_died 0 = .ok (.aload_n 0, 1) := by decide +kernel
theorem dX10_died_1 : decode cX10_died 1 = .ok (.iload_n 1, 1) := by decide +kernel
theorem dX10_died_2 : decode cX10_died 2 = .ok (.invokevirtual 154, 3) := by decide +kernel
theorem dX10_died_5 : decode cX10_died 5 = .ok (.astore_n 3, 1) := by decide +kernel
theorem dX10_died_6 : decode cX10_died 6 = .ok (.aload_n 3, 1) := by decide +kernel
theorem dX10_died_7 : decode cX10_died 7 = .ok (.ifnonnull 9, 3) := by decide +kernel
theorem dX10_died_10 : decode cX10_died 10 = .ok (.aload_n 0, 1) := by decide +kernel
theorem dX10_died_11 : decode cX10_died 11 = .ok (.iconst (-1), 1) := by decide +kernel
theorem dX10_died_12 : decode cX10_died 12 = .ok (.invokevirtual 69, 3) := by decide +kernel
theorem dX10_died_15 : decode cX10_died 15 = .ok (.ireturn, 1) := by decide +kernel
theorem dX10_died_16 : decode cX10_died 16 = .ok (.aload_n 0, 1) := by decide +kernel
theorem dX10_died_17 : decode cX10_died 17 = .ok (.aload_n 3, 1) := by decide +kernel
theorem dX10_died_18 : decode cX10_died 18 = .ok (.iload_n 2, 1) := by decide +kernel
theorem dX10_died_19 : decode cX10_died 19 = .ok (.invokevirtual 158, 3) := by decide +kernel
theorem dX10_died_22 : decode cX10_died 22 = .ok (.istore 4, 2) := by decide +kernel
theorem dX10_died_24 : decode cX10_died 24 = .ok (.iload 4, 2) := by decide +kernel
theorem dX10_died_26 : decode cX10_died 26 = .ok (.ifCond .eq 10, 3) := by decide +kernel
theorem dX10_died_29 : decode cX10_died 29 = .ok (.aload_n 0, 1) := by decide +kernel
theorem dX10_died_30 : decode cX10_died 30 = .ok (.iload 4, 2) := by decide +kernel
theorem dX10_died_32 : decode cX10_died 32 = .ok (.invokevirtual 69, 3) := by decide +kernel
theorem dX10_died_35 : decode cX10_died 35 = .ok (.ireturn, 1) := by decide +kernel
theorem dX10_died_36 : decode cX10_died 36 = .ok (.aload_n 3, 1) := by decide +kernel
theorem dX10_died_37 : decode cX10_died 37 = .ok (.iconst 1, 1) := by decide +kernel
theorem dX10_died_38 : decode cX10_died 38 = .ok (.putfield 166, 3) := by decide +kernel
theorem dX10_died_41 : decode cX10_died 41 = .ok (.aload_n 0, 1) := by decide +kernel
theorem dX10_died_42 : decode cX10_died 42 = .ok (.aload_n 3, 1) := by decide +kernel
theorem dX10_died_43 : decode cX10_died 43 = .ok (.iconst 2, 1) := by decide +kernel
theorem dX10_died_44 : decode cX10_died 44 = .ok (.iload_n 2, 1) := by decide +kernel
theorem dX10_died_45 : decode cX10_died 45 = .ok (.bipush (-9), 2) := by decide +kernel
theorem dX10_died_47 : decode cX10_died 47 = .ok (.bipush (-9), 2) := by decide +kernel
theorem dX10_died_49 : decode cX10_died 49 = .ok (.invokevirtual 162, 3) := by decide +kernel
theorem dX10_died_52 : decode cX10_died 52 = .ok (.ireturn, 1) := by decide +kernel
set_option maxRecDepth 100000 in
theorem ggX10_back_X10_agreementAt : GoodIn wsX10_back wsX10_agreementAt := goodIn_sub (mmC (mmI il_X10_back_1 4 rfl) (mmA (mmC (mmI il_X10_back_1 5 rfl) (mmC (mmI il_X10_back_1 6 rfl) mmN)) il_X10_back_3)) gw_X10_agreementAt
theorem gX10_back_X10_agreementAt : GoodIn wsX10_back (wsV RX10 154 RX10 yX10_agreementAt wsX10_agreementAt) := goodIn_app (goodIn_sub (mmC (mmI il_X10_back_1 0 rfl) (mmC (mmI il_X10_back_1 1 rfl) (mmC (mmI il_X10_back_1 2 rfl) (mmC (mmI il_X10_back_1 3 rfl) mmN)))) (by decide +kernel)) ggX10_back_X10_agreementAt
set_option maxRecDepth 100000 in
theorem ggX10_back_X10_refuse : GoodIn wsX10_back wsX10_refuse := goodIn_sub (mmC (mmI il_X10_back_1 10 rfl) (mmA (mmC (mmI il_X10_back_1 11 rfl) mmN) il_X10_back_3)) gw_X10_refuse
theorem gX10_back_X10_refuse : GoodIn wsX10_back (wsV RX10 69 RX10 yX10_refuse wsX10_refuse) := goodIn_app (goodIn_sub (mmC (mmI il_X10_back_1 7 rfl) (mmC (mmI il_X10_back_1 8 rfl) (mmC (mmI il_X10_back_1 9 rfl) (mmC (mmI il_X10_back_1 3 rfl) mmN)))) (by decide +kernel)) ggX10_back_X10_refuse
set_option maxRecDepth 100000 in
theorem ggX10_back_X10_tidingRefusal : GoodIn wsX10_back wsX10_tidingRefusal := goodIn_sub (mmC (mmI il_X10_back_1 15 rfl) (mmA (mmA (mmC (mmI il_X10_back_1 16 rfl) (mmC (mmI il_X10_back_1 17 rfl) (mmC (mmI il_X10_back_1 18 rfl) (mmC (mmI il_X10_back_1 19 rfl) (mmC (mmI il_X10_back_1 20 rfl) mmN))))) il_X10_back_4) il_X10_back_3)) gw_X10_tidingRefusal
theorem gX10_back_X10_tidingRefusal : GoodIn wsX10_back (wsV RX10 158 RX10 yX10_tidingRefusal wsX10_tidingRefusal) := goodIn_app (goodIn_sub (mmC (mmI il_X10_back_1 12 rfl) (mmC (mmI il_X10_back_1 13 rfl) (mmC (mmI il_X10_back_1 14 rfl) (mmC (mmI il_X10_back_1 3 rfl) mmN)))) (by decide +kernel)) ggX10_back_X10_tidingRefusal
set_option maxRecDepth 100000 in
theorem ggX10_back_X10_addTiding : GoodIn wsX10_back wsX10_addTiding := goodIn_sub (mmC (mmI il_X10_back_2 0 rfl) (mmA (mmA (mmA (mmC (mmI il_X10_back_2 1 rfl) (mmC (mmI il_X10_back_2 2 rfl) (mmC (mmI il_X10_back_2 3 rfl) (mmC (mmI il_X10_back_1 19 rfl) (mmC (mmI il_X10_back_2 4 rfl) (mmC (mmI il_X10_back_1 20 rfl) (mmC (mmI il_X10_back_2 5 rfl) (mmC (mmI il_X10_back_2 6 rfl) (mmC (mmI il_X10_back_2 7 rfl) (mmC (mmI il_X10_back_2 8 rfl) (mmC (mmI il_X10_back_2 9 rfl) (mmC (mmI il_X10_back_2 10 rfl) (mmC (mmI il_X10_back_2 11 rfl) (mmC (mmI il_X10_back_2 12 rfl) (mmC (mmI il_X10_back_2 13 rfl) (mmC (mmI il_X10_back_2 14 rfl) (mmC (mmI il_X10_back_2 15 rfl) (mmC (mmI il_X10_back_2 16 rfl) mmN)))))))))))))))))) il_X10_back_5) il_X10_back_3) il_X10_back_4)) gw_X10_addTiding
theorem gX10_back_X10_addTiding : GoodIn wsX10_back (wsV RX10 162 RX10 yX10_addTiding wsX10_addTiding) := goodIn_app (goodIn_sub (mmC (mmI il_X10_back_1 21 rfl) (mmC (mmI il_X10_back_1 22 rfl) (mmC (mmI il_X10_back_1 23 rfl) (mmC (mmI il_X10_back_1 3 rfl) mmN)))) (by decide +kernel)) ggX10_back_X10_addTiding
theorem dX10_back_0 : decode cX10_back 0 = .ok (.aload_n 0, 1) := by decide +kernel
theorem dX10_back_1 : decode cX10_back 1 = .ok (.iload_n 1, 1) := by decide +kernel
theorem dX10_back_2 : decode cX10_back 2 = .ok (.invokevirtual 154, 3) := by decide +kernel
theorem dX10_back_5 : decode cX10_back 5 = .ok (.astore_n 3, 1) := by decide +kernel
theorem dX10_back_6 : decode cX10_back 6 = .ok (.aload_n 3, 1) := by decide +kernel
theorem dX10_back_7 : decode cX10_back 7 = .ok (.ifnonnull 9, 3) := by decide +kernel
theorem dX10_back_10 : decode cX10_back 10 = .ok (.aload_n 0, 1) := by decide +kernel
theorem dX10_back_11 : decode cX10_back 11 = .ok (.iconst (-1), 1) := by decide +kernel
theorem dX10_back_12 : decode cX10_back 12 = .ok (.invokevirtual 69, 3) := by decide +kernel
theorem dX10_back_15 : decode cX10_back 15 = .ok (.ireturn, 1) := by decide +kernel
theorem dX10_back_16 : decode cX10_back 16 = .ok (.aload_n 0, 1) := by decide +kernel
theorem dX10_back_17 : decode cX10_back 17 = .ok (.aload_n 3, 1) := by decide +kernel
theorem dX10_back_18 : decode cX10_back 18 = .ok (.iload_n 2, 1) := by decide +kernel
theorem dX10_back_19 : decode cX10_back 19 = .ok (.invokevirtual 158, 3) := by decide +kernel
theorem dX10_back_22 : decode cX10_back 22 = .ok (.istore 4, 2) := by decide +kernel
theorem dX10_back_24 : decode cX10_back 24 = .ok (.iload 4, 2) := by decide +kernel
theorem dX10_back_26 : decode cX10_back 26 = .ok (.ifCond .eq 10, 3) := by decide +kernel
theorem dX10_back_29 : decode cX10_back 29 = .ok (.aload_n 0, 1) := by decide +kernel
theorem dX10_back_30 : decode cX10_back 30 = .ok (.iload 4, 2) := by decide +kernel
theorem dX10_back_32 : decode cX10_back 32 = .ok (.invokevirtual 69, 3) := by decide +kernel
theorem dX10_back_35 : decode cX10_back 35 = .ok (.ireturn, 1) := by decide +kernel
theorem dX10_back_36 : decode cX10_back 36 = .ok (.aload_n 0, 1) := by decide +kernel
theorem dX10_back_37 : decode cX10_back 37 = .ok (.aload_n 3, 1) := by decide +kernel
theorem dX10_back_38 : decode cX10_back 38 = .ok (.iconst 1, 1) := by decide +kernel
theorem dX10_back_39 : decode cX10_back 39 = .ok (.iload_n 2, 1) := by decide +kernel
theorem dX10_back_40 : decode cX10_back 40 = .ok (.bipush (-9), 2) := by decide +kernel
theorem dX10_back_42 : decode cX10_back 42 = .ok (.bipush (-9), 2) := by decide +kernel
theorem dX10_back_44 : decode cX10_back 44 = .ok (.invokevirtual 162, 3) := by decide +kernel
theorem dX10_back_47 : decode cX10_back 47 = .ok (.ireturn, 1) := by decide +kernel
set_option maxRecDepth 100000 in
theorem ggX10_sign_X10_manAt : GoodIn wsX10_sign wsX10_manAt := goodIn_sub (mmC (mmI il_X10_sign_1 14 rfl) (mmA (mmC (mmI il_X10_sign_1 15 rfl) (mmC (mmI il_X10_sign_1 16 rfl) mmN)) il_X10_sign_6)) gw_X10_manAt
theorem gX10_sign_X10_manAt : GoodIn wsX10_sign (wsV RX10 205 RX10 yX10_manAt wsX10_manAt) := goodIn_app (goodIn_sub (mmC (mmI il_X10_sign_1 10 rfl) (mmC (mmI il_X10_sign_1 11 rfl) (mmC (mmI il_X10_sign_1 12 rfl) (mmC (mmI il_X10_sign_1 13 rfl) mmN)))) (by decide +kernel)) ggX10_sign_X10_manAt
set_option maxRecDepth 100000 in
theorem ggX10_sign_X10_voyageAt : GoodIn wsX10_sign wsX10_voyageAt := goodIn_sub (mmC (mmI il_X10_sign_1 20 rfl) (mmA (mmC (mmI il_X10_sign_1 21 rfl) (mmC (mmI il_X10_sign_1 22 rfl) mmN)) il_X10_sign_6)) gw_X10_voyageAt
theorem gX10_sign_X10_voyageAt : GoodIn wsX10_sign (wsV RX10 103 RX10 yX10_voyageAt wsX10_voyageAt) := goodIn_app (goodIn_sub (mmC (mmI il_X10_sign_1 17 rfl) (mmC (mmI il_X10_sign_1 18 rfl) (mmC (mmI il_X10_sign_1 19 rfl) (mmC (mmI il_X10_sign_1 13 rfl) mmN)))) (by decide +kernel)) ggX10_sign_X10_voyageAt
set_option maxRecDepth 100000 in
theorem ggX10_sign_X10_agreementAt : GoodIn wsX10_sign wsX10_agreementAt := goodIn_sub (mmC (mmI il_X10_sign_2 2 rfl) (mmA (mmC (mmI il_X10_sign_1 0 rfl) (mmC (mmI il_X10_sign_1 9 rfl) mmN)) il_X10_sign_6)) gw_X10_agreementAt
theorem gX10_sign_X10_agreementAt : GoodIn wsX10_sign (wsV RX10 154 RX10 yX10_agreementAt wsX10_agreementAt) := goodIn_app (goodIn_sub (mmC (mmI il_X10_sign_1 23 rfl) (mmC (mmI il_X10_sign_2 0 rfl) (mmC (mmI il_X10_sign_2 1 rfl) (mmC (mmI il_X10_sign_1 13 rfl) mmN)))) (by decide +kernel)) ggX10_sign_X10_agreementAt
set_option maxRecDepth 100000 in
theorem ggX10_sign_X10_refuse : GoodIn wsX10_sign wsX10_refuse := goodIn_sub (mmC (mmI il_X10_sign_2 6 rfl) (mmA (mmC (mmI il_X10_sign_2 7 rfl) mmN) il_X10_sign_6)) gw_X10_refuse
theorem gX10_sign_X10_refuse : GoodIn wsX10_sign (wsV RX10 69 RX10 yX10_refuse wsX10_refuse) := goodIn_app (goodIn_sub (mmC (mmI il_X10_sign_2 3 rfl) (mmC (mmI il_X10_sign_2 4 rfl) (mmC (mmI il_X10_sign_2 5 rfl) (mmC (mmI il_X10_sign_1 13 rfl) mmN)))) (by decide +kernel)) ggX10_sign_X10_refuse
set_option maxRecDepth 100000 in
theorem ggX10_sign_X9_takesHands : GoodIn wsX10_sign wsX9_takesHands := goodIn_sub (mmC (mmI il_X10_sign_2 12 rfl) (mmA (mmC (mmI il_X10_sign_2 13 rfl) (mmC (mmI il_X10_sign_2 14 rfl) (mmC (mmI il_X10_sign_2 15 rfl) (mmC (mmI il_X10_sign_2 16 rfl) mmN)))) il_X10_sign_8)) gw_X9_takesHands
theorem gX10_sign_X9_takesHands : GoodIn wsX10_sign (wsV RX10 209 RX9 yX9_takesHands wsX9_takesHands) := goodIn_app (goodIn_sub (mmC (mmI il_X10_sign_2 8 rfl) (mmC (mmI il_X10_sign_2 9 rfl) (mmC (mmI il_X10_sign_2 10 rfl) (mmC (mmI il_X10_sign_2 11 rfl) mmN)))) (by decide +kernel)) ggX10_sign_X9_takesHands
set_option maxRecDepth 100000 in
theorem ggX10_sign_X10_isFree : GoodIn wsX10_sign wsX10_isFree := goodIn_sub (mmC (mmI il_X10_sign_2 20 rfl) (mmA (mmA (mmA (mmC (mmI il_X10_sign_1 0 rfl) (mmC (mmI il_X10_sign_1 9 rfl) (mmC (mmI il_X10_sign_2 21 rfl) (mmC (mmI il_X10_sign_2 22 rfl) (mmC (mmI il_X10_sign_2 23 rfl) (mmC (mmI il_X10_sign_3 0 rfl) (mmC (mmI il_X10_sign_1 5 rfl) (mmC (mmI il_X10_sign_3 1 rfl) (mmC (mmI il_X10_sign_3 2 rfl) (mmC (mmI il_X10_sign_3 3 rfl) (mmC (mmI il_X10_sign_3 4 rfl) (mmC (mmI il_X10_sign_3 5 rfl) (mmC (mmI il_X10_sign_3 6 rfl) mmN))))))))))))) il_X10_sign_6) il_X10_sign_7) il_X10_sign_8)) gw_X10_isFree
theorem gX10_sign_X10_isFree : GoodIn wsX10_sign (wsV RX10 212 RX10 yX10_isFree wsX10_isFree) := goodIn_app (goodIn_sub (mmC (mmI il_X10_sign_2 17 rfl) (mmC (mmI il_X10_sign_2 18 rfl) (mmC (mmI il_X10_sign_2 19 rfl) (mmC (mmI il_X10_sign_1 13 rfl) mmN)))) (by decide +kernel)) ggX10_sign_X10_isFree
set_option maxRecDepth 100000 in
theorem ggX10_sign_X10_signWorth : GoodIn wsX10_sign wsX10_signWorth := goodIn_sub (mmC (mmI il_X10_sign_3 10 rfl) (mmA (mmA (mmA (mmA (mmA (mmC (mmI il_X10_sign_3 11 rfl) (mmC (mmI il_X10_sign_1 6 rfl) (mmC (mmI il_X10_sign_3 12 rfl) (mmC (mmI il_X10_sign_3 13 rfl) (mmC (mmI il_X10_sign_3 14 rfl) (mmC (mmI il_X10_sign_3 15 rfl) (mmC (mmI il_X10_sign_3 16 rfl) (mmC (mmI il_X10_sign_3 17 rfl) (mmC (mmI il_X10_sign_3 18 rfl) (mmC (mmI il_X10_sign_3 19 rfl) (mmC (mmI il_X10_sign_3 20 rfl) (mmC (mmI il_X10_sign_3 21 rfl) (mmC (mmI il_X10_sign_3 22 rfl) (mmC (mmI il_X10_sign_3 23 rfl) (mmC (mmI il_X10_sign_4 0 rfl) (mmC (mmI il_X10_sign_4 1 rfl) (mmC (mmI il_X10_sign_4 2 rfl) (mmC (mmI il_X10_sign_4 3 rfl) (mmC (mmI il_X10_sign_4 4 rfl) (mmC (mmI il_X10_sign_4 5 rfl) (mmC (mmI il_X10_sign_4 6 rfl) (mmC (mmI il_X10_sign_4 7 rfl) (mmC (mmI il_X10_sign_4 8 rfl) (mmC (mmI il_X10_sign_4 9 rfl) mmN)))))))))))))))))))))))) (mmC (mmI il_X10_sign_4 10 rfl) (mmC (mmI il_X10_sign_4 11 rfl) (mmC (mmI il_X10_sign_4 12 rfl) (mmC (mmI il_X10_sign_4 13 rfl) (mmC (mmI il_X10_sign_4 14 rfl) (mmC (mmI il_X10_sign_4 15 rfl) (mmC (mmI il_X10_sign_4 16 rfl) (mmC (mmI il_X10_sign_4 17 rfl) (mmC (mmI il_X10_sign_4 18 rfl) (mmC (mmI il_X10_sign_4 19 rfl) (mmC (mmI il_X10_sign_4 20 rfl) (mmC (mmI il_X10_sign_4 21 rfl) (mmC (mmI il_X10_sign_4 22 rfl) (mmC (mmI il_X10_sign_4 23 rfl) (mmC (mmI il_X10_sign_5 0 rfl) (mmC (mmI il_X10_sign_5 1 rfl) mmN))))))))))))))))) il_X10_sign_6) il_X10_sign_9) il_X10_sign_10) il_X10_sign_11)) gw_X10_signWorth
theorem gX10_sign_X10_signWorth : GoodIn wsX10_sign (wsV RX10 216 RX10 yX10_signWorth wsX10_signWorth) := goodIn_app (goodIn_sub (mmC (mmI il_X10_sign_3 7 rfl) (mmC (mmI il_X10_sign_3 8 rfl) (mmC (mmI il_X10_sign_3 9 rfl) (mmC (mmI il_X10_sign_1 13 rfl) mmN)))) (by decide +kernel)) ggX10_sign_X10_signWorth
set_option maxRecDepth 100000 in
theorem ggX10_sign_X1_init : GoodIn wsX10_sign wsX1_init := goodIn_sub (mmC (mmI il_X10_sign_5 4 rfl) (mmA (mmC (mmI il_X10_sign_5 5 rfl) (mmC (mmI il_X10_sign_5 6 rfl) (mmC (mmI il_X10_sign_5 7 rfl) (mmC (mmI il_X10_sign_3 3 rfl) (mmC (mmI il_X10_sign_3 2 rfl) (mmC (mmI il_X10_sign_5 8 rfl) (mmC (mmI il_X10_sign_5 9 rfl) (mmC (mmI il_X10_sign_5 10 rfl) (mmC (mmI il_X10_sign_5 11 rfl) (mmC (mmI il_X10_sign_5 12 rfl) (mmC (mmI il_X10_sign_5 13 rfl) (mmC (mmI il_X10_sign_3 5 rfl) (mmC (mmI il_X10_sign_5 14 rfl) (mmC (mmI il_X10_sign_5 15 rfl) mmN)))))))))))))) il_X10_sign_7)) gw_X1_init
set_option maxRecDepth 20000 in
theorem gX10_sign_X1_init : GoodIn wsX10_sign (wsX1_init) := ggX10_sign_X1_init
theorem dX10_sign_0 : decode cX10_sign 0 = .ok (.aload_n 0, 1) := by decide +kernel
theorem dX10_sign_1 : decode cX10_sign 1 = .ok (.iload_n 1, 1) := by decide +kernel
theorem dX10_sign_2 : decode cX10_sign 2 = .ok (.invokevirtual 205, 3) := by decide +kernel
theorem dX10_sign_5 : decode cX10_sign 5 = .ok (.astore 6, 2) := by decide +kernel
theorem dX10_sign_7 : decode cX10_sign 7 = .ok (.aload_n 0, 1) := by decide +kernel
theorem dX10_sign_8 : decode cX10_sign 8 = .ok (.iload_n 2, 1) := by decide +kernel
theorem dX10_sign_9 : decode cX10_sign 9 = .ok (.invokevirtual 103, 3) := by decide +kernel
theorem dX10_sign_12 : decode cX10_sign 12 = .ok (.astore 7, 2) := by decide +kernel
theorem dX10_sign_14 : decode cX10_sign 14 = .ok (.aload_n 0, 1) := by decide +kernel
theorem dX10_sign_15 : decode cX10_sign 15 = .ok (.iload 5, 2) := by decide +kernel
theorem dX10_sign_17 : decode cX10_sign 17 = .ok (.invokevirtual 154, 3) := by decide +kernel
theorem dX10_sign_20 : decode cX10_sign 20 = .ok (.astore 8, 2) := by decide +kernel
theorem dX10_sign_22 : decode cX10_sign 22 = .ok (.aload 6, 2) := by decide +kernel
theorem dX10_sign_24 : decode cX10_sign 24 = .ok (.ifnull 19, 3) := by decide +kernel
theorem dX10_sign_27 : decode cX10_sign 27 = .ok (.aload 7, 2) := by decide +kernel
theorem dX10_sign_29 : decode cX10_sign 29 = .ok (.ifnull 14, 3) := by decide +kernel
theorem dX10_sign_32 : decode cX10_sign 32 = .ok (.aload 8, 2) := by decide +kernel
theorem dX10_sign_34 : decode cX10_sign 34 = .ok (.ifnonnull 15, 3) := by decide +kernel
theorem dX10_sign_37 : decode cX10_sign 37 = .ok (.iload 5, 2) := by decide +kernel
theorem dX10_sign_39 : decode cX10_sign 39 = .ok (.iconst (-1), 1) := by decide +kernel
theorem dX10_sign_40 : decode cX10_sign 40 = .ok (.if_icmp .eq 9, 3) := by decide +kernel
theorem dX10_sign_43 : decode cX10_sign 43 = .ok (.aload_n 0, 1) := by decide +kernel
theorem dX10_sign_44 : decode cX10_sign 44 = .ok (.iconst (-1), 1) := by decide +kernel
theorem dX10_sign_45 : decode cX10_sign 45 = .ok (.invokevirtual 69, 3) := by decide +kernel
theorem dX10_sign_48 : decode cX10_sign 48 = .ok (.ireturn, 1) := by decide +kernel
theorem dX10_sign_49 : decode cX10_sign 49 = .ok (.iload_n 3, 1) := by decide +kernel
theorem dX10_sign_50 : decode cX10_sign 50 = .ok (.iconst 1, 1) := by decide +kernel
theorem dX10_sign_51 : decode cX10_sign 51 = .ok (.if_icmp .lt 8, 3) := by decide +kernel
theorem dX10_sign_54 : decode cX10_sign 54 = .ok (.iload 4, 2) := by decide +kernel
theorem dX10_sign_56 : decode cX10_sign 56 = .ok (.ifCond .ge 10, 3) := by decide +kernel
theorem dX10_sign_59 : decode cX10_sign 59 = .ok (.aload_n 0, 1) := by decide +kernel
theorem dX10_sign_60 : decode cX10_sign 60 = .ok (.bipush (-4), 2) := by decide +kernel
theorem dX10_sign_62 : decode cX10_sign 62 = .ok (.invokevirtual 69, 3) := by decide +kernel
theorem dX10_sign_65 : decode cX10_sign 65 = .ok (.ireturn, 1) := by decide +kernel
theorem dX10_sign_66 : decode cX10_sign 66 = .ok (.iload_n 3, 1) := by decide +kernel
theorem dX10_sign_67 : decode cX10_sign 67 = .ok (.sipush 9999, 3) := by decide +kernel
theorem dX10_sign_70 : decode cX10_sign 70 = .ok (.if_icmp .gt 18, 3) := by decide +kernel
theorem dX10_sign_73 : decode cX10_sign 73 = .ok (.iload 4, 2) := by decide +kernel
theorem dX10_sign_75 : decode cX10_sign 75 = .ok (.iconst 4, 1) := by decide +kernel
theorem dX10_sign_76 : decode cX10_sign 76 = .ok (.if_icmp .ge 12, 3) := by decide +kernel
theorem dX10_sign_79 : decode cX10_sign 79 = .ok (.aload_n 0, 1) := by decide +kernel
theorem dX10_sign_80 : decode cX10_sign 80 = .ok (.getfield 115, 3) := by decide +kernel
theorem dX10_sign_83 : decode cX10_sign 83 = .ok (.bipush 60, 2) := by decide +kernel
theorem dX10_sign_85 : decode cX10_sign 85 = .ok (.if_icmp .lt 10, 3) := by decide +kernel
theorem dX10_sign_88 : decode cX10_sign 88 = .ok (.aload_n 0, 1) := by decide +kernel
theorem dX10_sign_89 : decode cX10_sign 89 = .ok (.bipush (-6), 2) := by decide +kernel
theorem dX10_sign_91 : decode cX10_sign 91 = .ok (.invokevirtual 69, 3) := by decide +kernel
theorem dX10_sign_94 : decode cX10_sign 94 = .ok (.ireturn, 1) := by decide +kernel
theorem dX10_sign_95 : decode cX10_sign 95 = .ok (.aload 8, 2) := by decide +kernel
theorem dX10_sign_97 : decode cX10_sign 97 = .ok (.ifnull 13, 3) := by decide +kernel
theorem dX10_sign_100 : decode cX10_sign 100 = .ok (.aload 8, 2) := by decide +kernel
theorem dX10_sign_102 : decode cX10_sign 102 = .ok (.getfield 126, 3) := by decide +kernel
theorem dX10_sign_105 : decode cX10_sign 105 = .ok (.ldc 114, 2) := by decide +kernel
theorem dX10_sign_107 : decode cX10_sign 107 = .ok (.if_icmp .eq 7, 3) := by decide +kernel
theorem dX10_sign_110 : decode cX10_sign 110 = .ok (.iconst 1, 1) := by decide +kernel
theorem dX10_sign_111 : decode cX10_sign 111 = .ok (.goto 4, 3) := by decide +kernel
theorem dX10_sign_114 : decode cX10_sign 114 = .ok (.iconst 0, 1) := by decide +kernel
theorem dX10_sign_115 : decode cX10_sign 115 = .ok (.istore 9, 2) := by decide +kernel
theorem dX10_sign_117 : decode cX10_sign 117 = .ok (.aload 7, 2) := by decide +kernel
theorem dX10_sign_119 : decode cX10_sign 119 = .ok (.invokevirtual 209, 3) := by decide +kernel
theorem dX10_sign_122 : decode cX10_sign 122 = .ok (.ifCond .eq 29, 3) := by decide +kernel
theorem dX10_sign_125 : decode cX10_sign 125 = .ok (.aload_n 0, 1) := by decide +kernel
theorem dX10_sign_126 : decode cX10_sign 126 = .ok (.aload 6, 2) := by decide +kernel
theorem dX10_sign_128 : decode cX10_sign 128 = .ok (.invokevirtual 212, 3) := by decide +kernel
theorem dX10_sign_131 : decode cX10_sign 131 = .ok (.ifCond .eq 20, 3) := by decide +kernel
theorem dX10_sign_134 : decode cX10_sign 134 = .ok (.iload 9, 2) := by decide +kernel
theorem dX10_sign_136 : decode cX10_sign 136 = .ok (.ifCond .eq 15, 3) := by decide +kernel
theorem dX10_sign_139 : decode cX10_sign 139 = .ok (.aload_n 0, 1) := by decide +kernel
theorem dX10_sign_140 : decode cX10_sign 140 = .ok (.aload 6, 2) := by decide +kernel
theorem dX10_sign_142 : decode cX10_sign 142 = .ok (.iload_n 3, 1) := by decide +kernel
theorem dX10_sign_143 : decode cX10_sign 143 = .ok (.iload 4, 2) := by decide +kernel
theorem dX10_sign_145 : decode cX10_sign 145 = .ok (.invokevirtual 216, 3) := by decide +kernel
theorem dX10_sign_148 : decode cX10_sign 148 = .ok (.ifCond .gt 10, 3) := by decide +kernel
theorem dX10_sign_151 : decode cX10_sign 151 = .ok (.aload_n 0, 1) := by decide +kernel
theorem dX10_sign_152 : decode cX10_sign 152 = .ok (.bipush (-3), 2) := by decide +kernel
theorem dX10_sign_154 : decode cX10_sign 154 = .ok (.invokevirtual 69, 3) := by decide +kernel
theorem dX10_sign_157 : decode cX10_sign 157 = .ok (.ireturn, 1) := by decide +kernel
theorem dX10_sign_158 : decode cX10_sign 158 = .ok (.new 21, 3) := by decide +kernel
theorem dX10_sign_161 : decode cX10_sign 161 = .ok (.dup, 1) := by decide +kernel
theorem dX10_sign_162 : decode cX10_sign 162 = .ok (.aload 6, 2) := by decide +kernel
theorem dX10_sign_164 : decode cX10_sign 164 = .ok (.aload 7, 2) := by decide +kernel
theorem dX10_sign_166 : decode cX10_sign 166 = .ok (.aload_n 0, 1) := by decide +kernel
theorem dX10_sign_167 : decode cX10_sign 167 = .ok (.getfield 73, 3) := by decide +kernel
theorem dX10_sign_170 : decode cX10_sign 170 = .ok (.aload 8, 2) := by decide +kernel
theorem dX10_sign_172 : decode cX10_sign 172 = .ok (.invokespecial 220, 3) := by decide +kernel
theorem dX10_sign_175 : decode cX10_sign 175 = .ok (.astore 10, 2) := by decide +kernel
theorem dX10_sign_177 : decode cX10_sign 177 = .ok (.aload 10, 2) := by decide +kernel
theorem dX10_sign_179 : decode cX10_sign 179 = .ok (.iload_n 3, 1) := by decide +kernel
theorem dX10_sign_180 : decode cX10_sign 180 = .ok (.putfield 223, 3) := by decide +kernel
theorem dX10_sign_183 : decode cX10_sign 183 = .ok (.aload 10, 2) := by decide +kernel
theorem dX10_sign_185 : decode cX10_sign 185 = .ok (.iload 4, 2) := by decide +kernel
theorem dX10_sign_187 : decode cX10_sign 187 = .ok (.putfield 226, 3) := by decide +kernel
theorem dX10_sign_190 : decode cX10_sign 190 = .ok (.aload_n 0, 1) := by decide +kernel
theorem dX10_sign_191 : decode cX10_sign 191 = .ok (.getfield 23, 3) := by decide +kernel
theorem dX10_sign_194 : decode cX10_sign 194 = .ok (.aload_n 0, 1) := by decide +kernel
theorem dX10_sign_195 : decode cX10_sign 195 = .ok (.getfield 115, 3) := by decide +kernel
theorem dX10_sign_198 : decode cX10_sign 198 = .ok (.aload 10, 2) := by decide +kernel
theorem dX10_sign_200 : decode cX10_sign 200 = .ok (.aastore, 1) := by decide +kernel
theorem dX10_sign_201 : decode cX10_sign 201 = .ok (.aload_n 0, 1) := by decide +kernel
theorem dX10_sign_202 : decode cX10_sign 202 = .ok (.dup, 1) := by decide +kernel
theorem dX10_sign_203 : decode cX10_sign 203 = .ok (.getfield 115, 3) := by decide +kernel
theorem dX10_sign_206 : decode cX10_sign 206 = .ok (.iconst 1, 1) := by decide +kernel
theorem dX10_sign_207 : decode cX10_sign 207 = .ok (.iadd, 1) := by decide +kernel
theorem dX10_sign_208 : decode cX10_sign 208 = .ok (.putfield 115, 3) := by decide +kernel
theorem dX10_sign_211 : decode cX10_sign 211 = .ok (.aload_n 0, 1) := by decide +kernel
theorem dX10_sign_212 : decode cX10_sign 212 = .ok (.getfield 115, 3) := by decide +kernel
theorem dX10_sign_215 : decode cX10_sign 215 = .ok (.iconst 1, 1) := by decide +kernel
theorem dX10_sign_216 : decode cX10_sign 216 = .ok (.isub, 1) := by decide +kernel
theorem dX10_sign_217 : decode cX10_sign 217 = .ok (.ireturn, 1) := by decide +kernel
set_option maxRecDepth 100000 in
theorem ggX10_fine_X10_agreementAt : GoodIn wsX10_fine wsX10_agreementAt := goodIn_sub (mmC (mmI il_X10_fine_1 13 rfl) (mmA (mmC (mmI il_X10_fine_1 14 rfl) (mmC (mmI il_X10_fine_1 15 rfl) mmN)) il_X10_fine_4)) gw_X10_agreementAt
theorem gX10_fine_X10_agreementAt : GoodIn wsX10_fine (wsV RX10 154 RX10 yX10_agreementAt wsX10_agreementAt) := goodIn_app (goodIn_sub (mmC (mmI il_X10_fine_1 9 rfl) (mmC (mmI il_X10_fine_1 10 rfl) (mmC (mmI il_X10_fine_1 11 rfl) (mmC (mmI il_X10_fine_1 12 rfl) mmN)))) (by decide +kernel)) ggX10_fine_X10_agreementAt
set_option maxRecDepth 100000 in
theorem ggX10_fine_X10_refuse : GoodIn wsX10_fine wsX10_refuse := goodIn_sub (mmC (mmI il_X10_fine_1 19 rfl) (mmA (mmC (mmI il_X10_fine_1 20 rfl) mmN) il_X10_fine_4)) gw_X10_refuse
theorem gX10_fine_X10_refuse : GoodIn wsX10_fine (wsV RX10 69 RX10 yX10_refuse wsX10_refuse) := goodIn_app (goodIn_sub (mmC (mmI il_X10_fine_1 16 rfl) (mmC (mmI il_X10_fine_1 17 rfl) (mmC (mmI il_X10_fine_1 18 rfl) (mmC (mmI il_X10_fine_1 12 rfl) mmN)))) (by decide +kernel)) ggX10_fine_X10_refuse
set_option maxRecDepth 100000 in
theorem ggX10_fine_X2_init : GoodIn wsX10_fine wsX2_init := goodIn_sub (mmC (mmI il_X10_fine_1 23 rfl) (mmA (mmC (mmI il_X10_fine_2 0 rfl) (mmC (mmI il_X10_fine_2 1 rfl) (mmC (mmI il_X10_fine_2 2 rfl) (mmC (mmI il_X10_fine_2 3 rfl) (mmC (mmI il_X10_fine_2 4 rfl) (mmC (mmI il_X10_fine_2 5 rfl) mmN)))))) il_X10_fine_5)) gw_X2_init
set_option maxRecDepth 20000 in
theorem gX10_fine_X2_init : GoodIn wsX10_fine (wsX2_init) := ggX10_fine_X2_init
theorem dX10_fine_0 : decode cX10_fine 0 = .ok (.aload_n 0, 1) := by decide +kernel
theorem dX10_fine_1 : decode cX10_fine 1 = .ok (.iload_n 1, 1) := by decide +kernel
theorem dX10_fine_2 : decode cX10_fine 2 = .ok (.invokevirtual 154, 3) := by decide +kernel
theorem dX10_fine_5 : decode cX10_fine 5 = .ok (.astore 5, 2) := by decide +kernel
theorem dX10_fine_7 : decode cX10_fine 7 = .ok (.aload 5, 2) := by decide +kernel
theorem dX10_fine_9 : decode cX10_fine 9 = .ok (.ifnonnull 9, 3) := by decide +kernel
theorem dX10_fine_12 : decode cX10_fine 12 = .ok (.aload_n 0, 1) := by decide +kernel
theorem dX10_fine_13 : decode cX10_fine 13 = .ok (.iconst (-1), 1) := by decide +kernel
theorem dX10_fine_14 : decode cX10_fine 14 = .ok (.invokevirtual 69, 3) := by decide +kernel
theorem dX10_fine_17 : decode cX10_fine 17 = .ok (.ireturn, 1) := by decide +kernel
theorem dX10_fine_18 : decode cX10_fine 18 = .ok (.aload 5, 2) := by decide +kernel
theorem dX10_fine_20 : decode cX10_fine 20 = .ok (.getfield 126, 3) := by decide +kernel
theorem dX10_fine_23 : decode cX10_fine 23 = .ok (.ldc 114, 2) := by decide +kernel
theorem dX10_fine_25 : decode cX10_fine 25 = .ok (.if_icmp .eq 10, 3) := by decide +kernel
theorem dX10_fine_28 : decode cX10_fine 28 = .ok (.aload_n 0, 1) := by decide +kernel
theorem dX10_fine_29 : decode cX10_fine 29 = .ok (.bipush (-3), 2) := by decide +kernel
theorem dX10_fine_31 : decode cX10_fine 31 = .ok (.invokevirtual 69, 3) := by decide +kernel
theorem dX10_fine_34 : decode cX10_fine 34 = .ok (.ireturn, 1) := by decide +kernel
theorem dX10_fine_35 : decode cX10_fine 35 = .ok (.iload_n 2, 1) := by decide +kernel
theorem dX10_fine_36 : decode cX10_fine 36 = .ok (.aload 5, 2) := by decide +kernel
theorem dX10_fine_38 : decode cX10_fine 38 = .ok (.getfield 255, 3) := by decide +kernel
theorem dX10_fine_41 : decode cX10_fine 41 = .ok (.if_icmp .lt 8, 3) := by decide +kernel
theorem dX10_fine_44 : decode cX10_fine 44 = .ok (.iload_n 3, 1) := by decide +kernel
theorem dX10_fine_45 : decode cX10_fine 45 = .ok (.iconst 1, 1) := by decide +kernel
theorem dX10_fine_46 : decode cX10_fine 46 = .ok (.if_icmp .ge 10, 3) := by decide +kernel
theorem dX10_fine_49 : decode cX10_fine 49 = .ok (.aload_n 0, 1) := by decide +kernel
theorem dX10_fine_50 : decode cX10_fine 50 = .ok (.bipush (-4), 2) := by decide +kernel
theorem dX10_fine_52 : decode cX10_fine 52 = .ok (.invokevirtual 69, 3) := by decide +kernel
theorem dX10_fine_55 : decode cX10_fine 55 = .ok (.ireturn, 1) := by decide +kernel
theorem dX10_fine_56 : decode cX10_fine 56 = .ok (.iload_n 2, 1) := by decide +kernel
theorem dX10_fine_57 : decode cX10_fine 57 = .ok (.aload_n 0, 1) := by decide +kernel
theorem dX10_fine_58 : decode cX10_fine 58 = .ok (.getfield 73, 3) := by decide +kernel
theorem dX10_fine_61 : decode cX10_fine 61 = .ok (.if_icmp .gt 20, 3) := by decide +kernel
theorem dX10_fine_64 : decode cX10_fine 64 = .ok (.iload_n 3, 1) := by decide +kernel
theorem dX10_fine_65 : decode cX10_fine 65 = .ok (.sipush 9999, 3) := by decide +kernel
theorem dX10_fine_68 : decode cX10_fine 68 = .ok (.if_icmp .gt 13, 3) := by decide +kernel
theorem dX10_fine_71 : decode cX10_fine 71 = .ok (.aload 5, 2) := by decide +kernel
theorem dX10_fine_73 : decode cX10_fine 73 = .ok (.getfield 258, 3) := by decide +kernel
theorem dX10_fine_76 : decode cX10_fine 76 = .ok (.bipush 6, 2) := by decide +kernel
theorem dX10_fine_78 : decode cX10_fine 78 = .ok (.if_icmp .lt 10, 3) := by decide +kernel
theorem dX10_fine_81 : decode cX10_fine 81 = .ok (.aload_n 0, 1) := by decide +kernel
theorem dX10_fine_82 : decode cX10_fine 82 = .ok (.bipush (-6), 2) := by decide +kernel
theorem dX10_fine_84 : decode cX10_fine 84 = .ok (.invokevirtual 69, 3) := by decide +kernel
theorem dX10_fine_87 : decode cX10_fine 87 = .ok (.ireturn, 1) := by decide +kernel
theorem dX10_fine_88 : decode cX10_fine 88 = .ok (.aload 5, 2) := by decide +kernel
theorem dX10_fine_90 : decode cX10_fine 90 = .ok (.getfield 261, 3) := by decide +kernel
theorem dX10_fine_93 : decode cX10_fine 93 = .ok (.aload 5, 2) := by decide +kernel
theorem dX10_fine_95 : decode cX10_fine 95 = .ok (.getfield 258, 3) := by decide +kernel
theorem dX10_fine_98 : decode cX10_fine 98 = .ok (.new 265, 3) := by decide +kernel
theorem dX10_fine_101 : decode cX10_fine 101 = .ok (.dup, 1) := by decide +kernel
theorem dX10_fine_102 : decode cX10_fine 102 = .ok (.iload_n 2, 1) := by decide +kernel
theorem dX10_fine_103 : decode cX10_fine 103 = .ok (.iload_n 3, 1) := by decide +kernel
theorem dX10_fine_104 : decode cX10_fine 104 = .ok (.iload 4, 2) := by decide +kernel
theorem dX10_fine_106 : decode cX10_fine 106 = .ok (.invokespecial 267, 3) := by decide +kernel
theorem dX10_fine_109 : decode cX10_fine 109 = .ok (.aastore, 1) := by decide +kernel
theorem dX10_fine_110 : decode cX10_fine 110 = .ok (.aload 5, 2) := by decide +kernel
theorem dX10_fine_112 : decode cX10_fine 112 = .ok (.dup, 1) := by decide +kernel
theorem dX10_fine_113 : decode cX10_fine 113 = .ok (.getfield 258, 3) := by decide +kernel
theorem dX10_fine_116 : decode cX10_fine 116 = .ok (.iconst 1, 1) := by decide +kernel
theorem dX10_fine_117 : decode cX10_fine 117 = .ok (.iadd, 1) := by decide +kernel
theorem dX10_fine_118 : decode cX10_fine 118 = .ok (.putfield 258, 3) := by decide +kernel
theorem dX10_fine_121 : decode cX10_fine 121 = .ok (.aload 5, 2) := by decide +kernel
theorem dX10_fine_123 : decode cX10_fine 123 = .ok (.getfield 258, 3) := by decide +kernel
theorem dX10_fine_126 : decode cX10_fine 126 = .ok (.ireturn, 1) := by decide +kernel
set_option maxRecDepth 100000 in
theorem ggX10_addTiding_X3_init : GoodIn wsX10_addTiding wsX3_init := goodIn_sub (mmC (mmI il_X10_addTiding_1 8 rfl) (mmA (mmC (mmI il_X10_addTiding_1 9 rfl) (mmC (mmI il_X10_addTiding_1 10 rfl) (mmC (mmI il_X10_addTiding_1 11 rfl) (mmC (mmI il_X10_addTiding_1 12 rfl) (mmC (mmI il_X10_addTiding_1 13 rfl) (mmC (mmI il_X10_addTiding_1 14 rfl) (mmC (mmI il_X10_addTiding_1 15 rfl) (mmC (mmI il_X10_addTiding_1 16 rfl) (mmC (mmI il_X10_addTiding_1 17 rfl) mmN))))))))) il_X10_addTiding_2)) gw_X3_init
set_option maxRecDepth 20000 in
theorem gX10_addTiding_X3_init : GoodIn wsX10_addTiding (wsX3_init) := ggX10_addTiding_X3_init
theorem dX10_addTiding_0 : decode cX10_addTiding 0 = .ok (.aload_n 1, 1) := by decide +kernel
theorem dX10_addTiding_1 : decode cX10_addTiding 1 = .ok (.new 142, 3) := by decide +kernel
theorem dX10_addTiding_4 : decode cX10_addTiding 4 = .ok (.dup, 1) := by decide +kernel
theorem dX10_addTiding_5 : decode cX10_addTiding 5 = .ok (.iload_n 2, 1) := by decide +kernel
theorem dX10_addTiding_6 : decode cX10_addTiding 6 = .ok (.iload_n 3, 1) := by decide +kernel
theorem dX10_addTiding_7 : decode cX10_addTiding 7 = .ok (.aload_n 0, 1) := by decide +kernel
theorem dX10_addTiding_8 : decode cX10_addTiding 8 = .ok (.getfield 73, 3) := by decide +kernel
theorem dX10_addTiding_11 : decode cX10_addTiding 11 = .ok (.iload 4, 2) := by decide +kernel
theorem dX10_addTiding_13 : decode cX10_addTiding 13 = .ok (.iload 5, 2) := by decide +kernel
theorem dX10_addTiding_15 : decode cX10_addTiding 15 = .ok (.aload_n 1, 1) := by decide +kernel
theorem dX10_addTiding_16 : decode cX10_addTiding 16 = .ok (.getfield 368, 3) := by decide +kernel
theorem dX10_addTiding_19 : decode cX10_addTiding 19 = .ok (.invokespecial 148, 3) := by decide +kernel
theorem dX10_addTiding_22 : decode cX10_addTiding 22 = .ok (.putfield 368, 3) := by decide +kernel
theorem dX10_addTiding_25 : decode cX10_addTiding 25 = .ok (.aload_n 0, 1) := by decide +kernel
theorem dX10_addTiding_26 : decode cX10_addTiding 26 = .ok (.dup, 1) := by decide +kernel
theorem dX10_addTiding_27 : decode cX10_addTiding 27 = .ok (.getfield 139, 3) := by decide +kernel
theorem dX10_addTiding_30 : decode cX10_addTiding 30 = .ok (.iconst 1, 1) := by decide +kernel
theorem dX10_addTiding_31 : decode cX10_addTiding 31 = .ok (.iadd, 1) := by decide +kernel
theorem dX10_addTiding_32 : decode cX10_addTiding 32 = .ok (.putfield 139, 3) := by decide +kernel
theorem dX10_addTiding_35 : decode cX10_addTiding 35 = .ok (.aload_n 0, 1) := by decide +kernel
theorem dX10_addTiding_36 : decode cX10_addTiding 36 = .ok (.getfield 139, 3) := by decide +kernel
theorem dX10_addTiding_39 : decode cX10_addTiding 39 = .ok (.ireturn, 1) := by decide +kernel
theorem in_wsX10_addTiding_X3 : ∀ w ∈ wsX30, w ∈ wsX10_addTiding := fun w h => List.mem_cons_of_mem _ (List.mem_append_left _ (List.mem_append_left _ (List.mem_append_right _ h)))
theorem in_wsX10_addTiding_X10 : ∀ w ∈ wsX100, w ∈ wsX10_addTiding := fun w h => List.mem_cons_of_mem _ (List.mem_append_left _ (List.mem_append_right _ h))
theorem in_wsX10_addTiding_X1 : ∀ w ∈ wsX10, w ∈ wsX10_addTiding := fun w h => List.mem_cons_of_mem _ (List.mem_append_right _ h)
theorem in_wsX10_died_X1 : ∀ w ∈ wsX10, w ∈ wsX10_died := fun w h => List.mem_cons_of_mem _ (List.mem_append_left _ (List.mem_append_left _ (List.mem_append_right _ h)))
theorem in_wsX10_heard_X3 : ∀ w ∈ wsX30, w ∈ wsX10_heard := fun w h => List.mem_cons_of_mem _ (List.mem_append_left _ (List.mem_append_left _ (List.mem_append_right _ h)))
theorem in_wsX10_heard_X10 : ∀ w ∈ wsX100, w ∈ wsX10_heard := fun w h => List.mem_cons_of_mem _ (List.mem_append_left _ (List.mem_append_right _ h))
theorem in_wsX10_heard_X9 : ∀ w ∈ wsX90, w ∈ wsX10_heard := fun w h => List.mem_cons_of_mem _ (List.mem_append_right _ h)
theorem in_wsX10_man_X10 : ∀ w ∈ wsX100, w ∈ wsX10_man := fun w h => List.mem_cons_of_mem _ (List.mem_append_left _ (List.mem_append_right _ h))
theorem in_wsX10_man_X6 : ∀ w ∈ wsX60, w ∈ wsX10_man := fun w h => List.mem_cons_of_mem _ (List.mem_append_right _ h)
theorem in_wsX10_voyage_X10 : ∀ w ∈ wsX100, w ∈ wsX10_voyage := fun w h => List.mem_cons_of_mem _ (List.mem_append_left _ (List.mem_append_right _ h))
theorem in_wsX10_voyage_X9 : ∀ w ∈ wsX90, w ∈ wsX10_voyage := fun w h => List.mem_cons_of_mem _ (List.mem_append_right _ h)
theorem in_wsX10_fine_X1 : ∀ w ∈ wsX10, w ∈ wsX10_fine := fun w h => List.mem_cons_of_mem _ (List.mem_append_left _ (List.mem_append_left _ (List.mem_append_right _ h)))
theorem in_wsX10_fine_X10 : ∀ w ∈ wsX100, w ∈ wsX10_fine := fun w h => List.mem_cons_of_mem _ (List.mem_append_left _ (List.mem_append_right _ h))
theorem in_wsX10_fine_X2 : ∀ w ∈ wsX20, w ∈ wsX10_fine := fun w h => List.mem_cons_of_mem _ (List.mem_append_right _ h)
theorem in_wsX10_sign_X10 : ∀ w ∈ wsX100, w ∈ wsX10_sign := fun w h => List.mem_cons_of_mem _ (List.mem_append_left _ (List.mem_append_left _ (List.mem_append_left _ (List.mem_append_left _ (List.mem_append_left _ (List.mem_append_right _ h))))))
theorem in_wsX10_sign_X1 : ∀ w ∈ wsX10, w ∈ wsX10_sign := fun w h => List.mem_cons_of_mem _ (List.mem_append_left _ (List.mem_append_left _ (List.mem_append_left _ (List.mem_append_left _ (List.mem_append_right _ h)))))

set_option maxHeartbeats 4000000 in
set_option maxRecDepth 100000 in
theorem c_X10_addTiding (l : Launch) (dC : Nat → ClassId) (dI : Nat → Nat → Nat) (sz : Nat) (cq : Nat → ClassId) (Z : oS) (gI : oInv Z) (o : Nat) (to : oty Z o 10) (a1 : Nat) (ta1 : oty Z a1 1) (x2 : Int32) (x3 : Int32) (x4 : Int32) (x5 : Int32) (hw : (x4.toInt = -9 ∨ (0 ≤ x5.toInt ∧ x5.toInt ≤ 9))) : Met l yX10_addTiding wsX10_addTiding ({ frames := 2, cells := 1, slots := 6, locals := 40 }) (va_Pc [.ref o, .ref a1, .int x2, .int x3, .int x4, .int x5] (pcW (dC, dI) (oT cq) (oW cq Z) sz)) (va_Qi (fun (r : Int32) (u : oS) => oInv u ∧ oX [108, 1007] Z u) (fun u t => va_P (dC, dI) vwCl (oW cq u) t.heap ∧ va_K (dC, dI) vwCl (oT cq) t ∧ va_D (va_A (oW cq Z) sz) (oW cq u)) (va_A (oW cq Z) sz)) 1 6 (va_A (oW cq Z) sz) := by
  refine Met.ofW (cc := cX10_addTiding) (maxL := 6) (ret := (some .int)) (by decide) rfl ?_
  intro p e s m args below meth c s₁ B hml hv
  obtain ⟨rfl, hsz, hP, hK, hD0⟩ := hv
  have hx := B.exec
  have hb := B.bytes
  have hr := B.returns
  have hts := atoms_spec (ws := wsX10_addTiding) B.pre
  have hown : s.vm.findClass RX10 = some m.cls := findClass_of_methodNamed B.named
  have hlocks := B.notSynchronized
  subst hsz
  have hD := hD0.self (sz := s.heap.size)
  generalize hAe : va_A (oW cq Z) s.heap.size = A at hD ⊢
  have hA : ∀ q : Nat, s.heap.size ≤ q → A q := fun q h => by rw [← hAe]; exact Or.inr h
  have hS : va_S A s.heap s.heap [] := va_S.rf
  have hP : va_P (dC, dI) vwCl (oW cq Z) s.heap := hP
  have hl := lv_entry ([.ref o, .ref a1, .int x2, .int x3, .int x4, .int x5]) (n := 6) (Nat.le_of_ble_eq_true rfl)
  rw [lg_entry_eq]
  generalize (lg_sl ([.ref o, .ref a1, .int x2, .int x3, .int x4, .int x5]) ++ List.replicate (6 - (lg_sl ([.ref o, .ref a1, .int x2, .int x3, .int x4, .int x5])).length) Slot.unset).toArray = ls at hl ⊢
  have hl : lv_has ls 6 [(0, .ref o), (1, .ref a1), (2, .int x2), (3, .int x3), (4, .int x4), (5, .int x5)] := hl
  refine lv_aload_n hx hb dX10_addTiding_0 rfl (lv_at hl 1 rfl) ?_
  refine va_new (ci := 3) (fs := [.int 0, .int 0, .int 0, .int 0, .int 0, .null]) (C := RX3) (T := TX3) (N := 6) hx hb hts in_wsX10_addTiding_X3 tyX3 tyX3_ok hown (hts (.classLink RX10 142 RX3) iw_X10_addTiding_1) (hts (.instantiable RX3 6) iw_X10_addTiding_2) (hts (.initialized RX3) iw_X10_addTiding_3) hK hP hD hS hA rfl (fun j hj => by rcases (show j = 0 ∨ j = 1 ∨ j = 2 ∨ j = 3 ∨ j = 4 ∨ j = 5 by omega) with rfl | rfl | rfl | rfl | rfl | rfl <;> rfl) (Nat.le_of_ble_eq_true rfl) (Nat.le_of_ble_eq_true rfl) dX10_addTiding_1 (fun q_1 H hP1 hD1 hS => ?_)
  have hnq_1 := add_q hD1
  obtain ⟨S_2, eS_2⟩ : ∃ zq, zq = addO Z q_1 33 := ⟨_, rfl⟩
  have hP : va_P (dC, dI) vwCl (oW cq S_2) H := by rw [eS_2]; exact cP (onew hD1 (by rw [oE_33 add_K, add_I, add_P]; rfl)) hP1
  have hD : va_D A (oW cq S_2) := by rw [eS_2]; exact cD (onew hD1 (by rw [oE_33 add_K, add_I, add_P]; rfl)) hD1
  clear hP1 hD1
  have hIS_2 : oInv S_2 := by rw [eS_2]; exact oInv.add gI hnq_1 (by decide)
  have XS_2 : oX [] Z S_2 := by rw [eS_2]; exact oX.add hnq_1
  have nzq_1 : q_1 ∉ oL Z := hnq_1
  have X_3 : oX [108, 1007] Z S_2 := oX.st oX.rf XS_2 (by decide)
  have tq_1 : oty S_2 q_1 33 := by rw [eS_2]; exact add_ty
  refine W.widen (k := 1) (n := 6) (Nat.le_of_ble_eq_true rfl) (Nat.le_of_ble_eq_true rfl) ?_
  refine lv_dup hx hb dX10_addTiding_4 rfl ?_
  refine lv_iload_n hx hb dX10_addTiding_5 rfl (lv_at hl 2 rfl) ?_
  refine lv_iload_n hx hb dX10_addTiding_6 rfl (lv_at hl 3 rfl) ?_
  refine lv_aload_n hx hb dX10_addTiding_7 rfl (lv_at hl 0 rfl) ?_
  have t_4 : oty S_2 o 10 := (oX.ty XS_2 to)
  obtain ⟨q_5, hq_5⟩ := og (cq := cq) t_4.1 (oE_10 t_4.2)
  refine va_get (D := (dC, dI)) (ci := 10) (v := .int (oI S_2 o 0)) (C := RX10) (T := TX10) (N := 16) hx hb hts in_wsX10_addTiding_X10 hown hK hP q_5 hq_5 rfl 0 (by decide) (hts (.fieldLink RX10 73 "ShipOffice" "now" "I") iw_X10_addTiding_4) (fun _ h9 => h9) rfl dX10_addTiding_8 ?_
  refine lv_topi (fun x_6 ex_6 => ?_)
  have hx_6 : 0 ≤ x_6.toInt ∧ x_6.toInt ≤ 3000 := iv_of ex_6 (oInv.iv hIS_2 t_4.2 rfl rfl)
  have gx_6 : x_6.toInt = (oI S_2 o 0).toInt := iv_to ex_6
  clear ex_6
  refine lv_iload hx hb dX10_addTiding_11 (lv_at hl 4 rfl) ?_
  refine lv_iload hx hb dX10_addTiding_13 (lv_at hl 5 rfl) ?_
  refine lv_aload_n hx hb dX10_addTiding_15 rfl (lv_at hl 1 rfl) ?_
  have t_7 : oty S_2 a1 1 := (oX.ty XS_2 ta1)
  obtain ⟨q_8, hq_8⟩ := og (cq := cq) t_7.1 (oE_1 t_7.2)
  rcases hb_10 : oP S_2 a1 8 with _ | b_9
  · refine va_get (D := (dC, dI)) (ci := 1) (v := .null) (C := RX1) (T := TX1) (N := 18) hx hb hts in_wsX10_addTiding_X1 hown hK hP q_8 hq_8 rfl 8 (by decide) (hts (.fieldLink RX10 368 "ShipOffice$Agreement" "tidings" "LShipOffice$Happening;") iw_X10_addTiding_5) (fun _ h9 => h9) (o_rd hb_10) dX10_addTiding_16 ?_
    have hFc := o_free hD hS hA
    refine va_callv (va_runI (As := [.int x2, .int x3, .int x_6, .int x4, .int x5, .null]) (rest := [.ref q_1, .ref a1]) ⟨hx, hb, hml, hown, hts⟩ (c_X3_init l dC dI H.size cq S_2 hIS_2 q_1 tq_1 x2 x3 x_6 x4 x5 none (fun b h => by cases h) hw (fun b h => by cases h)) (cwI 6 hts gX10_addTiding_X3_init rfl rfl rfl (hts (.initialized RX3) iw_X10_addTiding_3) (hts (.methodLink RX10 148 yX3_init) iw_X10_addTiding_6) (hts (.instanceMethod yX3_init) iw_X10_addTiding_7) rfl (by decide +kernel) ⟨(Nat.le_of_ble_eq_true rfl), (Nat.le_of_ble_eq_true rfl)⟩) (pr_S hP hK hD) rfl rfl hl.1 rfl (lv_room (Nat.le_of_ble_eq_true rfl)) dX10_addTiding_19 ⟨(Nat.le_of_ble_eq_true rfl), (Nat.le_of_ble_eq_true rfl)⟩) hS (fun q _ h => hFc q h) hFc (fun u t H locs ht hvm w_11 hB hz1 hk1 hS => ?_)
    obtain ⟨S_13, rfl⟩ : ∃ z, z = u := ⟨_, rfl⟩
    obtain ⟨hP1, hK1, hD1⟩ := hB
    rw [ht] at hP1
    have hP : va_P (dC, dI) vwCl (oW cq S_13) H := hP1
    have hD : va_D A (oW cq S_13) := hD1.weaken (fun _ _ _ h => hFc _ h)
    clear hP1 hK1 hD1 hk1 hz1 hvm ht hFc
    obtain ⟨hIS_13, XS_13, hx_14⟩ := w_11
    have hxS_13 := hx_14
    have X_15 : oX [108, 1007] Z S_13 := oX.c X_3 XS_13 nzq_1 (by decide)
    have g_16 : (oI S_13 o 0).toInt = (oI S_2 o 0).toInt := by rw [oXc.i XS_13 (ty_ne t_4 tq_1 (by decide)) t_4 (by decide)]
    have t_17 : oty S_13 a1 1 := (oXc.ty XS_13 (ty_ne t_7 tq_1 (by decide)) t_7)
    obtain ⟨q_18, hq_18⟩ := og (cq := cq) t_17.1 (oE_1 t_17.2)
    refine va_put (D := (dC, dI)) (ci := 1) (v := .ref q_1) (ty := .object "ShipOffice$Happening") (C := RX1) (T := TX1) (N := 18) hx hb hts in_wsX10_addTiding_X1 tyX1 tyX1_ok nmX1 hown hK hP hD hS q_18 hq_18 rfl 8 (by decide) (hts (.fieldLink RX10 368 "ShipOffice$Agreement" "tidings" "LShipOffice$Happening;") iw_X10_addTiding_5) (fun _ h9 => h9) rfl (by decide +kernel) rfl rfl (Nat.le_of_ble_eq_true rfl) dX10_addTiding_22 (fun H locs hP1 hD1 hS => ?_)
    obtain ⟨S_19, eS_19⟩ : ∃ zq, zq = setP S_13 a1 8 (some q_1) := ⟨_, rfl⟩
    have hP : va_P (dC, dI) vwCl (oW cq S_19) H := by rw [eS_19]; exact cP (oset t_17.1 hq_18 hD rfl (he_1_8 t_17.2) neP) hP1
    have hD : va_D A (oW cq S_19) := by rw [eS_19]; exact cD (oset t_17.1 hq_18 hD rfl (he_1_8 t_17.2) neP) hD1
    clear hP1 hD1
    have hIS_19 : oInv S_19 := by rw [eS_19]; exact oInv.P (k := 1) hIS_13 t_17.2 (by decide) rfl (by decide) hxS_13 (by decide)
    have XS_19 : oX [108] S_13 S_19 := by rw [eS_19]; exact oX.P (k := 1) (key := 108) t_17.2 rfl (List.mem_singleton.mpr rfl)
    have X_20 : oX [108, 1007] Z S_19 := oX.st X_15 XS_19 (by decide)
    have g_21 : (oI S_19 o 0).toInt = (oI S_13 o 0).toInt := by rw [eS_19]; rfl
    refine lv_aload_n hx hb dX10_addTiding_25 rfl (lv_at hl 0 rfl) ?_
    refine lv_dup hx hb dX10_addTiding_26 rfl ?_
    have t_22 : oty S_19 o 10 := (oX.ty XS_19 (oXc.ty XS_13 (ty_ne t_4 tq_1 (by decide)) t_4))
    obtain ⟨q_23, hq_23⟩ := og (cq := cq) t_22.1 (oE_10 t_22.2)
    refine va_get (D := (dC, dI)) (ci := 10) (v := .int (oI S_19 o 7)) (C := RX10) (T := TX10) (N := 16) hx hb hts in_wsX10_addTiding_X10 hown hK hP q_23 hq_23 rfl 7 (by decide) (hts (.fieldLink RX10 139 "ShipOffice" "happeningCount" "I") iw_X10_addTiding_8) (fun _ h9 => h9) rfl dX10_addTiding_27 ?_
    refine lv_topi (fun x_24 ex_24 => ?_)
    clear ex_24
    refine lv_iconst (v := 1) hx hb dX10_addTiding_30 (by decide) ?_
    refine lv_iadd hx hb dX10_addTiding_31 ?_
    refine lv_topi (fun x_25 ex_25 => ?_)
    clear ex_25
    refine va_put (D := (dC, dI)) (ci := 10) (v := .int x_25) (ty := .int) (C := RX10) (T := TX10) (N := 16) hx hb hts in_wsX10_addTiding_X10 tyX10 tyX10_ok nmX10 hown hK hP hD hS q_23 hq_23 rfl 7 (by decide) (hts (.fieldLink RX10 139 "ShipOffice" "happeningCount" "I") iw_X10_addTiding_8) (fun _ h9 => h9) rfl (by decide +kernel) rfl rfl (Nat.le_of_ble_eq_true rfl) dX10_addTiding_32 (fun H locs hP1 hD1 hS => ?_)
    obtain ⟨S_26, eS_26⟩ : ∃ zq, zq = setI S_19 o 7 x_25 := ⟨_, rfl⟩
    have hP : va_P (dC, dI) vwCl (oW cq S_26) H := by rw [eS_26]; exact cP (oset t_22.1 hq_23 hD rfl (he_10_7 t_22.2) neI) hP1
    have hD : va_D A (oW cq S_26) := by rw [eS_26]; exact cD (oset t_22.1 hq_23 hD rfl (he_10_7 t_22.2) neI) hD1
    clear hP1 hD1
    have hIS_26 : oInv S_26 := by rw [eS_26]; exact oInv.I0 (k := 10) (lo := -2147483648) (hi := 2147483647) hIS_19 t_22.2 (by decide) rfl rfl rfl (iv_all _)
    have XS_26 : oX [1007] S_19 S_26 := by rw [eS_26]; exact oX.I (k := 10) (key := 1007) t_22.2 rfl (List.mem_singleton.mpr rfl)
    have X_27 : oX [108, 1007] Z S_26 := oX.st X_20 XS_26 (by decide)
    have g_28 : (oI S_26 o 0).toInt = (oI S_19 o 0).toInt := by rw [eS_26, setI_ne (by decide)]
    refine lv_aload_n hx hb dX10_addTiding_35 rfl (lv_at hl 0 rfl) ?_
    have t_29 : oty S_26 o 10 := (oX.ty XS_26 t_22)
    obtain ⟨q_30, hq_30⟩ := og (cq := cq) t_29.1 (oE_10 t_29.2)
    refine va_get (D := (dC, dI)) (ci := 10) (v := .int (oI S_26 o 7)) (C := RX10) (T := TX10) (N := 16) hx hb hts in_wsX10_addTiding_X10 hown hK hP q_30 hq_30 rfl 7 (by decide) (hts (.fieldLink RX10 139 "ShipOffice" "happeningCount" "I") iw_X10_addTiding_8) (fun _ h9 => h9) rfl dX10_addTiding_36 ?_
    refine lv_topi (fun x_31 ex_31 => ?_)
    clear ex_31
    exact W.iret (v := x_31) hx hb hr (fun t ht hW => ⟨⟨x_31, S_26, rfl, ⟨hIS_26, X_27⟩, ⟨by rw [ht]; exact hP, va_K.moved hW.alike hK, hD⟩⟩, hS.F ht⟩) hS.2.2 dX10_addTiding_39
  · refine va_get (D := (dC, dI)) (ci := 1) (v := .ref b_9) (C := RX1) (T := TX1) (N := 18) hx hb hts in_wsX10_addTiding_X1 hown hK hP q_8 hq_8 rfl 8 (by decide) (hts (.fieldLink RX10 368 "ShipOffice$Agreement" "tidings" "LShipOffice$Happening;") iw_X10_addTiding_5) (fun _ h9 => h9) (o_rd hb_10) dX10_addTiding_16 ?_
    have tb_9 : oty S_2 b_9 3 := oInv.rd hIS_2 t_7.2 hb_10 rfl rfl
    have hFc := o_free hD hS hA
    refine va_callv (va_runI (As := [.int x2, .int x3, .int x_6, .int x4, .int x5, .ref b_9]) (rest := [.ref q_1, .ref a1]) ⟨hx, hb, hml, hown, hts⟩ (c_X3_init l dC dI H.size cq S_2 hIS_2 q_1 tq_1 x2 x3 x_6 x4 x5 (some b_9) (fun b h => by cases h; exact tb_9) hw (fun b h => by cases h; have hm := tb_9.1; have nb := ty_ne tb_9 tq_1 (by decide); rw [eS_2] at hm ⊢; exact add_G2 hnq_1 hm nb)) (cwI 6 hts gX10_addTiding_X3_init rfl rfl rfl (hts (.initialized RX3) iw_X10_addTiding_3) (hts (.methodLink RX10 148 yX3_init) iw_X10_addTiding_6) (hts (.instanceMethod yX3_init) iw_X10_addTiding_7) rfl (by decide +kernel) ⟨(Nat.le_of_ble_eq_true rfl), (Nat.le_of_ble_eq_true rfl)⟩) (pr_S hP hK hD) rfl rfl hl.1 rfl (lv_room (Nat.le_of_ble_eq_true rfl)) dX10_addTiding_19 ⟨(Nat.le_of_ble_eq_true rfl), (Nat.le_of_ble_eq_true rfl)⟩) hS (fun q _ h => hFc q h) hFc (fun u t H locs ht hvm w_32 hB hz1 hk1 hS => ?_)
    obtain ⟨S_34, rfl⟩ : ∃ z, z = u := ⟨_, rfl⟩
    obtain ⟨hP1, hK1, hD1⟩ := hB
    rw [ht] at hP1
    have hP : va_P (dC, dI) vwCl (oW cq S_34) H := hP1
    have hD : va_D A (oW cq S_34) := hD1.weaken (fun _ _ _ h => hFc _ h)
    clear hP1 hK1 hD1 hk1 hz1 hvm ht hFc
    obtain ⟨hIS_34, XS_34, hx_35⟩ := w_32
    have hxS_34 := hx_35
    have X_36 : oX [108, 1007] Z S_34 := oX.c X_3 XS_34 nzq_1 (by decide)
    have g_37 : (oI S_34 o 0).toInt = (oI S_2 o 0).toInt := by rw [oXc.i XS_34 (ty_ne t_4 tq_1 (by decide)) t_4 (by decide)]
    have t_38 : oty S_34 a1 1 := (oXc.ty XS_34 (ty_ne t_7 tq_1 (by decide)) t_7)
    obtain ⟨q_39, hq_39⟩ := og (cq := cq) t_38.1 (oE_1 t_38.2)
    refine va_put (D := (dC, dI)) (ci := 1) (v := .ref q_1) (ty := .object "ShipOffice$Happening") (C := RX1) (T := TX1) (N := 18) hx hb hts in_wsX10_addTiding_X1 tyX1 tyX1_ok nmX1 hown hK hP hD hS q_39 hq_39 rfl 8 (by decide) (hts (.fieldLink RX10 368 "ShipOffice$Agreement" "tidings" "LShipOffice$Happening;") iw_X10_addTiding_5) (fun _ h9 => h9) rfl (by decide +kernel) rfl rfl (Nat.le_of_ble_eq_true rfl) dX10_addTiding_22 (fun H locs hP1 hD1 hS => ?_)
    obtain ⟨S_40, eS_40⟩ : ∃ zq, zq = setP S_34 a1 8 (some q_1) := ⟨_, rfl⟩
    have hP : va_P (dC, dI) vwCl (oW cq S_40) H := by rw [eS_40]; exact cP (oset t_38.1 hq_39 hD rfl (he_1_8 t_38.2) neP) hP1
    have hD : va_D A (oW cq S_40) := by rw [eS_40]; exact cD (oset t_38.1 hq_39 hD rfl (he_1_8 t_38.2) neP) hD1
    clear hP1 hD1
    have hIS_40 : oInv S_40 := by rw [eS_40]; exact oInv.P (k := 1) hIS_34 t_38.2 (by decide) rfl (by decide) hxS_34 (by decide)
    have XS_40 : oX [108] S_34 S_40 := by rw [eS_40]; exact oX.P (k := 1) (key := 108) t_38.2 rfl (List.mem_singleton.mpr rfl)
    have X_41 : oX [108, 1007] Z S_40 := oX.st X_36 XS_40 (by decide)
    have g_42 : (oI S_40 o 0).toInt = (oI S_34 o 0).toInt := by rw [eS_40]; rfl
    refine lv_aload_n hx hb dX10_addTiding_25 rfl (lv_at hl 0 rfl) ?_
    refine lv_dup hx hb dX10_addTiding_26 rfl ?_
    have t_43 : oty S_40 o 10 := (oX.ty XS_40 (oXc.ty XS_34 (ty_ne t_4 tq_1 (by decide)) t_4))
    obtain ⟨q_44, hq_44⟩ := og (cq := cq) t_43.1 (oE_10 t_43.2)
    refine va_get (D := (dC, dI)) (ci := 10) (v := .int (oI S_40 o 7)) (C := RX10) (T := TX10) (N := 16) hx hb hts in_wsX10_addTiding_X10 hown hK hP q_44 hq_44 rfl 7 (by decide) (hts (.fieldLink RX10 139 "ShipOffice" "happeningCount" "I") iw_X10_addTiding_8) (fun _ h9 => h9) rfl dX10_addTiding_27 ?_
    refine lv_topi (fun x_45 ex_45 => ?_)
    clear ex_45
    refine lv_iconst (v := 1) hx hb dX10_addTiding_30 (by decide) ?_
    refine lv_iadd hx hb dX10_addTiding_31 ?_
    refine lv_topi (fun x_46 ex_46 => ?_)
    clear ex_46
    refine va_put (D := (dC, dI)) (ci := 10) (v := .int x_46) (ty := .int) (C := RX10) (T := TX10) (N := 16) hx hb hts in_wsX10_addTiding_X10 tyX10 tyX10_ok nmX10 hown hK hP hD hS q_44 hq_44 rfl 7 (by decide) (hts (.fieldLink RX10 139 "ShipOffice" "happeningCount" "I") iw_X10_addTiding_8) (fun _ h9 => h9) rfl (by decide +kernel) rfl rfl (Nat.le_of_ble_eq_true rfl) dX10_addTiding_32 (fun H locs hP1 hD1 hS => ?_)
    obtain ⟨S_47, eS_47⟩ : ∃ zq, zq = setI S_40 o 7 x_46 := ⟨_, rfl⟩
    have hP : va_P (dC, dI) vwCl (oW cq S_47) H := by rw [eS_47]; exact cP (oset t_43.1 hq_44 hD rfl (he_10_7 t_43.2) neI) hP1
    have hD : va_D A (oW cq S_47) := by rw [eS_47]; exact cD (oset t_43.1 hq_44 hD rfl (he_10_7 t_43.2) neI) hD1
    clear hP1 hD1
    have hIS_47 : oInv S_47 := by rw [eS_47]; exact oInv.I0 (k := 10) (lo := -2147483648) (hi := 2147483647) hIS_40 t_43.2 (by decide) rfl rfl rfl (iv_all _)
    have XS_47 : oX [1007] S_40 S_47 := by rw [eS_47]; exact oX.I (k := 10) (key := 1007) t_43.2 rfl (List.mem_singleton.mpr rfl)
    have X_48 : oX [108, 1007] Z S_47 := oX.st X_41 XS_47 (by decide)
    have g_49 : (oI S_47 o 0).toInt = (oI S_40 o 0).toInt := by rw [eS_47, setI_ne (by decide)]
    refine lv_aload_n hx hb dX10_addTiding_35 rfl (lv_at hl 0 rfl) ?_
    have t_50 : oty S_47 o 10 := (oX.ty XS_47 t_43)
    obtain ⟨q_51, hq_51⟩ := og (cq := cq) t_50.1 (oE_10 t_50.2)
    refine va_get (D := (dC, dI)) (ci := 10) (v := .int (oI S_47 o 7)) (C := RX10) (T := TX10) (N := 16) hx hb hts in_wsX10_addTiding_X10 hown hK hP q_51 hq_51 rfl 7 (by decide) (hts (.fieldLink RX10 139 "ShipOffice" "happeningCount" "I") iw_X10_addTiding_8) (fun _ h9 => h9) rfl dX10_addTiding_36 ?_
    refine lv_topi (fun x_52 ex_52 => ?_)
    clear ex_52
    exact W.iret (v := x_52) hx hb hr (fun t ht hW => ⟨⟨x_52, S_47, rfl, ⟨hIS_47, X_48⟩, ⟨by rw [ht]; exact hP, va_K.moved hW.alike hK, hD⟩⟩, hS.F ht⟩) hS.2.2 dX10_addTiding_39
set_option maxHeartbeats 4000000 in
set_option maxRecDepth 100000 in
theorem c_X10_died (l : Launch) (dC : Nat → ClassId) (dI : Nat → Nat → Nat) (sz : Nat) (cq : Nat → ClassId) (Z : oS) (gI : oInv Z) (o : Nat) (to : oty Z o 10) (x1 : Int32) (x2 : Int32) : Met l yX10_died wsX10_died ({ frames := 3, cells := 1, slots := 6, locals := 65 }) (va_Pc [.ref o, .int x1, .int x2] (pcW (dC, dI) (oT cq) (oW cq Z) sz)) (va_Qi (fun (r : Int32) (u : oS) => oInv u ∧ oX [107, 108, 1007, 2107] Z u) (fun u t => va_P (dC, dI) vwCl (oW cq u) t.heap ∧ va_K (dC, dI) vwCl (oT cq) t ∧ va_D (va_A (oW cq Z) sz) (oW cq u)) (va_A (oW cq Z) sz)) 1 6 (va_A (oW cq Z) sz) := by
  refine Met.ofW (cc := cX10_died) (maxL := 5) (ret := (some .int)) (by decide) rfl ?_
  intro p e s m args below meth c s₁ B hml hv
  obtain ⟨rfl, hsz, hP, hK, hD0⟩ := hv
  have hx := B.exec
  have hb := B.bytes
  have hr := B.returns
  have hts := atoms_spec (ws := wsX10_died) B.pre
  have hown : s.vm.findClass RX10 = some m.cls := findClass_of_methodNamed B.named
  have hlocks := B.notSynchronized
  subst hsz
  have hD := hD0.self (sz := s.heap.size)
  generalize hAe : va_A (oW cq Z) s.heap.size = A at hD ⊢
  have hA : ∀ q : Nat, s.heap.size ≤ q → A q := fun q h => by rw [← hAe]; exact Or.inr h
  have hS : va_S A s.heap s.heap [] := va_S.rf
  have hP : va_P (dC, dI) vwCl (oW cq Z) s.heap := hP
  have hl := lv_entry ([.ref o, .int x1, .int x2]) (n := 5) (Nat.le_of_ble_eq_true rfl)
  rw [lg_entry_eq]
  generalize (lg_sl ([.ref o, .int x1, .int x2]) ++ List.replicate (5 - (lg_sl ([.ref o, .int x1, .int x2])).length) Slot.unset).toArray = ls at hl ⊢
  have hl : lv_has ls 5 [(0, .ref o), (1, .int x1), (2, .int x2)] := hl
  refine lv_aload_n hx hb dX10_died_0 rfl (lv_at hl 0 rfl) ?_
  refine lv_iload_n hx hb dX10_died_1 rfl (lv_at hl 1 rfl) ?_
  have hFc : ∀ q, va_A [] s.heap.size q → A q := pu_free hS hA
  obtain ⟨q_1, hq_1⟩ := og (cq := cq) to.1 (oE_10 to.2)
  refine va_callq (va_runV (As := [.int x1]) (rest := []) ⟨hx, hb, hml, hown, hts⟩ (c_X10_agreementAt l dC dI s.heap.size cq Z gI o to x1) (cwV 1 hts gX10_died_X10_agreementAt rfl rfl rfl (by decide +kernel) ⟨(Nat.le_of_ble_eq_true rfl), (Nat.le_of_ble_eq_true rfl)⟩) (pr_V (r := (RX10, TX10, 16)) hP hK hD q_1 10 rfl hq_1) rfl rfl hl.1 rfl (lv_room (Nat.le_of_ble_eq_true rfl)) dX10_died_2 ⟨(Nat.le_of_ble_eq_true rfl), (Nat.le_of_ble_eq_true rfl)⟩) hS (fun q _ h => hFc q h) hFc (fun r_3 u t H locs ht hvm w_2 hB hz1 hk1 hS => ?_)
  have hP := pu_keep hP hk1
  clear hk1 hz1 hvm hB ht hFc
  have hk_4 := w_2
  rcases r_3 with _ | b_5
  · refine W.eq (g2 := F0 m 5 ls [.null]) rfl ?_
    refine lv_astore_nN (lv' := [(3, .null), (0, .ref o), (1, .int x1), (2, .int x2)]) hx hb dX10_died_5 rfl hl (by decide) rfl (fun ls hl => ?_)
    refine lv_aload_nN hx hb dX10_died_6 rfl (lv_at hl 0 rfl) ?_
    refine lv_ifnonnullN hx hb dX10_died_7 ?_
    refine lv_aload_n hx hb dX10_died_10 rfl (lv_at hl 1 rfl) ?_
    refine lv_iconst (v := (-1)) hx hb dX10_died_11 (by decide) ?_
    have hFc := o_free hD hS hA
    refine va_calli (va_runV (As := [.int (-1)]) (rest := []) ⟨hx, hb, hml, hown, hts⟩ (c_X10_refuse l dC dI H.size cq Z gI o to (-1) (by decide)) (cwV 1 hts gX10_died_X10_refuse rfl rfl rfl (by decide +kernel) ⟨(Nat.le_of_ble_eq_true rfl), (Nat.le_of_ble_eq_true rfl)⟩) (pr_V (r := (RX10, TX10, 16)) hP hK hD q_1 10 rfl hq_1) rfl rfl hl.1 rfl (lv_room (Nat.le_of_ble_eq_true rfl)) dX10_died_12 ⟨(Nat.le_of_ble_eq_true rfl), (Nat.le_of_ble_eq_true rfl)⟩) hS (fun q _ h => hFc q h) hFc (fun r_7 u t H locs ht hvm w_6 hB hz1 hk1 hS => ?_)
    obtain ⟨S_8, rfl⟩ : ∃ z, z = u := ⟨_, rfl⟩
    obtain ⟨hP1, hK1, hD1⟩ := hB
    rw [ht] at hP1
    have hP : va_P (dC, dI) vwCl (oW cq S_8) H := hP1
    have hD : va_D A (oW cq S_8) := hD1.weaken (fun _ _ _ h => hFc _ h)
    clear hP1 hK1 hD1 hk1 hz1 hvm ht hFc
    obtain ⟨hIS_8, XS_8, hb_9, hx_10⟩ := w_6
    have X_11 : oX [107, 108, 1007, 2107] Z S_8 := oX.st oX.rf XS_8 (by decide)
    have rf_12 : r_7.toInt = -1 := by rw [hx_10]; decide
    refine W.widen (k := 1) (n := 6) (Nat.le_of_ble_eq_true rfl) (Nat.le_of_ble_eq_true rfl) ?_
    exact W.iret (v := r_7) hx hb hr (fun t ht hW => ⟨⟨r_7, S_8, rfl, ⟨hIS_8, X_11⟩, ⟨by rw [ht]; exact hP, va_K.moved hW.alike hK, hD⟩⟩, hS.F ht⟩) hS.2.2 dX10_died_15
  · refine W.eq (g2 := F0 m 5 ls [.ref b_5]) rfl ?_
    have tb_5 : oty Z b_5 1 := hk_4 b_5 rfl
    refine lv_astore_n (lv' := [(3, .ref b_5), (0, .ref o), (1, .int x1), (2, .int x2)]) hx hb dX10_died_5 rfl hl (by decide) rfl (fun ls hl => ?_)
    refine lv_aload_n hx hb dX10_died_6 rfl (lv_at hl 0 rfl) ?_
    refine lv_ifnonnull (tgt := 16) hx hb dX10_died_7 (by decide) ?_
    refine lv_aload_n hx hb dX10_died_16 rfl (lv_at hl 1 rfl) ?_
    refine lv_aload_n hx hb dX10_died_17 rfl (lv_at hl 0 rfl) ?_
    refine lv_iload_n hx hb dX10_died_18 rfl (lv_at hl 3 rfl) ?_
    have hFc : ∀ q, va_A [] H.size q → A q := pu_free hS hA
    refine va_calli (va_runV (As := [.ref b_5, .int x2]) (rest := []) ⟨hx, hb, hml, hown, hts⟩ (c_X10_tidingRefusal l dC dI H.size cq Z gI o to b_5 tb_5 x2) (cwV 2 hts gX10_died_X10_tidingRefusal rfl rfl rfl (by decide +kernel) ⟨(Nat.le_of_ble_eq_true rfl), (Nat.le_of_ble_eq_true rfl)⟩) (pr_V (r := (RX10, TX10, 16)) hP hK hD q_1 10 rfl hq_1) rfl rfl hl.1 rfl (lv_room (Nat.le_of_ble_eq_true rfl)) dX10_died_19 ⟨(Nat.le_of_ble_eq_true rfl), (Nat.le_of_ble_eq_true rfl)⟩) hS (fun q _ h => hFc q h) hFc (fun r_14 u t H locs ht hvm w_13 hB hz1 hk1 hS => ?_)
    have hP := pu_keep hP hk1
    clear hk1 hz1 hvm hB ht hFc
    have hb_15 := w_13
    refine lv_istore (lv' := [(4, .int r_14), (3, .ref b_5), (0, .ref o), (1, .int x1), (2, .int x2)]) hx hb dX10_died_22 hl (by decide) rfl (fun ls hl => ?_)
    refine lv_iload hx hb dX10_died_24 (lv_at hl 0 rfl) ?_
    refine lv_if_eq (tgt := 36) hx hb dX10_died_26 (by decide) (fun c_16 => ?_) (fun c_16 => ?_)
    · have dc_16 := c_eq (a := r_14.toInt) (b := 0) rfl (by decide) c_16
      refine lv_aload_n hx hb dX10_died_36 rfl (lv_at hl 1 rfl) ?_
      refine lv_iconst (v := 1) hx hb dX10_died_37 (by decide) ?_
      obtain ⟨q_17, hq_17⟩ := og (cq := cq) tb_5.1 (oE_1 tb_5.2)
      refine va_put (D := (dC, dI)) (ci := 1) (v := .int 1) (ty := .boolean) (C := RX1) (T := TX1) (N := 18) hx hb hts in_wsX10_died_X1 tyX1 tyX1_ok nmX1 hown hK hP hD hS q_17 hq_17 rfl 7 (by decide) (hts (.fieldLink RX10 166 "ShipOffice$Agreement" "isDead" "Z") iw_X10_died_1) (fun _ h9 => h9) rfl (by decide +kernel) rfl rfl (Nat.le_of_ble_eq_true rfl) dX10_died_38 (fun H locs hP1 hD1 hS => ?_)
      obtain ⟨S_18, eS_18⟩ : ∃ zq, zq = setI Z b_5 7 1 := ⟨_, rfl⟩
      have hP : va_P (dC, dI) vwCl (oW cq S_18) H := by rw [eS_18]; exact cP (oset tb_5.1 hq_17 hD rfl (he_1_7 tb_5.2) neI) hP1
      have hD : va_D A (oW cq S_18) := by rw [eS_18]; exact cD (oset tb_5.1 hq_17 hD rfl (he_1_7 tb_5.2) neI) hD1
      clear hP1 hD1
      have hIS_18 : oInv S_18 := by rw [eS_18]; exact oInv.I0 (k := 1) (lo := -2147483648) (hi := 2147483647) gI tb_5.2 (by decide) rfl rfl rfl (iv_all _)
      have XS_18 : oX [107] Z S_18 := by rw [eS_18]; exact oX.I (k := 1) (key := 107) tb_5.2 rfl (List.mem_singleton.mpr rfl)
      have X_19 : oX [107, 108, 1007, 2107] Z S_18 := oX.st oX.rf XS_18 (by decide)
      refine lv_aload_n hx hb dX10_died_41 rfl (lv_at hl 2 rfl) ?_
      refine lv_aload_n hx hb dX10_died_42 rfl (lv_at hl 1 rfl) ?_
      refine lv_iconst (v := 2) hx hb dX10_died_43 (by decide) ?_
      refine lv_iload_n hx hb dX10_died_44 rfl (lv_at hl 4 rfl) ?_
      refine lv_bipush (v := (-9)) hx hb dX10_died_45 (by decide) ?_
      refine lv_bipush (v := (-9)) hx hb dX10_died_47 (by decide) ?_
      have t_20 : oty S_18 o 10 := (oX.ty XS_18 to)
      have t_21 : oty S_18 b_5 1 := (oX.ty XS_18 tb_5)
      have hFc := o_free hD hS hA
      obtain ⟨q_22, hq_22⟩ := og (cq := cq) t_20.1 (oE_10 t_20.2)
      refine va_calli (va_runV (As := [.ref b_5, .int 2, .int x2, .int (-9), .int (-9)]) (rest := []) ⟨hx, hb, hml, hown, hts⟩ (c_X10_addTiding l dC dI H.size cq S_18 hIS_18 o t_20 b_5 t_21 2 x2 (-9) (-9) (Or.inl (by decide))) (cwV 5 hts gX10_died_X10_addTiding rfl rfl rfl (by decide +kernel) ⟨(Nat.le_of_ble_eq_true rfl), (Nat.le_of_ble_eq_true rfl)⟩) (pr_V (r := (RX10, TX10, 16)) hP hK hD q_22 10 rfl hq_22) rfl rfl hl.1 rfl (lv_room (Nat.le_of_ble_eq_true rfl)) dX10_died_49 ⟨(Nat.le_of_ble_eq_true rfl), (Nat.le_of_ble_eq_true rfl)⟩) hS (fun q _ h => hFc q h) hFc (fun r_24 u t H locs ht hvm w_23 hB hz1 hk1 hS => ?_)
      obtain ⟨S_25, rfl⟩ : ∃ z, z = u := ⟨_, rfl⟩
      obtain ⟨hP1, hK1, hD1⟩ := hB
      rw [ht] at hP1
      have hP : va_P (dC, dI) vwCl (oW cq S_25) H := hP1
      have hD : va_D A (oW cq S_25) := hD1.weaken (fun _ _ _ h => hFc _ h)
      clear hP1 hK1 hD1 hk1 hz1 hvm ht hFc
      refine W.widen (k := 1) (n := 6) (Nat.le_of_ble_eq_true rfl) (Nat.le_of_ble_eq_true rfl) ?_
      obtain ⟨hIS_25, XS_25⟩ := w_23
      have X_26 : oX [107, 108, 1007, 2107] Z S_25 := oX.st X_19 XS_25 (by decide)
      exact W.iret (v := r_24) hx hb hr (fun t ht hW => ⟨⟨r_24, S_25, rfl, ⟨hIS_25, X_26⟩, ⟨by rw [ht]; exact hP, va_K.moved hW.alike hK, hD⟩⟩, hS.F ht⟩) hS.2.2 dX10_died_52
    · have dc_16 := c_ne (a := r_14.toInt) (b := 0) rfl (by decide) c_16
      refine lv_aload_n hx hb dX10_died_29 rfl (lv_at hl 2 rfl) ?_
      refine lv_iload hx hb dX10_died_30 (lv_at hl 0 rfl) ?_
      have hFc := o_free hD hS hA
      refine va_calli (va_runV (As := [.int r_14]) (rest := []) ⟨hx, hb, hml, hown, hts⟩ (c_X10_refuse l dC dI H.size cq Z gI o to r_14 (by omega)) (cwV 1 hts gX10_died_X10_refuse rfl rfl rfl (by decide +kernel) ⟨(Nat.le_of_ble_eq_true rfl), (Nat.le_of_ble_eq_true rfl)⟩) (pr_V (r := (RX10, TX10, 16)) hP hK hD q_1 10 rfl hq_1) rfl rfl hl.1 rfl (lv_room (Nat.le_of_ble_eq_true rfl)) dX10_died_32 ⟨(Nat.le_of_ble_eq_true rfl), (Nat.le_of_ble_eq_true rfl)⟩) hS (fun q _ h => hFc q h) hFc (fun r_28 u t H locs ht hvm w_27 hB hz1 hk1 hS => ?_)
      obtain ⟨S_29, rfl⟩ : ∃ z, z = u := ⟨_, rfl⟩
      obtain ⟨hP1, hK1, hD1⟩ := hB
      rw [ht] at hP1
      have hP : va_P (dC, dI) vwCl (oW cq S_29) H := hP1
      have hD : va_D A (oW cq S_29) := hD1.weaken (fun _ _ _ h => hFc _ h)
      clear hP1 hK1 hD1 hk1 hz1 hvm ht hFc
      obtain ⟨hIS_29, XS_29, hb_30, hx_31⟩ := w_27
      have X_32 : oX [107, 108, 1007, 2107] Z S_29 := oX.st oX.rf XS_29 (by decide)
      refine W.widen (k := 1) (n := 6) (Nat.le_of_ble_eq_true rfl) (Nat.le_of_ble_eq_true rfl) ?_
      exact W.iret (v := r_28) hx hb hr (fun t ht hW => ⟨⟨r_28, S_29, rfl, ⟨hIS_29, X_32⟩, ⟨by rw [ht]; exact hP, va_K.moved hW.alike hK, hD⟩⟩, hS.F ht⟩) hS.2.2 dX10_died_35
set_option maxHeartbeats 4000000 in
set_option maxRecDepth 100000 in
theorem c_X10_back (l : Launch) (dC : Nat → ClassId) (dI : Nat → Nat → Nat) (sz : Nat) (cq : Nat → ClassId) (Z : oS) (gI : oInv Z) (o : Nat) (to : oty Z o 10) (x1 : Int32) (x2 : Int32) : Met l yX10_back wsX10_back ({ frames := 3, cells := 1, slots := 6, locals := 65 }) (va_Pc [.ref o, .int x1, .int x2] (pcW (dC, dI) (oT cq) (oW cq Z) sz)) (va_Qi (fun (r : Int32) (u : oS) => oInv u ∧ oX [108, 1007, 2107] Z u) (fun u t => va_P (dC, dI) vwCl (oW cq u) t.heap ∧ va_K (dC, dI) vwCl (oT cq) t ∧ va_D (va_A (oW cq Z) sz) (oW cq u)) (va_A (oW cq Z) sz)) 1 6 (va_A (oW cq Z) sz) := by
  refine Met.ofW (cc := cX10_back) (maxL := 5) (ret := (some .int)) (by decide) rfl ?_
  intro p e s m args below meth c s₁ B hml hv
  obtain ⟨rfl, hsz, hP, hK, hD0⟩ := hv
  have hx := B.exec
  have hb := B.bytes
  have hr := B.returns
  have hts := atoms_spec (ws := wsX10_back) B.pre
  have hown : s.vm.findClass RX10 = some m.cls := findClass_of_methodNamed B.named
  have hlocks := B.notSynchronized
  subst hsz
  have hD := hD0.self (sz := s.heap.size)
  generalize hAe : va_A (oW cq Z) s.heap.size = A at hD ⊢
  have hA : ∀ q : Nat, s.heap.size ≤ q → A q := fun q h => by rw [← hAe]; exact Or.inr h
  have hS : va_S A s.heap s.heap [] := va_S.rf
  have hP : va_P (dC, dI) vwCl (oW cq Z) s.heap := hP
  have hl := lv_entry ([.ref o, .int x1, .int x2]) (n := 5) (Nat.le_of_ble_eq_true rfl)
  rw [lg_entry_eq]
  generalize (lg_sl ([.ref o, .int x1, .int x2]) ++ List.replicate (5 - (lg_sl ([.ref o, .int x1, .int x2])).length) Slot.unset).toArray = ls at hl ⊢
  have hl : lv_has ls 5 [(0, .ref o), (1, .int x1), (2, .int x2)] := hl
  refine lv_aload_n hx hb dX10_back_0 rfl (lv_at hl 0 rfl) ?_
  refine lv_iload_n hx hb dX10_back_1 rfl (lv_at hl 1 rfl) ?_
  have hFc : ∀ q, va_A [] s.heap.size q → A q := pu_free hS hA
  obtain ⟨q_1, hq_1⟩ := og (cq := cq) to.1 (oE_10 to.2)
  refine va_callq (va_runV (As := [.int x1]) (rest := []) ⟨hx, hb, hml, hown, hts⟩ (c_X10_agreementAt l dC dI s.heap.size cq Z gI o to x1) (cwV 1 hts gX10_back_X10_agreementAt rfl rfl rfl (by decide +kernel) ⟨(Nat.le_of_ble_eq_true rfl), (Nat.le_of_ble_eq_true rfl)⟩) (pr_V (r := (RX10, TX10, 16)) hP hK hD q_1 10 rfl hq_1) rfl rfl hl.1 rfl (lv_room (Nat.le_of_ble_eq_true rfl)) dX10_back_2 ⟨(Nat.le_of_ble_eq_true rfl), (Nat.le_of_ble_eq_true rfl)⟩) hS (fun q _ h => hFc q h) hFc (fun r_3 u t H locs ht hvm w_2 hB hz1 hk1 hS => ?_)
  have hP := pu_keep hP hk1
  clear hk1 hz1 hvm hB ht hFc
  have hk_4 := w_2
  rcases r_3 with _ | b_5
  · refine W.eq (g2 := F0 m 5 ls [.null]) rfl ?_
    refine lv_astore_nN (lv' := [(3, .null), (0, .ref o), (1, .int x1), (2, .int x2)]) hx hb dX10_back_5 rfl hl (by decide) rfl (fun ls hl => ?_)
    refine lv_aload_nN hx hb dX10_back_6 rfl (lv_at hl 0 rfl) ?_
    refine lv_ifnonnullN hx hb dX10_back_7 ?_
    refine lv_aload_n hx hb dX10_back_10 rfl (lv_at hl 1 rfl) ?_
    refine lv_iconst (v := (-1)) hx hb dX10_back_11 (by decide) ?_
    have hFc := o_free hD hS hA
    refine va_calli (va_runV (As := [.int (-1)]) (rest := []) ⟨hx, hb, hml, hown, hts⟩ (c_X10_refuse l dC dI H.size cq Z gI o to (-1) (by decide)) (cwV 1 hts gX10_back_X10_refuse rfl rfl rfl (by decide +kernel) ⟨(Nat.le_of_ble_eq_true rfl), (Nat.le_of_ble_eq_true rfl)⟩) (pr_V (r := (RX10, TX10, 16)) hP hK hD q_1 10 rfl hq_1) rfl rfl hl.1 rfl (lv_room (Nat.le_of_ble_eq_true rfl)) dX10_back_12 ⟨(Nat.le_of_ble_eq_true rfl), (Nat.le_of_ble_eq_true rfl)⟩) hS (fun q _ h => hFc q h) hFc (fun r_7 u t H locs ht hvm w_6 hB hz1 hk1 hS => ?_)
    obtain ⟨S_8, rfl⟩ : ∃ z, z = u := ⟨_, rfl⟩
    obtain ⟨hP1, hK1, hD1⟩ := hB
    rw [ht] at hP1
    have hP : va_P (dC, dI) vwCl (oW cq S_8) H := hP1
    have hD : va_D A (oW cq S_8) := hD1.weaken (fun _ _ _ h => hFc _ h)
    clear hP1 hK1 hD1 hk1 hz1 hvm ht hFc
    obtain ⟨hIS_8, XS_8, hb_9, hx_10⟩ := w_6
    have X_11 : oX [108, 1007, 2107] Z S_8 := oX.st oX.rf XS_8 (by decide)
    have rf_12 : r_7.toInt = -1 := by rw [hx_10]; decide
    refine W.widen (k := 1) (n := 6) (Nat.le_of_ble_eq_true rfl) (Nat.le_of_ble_eq_true rfl) ?_
    exact W.iret (v := r_7) hx hb hr (fun t ht hW => ⟨⟨r_7, S_8, rfl, ⟨hIS_8, X_11⟩, ⟨by rw [ht]; exact hP, va_K.moved hW.alike hK, hD⟩⟩, hS.F ht⟩) hS.2.2 dX10_back_15
  · refine W.eq (g2 := F0 m 5 ls [.ref b_5]) rfl ?_
    have tb_5 : oty Z b_5 1 := hk_4 b_5 rfl
    refine lv_astore_n (lv' := [(3, .ref b_5), (0, .ref o), (1, .int x1), (2, .int x2)]) hx hb dX10_back_5 rfl hl (by decide) rfl (fun ls hl => ?_)
    refine lv_aload_n hx hb dX10_back_6 rfl (lv_at hl 0 rfl) ?_
    refine lv_ifnonnull (tgt := 16) hx hb dX10_back_7 (by decide) ?_
    refine lv_aload_n hx hb dX10_back_16 rfl (lv_at hl 1 rfl) ?_
    refine lv_aload_n hx hb dX10_back_17 rfl (lv_at hl 0 rfl) ?_
    refine lv_iload_n hx hb dX10_back_18 rfl (lv_at hl 3 rfl) ?_
    have hFc : ∀ q, va_A [] H.size q → A q := pu_free hS hA
    refine va_calli (va_runV (As := [.ref b_5, .int x2]) (rest := []) ⟨hx, hb, hml, hown, hts⟩ (c_X10_tidingRefusal l dC dI H.size cq Z gI o to b_5 tb_5 x2) (cwV 2 hts gX10_back_X10_tidingRefusal rfl rfl rfl (by decide +kernel) ⟨(Nat.le_of_ble_eq_true rfl), (Nat.le_of_ble_eq_true rfl)⟩) (pr_V (r := (RX10, TX10, 16)) hP hK hD q_1 10 rfl hq_1) rfl rfl hl.1 rfl (lv_room (Nat.le_of_ble_eq_true rfl)) dX10_back_19 ⟨(Nat.le_of_ble_eq_true rfl), (Nat.le_of_ble_eq_true rfl)⟩) hS (fun q _ h => hFc q h) hFc (fun r_14 u t H locs ht hvm w_13 hB hz1 hk1 hS => ?_)
    have hP := pu_keep hP hk1
    clear hk1 hz1 hvm hB ht hFc
    have hb_15 := w_13
    refine lv_istore (lv' := [(4, .int r_14), (3, .ref b_5), (0, .ref o), (1, .int x1), (2, .int x2)]) hx hb dX10_back_22 hl (by decide) rfl (fun ls hl => ?_)
    refine lv_iload hx hb dX10_back_24 (lv_at hl 0 rfl) ?_
    refine lv_if_eq (tgt := 36) hx hb dX10_back_26 (by decide) (fun c_16 => ?_) (fun c_16 => ?_)
    · have dc_16 := c_eq (a := r_14.toInt) (b := 0) rfl (by decide) c_16
      refine lv_aload_n hx hb dX10_back_36 rfl (lv_at hl 2 rfl) ?_
      refine lv_aload_n hx hb dX10_back_37 rfl (lv_at hl 1 rfl) ?_
      refine lv_iconst (v := 1) hx hb dX10_back_38 (by decide) ?_
      refine lv_iload_n hx hb dX10_back_39 rfl (lv_at hl 4 rfl) ?_
      refine lv_bipush (v := (-9)) hx hb dX10_back_40 (by decide) ?_
      refine lv_bipush (v := (-9)) hx hb dX10_back_42 (by decide) ?_
      have hFc := o_free hD hS hA
      refine va_calli (va_runV (As := [.ref b_5, .int 1, .int x2, .int (-9), .int (-9)]) (rest := []) ⟨hx, hb, hml, hown, hts⟩ (c_X10_addTiding l dC dI H.size cq Z gI o to b_5 tb_5 1 x2 (-9) (-9) (Or.inl (by decide))) (cwV 5 hts gX10_back_X10_addTiding rfl rfl rfl (by decide +kernel) ⟨(Nat.le_of_ble_eq_true rfl), (Nat.le_of_ble_eq_true rfl)⟩) (pr_V (r := (RX10, TX10, 16)) hP hK hD q_1 10 rfl hq_1) rfl rfl hl.1 rfl (lv_room (Nat.le_of_ble_eq_true rfl)) dX10_back_44 ⟨(Nat.le_of_ble_eq_true rfl), (Nat.le_of_ble_eq_true rfl)⟩) hS (fun q _ h => hFc q h) hFc (fun r_18 u t H locs ht hvm w_17 hB hz1 hk1 hS => ?_)
      obtain ⟨S_19, rfl⟩ : ∃ z, z = u := ⟨_, rfl⟩
      obtain ⟨hP1, hK1, hD1⟩ := hB
      rw [ht] at hP1
      have hP : va_P (dC, dI) vwCl (oW cq S_19) H := hP1
      have hD : va_D A (oW cq S_19) := hD1.weaken (fun _ _ _ h => hFc _ h)
      clear hP1 hK1 hD1 hk1 hz1 hvm ht hFc
      refine W.widen (k := 1) (n := 6) (Nat.le_of_ble_eq_true rfl) (Nat.le_of_ble_eq_true rfl) ?_
      obtain ⟨hIS_19, XS_19⟩ := w_17
      have X_20 : oX [108, 1007, 2107] Z S_19 := oX.st oX.rf XS_19 (by decide)
      exact W.iret (v := r_18) hx hb hr (fun t ht hW => ⟨⟨r_18, S_19, rfl, ⟨hIS_19, X_20⟩, ⟨by rw [ht]; exact hP, va_K.moved hW.alike hK, hD⟩⟩, hS.F ht⟩) hS.2.2 dX10_back_47
    · have dc_16 := c_ne (a := r_14.toInt) (b := 0) rfl (by decide) c_16
      refine lv_aload_n hx hb dX10_back_29 rfl (lv_at hl 2 rfl) ?_
      refine lv_iload hx hb dX10_back_30 (lv_at hl 0 rfl) ?_
      have hFc := o_free hD hS hA
      refine va_calli (va_runV (As := [.int r_14]) (rest := []) ⟨hx, hb, hml, hown, hts⟩ (c_X10_refuse l dC dI H.size cq Z gI o to r_14 (by omega)) (cwV 1 hts gX10_back_X10_refuse rfl rfl rfl (by decide +kernel) ⟨(Nat.le_of_ble_eq_true rfl), (Nat.le_of_ble_eq_true rfl)⟩) (pr_V (r := (RX10, TX10, 16)) hP hK hD q_1 10 rfl hq_1) rfl rfl hl.1 rfl (lv_room (Nat.le_of_ble_eq_true rfl)) dX10_back_32 ⟨(Nat.le_of_ble_eq_true rfl), (Nat.le_of_ble_eq_true rfl)⟩) hS (fun q _ h => hFc q h) hFc (fun r_22 u t H locs ht hvm w_21 hB hz1 hk1 hS => ?_)
      obtain ⟨S_23, rfl⟩ : ∃ z, z = u := ⟨_, rfl⟩
      obtain ⟨hP1, hK1, hD1⟩ := hB
      rw [ht] at hP1
      have hP : va_P (dC, dI) vwCl (oW cq S_23) H := hP1
      have hD : va_D A (oW cq S_23) := hD1.weaken (fun _ _ _ h => hFc _ h)
      clear hP1 hK1 hD1 hk1 hz1 hvm ht hFc
      obtain ⟨hIS_23, XS_23, hb_24, hx_25⟩ := w_21
      have X_26 : oX [108, 1007, 2107] Z S_23 := oX.st oX.rf XS_23 (by decide)
      refine W.widen (k := 1) (n := 6) (Nat.le_of_ble_eq_true rfl) (Nat.le_of_ble_eq_true rfl) ?_
      exact W.iret (v := r_22) hx hb hr (fun t ht hW => ⟨⟨r_22, S_23, rfl, ⟨hIS_23, X_26⟩, ⟨by rw [ht]; exact hP, va_K.moved hW.alike hK, hD⟩⟩, hS.F ht⟩) hS.2.2 dX10_back_35
set_option maxHeartbeats 4000000 in
set_option maxRecDepth 100000 in
theorem c_X10_left (l : Launch) (dC : Nat → ClassId) (dI : Nat → Nat → Nat) (sz : Nat) (cq : Nat → ClassId) (Z : oS) (gI : oInv Z) (o : Nat) (to : oty Z o 10) (x1 : Int32) (x2 : Int32) (x3 : Int32) (x4 : Int32) : Met l yX10_left wsX10_left ({ frames := 3, cells := 1, slots := 6, locals := 65 }) (va_Pc [.ref o, .int x1, .int x2, .int x3, .int x4] (pcW (dC, dI) (oT cq) (oW cq Z) sz)) (va_Qi (fun (r : Int32) (u : oS) => oInv u ∧ oX [108, 1007, 2107] Z u) (fun u t => va_P (dC, dI) vwCl (oW cq u) t.heap ∧ va_K (dC, dI) vwCl (oT cq) t ∧ va_D (va_A (oW cq Z) sz) (oW cq u)) (va_A (oW cq Z) sz)) 1 6 (va_A (oW cq Z) sz) := by
  refine Met.ofW (cc := cX10_left) (maxL := 7) (ret := (some .int)) (by decide) rfl ?_
  intro p e s m args below meth c s₁ B hml hv
  obtain ⟨rfl, hsz, hP, hK, hD0⟩ := hv
  have hx := B.exec
  have hb := B.bytes
  have hr := B.returns
  have hts := atoms_spec (ws := wsX10_left) B.pre
  have hown : s.vm.findClass RX10 = some m.cls := findClass_of_methodNamed B.named
  have hlocks := B.notSynchronized
  subst hsz
  have hD := hD0.self (sz := s.heap.size)
  generalize hAe : va_A (oW cq Z) s.heap.size = A at hD ⊢
  have hA : ∀ q : Nat, s.heap.size ≤ q → A q := fun q h => by rw [← hAe]; exact Or.inr h
  have hS : va_S A s.heap s.heap [] := va_S.rf
  have hP : va_P (dC, dI) vwCl (oW cq Z) s.heap := hP
  have hl := lv_entry ([.ref o, .int x1, .int x2, .int x3, .int x4]) (n := 7) (Nat.le_of_ble_eq_true rfl)
  rw [lg_entry_eq]
  generalize (lg_sl ([.ref o, .int x1, .int x2, .int x3, .int x4]) ++ List.replicate (7 - (lg_sl ([.ref o, .int x1, .int x2, .int x3, .int x4])).length) Slot.unset).toArray = ls at hl ⊢
  have hl : lv_has ls 7 [(0, .ref o), (1, .int x1), (2, .int x2), (3, .int x3), (4, .int x4)] := hl
  refine lv_aload_n hx hb dX10_left_0 rfl (lv_at hl 0 rfl) ?_
  refine lv_iload_n hx hb dX10_left_1 rfl (lv_at hl 1 rfl) ?_
  have hFc : ∀ q, va_A [] s.heap.size q → A q := pu_free hS hA
  obtain ⟨q_1, hq_1⟩ := og (cq := cq) to.1 (oE_10 to.2)
  refine va_callq (va_runV (As := [.int x1]) (rest := []) ⟨hx, hb, hml, hown, hts⟩ (c_X10_agreementAt l dC dI s.heap.size cq Z gI o to x1) (cwV 1 hts gX10_left_X10_agreementAt rfl rfl rfl (by decide +kernel) ⟨(Nat.le_of_ble_eq_true rfl), (Nat.le_of_ble_eq_true rfl)⟩) (pr_V (r := (RX10, TX10, 16)) hP hK hD q_1 10 rfl hq_1) rfl rfl hl.1 rfl (lv_room (Nat.le_of_ble_eq_true rfl)) dX10_left_2 ⟨(Nat.le_of_ble_eq_true rfl), (Nat.le_of_ble_eq_true rfl)⟩) hS (fun q _ h => hFc q h) hFc (fun r_3 u t H locs ht hvm w_2 hB hz1 hk1 hS => ?_)
  have hP := pu_keep hP hk1
  clear hk1 hz1 hvm hB ht hFc
  have hk_4 := w_2
  rcases r_3 with _ | b_5
  · refine W.eq (g2 := F0 m 5 ls [.null]) rfl ?_
    refine lv_astoreN (lv' := [(5, .null), (0, .ref o), (1, .int x1), (2, .int x2), (3, .int x3), (4, .int x4)]) hx hb dX10_left_5 hl (by decide) rfl (fun ls hl => ?_)
    refine lv_aloadN hx hb dX10_left_7 (lv_at hl 0 rfl) ?_
    refine lv_ifnullN (tgt := 20) hx hb dX10_left_9 (by decide) ?_
    refine lv_aload_n hx hb dX10_left_20 rfl (lv_at hl 1 rfl) ?_
    refine lv_iconst (v := (-1)) hx hb dX10_left_21 (by decide) ?_
    have hFc := o_free hD hS hA
    refine va_calli (va_runV (As := [.int (-1)]) (rest := []) ⟨hx, hb, hml, hown, hts⟩ (c_X10_refuse l dC dI H.size cq Z gI o to (-1) (by decide)) (cwV 1 hts gX10_left_X10_refuse rfl rfl rfl (by decide +kernel) ⟨(Nat.le_of_ble_eq_true rfl), (Nat.le_of_ble_eq_true rfl)⟩) (pr_V (r := (RX10, TX10, 16)) hP hK hD q_1 10 rfl hq_1) rfl rfl hl.1 rfl (lv_room (Nat.le_of_ble_eq_true rfl)) dX10_left_22 ⟨(Nat.le_of_ble_eq_true rfl), (Nat.le_of_ble_eq_true rfl)⟩) hS (fun q _ h => hFc q h) hFc (fun r_7 u t H locs ht hvm w_6 hB hz1 hk1 hS => ?_)
    obtain ⟨S_8, rfl⟩ : ∃ z, z = u := ⟨_, rfl⟩
    obtain ⟨hP1, hK1, hD1⟩ := hB
    rw [ht] at hP1
    have hP : va_P (dC, dI) vwCl (oW cq S_8) H := hP1
    have hD : va_D A (oW cq S_8) := hD1.weaken (fun _ _ _ h => hFc _ h)
    clear hP1 hK1 hD1 hk1 hz1 hvm ht hFc
    obtain ⟨hIS_8, XS_8, hb_9, hx_10⟩ := w_6
    have X_11 : oX [108, 1007, 2107] Z S_8 := oX.st oX.rf XS_8 (by decide)
    have rf_12 : r_7.toInt = -1 := by rw [hx_10]; decide
    refine W.widen (k := 1) (n := 6) (Nat.le_of_ble_eq_true rfl) (Nat.le_of_ble_eq_true rfl) ?_
    exact W.iret (v := r_7) hx hb hr (fun t ht hW => ⟨⟨r_7, S_8, rfl, ⟨hIS_8, X_11⟩, ⟨by rw [ht]; exact hP, va_K.moved hW.alike hK, hD⟩⟩, hS.F ht⟩) hS.2.2 dX10_left_25
  · refine W.eq (g2 := F0 m 5 ls [.ref b_5]) rfl ?_
    have tb_5 : oty Z b_5 1 := hk_4 b_5 rfl
    refine lv_astore (lv' := [(5, .ref b_5), (0, .ref o), (1, .int x1), (2, .int x2), (3, .int x3), (4, .int x4)]) hx hb dX10_left_5 hl (by decide) rfl (fun ls hl => ?_)
    refine lv_aload hx hb dX10_left_7 (lv_at hl 0 rfl) ?_
    refine lv_ifnull hx hb dX10_left_9 ?_
    refine lv_iload hx hb dX10_left_12 (lv_at hl 5 rfl) ?_
    have hFc : ∀ q, va_A [] H.size q → A q := pu_free hS hA
    have hPc := hP.sub (ws' := []) [] rfl
    have hDc := hD.sub (ws' := []) [] (by decide) rfl
    have hKc := hK.sub (tys' := []) [] rfl
    refine va_calli (va_runS (As := [.int x4]) (rest := []) ⟨hx, hb, hml, hown, hts⟩ (c_X10_isPort l dC dI H.size  x4) (va_cwS 1 hts gX10_left_X10_isPort rfl rfl rfl (by decide +kernel) ⟨(Nat.le_of_ble_eq_true rfl), (Nat.le_of_ble_eq_true rfl)⟩) (pr_S hPc hKc hDc) rfl rfl hl.1 rfl (lv_room (Nat.le_of_ble_eq_true rfl)) dX10_left_14 ⟨(Nat.le_of_ble_eq_true rfl), (Nat.le_of_ble_eq_true rfl)⟩) hS (fun q _ h => hFc q h) hFc (fun r_14 u t H locs ht hvm w_13 hB hz1 hk1 hS => ?_)
    have hP := pu_keep hP hk1
    clear hk1 hz1 hvm hB ht hFc hPc hDc hKc
    obtain ⟨hb_15, hx_16⟩ := w_13
    refine lv_if_ne (tgt := 26) hx hb dX10_left_17 (by decide) (fun c_17 => ?_) (fun c_17 => ?_)
    · have dc_17 := c_ne (a := r_14.toInt) (b := 0) rfl (by decide) c_17
      have hi_18 := Or.resolve_left hx_16 c_17
      refine lv_iload_n hx hb dX10_left_26 rfl (lv_at hl 4 rfl) ?_
      refine lv_if_lt (tgt := 35) hx hb dX10_left_27 (by decide) (fun c_19 => ?_) (fun c_19 => ?_)
      · have dc_19 := c_lt (a := x3.toInt) (b := 0) rfl (by decide) c_19
        refine lv_aload_n hx hb dX10_left_35 rfl (lv_at hl 1 rfl) ?_
        refine lv_bipush (v := (-2)) hx hb dX10_left_36 (by decide) ?_
        have hFc := o_free hD hS hA
        refine va_calli (va_runV (As := [.int (-2)]) (rest := []) ⟨hx, hb, hml, hown, hts⟩ (c_X10_refuse l dC dI H.size cq Z gI o to (-2) (by decide)) (cwV 1 hts gX10_left_X10_refuse rfl rfl rfl (by decide +kernel) ⟨(Nat.le_of_ble_eq_true rfl), (Nat.le_of_ble_eq_true rfl)⟩) (pr_V (r := (RX10, TX10, 16)) hP hK hD q_1 10 rfl hq_1) rfl rfl hl.1 rfl (lv_room (Nat.le_of_ble_eq_true rfl)) dX10_left_38 ⟨(Nat.le_of_ble_eq_true rfl), (Nat.le_of_ble_eq_true rfl)⟩) hS (fun q _ h => hFc q h) hFc (fun r_21 u t H locs ht hvm w_20 hB hz1 hk1 hS => ?_)
        obtain ⟨S_22, rfl⟩ : ∃ z, z = u := ⟨_, rfl⟩
        obtain ⟨hP1, hK1, hD1⟩ := hB
        rw [ht] at hP1
        have hP : va_P (dC, dI) vwCl (oW cq S_22) H := hP1
        have hD : va_D A (oW cq S_22) := hD1.weaken (fun _ _ _ h => hFc _ h)
        clear hP1 hK1 hD1 hk1 hz1 hvm ht hFc
        obtain ⟨hIS_22, XS_22, hb_23, hx_24⟩ := w_20
        have X_25 : oX [108, 1007, 2107] Z S_22 := oX.st oX.rf XS_22 (by decide)
        have rf_26 : r_21.toInt = -2 := by rw [hx_24]; decide
        refine W.widen (k := 1) (n := 6) (Nat.le_of_ble_eq_true rfl) (Nat.le_of_ble_eq_true rfl) ?_
        exact W.iret (v := r_21) hx hb hr (fun t ht hW => ⟨⟨r_21, S_22, rfl, ⟨hIS_22, X_25⟩, ⟨by rw [ht]; exact hP, va_K.moved hW.alike hK, hD⟩⟩, hS.F ht⟩) hS.2.2 dX10_left_41
      · have dc_19 := c_nlt (a := x3.toInt) (b := 0) rfl (by decide) c_19
        refine lv_iload_n hx hb dX10_left_30 rfl (lv_at hl 4 rfl) ?_
        refine lv_iconst (v := 2) hx hb dX10_left_31 (by decide) ?_
        refine lv_icmp_le (tgt := 42) hx hb dX10_left_32 (by decide) (fun c_27 => ?_) (fun c_27 => ?_)
        · have dc_27 := c_le (a := x3.toInt) (b := 2) rfl (by decide) c_27
          refine lv_aload_n hx hb dX10_left_42 rfl (lv_at hl 1 rfl) ?_
          refine lv_aload hx hb dX10_left_43 (lv_at hl 0 rfl) ?_
          refine lv_iload_n hx hb dX10_left_45 rfl (lv_at hl 3 rfl) ?_
          have hFc : ∀ q, va_A [] H.size q → A q := pu_free hS hA
          refine va_calli (va_runV (As := [.ref b_5, .int x2]) (rest := []) ⟨hx, hb, hml, hown, hts⟩ (c_X10_tidingRefusal l dC dI H.size cq Z gI o to b_5 tb_5 x2) (cwV 2 hts gX10_left_X10_tidingRefusal rfl rfl rfl (by decide +kernel) ⟨(Nat.le_of_ble_eq_true rfl), (Nat.le_of_ble_eq_true rfl)⟩) (pr_V (r := (RX10, TX10, 16)) hP hK hD q_1 10 rfl hq_1) rfl rfl hl.1 rfl (lv_room (Nat.le_of_ble_eq_true rfl)) dX10_left_46 ⟨(Nat.le_of_ble_eq_true rfl), (Nat.le_of_ble_eq_true rfl)⟩) hS (fun q _ h => hFc q h) hFc (fun r_29 u t H locs ht hvm w_28 hB hz1 hk1 hS => ?_)
          have hP := pu_keep hP hk1
          clear hk1 hz1 hvm hB ht hFc
          have hb_30 := w_28
          refine lv_istore (lv' := [(6, .int r_29), (5, .ref b_5), (0, .ref o), (1, .int x1), (2, .int x2), (3, .int x3), (4, .int x4)]) hx hb dX10_left_49 hl (by decide) rfl (fun ls hl => ?_)
          refine lv_iload hx hb dX10_left_51 (lv_at hl 0 rfl) ?_
          refine lv_if_eq (tgt := 63) hx hb dX10_left_53 (by decide) (fun c_31 => ?_) (fun c_31 => ?_)
          · have dc_31 := c_eq (a := r_29.toInt) (b := 0) rfl (by decide) c_31
            refine lv_aload_n hx hb dX10_left_63 rfl (lv_at hl 2 rfl) ?_
            refine lv_aload hx hb dX10_left_64 (lv_at hl 1 rfl) ?_
            refine lv_iconst (v := 0) hx hb dX10_left_66 (by decide) ?_
            refine lv_iload_n hx hb dX10_left_67 rfl (lv_at hl 4 rfl) ?_
            refine lv_iload_n hx hb dX10_left_68 rfl (lv_at hl 5 rfl) ?_
            refine lv_iload hx hb dX10_left_69 (lv_at hl 6 rfl) ?_
            have hFc := o_free hD hS hA
            refine va_calli (va_runV (As := [.ref b_5, .int 0, .int x2, .int x3, .int x4]) (rest := []) ⟨hx, hb, hml, hown, hts⟩ (c_X10_addTiding l dC dI H.size cq Z gI o to b_5 tb_5 0 x2 x3 x4 (Or.inr (by omega))) (cwV 5 hts gX10_left_X10_addTiding rfl rfl rfl (by decide +kernel) ⟨(Nat.le_of_ble_eq_true rfl), (Nat.le_of_ble_eq_true rfl)⟩) (pr_V (r := (RX10, TX10, 16)) hP hK hD q_1 10 rfl hq_1) rfl rfl hl.1 rfl (lv_room (Nat.le_of_ble_eq_true rfl)) dX10_left_71 ⟨(Nat.le_of_ble_eq_true rfl), (Nat.le_of_ble_eq_true rfl)⟩) hS (fun q _ h => hFc q h) hFc (fun r_33 u t H locs ht hvm w_32 hB hz1 hk1 hS => ?_)
            obtain ⟨S_34, rfl⟩ : ∃ z, z = u := ⟨_, rfl⟩
            obtain ⟨hP1, hK1, hD1⟩ := hB
            rw [ht] at hP1
            have hP : va_P (dC, dI) vwCl (oW cq S_34) H := hP1
            have hD : va_D A (oW cq S_34) := hD1.weaken (fun _ _ _ h => hFc _ h)
            clear hP1 hK1 hD1 hk1 hz1 hvm ht hFc
            refine W.widen (k := 1) (n := 6) (Nat.le_of_ble_eq_true rfl) (Nat.le_of_ble_eq_true rfl) ?_
            obtain ⟨hIS_34, XS_34⟩ := w_32
            have X_35 : oX [108, 1007, 2107] Z S_34 := oX.st oX.rf XS_34 (by decide)
            exact W.iret (v := r_33) hx hb hr (fun t ht hW => ⟨⟨r_33, S_34, rfl, ⟨hIS_34, X_35⟩, ⟨by rw [ht]; exact hP, va_K.moved hW.alike hK, hD⟩⟩, hS.F ht⟩) hS.2.2 dX10_left_74
          · have dc_31 := c_ne (a := r_29.toInt) (b := 0) rfl (by decide) c_31
            refine lv_aload_n hx hb dX10_left_56 rfl (lv_at hl 2 rfl) ?_
            refine lv_iload hx hb dX10_left_57 (lv_at hl 0 rfl) ?_
            have hFc := o_free hD hS hA
            refine va_calli (va_runV (As := [.int r_29]) (rest := []) ⟨hx, hb, hml, hown, hts⟩ (c_X10_refuse l dC dI H.size cq Z gI o to r_29 (by omega)) (cwV 1 hts gX10_left_X10_refuse rfl rfl rfl (by decide +kernel) ⟨(Nat.le_of_ble_eq_true rfl), (Nat.le_of_ble_eq_true rfl)⟩) (pr_V (r := (RX10, TX10, 16)) hP hK hD q_1 10 rfl hq_1) rfl rfl hl.1 rfl (lv_room (Nat.le_of_ble_eq_true rfl)) dX10_left_59 ⟨(Nat.le_of_ble_eq_true rfl), (Nat.le_of_ble_eq_true rfl)⟩) hS (fun q _ h => hFc q h) hFc (fun r_37 u t H locs ht hvm w_36 hB hz1 hk1 hS => ?_)
            obtain ⟨S_38, rfl⟩ : ∃ z, z = u := ⟨_, rfl⟩
            obtain ⟨hP1, hK1, hD1⟩ := hB
            rw [ht] at hP1
            have hP : va_P (dC, dI) vwCl (oW cq S_38) H := hP1
            have hD : va_D A (oW cq S_38) := hD1.weaken (fun _ _ _ h => hFc _ h)
            clear hP1 hK1 hD1 hk1 hz1 hvm ht hFc
            obtain ⟨hIS_38, XS_38, hb_39, hx_40⟩ := w_36
            have X_41 : oX [108, 1007, 2107] Z S_38 := oX.st oX.rf XS_38 (by decide)
            refine W.widen (k := 1) (n := 6) (Nat.le_of_ble_eq_true rfl) (Nat.le_of_ble_eq_true rfl) ?_
            exact W.iret (v := r_37) hx hb hr (fun t ht hW => ⟨⟨r_37, S_38, rfl, ⟨hIS_38, X_41⟩, ⟨by rw [ht]; exact hP, va_K.moved hW.alike hK, hD⟩⟩, hS.F ht⟩) hS.2.2 dX10_left_62
        · have dc_27 := c_nle (a := x3.toInt) (b := 2) rfl (by decide) c_27
          refine lv_aload_n hx hb dX10_left_35 rfl (lv_at hl 1 rfl) ?_
          refine lv_bipush (v := (-2)) hx hb dX10_left_36 (by decide) ?_
          have hFc := o_free hD hS hA
          refine va_calli (va_runV (As := [.int (-2)]) (rest := []) ⟨hx, hb, hml, hown, hts⟩ (c_X10_refuse l dC dI H.size cq Z gI o to (-2) (by decide)) (cwV 1 hts gX10_left_X10_refuse rfl rfl rfl (by decide +kernel) ⟨(Nat.le_of_ble_eq_true rfl), (Nat.le_of_ble_eq_true rfl)⟩) (pr_V (r := (RX10, TX10, 16)) hP hK hD q_1 10 rfl hq_1) rfl rfl hl.1 rfl (lv_room (Nat.le_of_ble_eq_true rfl)) dX10_left_38 ⟨(Nat.le_of_ble_eq_true rfl), (Nat.le_of_ble_eq_true rfl)⟩) hS (fun q _ h => hFc q h) hFc (fun r_43 u t H locs ht hvm w_42 hB hz1 hk1 hS => ?_)
          obtain ⟨S_44, rfl⟩ : ∃ z, z = u := ⟨_, rfl⟩
          obtain ⟨hP1, hK1, hD1⟩ := hB
          rw [ht] at hP1
          have hP : va_P (dC, dI) vwCl (oW cq S_44) H := hP1
          have hD : va_D A (oW cq S_44) := hD1.weaken (fun _ _ _ h => hFc _ h)
          clear hP1 hK1 hD1 hk1 hz1 hvm ht hFc
          obtain ⟨hIS_44, XS_44, hb_45, hx_46⟩ := w_42
          have X_47 : oX [108, 1007, 2107] Z S_44 := oX.st oX.rf XS_44 (by decide)
          have rf_48 : r_43.toInt = -2 := by rw [hx_46]; decide
          refine W.widen (k := 1) (n := 6) (Nat.le_of_ble_eq_true rfl) (Nat.le_of_ble_eq_true rfl) ?_
          exact W.iret (v := r_43) hx hb hr (fun t ht hW => ⟨⟨r_43, S_44, rfl, ⟨hIS_44, X_47⟩, ⟨by rw [ht]; exact hP, va_K.moved hW.alike hK, hD⟩⟩, hS.F ht⟩) hS.2.2 dX10_left_41
    · have dc_17 := c_eq (a := r_14.toInt) (b := 0) rfl (by decide) c_17
      refine lv_aload_n hx hb dX10_left_20 rfl (lv_at hl 1 rfl) ?_
      refine lv_iconst (v := (-1)) hx hb dX10_left_21 (by decide) ?_
      have hFc := o_free hD hS hA
      refine va_calli (va_runV (As := [.int (-1)]) (rest := []) ⟨hx, hb, hml, hown, hts⟩ (c_X10_refuse l dC dI H.size cq Z gI o to (-1) (by decide)) (cwV 1 hts gX10_left_X10_refuse rfl rfl rfl (by decide +kernel) ⟨(Nat.le_of_ble_eq_true rfl), (Nat.le_of_ble_eq_true rfl)⟩) (pr_V (r := (RX10, TX10, 16)) hP hK hD q_1 10 rfl hq_1) rfl rfl hl.1 rfl (lv_room (Nat.le_of_ble_eq_true rfl)) dX10_left_22 ⟨(Nat.le_of_ble_eq_true rfl), (Nat.le_of_ble_eq_true rfl)⟩) hS (fun q _ h => hFc q h) hFc (fun r_50 u t H locs ht hvm w_49 hB hz1 hk1 hS => ?_)
      obtain ⟨S_51, rfl⟩ : ∃ z, z = u := ⟨_, rfl⟩
      obtain ⟨hP1, hK1, hD1⟩ := hB
      rw [ht] at hP1
      have hP : va_P (dC, dI) vwCl (oW cq S_51) H := hP1
      have hD : va_D A (oW cq S_51) := hD1.weaken (fun _ _ _ h => hFc _ h)
      clear hP1 hK1 hD1 hk1 hz1 hvm ht hFc
      obtain ⟨hIS_51, XS_51, hb_52, hx_53⟩ := w_49
      have X_54 : oX [108, 1007, 2107] Z S_51 := oX.st oX.rf XS_51 (by decide)
      have rf_55 : r_50.toInt = -1 := by rw [hx_53]; decide
      refine W.widen (k := 1) (n := 6) (Nat.le_of_ble_eq_true rfl) (Nat.le_of_ble_eq_true rfl) ?_
      exact W.iret (v := r_50) hx hb hr (fun t ht hW => ⟨⟨r_50, S_51, rfl, ⟨hIS_51, X_54⟩, ⟨by rw [ht]; exact hP, va_K.moved hW.alike hK, hD⟩⟩, hS.F ht⟩) hS.2.2 dX10_left_25
set_option maxHeartbeats 4000000 in
set_option maxRecDepth 100000 in
theorem c_X10_heard (l : Launch) (dC : Nat → ClassId) (dI : Nat → Nat → Nat) (sz : Nat) (cq : Nat → ClassId) (Z : oS) (gI : oInv Z) (o : Nat) (to : oty Z o 10) (x1 : Int32) (x2 : Int32) : Met l yX10_heard wsX10_heard ({ frames := 2, cells := 1, slots := 6, locals := 40 }) (va_Pc [.ref o, .int x1, .int x2] (pcW (dC, dI) (oT cq) (oW cq Z) sz)) (va_Qi (fun (r : Int32) (u : oS) => oInv u ∧ oX [909, 1007, 2107] Z u) (fun u t => va_P (dC, dI) vwCl (oW cq u) t.heap ∧ va_K (dC, dI) vwCl (oT cq) t ∧ va_D (va_A (oW cq Z) sz) (oW cq u)) (va_A (oW cq Z) sz)) 1 6 (va_A (oW cq Z) sz) := by
  refine Met.ofW (cc := cX10_heard) (maxL := 5) (ret := (some .int)) (by decide) rfl ?_
  intro p e s m args below meth c s₁ B hml hv
  obtain ⟨rfl, hsz, hP, hK, hD0⟩ := hv
  have hx := B.exec
  have hb := B.bytes
  have hr := B.returns
  have hts := atoms_spec (ws := wsX10_heard) B.pre
  have hown : s.vm.findClass RX10 = some m.cls := findClass_of_methodNamed B.named
  have hlocks := B.notSynchronized
  subst hsz
  have hD := hD0.self (sz := s.heap.size)
  generalize hAe : va_A (oW cq Z) s.heap.size = A at hD ⊢
  have hA : ∀ q : Nat, s.heap.size ≤ q → A q := fun q h => by rw [← hAe]; exact Or.inr h
  have hS : va_S A s.heap s.heap [] := va_S.rf
  have hP : va_P (dC, dI) vwCl (oW cq Z) s.heap := hP
  have hl := lv_entry ([.ref o, .int x1, .int x2]) (n := 5) (Nat.le_of_ble_eq_true rfl)
  rw [lg_entry_eq]
  generalize (lg_sl ([.ref o, .int x1, .int x2]) ++ List.replicate (5 - (lg_sl ([.ref o, .int x1, .int x2])).length) Slot.unset).toArray = ls at hl ⊢
  have hl : lv_has ls 5 [(0, .ref o), (1, .int x1), (2, .int x2)] := hl
  refine lv_aload_n hx hb dX10_heard_0 rfl (lv_at hl 0 rfl) ?_
  refine lv_iload_n hx hb dX10_heard_1 rfl (lv_at hl 1 rfl) ?_
  have hFc : ∀ q, va_A [] s.heap.size q → A q := pu_free hS hA
  obtain ⟨q_1, hq_1⟩ := og (cq := cq) to.1 (oE_10 to.2)
  refine va_callq (va_runV (As := [.int x1]) (rest := []) ⟨hx, hb, hml, hown, hts⟩ (c_X10_voyageAt l dC dI s.heap.size cq Z gI o to x1) (cwV 1 hts gX10_heard_X10_voyageAt rfl rfl rfl (by decide +kernel) ⟨(Nat.le_of_ble_eq_true rfl), (Nat.le_of_ble_eq_true rfl)⟩) (pr_V (r := (RX10, TX10, 16)) hP hK hD q_1 10 rfl hq_1) rfl rfl hl.1 rfl (lv_room (Nat.le_of_ble_eq_true rfl)) dX10_heard_2 ⟨(Nat.le_of_ble_eq_true rfl), (Nat.le_of_ble_eq_true rfl)⟩) hS (fun q _ h => hFc q h) hFc (fun r_3 u t H locs ht hvm w_2 hB hz1 hk1 hS => ?_)
  have hP := pu_keep hP hk1
  clear hk1 hz1 hvm hB ht hFc
  have hk_4 := w_2
  rcases r_3 with _ | b_5
  · refine W.eq (g2 := F0 m 5 ls [.null]) rfl ?_
    refine lv_astore_nN (lv' := [(3, .null), (0, .ref o), (1, .int x1), (2, .int x2)]) hx hb dX10_heard_5 rfl hl (by decide) rfl (fun ls hl => ?_)
    refine lv_aload_nN hx hb dX10_heard_6 rfl (lv_at hl 0 rfl) ?_
    refine lv_ifnonnullN hx hb dX10_heard_7 ?_
    refine lv_aload_n hx hb dX10_heard_10 rfl (lv_at hl 1 rfl) ?_
    refine lv_iconst (v := (-1)) hx hb dX10_heard_11 (by decide) ?_
    have hFc := o_free hD hS hA
    refine va_calli (va_runV (As := [.int (-1)]) (rest := []) ⟨hx, hb, hml, hown, hts⟩ (c_X10_refuse l dC dI H.size cq Z gI o to (-1) (by decide)) (cwV 1 hts gX10_heard_X10_refuse rfl rfl rfl (by decide +kernel) ⟨(Nat.le_of_ble_eq_true rfl), (Nat.le_of_ble_eq_true rfl)⟩) (pr_V (r := (RX10, TX10, 16)) hP hK hD q_1 10 rfl hq_1) rfl rfl hl.1 rfl (lv_room (Nat.le_of_ble_eq_true rfl)) dX10_heard_12 ⟨(Nat.le_of_ble_eq_true rfl), (Nat.le_of_ble_eq_true rfl)⟩) hS (fun q _ h => hFc q h) hFc (fun r_7 u t H locs ht hvm w_6 hB hz1 hk1 hS => ?_)
    obtain ⟨S_8, rfl⟩ : ∃ z, z = u := ⟨_, rfl⟩
    obtain ⟨hP1, hK1, hD1⟩ := hB
    rw [ht] at hP1
    have hP : va_P (dC, dI) vwCl (oW cq S_8) H := hP1
    have hD : va_D A (oW cq S_8) := hD1.weaken (fun _ _ _ h => hFc _ h)
    clear hP1 hK1 hD1 hk1 hz1 hvm ht hFc
    obtain ⟨hIS_8, XS_8, hb_9, hx_10⟩ := w_6
    have X_11 : oX [909, 1007, 2107] Z S_8 := oX.st oX.rf XS_8 (by decide)
    have rf_12 : r_7.toInt = -1 := by rw [hx_10]; decide
    refine W.widen (k := 1) (n := 6) (Nat.le_of_ble_eq_true rfl) (Nat.le_of_ble_eq_true rfl) ?_
    exact W.iret (v := r_7) hx hb hr (fun t ht hW => ⟨⟨r_7, S_8, rfl, ⟨hIS_8, X_11⟩, ⟨by rw [ht]; exact hP, va_K.moved hW.alike hK, hD⟩⟩, hS.F ht⟩) hS.2.2 dX10_heard_15
  · refine W.eq (g2 := F0 m 5 ls [.ref b_5]) rfl ?_
    have tb_5 : oty Z b_5 9 := hk_4 b_5 rfl
    refine lv_astore_n (lv' := [(3, .ref b_5), (0, .ref o), (1, .int x1), (2, .int x2)]) hx hb dX10_heard_5 rfl hl (by decide) rfl (fun ls hl => ?_)
    refine lv_aload_n hx hb dX10_heard_6 rfl (lv_at hl 0 rfl) ?_
    refine lv_ifnonnull (tgt := 16) hx hb dX10_heard_7 (by decide) ?_
    refine lv_aload_n hx hb dX10_heard_16 rfl (lv_at hl 1 rfl) ?_
    refine lv_aload_n hx hb dX10_heard_17 rfl (lv_at hl 0 rfl) ?_
    refine lv_iload_n hx hb dX10_heard_18 rfl (lv_at hl 3 rfl) ?_
    refine lv_iconst (v := 0) hx hb dX10_heard_19 (by decide) ?_
    have hFc : ∀ q, va_A [] H.size q → A q := pu_free hS hA
    refine va_calli (va_runV (As := [.ref b_5, .int x2, .int 0]) (rest := []) ⟨hx, hb, hml, hown, hts⟩ (c_X10_voyageRefusal l dC dI H.size cq Z gI o to b_5 tb_5 x2 0) (cwV 3 hts gX10_heard_X10_voyageRefusal rfl rfl rfl (by decide +kernel) ⟨(Nat.le_of_ble_eq_true rfl), (Nat.le_of_ble_eq_true rfl)⟩) (pr_V (r := (RX10, TX10, 16)) hP hK hD q_1 10 rfl hq_1) rfl rfl hl.1 rfl (lv_room (Nat.le_of_ble_eq_true rfl)) dX10_heard_20 ⟨(Nat.le_of_ble_eq_true rfl), (Nat.le_of_ble_eq_true rfl)⟩) hS (fun q _ h => hFc q h) hFc (fun r_14 u t H locs ht hvm w_13 hB hz1 hk1 hS => ?_)
    have hP := pu_keep hP hk1
    clear hk1 hz1 hvm hB ht hFc
    obtain ⟨hb_15, hx_16⟩ := w_13
    refine lv_istore (lv' := [(4, .int r_14), (3, .ref b_5), (0, .ref o), (1, .int x1), (2, .int x2)]) hx hb dX10_heard_23 hl (by decide) rfl (fun ls hl => ?_)
    refine lv_iload hx hb dX10_heard_25 (lv_at hl 0 rfl) ?_
    refine lv_if_eq (tgt := 37) hx hb dX10_heard_27 (by decide) (fun c_17 => ?_) (fun c_17 => ?_)
    · have dc_17 := c_eq (a := r_14.toInt) (b := 0) rfl (by decide) c_17
      have hi_18 := hx_16 c_17
      refine lv_aload_n hx hb dX10_heard_37 rfl (lv_at hl 1 rfl) ?_
      refine va_new (ci := 3) (fs := [.int 0, .int 0, .int 0, .int 0, .int 0, .null]) (C := RX3) (T := TX3) (N := 6) hx hb hts in_wsX10_heard_X3 tyX3 tyX3_ok hown (hts (.classLink RX10 142 RX3) iw_X10_heard_1) (hts (.instantiable RX3 6) iw_X10_heard_2) (hts (.initialized RX3) iw_X10_heard_3) hK hP hD hS hA rfl (fun j hj => by rcases (show j = 0 ∨ j = 1 ∨ j = 2 ∨ j = 3 ∨ j = 4 ∨ j = 5 by omega) with rfl | rfl | rfl | rfl | rfl | rfl <;> rfl) (Nat.le_of_ble_eq_true rfl) (Nat.le_of_ble_eq_true rfl) dX10_heard_38 (fun q_19 H hP1 hD1 hS => ?_)
      have hnq_19 := add_q hD1
      obtain ⟨S_20, eS_20⟩ : ∃ zq, zq = addO Z q_19 33 := ⟨_, rfl⟩
      have hP : va_P (dC, dI) vwCl (oW cq S_20) H := by rw [eS_20]; exact cP (onew hD1 (by rw [oE_33 add_K, add_I, add_P]; rfl)) hP1
      have hD : va_D A (oW cq S_20) := by rw [eS_20]; exact cD (onew hD1 (by rw [oE_33 add_K, add_I, add_P]; rfl)) hD1
      clear hP1 hD1
      have hIS_20 : oInv S_20 := by rw [eS_20]; exact oInv.add gI hnq_19 (by decide)
      have XS_20 : oX [] Z S_20 := by rw [eS_20]; exact oX.add hnq_19
      have nzq_19 : q_19 ∉ oL Z := hnq_19
      have X_21 : oX [909, 1007, 2107] Z S_20 := oX.st oX.rf XS_20 (by decide)
      have tq_19 : oty S_20 q_19 33 := by rw [eS_20]; exact add_ty
      refine W.widen (k := 1) (n := 6) (Nat.le_of_ble_eq_true rfl) (Nat.le_of_ble_eq_true rfl) ?_
      refine lv_dup hx hb dX10_heard_41 rfl ?_
      refine lv_iconst (v := 3) hx hb dX10_heard_42 (by decide) ?_
      refine lv_iload_n hx hb dX10_heard_43 rfl (lv_at hl 4 rfl) ?_
      refine lv_aload_n hx hb dX10_heard_44 rfl (lv_at hl 2 rfl) ?_
      have t_22 : oty S_20 o 10 := (oX.ty XS_20 to)
      obtain ⟨q_23, hq_23⟩ := og (cq := cq) t_22.1 (oE_10 t_22.2)
      refine va_get (D := (dC, dI)) (ci := 10) (v := .int (oI S_20 o 0)) (C := RX10) (T := TX10) (N := 16) hx hb hts in_wsX10_heard_X10 hown hK hP q_23 hq_23 rfl 0 (by decide) (hts (.fieldLink RX10 73 "ShipOffice" "now" "I") iw_X10_heard_4) (fun _ h9 => h9) rfl dX10_heard_45 ?_
      refine lv_topi (fun x_24 ex_24 => ?_)
      have hx_24 : 0 ≤ x_24.toInt ∧ x_24.toInt ≤ 3000 := iv_of ex_24 (oInv.iv hIS_20 t_22.2 rfl rfl)
      have gx_24 : x_24.toInt = (oI S_20 o 0).toInt := iv_to ex_24
      clear ex_24
      refine lv_bipush (v := (-9)) hx hb dX10_heard_48 (by decide) ?_
      refine lv_bipush (v := (-9)) hx hb dX10_heard_50 (by decide) ?_
      refine lv_aload_n hx hb dX10_heard_52 rfl (lv_at hl 1 rfl) ?_
      have t_25 : oty S_20 b_5 9 := (oX.ty XS_20 tb_5)
      obtain ⟨q_26, hq_26⟩ := og (cq := cq) t_25.1 (oE_9 t_25.2)
      rcases hb_28 : oP S_20 b_5 9 with _ | b_27
      · refine va_get (D := (dC, dI)) (ci := 9) (v := .null) (C := RX9) (T := TX9) (N := 10) hx hb hts in_wsX10_heard_X9 hown hK hP q_26 hq_26 rfl 9 (by decide) (hts (.fieldLink RX10 144 "ShipOffice$Voyage" "heardOf" "LShipOffice$Happening;") iw_X10_heard_5) (fun _ h9 => h9) (o_rd hb_28) dX10_heard_53 ?_
        have hFc := o_free hD hS hA
        refine va_callv (va_runI (As := [.int 3, .int x2, .int x_24, .int (-9), .int (-9), .null]) (rest := [.ref q_19, .ref b_5]) ⟨hx, hb, hml, hown, hts⟩ (c_X3_init l dC dI H.size cq S_20 hIS_20 q_19 tq_19 3 x2 x_24 (-9) (-9) none (fun b h => by cases h) (Or.inl (by decide)) (fun b h => by cases h)) (cwI 6 hts gX10_heard_X3_init rfl rfl rfl (hts (.initialized RX3) iw_X10_heard_3) (hts (.methodLink RX10 148 yX3_init) iw_X10_heard_6) (hts (.instanceMethod yX3_init) iw_X10_heard_7) rfl (by decide +kernel) ⟨(Nat.le_of_ble_eq_true rfl), (Nat.le_of_ble_eq_true rfl)⟩) (pr_S hP hK hD) rfl rfl hl.1 rfl (lv_room (Nat.le_of_ble_eq_true rfl)) dX10_heard_56 ⟨(Nat.le_of_ble_eq_true rfl), (Nat.le_of_ble_eq_true rfl)⟩) hS (fun q _ h => hFc q h) hFc (fun u t H locs ht hvm w_29 hB hz1 hk1 hS => ?_)
        obtain ⟨S_31, rfl⟩ : ∃ z, z = u := ⟨_, rfl⟩
        obtain ⟨hP1, hK1, hD1⟩ := hB
        rw [ht] at hP1
        have hP : va_P (dC, dI) vwCl (oW cq S_31) H := hP1
        have hD : va_D A (oW cq S_31) := hD1.weaken (fun _ _ _ h => hFc _ h)
        clear hP1 hK1 hD1 hk1 hz1 hvm ht hFc
        obtain ⟨hIS_31, XS_31, hx_32⟩ := w_29
        have hxS_31 := hx_32
        have X_33 : oX [909, 1007, 2107] Z S_31 := oX.c X_21 XS_31 nzq_19 (by decide)
        have g_34 : (oI S_31 o 0).toInt = (oI S_20 o 0).toInt := by rw [oXc.i XS_31 (ty_ne t_22 tq_19 (by decide)) t_22 (by decide)]
        have t_35 : oty S_31 b_5 9 := (oXc.ty XS_31 (ty_ne t_25 tq_19 (by decide)) t_25)
        obtain ⟨q_36, hq_36⟩ := og (cq := cq) t_35.1 (oE_9 t_35.2)
        refine va_put (D := (dC, dI)) (ci := 9) (v := .ref q_19) (ty := .object "ShipOffice$Happening") (C := RX9) (T := TX9) (N := 10) hx hb hts in_wsX10_heard_X9 tyX9 tyX9_ok nmX9 hown hK hP hD hS q_36 hq_36 rfl 9 (by decide) (hts (.fieldLink RX10 144 "ShipOffice$Voyage" "heardOf" "LShipOffice$Happening;") iw_X10_heard_5) (fun _ h9 => h9) rfl (by decide +kernel) rfl rfl (Nat.le_of_ble_eq_true rfl) dX10_heard_59 (fun H locs hP1 hD1 hS => ?_)
        obtain ⟨S_37, eS_37⟩ : ∃ zq, zq = setP S_31 b_5 9 (some q_19) := ⟨_, rfl⟩
        have hP : va_P (dC, dI) vwCl (oW cq S_37) H := by rw [eS_37]; exact cP (oset t_35.1 hq_36 hD rfl (he_9_9 t_35.2) neP) hP1
        have hD : va_D A (oW cq S_37) := by rw [eS_37]; exact cD (oset t_35.1 hq_36 hD rfl (he_9_9 t_35.2) neP) hD1
        clear hP1 hD1
        have hIS_37 : oInv S_37 := by rw [eS_37]; exact oInv.P (k := 9) hIS_31 t_35.2 (by decide) rfl (by decide) hxS_31 (by decide)
        have XS_37 : oX [909] S_31 S_37 := by rw [eS_37]; exact oX.P (k := 9) (key := 909) t_35.2 rfl (List.mem_singleton.mpr rfl)
        have X_38 : oX [909, 1007, 2107] Z S_37 := oX.st X_33 XS_37 (by decide)
        have g_39 : (oI S_37 o 0).toInt = (oI S_31 o 0).toInt := by rw [eS_37]; rfl
        refine lv_aload_n hx hb dX10_heard_62 rfl (lv_at hl 2 rfl) ?_
        refine lv_dup hx hb dX10_heard_63 rfl ?_
        have t_40 : oty S_37 o 10 := (oX.ty XS_37 (oXc.ty XS_31 (ty_ne t_22 tq_19 (by decide)) t_22))
        obtain ⟨q_41, hq_41⟩ := og (cq := cq) t_40.1 (oE_10 t_40.2)
        refine va_get (D := (dC, dI)) (ci := 10) (v := .int (oI S_37 o 7)) (C := RX10) (T := TX10) (N := 16) hx hb hts in_wsX10_heard_X10 hown hK hP q_41 hq_41 rfl 7 (by decide) (hts (.fieldLink RX10 139 "ShipOffice" "happeningCount" "I") iw_X10_heard_8) (fun _ h9 => h9) rfl dX10_heard_64 ?_
        refine lv_topi (fun x_42 ex_42 => ?_)
        clear ex_42
        refine lv_iconst (v := 1) hx hb dX10_heard_67 (by decide) ?_
        refine lv_iadd hx hb dX10_heard_68 ?_
        refine lv_topi (fun x_43 ex_43 => ?_)
        clear ex_43
        refine va_put (D := (dC, dI)) (ci := 10) (v := .int x_43) (ty := .int) (C := RX10) (T := TX10) (N := 16) hx hb hts in_wsX10_heard_X10 tyX10 tyX10_ok nmX10 hown hK hP hD hS q_41 hq_41 rfl 7 (by decide) (hts (.fieldLink RX10 139 "ShipOffice" "happeningCount" "I") iw_X10_heard_8) (fun _ h9 => h9) rfl (by decide +kernel) rfl rfl (Nat.le_of_ble_eq_true rfl) dX10_heard_69 (fun H locs hP1 hD1 hS => ?_)
        obtain ⟨S_44, eS_44⟩ : ∃ zq, zq = setI S_37 o 7 x_43 := ⟨_, rfl⟩
        have hP : va_P (dC, dI) vwCl (oW cq S_44) H := by rw [eS_44]; exact cP (oset t_40.1 hq_41 hD rfl (he_10_7 t_40.2) neI) hP1
        have hD : va_D A (oW cq S_44) := by rw [eS_44]; exact cD (oset t_40.1 hq_41 hD rfl (he_10_7 t_40.2) neI) hD1
        clear hP1 hD1
        have hIS_44 : oInv S_44 := by rw [eS_44]; exact oInv.I0 (k := 10) (lo := -2147483648) (hi := 2147483647) hIS_37 t_40.2 (by decide) rfl rfl rfl (iv_all _)
        have XS_44 : oX [1007] S_37 S_44 := by rw [eS_44]; exact oX.I (k := 10) (key := 1007) t_40.2 rfl (List.mem_singleton.mpr rfl)
        have X_45 : oX [909, 1007, 2107] Z S_44 := oX.st X_38 XS_44 (by decide)
        have g_46 : (oI S_44 o 0).toInt = (oI S_37 o 0).toInt := by rw [eS_44, setI_ne (by decide)]
        refine lv_aload_n hx hb dX10_heard_72 rfl (lv_at hl 2 rfl) ?_
        have t_47 : oty S_44 o 10 := (oX.ty XS_44 t_40)
        obtain ⟨q_48, hq_48⟩ := og (cq := cq) t_47.1 (oE_10 t_47.2)
        refine va_get (D := (dC, dI)) (ci := 10) (v := .int (oI S_44 o 7)) (C := RX10) (T := TX10) (N := 16) hx hb hts in_wsX10_heard_X10 hown hK hP q_48 hq_48 rfl 7 (by decide) (hts (.fieldLink RX10 139 "ShipOffice" "happeningCount" "I") iw_X10_heard_8) (fun _ h9 => h9) rfl dX10_heard_73 ?_
        refine lv_topi (fun x_49 ex_49 => ?_)
        clear ex_49
        exact W.iret (v := x_49) hx hb hr (fun t ht hW => ⟨⟨x_49, S_44, rfl, ⟨hIS_44, X_45⟩, ⟨by rw [ht]; exact hP, va_K.moved hW.alike hK, hD⟩⟩, hS.F ht⟩) hS.2.2 dX10_heard_76
      · refine va_get (D := (dC, dI)) (ci := 9) (v := .ref b_27) (C := RX9) (T := TX9) (N := 10) hx hb hts in_wsX10_heard_X9 hown hK hP q_26 hq_26 rfl 9 (by decide) (hts (.fieldLink RX10 144 "ShipOffice$Voyage" "heardOf" "LShipOffice$Happening;") iw_X10_heard_5) (fun _ h9 => h9) (o_rd hb_28) dX10_heard_53 ?_
        have tb_27 : oty S_20 b_27 3 := oInv.rd hIS_20 t_25.2 hb_28 rfl rfl
        have hFc := o_free hD hS hA
        refine va_callv (va_runI (As := [.int 3, .int x2, .int x_24, .int (-9), .int (-9), .ref b_27]) (rest := [.ref q_19, .ref b_5]) ⟨hx, hb, hml, hown, hts⟩ (c_X3_init l dC dI H.size cq S_20 hIS_20 q_19 tq_19 3 x2 x_24 (-9) (-9) (some b_27) (fun b h => by cases h; exact tb_27) (Or.inl (by decide)) (fun b h => by cases h; have hm := tb_27.1; have nb := ty_ne tb_27 tq_19 (by decide); rw [eS_20] at hm ⊢; exact add_G2 hnq_19 hm nb)) (cwI 6 hts gX10_heard_X3_init rfl rfl rfl (hts (.initialized RX3) iw_X10_heard_3) (hts (.methodLink RX10 148 yX3_init) iw_X10_heard_6) (hts (.instanceMethod yX3_init) iw_X10_heard_7) rfl (by decide +kernel) ⟨(Nat.le_of_ble_eq_true rfl), (Nat.le_of_ble_eq_true rfl)⟩) (pr_S hP hK hD) rfl rfl hl.1 rfl (lv_room (Nat.le_of_ble_eq_true rfl)) dX10_heard_56 ⟨(Nat.le_of_ble_eq_true rfl), (Nat.le_of_ble_eq_true rfl)⟩) hS (fun q _ h => hFc q h) hFc (fun u t H locs ht hvm w_50 hB hz1 hk1 hS => ?_)
        obtain ⟨S_52, rfl⟩ : ∃ z, z = u := ⟨_, rfl⟩
        obtain ⟨hP1, hK1, hD1⟩ := hB
        rw [ht] at hP1
        have hP : va_P (dC, dI) vwCl (oW cq S_52) H := hP1
        have hD : va_D A (oW cq S_52) := hD1.weaken (fun _ _ _ h => hFc _ h)
        clear hP1 hK1 hD1 hk1 hz1 hvm ht hFc
        obtain ⟨hIS_52, XS_52, hx_53⟩ := w_50
        have hxS_52 := hx_53
        have X_54 : oX [909, 1007, 2107] Z S_52 := oX.c X_21 XS_52 nzq_19 (by decide)
        have g_55 : (oI S_52 o 0).toInt = (oI S_20 o 0).toInt := by rw [oXc.i XS_52 (ty_ne t_22 tq_19 (by decide)) t_22 (by decide)]
        have t_56 : oty S_52 b_5 9 := (oXc.ty XS_52 (ty_ne t_25 tq_19 (by decide)) t_25)
        obtain ⟨q_57, hq_57⟩ := og (cq := cq) t_56.1 (oE_9 t_56.2)
        refine va_put (D := (dC, dI)) (ci := 9) (v := .ref q_19) (ty := .object "ShipOffice$Happening") (C := RX9) (T := TX9) (N := 10) hx hb hts in_wsX10_heard_X9 tyX9 tyX9_ok nmX9 hown hK hP hD hS q_57 hq_57 rfl 9 (by decide) (hts (.fieldLink RX10 144 "ShipOffice$Voyage" "heardOf" "LShipOffice$Happening;") iw_X10_heard_5) (fun _ h9 => h9) rfl (by decide +kernel) rfl rfl (Nat.le_of_ble_eq_true rfl) dX10_heard_59 (fun H locs hP1 hD1 hS => ?_)
        obtain ⟨S_58, eS_58⟩ : ∃ zq, zq = setP S_52 b_5 9 (some q_19) := ⟨_, rfl⟩
        have hP : va_P (dC, dI) vwCl (oW cq S_58) H := by rw [eS_58]; exact cP (oset t_56.1 hq_57 hD rfl (he_9_9 t_56.2) neP) hP1
        have hD : va_D A (oW cq S_58) := by rw [eS_58]; exact cD (oset t_56.1 hq_57 hD rfl (he_9_9 t_56.2) neP) hD1
        clear hP1 hD1
        have hIS_58 : oInv S_58 := by rw [eS_58]; exact oInv.P (k := 9) hIS_52 t_56.2 (by decide) rfl (by decide) hxS_52 (by decide)
        have XS_58 : oX [909] S_52 S_58 := by rw [eS_58]; exact oX.P (k := 9) (key := 909) t_56.2 rfl (List.mem_singleton.mpr rfl)
        have X_59 : oX [909, 1007, 2107] Z S_58 := oX.st X_54 XS_58 (by decide)
        have g_60 : (oI S_58 o 0).toInt = (oI S_52 o 0).toInt := by rw [eS_58]; rfl
        refine lv_aload_n hx hb dX10_heard_62 rfl (lv_at hl 2 rfl) ?_
        refine lv_dup hx hb dX10_heard_63 rfl ?_
        have t_61 : oty S_58 o 10 := (oX.ty XS_58 (oXc.ty XS_52 (ty_ne t_22 tq_19 (by decide)) t_22))
        obtain ⟨q_62, hq_62⟩ := og (cq := cq) t_61.1 (oE_10 t_61.2)
        refine va_get (D := (dC, dI)) (ci := 10) (v := .int (oI S_58 o 7)) (C := RX10) (T := TX10) (N := 16) hx hb hts in_wsX10_heard_X10 hown hK hP q_62 hq_62 rfl 7 (by decide) (hts (.fieldLink RX10 139 "ShipOffice" "happeningCount" "I") iw_X10_heard_8) (fun _ h9 => h9) rfl dX10_heard_64 ?_
        refine lv_topi (fun x_63 ex_63 => ?_)
        clear ex_63
        refine lv_iconst (v := 1) hx hb dX10_heard_67 (by decide) ?_
        refine lv_iadd hx hb dX10_heard_68 ?_
        refine lv_topi (fun x_64 ex_64 => ?_)
        clear ex_64
        refine va_put (D := (dC, dI)) (ci := 10) (v := .int x_64) (ty := .int) (C := RX10) (T := TX10) (N := 16) hx hb hts in_wsX10_heard_X10 tyX10 tyX10_ok nmX10 hown hK hP hD hS q_62 hq_62 rfl 7 (by decide) (hts (.fieldLink RX10 139 "ShipOffice" "happeningCount" "I") iw_X10_heard_8) (fun _ h9 => h9) rfl (by decide +kernel) rfl rfl (Nat.le_of_ble_eq_true rfl) dX10_heard_69 (fun H locs hP1 hD1 hS => ?_)
        obtain ⟨S_65, eS_65⟩ : ∃ zq, zq = setI S_58 o 7 x_64 := ⟨_, rfl⟩
        have hP : va_P (dC, dI) vwCl (oW cq S_65) H := by rw [eS_65]; exact cP (oset t_61.1 hq_62 hD rfl (he_10_7 t_61.2) neI) hP1
        have hD : va_D A (oW cq S_65) := by rw [eS_65]; exact cD (oset t_61.1 hq_62 hD rfl (he_10_7 t_61.2) neI) hD1
        clear hP1 hD1
        have hIS_65 : oInv S_65 := by rw [eS_65]; exact oInv.I0 (k := 10) (lo := -2147483648) (hi := 2147483647) hIS_58 t_61.2 (by decide) rfl rfl rfl (iv_all _)
        have XS_65 : oX [1007] S_58 S_65 := by rw [eS_65]; exact oX.I (k := 10) (key := 1007) t_61.2 rfl (List.mem_singleton.mpr rfl)
        have X_66 : oX [909, 1007, 2107] Z S_65 := oX.st X_59 XS_65 (by decide)
        have g_67 : (oI S_65 o 0).toInt = (oI S_58 o 0).toInt := by rw [eS_65, setI_ne (by decide)]
        refine lv_aload_n hx hb dX10_heard_72 rfl (lv_at hl 2 rfl) ?_
        have t_68 : oty S_65 o 10 := (oX.ty XS_65 t_61)
        obtain ⟨q_69, hq_69⟩ := og (cq := cq) t_68.1 (oE_10 t_68.2)
        refine va_get (D := (dC, dI)) (ci := 10) (v := .int (oI S_65 o 7)) (C := RX10) (T := TX10) (N := 16) hx hb hts in_wsX10_heard_X10 hown hK hP q_69 hq_69 rfl 7 (by decide) (hts (.fieldLink RX10 139 "ShipOffice" "happeningCount" "I") iw_X10_heard_8) (fun _ h9 => h9) rfl dX10_heard_73 ?_
        refine lv_topi (fun x_70 ex_70 => ?_)
        clear ex_70
        exact W.iret (v := x_70) hx hb hr (fun t ht hW => ⟨⟨x_70, S_65, rfl, ⟨hIS_65, X_66⟩, ⟨by rw [ht]; exact hP, va_K.moved hW.alike hK, hD⟩⟩, hS.F ht⟩) hS.2.2 dX10_heard_76
    · have dc_17 := c_ne (a := r_14.toInt) (b := 0) rfl (by decide) c_17
      refine lv_aload_n hx hb dX10_heard_30 rfl (lv_at hl 2 rfl) ?_
      refine lv_iload hx hb dX10_heard_31 (lv_at hl 0 rfl) ?_
      have hFc := o_free hD hS hA
      refine va_calli (va_runV (As := [.int r_14]) (rest := []) ⟨hx, hb, hml, hown, hts⟩ (c_X10_refuse l dC dI H.size cq Z gI o to r_14 (by omega)) (cwV 1 hts gX10_heard_X10_refuse rfl rfl rfl (by decide +kernel) ⟨(Nat.le_of_ble_eq_true rfl), (Nat.le_of_ble_eq_true rfl)⟩) (pr_V (r := (RX10, TX10, 16)) hP hK hD q_1 10 rfl hq_1) rfl rfl hl.1 rfl (lv_room (Nat.le_of_ble_eq_true rfl)) dX10_heard_33 ⟨(Nat.le_of_ble_eq_true rfl), (Nat.le_of_ble_eq_true rfl)⟩) hS (fun q _ h => hFc q h) hFc (fun r_72 u t H locs ht hvm w_71 hB hz1 hk1 hS => ?_)
      obtain ⟨S_73, rfl⟩ : ∃ z, z = u := ⟨_, rfl⟩
      obtain ⟨hP1, hK1, hD1⟩ := hB
      rw [ht] at hP1
      have hP : va_P (dC, dI) vwCl (oW cq S_73) H := hP1
      have hD : va_D A (oW cq S_73) := hD1.weaken (fun _ _ _ h => hFc _ h)
      clear hP1 hK1 hD1 hk1 hz1 hvm ht hFc
      obtain ⟨hIS_73, XS_73, hb_74, hx_75⟩ := w_71
      have X_76 : oX [909, 1007, 2107] Z S_73 := oX.st oX.rf XS_73 (by decide)
      refine W.widen (k := 1) (n := 6) (Nat.le_of_ble_eq_true rfl) (Nat.le_of_ble_eq_true rfl) ?_
      exact W.iret (v := r_72) hx hb hr (fun t ht hW => ⟨⟨r_72, S_73, rfl, ⟨hIS_73, X_76⟩, ⟨by rw [ht]; exact hP, va_K.moved hW.alike hK, hD⟩⟩, hS.F ht⟩) hS.2.2 dX10_heard_36
set_option maxHeartbeats 4000000 in
set_option maxRecDepth 100000 in
theorem c_X10_man (l : Launch) (dC : Nat → ClassId) (dI : Nat → Nat → Nat) (sz : Nat) (cq : Nat → ClassId) (Z : oS) (gI : oInv Z) (o : Nat) (to : oty Z o 10) (x1 : Int32) (x2 : Int32) (x3 : Int32) : Met l yX10_man wsX10_man ({ frames := 3, cells := 2, slots := 10, locals := 68 }) (va_Pc [.ref o, .int x1, .int x2, .int x3] (pcW (dC, dI) (oT cq) (oW cq Z) sz)) (va_Qi (fun (r : Int32) (u : oS) => oInv u ∧ oX [605, 1002, 2014, 2107] Z u) (fun u t => va_P (dC, dI) vwCl (oW cq u) t.heap ∧ va_K (dC, dI) vwCl (oT cq) t ∧ va_D (va_A (oW cq Z) sz) (oW cq u)) (va_A (oW cq Z) sz)) 2 10 (va_A (oW cq Z) sz) := by
  refine Met.ofW (cc := cX10_man) (maxL := 4) (ret := (some .int)) (by decide) rfl ?_
  intro p e s m args below meth c s₁ B hml hv
  obtain ⟨rfl, hsz, hP, hK, hD0⟩ := hv
  have hx := B.exec
  have hb := B.bytes
  have hr := B.returns
  have hts := atoms_spec (ws := wsX10_man) B.pre
  have hown : s.vm.findClass RX10 = some m.cls := findClass_of_methodNamed B.named
  have hlocks := B.notSynchronized
  subst hsz
  have hD := hD0.self (sz := s.heap.size)
  generalize hAe : va_A (oW cq Z) s.heap.size = A at hD ⊢
  have hA : ∀ q : Nat, s.heap.size ≤ q → A q := fun q h => by rw [← hAe]; exact Or.inr h
  have hS : va_S A s.heap s.heap [] := va_S.rf
  have hP : va_P (dC, dI) vwCl (oW cq Z) s.heap := hP
  have hl := lv_entry ([.ref o, .int x1, .int x2, .int x3]) (n := 4) (Nat.le_of_ble_eq_true rfl)
  rw [lg_entry_eq]
  generalize (lg_sl ([.ref o, .int x1, .int x2, .int x3]) ++ List.replicate (4 - (lg_sl ([.ref o, .int x1, .int x2, .int x3])).length) Slot.unset).toArray = ls at hl ⊢
  have hl : lv_has ls 4 [(0, .ref o), (1, .int x1), (2, .int x2), (3, .int x3)] := hl
  refine lv_iload_n hx hb dX10_man_0 rfl (lv_at hl 1 rfl) ?_
  refine lv_if_lt (tgt := 15) hx hb dX10_man_1 (by decide) (fun c_1 => ?_) (fun c_1 => ?_)
  · have dc_1 := c_lt (a := x1.toInt) (b := 0) rfl (by decide) c_1
    refine lv_aload_n hx hb dX10_man_15 rfl (lv_at hl 0 rfl) ?_
    refine lv_bipush (v := (-4)) hx hb dX10_man_16 (by decide) ?_
    have hFc := o_free hD hS hA
    obtain ⟨q_2, hq_2⟩ := og (cq := cq) to.1 (oE_10 to.2)
    refine va_calli (va_runV (As := [.int (-4)]) (rest := []) ⟨hx, hb, hml, hown, hts⟩ (c_X10_refuse l dC dI s.heap.size cq Z gI o to (-4) (by decide)) (cwV 1 hts gX10_man_X10_refuse rfl rfl rfl (by decide +kernel) ⟨(Nat.le_of_ble_eq_true rfl), (Nat.le_of_ble_eq_true rfl)⟩) (pr_V (r := (RX10, TX10, 16)) hP hK hD q_2 10 rfl hq_2) rfl rfl hl.1 rfl (lv_room (Nat.le_of_ble_eq_true rfl)) dX10_man_18 ⟨(Nat.le_of_ble_eq_true rfl), (Nat.le_of_ble_eq_true rfl)⟩) hS (fun q _ h => hFc q h) hFc (fun r_4 u t H locs ht hvm w_3 hB hz1 hk1 hS => ?_)
    obtain ⟨S_5, rfl⟩ : ∃ z, z = u := ⟨_, rfl⟩
    obtain ⟨hP1, hK1, hD1⟩ := hB
    rw [ht] at hP1
    have hP : va_P (dC, dI) vwCl (oW cq S_5) H := hP1
    have hD : va_D A (oW cq S_5) := hD1.weaken (fun _ _ _ h => hFc _ h)
    clear hP1 hK1 hD1 hk1 hz1 hvm ht hFc
    obtain ⟨hIS_5, XS_5, hb_6, hx_7⟩ := w_3
    have X_8 : oX [605, 1002, 2014, 2107] Z S_5 := oX.st oX.rf XS_5 (by decide)
    have rf_9 : r_4.toInt = -4 := by rw [hx_7]; decide
    refine W.widen (k := 2) (n := 10) (Nat.le_of_ble_eq_true rfl) (Nat.le_of_ble_eq_true rfl) ?_
    exact W.iret (v := r_4) hx hb hr (fun t ht hW => ⟨⟨r_4, S_5, rfl, ⟨hIS_5, X_8⟩, ⟨by rw [ht]; exact hP, va_K.moved hW.alike hK, hD⟩⟩, hS.F ht⟩) hS.2.2 dX10_man_21
  · have dc_1 := c_nlt (a := x1.toInt) (b := 0) rfl (by decide) c_1
    refine lv_iload_n hx hb dX10_man_4 rfl (lv_at hl 2 rfl) ?_
    refine lv_if_lt (tgt := 15) hx hb dX10_man_5 (by decide) (fun c_10 => ?_) (fun c_10 => ?_)
    · have dc_10 := c_lt (a := x2.toInt) (b := 0) rfl (by decide) c_10
      refine lv_aload_n hx hb dX10_man_15 rfl (lv_at hl 0 rfl) ?_
      refine lv_bipush (v := (-4)) hx hb dX10_man_16 (by decide) ?_
      have hFc := o_free hD hS hA
      obtain ⟨q_11, hq_11⟩ := og (cq := cq) to.1 (oE_10 to.2)
      refine va_calli (va_runV (As := [.int (-4)]) (rest := []) ⟨hx, hb, hml, hown, hts⟩ (c_X10_refuse l dC dI s.heap.size cq Z gI o to (-4) (by decide)) (cwV 1 hts gX10_man_X10_refuse rfl rfl rfl (by decide +kernel) ⟨(Nat.le_of_ble_eq_true rfl), (Nat.le_of_ble_eq_true rfl)⟩) (pr_V (r := (RX10, TX10, 16)) hP hK hD q_11 10 rfl hq_11) rfl rfl hl.1 rfl (lv_room (Nat.le_of_ble_eq_true rfl)) dX10_man_18 ⟨(Nat.le_of_ble_eq_true rfl), (Nat.le_of_ble_eq_true rfl)⟩) hS (fun q _ h => hFc q h) hFc (fun r_13 u t H locs ht hvm w_12 hB hz1 hk1 hS => ?_)
      obtain ⟨S_14, rfl⟩ : ∃ z, z = u := ⟨_, rfl⟩
      obtain ⟨hP1, hK1, hD1⟩ := hB
      rw [ht] at hP1
      have hP : va_P (dC, dI) vwCl (oW cq S_14) H := hP1
      have hD : va_D A (oW cq S_14) := hD1.weaken (fun _ _ _ h => hFc _ h)
      clear hP1 hK1 hD1 hk1 hz1 hvm ht hFc
      obtain ⟨hIS_14, XS_14, hb_15, hx_16⟩ := w_12
      have X_17 : oX [605, 1002, 2014, 2107] Z S_14 := oX.st oX.rf XS_14 (by decide)
      have rf_18 : r_13.toInt = -4 := by rw [hx_16]; decide
      refine W.widen (k := 2) (n := 10) (Nat.le_of_ble_eq_true rfl) (Nat.le_of_ble_eq_true rfl) ?_
      exact W.iret (v := r_13) hx hb hr (fun t ht hW => ⟨⟨r_13, S_14, rfl, ⟨hIS_14, X_17⟩, ⟨by rw [ht]; exact hP, va_K.moved hW.alike hK, hD⟩⟩, hS.F ht⟩) hS.2.2 dX10_man_21
    · have dc_10 := c_nlt (a := x2.toInt) (b := 0) rfl (by decide) c_10
      refine lv_iload_n hx hb dX10_man_8 rfl (lv_at hl 3 rfl) ?_
      refine lv_sipush (v := (-30000)) hx hb dX10_man_9 (by decide) ?_
      refine lv_icmp_ge (tgt := 22) hx hb dX10_man_12 (by decide) (fun c_19 => ?_) (fun c_19 => ?_)
      · have dc_19 := c_le (a := (-30000)) (b := x3.toInt) (by decide) rfl c_19
        refine lv_iload_n hx hb dX10_man_22 rfl (lv_at hl 1 rfl) ?_
        refine lv_sipush (v := 9999) hx hb dX10_man_23 (by decide) ?_
        refine lv_icmp_gt (tgt := 52) hx hb dX10_man_26 (by decide) (fun c_20 => ?_) (fun c_20 => ?_)
        · have dc_20 := c_lt (a := 9999) (b := x1.toInt) (by decide) rfl c_20
          refine lv_aload_n hx hb dX10_man_52 rfl (lv_at hl 0 rfl) ?_
          refine lv_bipush (v := (-6)) hx hb dX10_man_53 (by decide) ?_
          have hFc := o_free hD hS hA
          obtain ⟨q_21, hq_21⟩ := og (cq := cq) to.1 (oE_10 to.2)
          refine va_calli (va_runV (As := [.int (-6)]) (rest := []) ⟨hx, hb, hml, hown, hts⟩ (c_X10_refuse l dC dI s.heap.size cq Z gI o to (-6) (by decide)) (cwV 1 hts gX10_man_X10_refuse rfl rfl rfl (by decide +kernel) ⟨(Nat.le_of_ble_eq_true rfl), (Nat.le_of_ble_eq_true rfl)⟩) (pr_V (r := (RX10, TX10, 16)) hP hK hD q_21 10 rfl hq_21) rfl rfl hl.1 rfl (lv_room (Nat.le_of_ble_eq_true rfl)) dX10_man_55 ⟨(Nat.le_of_ble_eq_true rfl), (Nat.le_of_ble_eq_true rfl)⟩) hS (fun q _ h => hFc q h) hFc (fun r_23 u t H locs ht hvm w_22 hB hz1 hk1 hS => ?_)
          obtain ⟨S_24, rfl⟩ : ∃ z, z = u := ⟨_, rfl⟩
          obtain ⟨hP1, hK1, hD1⟩ := hB
          rw [ht] at hP1
          have hP : va_P (dC, dI) vwCl (oW cq S_24) H := hP1
          have hD : va_D A (oW cq S_24) := hD1.weaken (fun _ _ _ h => hFc _ h)
          clear hP1 hK1 hD1 hk1 hz1 hvm ht hFc
          obtain ⟨hIS_24, XS_24, hb_25, hx_26⟩ := w_22
          have X_27 : oX [605, 1002, 2014, 2107] Z S_24 := oX.st oX.rf XS_24 (by decide)
          have rf_28 : r_23.toInt = -6 := by rw [hx_26]; decide
          refine W.widen (k := 2) (n := 10) (Nat.le_of_ble_eq_true rfl) (Nat.le_of_ble_eq_true rfl) ?_
          exact W.iret (v := r_23) hx hb hr (fun t ht hW => ⟨⟨r_23, S_24, rfl, ⟨hIS_24, X_27⟩, ⟨by rw [ht]; exact hP, va_K.moved hW.alike hK, hD⟩⟩, hS.F ht⟩) hS.2.2 dX10_man_58
        · have dc_20 := c_nlt (a := 9999) (b := x1.toInt) (by decide) rfl c_20
          refine lv_iload_n hx hb dX10_man_29 rfl (lv_at hl 2 rfl) ?_
          refine lv_ldc (v := 99999) hx hb hown (hts (.constant RX10 85 (99999)) (by decide +kernel)) dX10_man_30 ?_
          refine lv_icmp_gt (tgt := 52) hx hb dX10_man_32 (by decide) (fun c_29 => ?_) (fun c_29 => ?_)
          · have dc_29 := c_lt (a := 99999) (b := x2.toInt) (by decide) rfl c_29
            refine lv_aload_n hx hb dX10_man_52 rfl (lv_at hl 0 rfl) ?_
            refine lv_bipush (v := (-6)) hx hb dX10_man_53 (by decide) ?_
            have hFc := o_free hD hS hA
            obtain ⟨q_30, hq_30⟩ := og (cq := cq) to.1 (oE_10 to.2)
            refine va_calli (va_runV (As := [.int (-6)]) (rest := []) ⟨hx, hb, hml, hown, hts⟩ (c_X10_refuse l dC dI s.heap.size cq Z gI o to (-6) (by decide)) (cwV 1 hts gX10_man_X10_refuse rfl rfl rfl (by decide +kernel) ⟨(Nat.le_of_ble_eq_true rfl), (Nat.le_of_ble_eq_true rfl)⟩) (pr_V (r := (RX10, TX10, 16)) hP hK hD q_30 10 rfl hq_30) rfl rfl hl.1 rfl (lv_room (Nat.le_of_ble_eq_true rfl)) dX10_man_55 ⟨(Nat.le_of_ble_eq_true rfl), (Nat.le_of_ble_eq_true rfl)⟩) hS (fun q _ h => hFc q h) hFc (fun r_32 u t H locs ht hvm w_31 hB hz1 hk1 hS => ?_)
            obtain ⟨S_33, rfl⟩ : ∃ z, z = u := ⟨_, rfl⟩
            obtain ⟨hP1, hK1, hD1⟩ := hB
            rw [ht] at hP1
            have hP : va_P (dC, dI) vwCl (oW cq S_33) H := hP1
            have hD : va_D A (oW cq S_33) := hD1.weaken (fun _ _ _ h => hFc _ h)
            clear hP1 hK1 hD1 hk1 hz1 hvm ht hFc
            obtain ⟨hIS_33, XS_33, hb_34, hx_35⟩ := w_31
            have X_36 : oX [605, 1002, 2014, 2107] Z S_33 := oX.st oX.rf XS_33 (by decide)
            have rf_37 : r_32.toInt = -6 := by rw [hx_35]; decide
            refine W.widen (k := 2) (n := 10) (Nat.le_of_ble_eq_true rfl) (Nat.le_of_ble_eq_true rfl) ?_
            exact W.iret (v := r_32) hx hb hr (fun t ht hW => ⟨⟨r_32, S_33, rfl, ⟨hIS_33, X_36⟩, ⟨by rw [ht]; exact hP, va_K.moved hW.alike hK, hD⟩⟩, hS.F ht⟩) hS.2.2 dX10_man_58
          · have dc_29 := c_nlt (a := 99999) (b := x2.toInt) (by decide) rfl c_29
            refine lv_iload_n hx hb dX10_man_35 rfl (lv_at hl 3 rfl) ?_
            refine lv_aload_n hx hb dX10_man_36 rfl (lv_at hl 0 rfl) ?_
            obtain ⟨q_38, hq_38⟩ := og (cq := cq) to.1 (oE_10 to.2)
            refine va_get (D := (dC, dI)) (ci := 10) (v := .int (oI Z o 0)) (C := RX10) (T := TX10) (N := 16) hx hb hts in_wsX10_man_X10 hown hK hP q_38 hq_38 rfl 0 (by decide) (hts (.fieldLink RX10 73 "ShipOffice" "now" "I") iw_X10_man_1) (fun _ h9 => h9) rfl dX10_man_37 ?_
            refine lv_topi (fun x_39 ex_39 => ?_)
            have hx_39 : 0 ≤ x_39.toInt ∧ x_39.toInt ≤ 3000 := iv_of ex_39 (oInv.iv gI to.2 rfl rfl)
            have gx_39 : x_39.toInt = (oI Z o 0).toInt := iv_to ex_39
            clear ex_39
            refine lv_icmp_gt (tgt := 52) hx hb dX10_man_40 (by decide) (fun c_40 => ?_) (fun c_40 => ?_)
            · have dc_40 := c_lt (a := x_39.toInt) (b := x3.toInt) rfl rfl c_40
              refine lv_aload_n hx hb dX10_man_52 rfl (lv_at hl 0 rfl) ?_
              refine lv_bipush (v := (-6)) hx hb dX10_man_53 (by decide) ?_
              have hFc := o_free hD hS hA
              refine va_calli (va_runV (As := [.int (-6)]) (rest := []) ⟨hx, hb, hml, hown, hts⟩ (c_X10_refuse l dC dI s.heap.size cq Z gI o to (-6) (by decide)) (cwV 1 hts gX10_man_X10_refuse rfl rfl rfl (by decide +kernel) ⟨(Nat.le_of_ble_eq_true rfl), (Nat.le_of_ble_eq_true rfl)⟩) (pr_V (r := (RX10, TX10, 16)) hP hK hD q_38 10 rfl hq_38) rfl rfl hl.1 rfl (lv_room (Nat.le_of_ble_eq_true rfl)) dX10_man_55 ⟨(Nat.le_of_ble_eq_true rfl), (Nat.le_of_ble_eq_true rfl)⟩) hS (fun q _ h => hFc q h) hFc (fun r_42 u t H locs ht hvm w_41 hB hz1 hk1 hS => ?_)
              obtain ⟨S_43, rfl⟩ : ∃ z, z = u := ⟨_, rfl⟩
              obtain ⟨hP1, hK1, hD1⟩ := hB
              rw [ht] at hP1
              have hP : va_P (dC, dI) vwCl (oW cq S_43) H := hP1
              have hD : va_D A (oW cq S_43) := hD1.weaken (fun _ _ _ h => hFc _ h)
              clear hP1 hK1 hD1 hk1 hz1 hvm ht hFc
              obtain ⟨hIS_43, XS_43, hb_44, hx_45⟩ := w_41
              have X_46 : oX [605, 1002, 2014, 2107] Z S_43 := oX.st oX.rf XS_43 (by decide)
              have rf_47 : r_42.toInt = -6 := by rw [hx_45]; decide
              refine W.widen (k := 2) (n := 10) (Nat.le_of_ble_eq_true rfl) (Nat.le_of_ble_eq_true rfl) ?_
              exact W.iret (v := r_42) hx hb hr (fun t ht hW => ⟨⟨r_42, S_43, rfl, ⟨hIS_43, X_46⟩, ⟨by rw [ht]; exact hP, va_K.moved hW.alike hK, hD⟩⟩, hS.F ht⟩) hS.2.2 dX10_man_58
            · have dc_40 := c_nlt (a := x_39.toInt) (b := x3.toInt) rfl rfl c_40
              refine lv_aload_n hx hb dX10_man_43 rfl (lv_at hl 0 rfl) ?_
              refine va_get (D := (dC, dI)) (ci := 10) (v := .int (oI Z o 2)) (C := RX10) (T := TX10) (N := 16) hx hb hts in_wsX10_man_X10 hown hK hP q_38 hq_38 rfl 2 (by decide) (hts (.fieldLink RX10 86 "ShipOffice" "manCount" "I") iw_X10_man_2) (fun _ h9 => h9) rfl dX10_man_44 ?_
              refine lv_topi (fun x_48 ex_48 => ?_)
              have hx_48 : 0 ≤ x_48.toInt ∧ x_48.toInt ≤ 40 := iv_of ex_48 (oInv.iv gI to.2 rfl rfl)
              have gx_48 : x_48.toInt = (oI Z o 2).toInt := iv_to ex_48
              clear ex_48
              refine lv_bipush (v := 40) hx hb dX10_man_47 (by decide) ?_
              refine lv_icmp_lt (tgt := 59) hx hb dX10_man_49 (by decide) (fun c_49 => ?_) (fun c_49 => ?_)
              · have dc_49 := c_lt (a := x_48.toInt) (b := 40) rfl (by decide) c_49
                refine lv_aload_n hx hb dX10_man_59 rfl (lv_at hl 0 rfl) ?_
                obtain ⟨b_50, hb_50⟩ := oInv.nn (i := 1) gI to rfl
                refine va_get (D := (dC, dI)) (ci := 10) (v := .ref b_50) (C := RX10) (T := TX10) (N := 16) hx hb hts in_wsX10_man_X10 hown hK hP q_38 hq_38 rfl 1 (by decide) (hts (.fieldLink RX10 11 "ShipOffice" "men" "[LShipOffice$Man;") iw_X10_man_3) (fun _ h9 => h9) (o_rd hb_50) dX10_man_60 ?_
                have tb_50 : oty Z b_50 14 := oInv.rd gI to.2 hb_50 rfl rfl
                refine lv_aload_n hx hb dX10_man_63 rfl (lv_at hl 0 rfl) ?_
                refine va_get (D := (dC, dI)) (ci := 10) (v := .int (oI Z o 2)) (C := RX10) (T := TX10) (N := 16) hx hb hts in_wsX10_man_X10 hown hK hP q_38 hq_38 rfl 2 (by decide) (hts (.fieldLink RX10 86 "ShipOffice" "manCount" "I") iw_X10_man_2) (fun _ h9 => h9) rfl dX10_man_64 ?_
                refine lv_topi (fun x_51 ex_51 => ?_)
                have hx_51 : 0 ≤ x_51.toInt ∧ x_51.toInt ≤ 40 := iv_of ex_51 (oInv.iv gI to.2 rfl rfl)
                have gx_51 : x_51.toInt = (oI Z o 2).toInt := iv_to ex_51
                clear ex_51
                refine va_new (ci := 6) (fs := [.int 0, .int 0, .int 0, .int 0, .null, .int 0]) (C := RX6) (T := TX6) (N := 6) hx hb hts in_wsX10_man_X6 tyX6 tyX6_ok hown (hts (.classLink RX10 9 RX6) iw_X10_man_4) (hts (.instantiable RX6 6) iw_X10_man_5) (hts (.initialized RX6) iw_X10_man_6) hK hP hD hS hA rfl (fun j hj => by rcases (show j = 0 ∨ j = 1 ∨ j = 2 ∨ j = 3 ∨ j = 4 ∨ j = 5 by omega) with rfl | rfl | rfl | rfl | rfl | rfl <;> rfl) (Nat.le_of_ble_eq_true rfl) (Nat.le_of_ble_eq_true rfl) dX10_man_67 (fun q_52 H hP1 hD1 hS => ?_)
                have hnq_52 := add_q hD1
                obtain ⟨S_53, eS_53⟩ : ∃ zq, zq = addO Z q_52 36 := ⟨_, rfl⟩
                have hP : va_P (dC, dI) vwCl (oW cq S_53) H := by rw [eS_53]; exact cP (onew hD1 (by rw [oE_36 add_K, add_I, add_P]; rfl)) hP1
                have hD : va_D A (oW cq S_53) := by rw [eS_53]; exact cD (onew hD1 (by rw [oE_36 add_K, add_I, add_P]; rfl)) hD1
                clear hP1 hD1
                have hIS_53 : oInv S_53 := by rw [eS_53]; exact oInv.add gI hnq_52 (by decide)
                have XS_53 : oX [] Z S_53 := by rw [eS_53]; exact oX.add hnq_52
                have nzq_52 : q_52 ∉ oL Z := hnq_52
                have sr_54 : oP S_53 o 1 = some b_50 := by rw [eS_53, add_Pn hnq_52 to.1]; exact hb_50
                have g_55 : (oI S_53 o 0).toInt = (oI Z o 0).toInt := by rw [eS_53, add_In hnq_52 to.1]
                have g_56 : (oI S_53 o 2).toInt = (oI Z o 2).toInt := by rw [eS_53, add_In hnq_52 to.1]
                have X_57 : oX [605, 1002, 2014, 2107] Z S_53 := oX.st oX.rf XS_53 (by decide)
                have tq_52 : oty S_53 q_52 36 := by rw [eS_53]; exact add_ty
                refine W.widen (k := 1) (n := 6) (Nat.le_of_ble_eq_true rfl) (Nat.le_of_ble_eq_true rfl) ?_
                refine lv_dup hx hb dX10_man_70 rfl ?_
                refine lv_aload_n hx hb dX10_man_71 rfl (lv_at hl 0 rfl) ?_
                have t_58 : oty S_53 o 10 := (oX.ty XS_53 to)
                obtain ⟨q_59, hq_59⟩ := og (cq := cq) t_58.1 (oE_10 t_58.2)
                refine va_get (D := (dC, dI)) (ci := 10) (v := .int (oI S_53 o 2)) (C := RX10) (T := TX10) (N := 16) hx hb hts in_wsX10_man_X10 hown hK hP q_59 hq_59 rfl 2 (by decide) (hts (.fieldLink RX10 86 "ShipOffice" "manCount" "I") iw_X10_man_2) (fun _ h9 => h9) rfl dX10_man_72 ?_
                refine lv_topi (fun x_60 ex_60 => ?_)
                have hx_60 : 0 ≤ x_60.toInt ∧ x_60.toInt ≤ 40 := iv_of ex_60 (oInv.iv hIS_53 t_58.2 rfl rfl)
                have gx_60 : x_60.toInt = (oI S_53 o 2).toInt := iv_to ex_60
                clear ex_60
                refine lv_iload_n hx hb dX10_man_75 rfl (lv_at hl 1 rfl) ?_
                refine lv_iload_n hx hb dX10_man_76 rfl (lv_at hl 2 rfl) ?_
                refine lv_iload_n hx hb dX10_man_77 rfl (lv_at hl 3 rfl) ?_
                have hFc := o_free hD hS hA
                refine va_callv (va_runI (As := [.int x_60, .int x1, .int x2, .int x3]) (rest := [.ref q_52, .int x_51, .ref b_50]) ⟨hx, hb, hml, hown, hts⟩ (c_X6_init l dC dI H.size cq S_53 hIS_53 q_52 tq_52 x_60 x1 x2 x3) (cwI 4 hts gX10_man_X6_init rfl rfl rfl (hts (.initialized RX6) iw_X10_man_6) (hts (.methodLink RX10 89 yX6_init) iw_X10_man_7) (hts (.instanceMethod yX6_init) iw_X10_man_8) rfl (by decide +kernel) ⟨(Nat.le_of_ble_eq_true rfl), (Nat.le_of_ble_eq_true rfl)⟩) (pr_S hP hK hD) rfl rfl hl.1 rfl (lv_room (Nat.le_of_ble_eq_true rfl)) dX10_man_78 ⟨(Nat.le_of_ble_eq_true rfl), (Nat.le_of_ble_eq_true rfl)⟩) hS (fun q _ h => hFc q h) hFc (fun u t H locs ht hvm w_61 hB hz1 hk1 hS => ?_)
                obtain ⟨S_63, rfl⟩ : ∃ z, z = u := ⟨_, rfl⟩
                obtain ⟨hP1, hK1, hD1⟩ := hB
                rw [ht] at hP1
                have hP : va_P (dC, dI) vwCl (oW cq S_63) H := hP1
                have hD : va_D A (oW cq S_63) := hD1.weaken (fun _ _ _ h => hFc _ h)
                clear hP1 hK1 hD1 hk1 hz1 hvm ht hFc
                refine W.widen (k := 2) (n := 10) (Nat.le_of_ble_eq_true rfl) (Nat.le_of_ble_eq_true rfl) ?_
                obtain ⟨hIS_63, XS_63, hx_64⟩ := w_61
                obtain ⟨hxS_63, hcS_63⟩ := hx_64
                have X_65 : oX [605, 1002, 2014, 2107] Z S_63 := oX.c X_57 XS_63 nzq_52 (by decide)
                have sr_66 : oP S_63 o 1 = some b_50 := by rw [oXc.p XS_63 (ty_ne t_58 tq_52 (by decide)) t_58 (by decide)]; exact sr_54
                have g_67 : (oI S_63 o 0).toInt = (oI S_53 o 0).toInt := by rw [oXc.i XS_63 (ty_ne t_58 tq_52 (by decide)) t_58 (by decide)]
                have g_68 : (oI S_63 o 2).toInt = (oI S_53 o 2).toInt := by rw [oXc.i XS_63 (ty_ne t_58 tq_52 (by decide)) t_58 (by decide)]
                obtain ⟨b_69, hb_69, hnb_69, hfb_69⟩ := hcS_63
                have tb_69 : oty S_63 b_69 104 := oInv.rd hIS_63 hxS_63.2 hb_69 rfl rfl
                have nzb_69 : b_69 ∉ oL Z := oX.nin X_57 hnb_69
                have t_70 : oty S_63 b_50 14 := (oXc.ty XS_63 (ty_ne (oX.ty XS_53 tb_50) tq_52 (by decide)) (oX.ty XS_53 tb_50))
                obtain ⟨q_71, hq_71⟩ := og (cq := cq) t_70.1 (oE_14 t_70.2)
                obtain ⟨q_72, hq_72⟩ := og (cq := cq) hxS_63.1 (oE_6 hxS_63.2)
                refine va_astq (r := (RX6, TX6, 6)) hx hb hK hP hD hS q_71 3 q_72 6 hq_71 rfl hq_72 rfl (vp_in_iff.mpr (by omega)) dX10_man_81 (fun H locs hP1 hD1 hS => ?_)
                obtain ⟨S_73, eS_73⟩ : ∃ zq, zq = setP S_63 b_50 (x_51 : Int32).toNatClampNeg (some q_52) := ⟨_, rfl⟩
                have hP : va_P (dC, dI) vwCl (oW cq S_73) H := by rw [eS_73]; exact cP (oset t_70.1 hq_71 hD rfl (he_14 t_70.2) neP) hP1
                have hD : va_D A (oW cq S_73) := by rw [eS_73]; exact cD (oset t_70.1 hq_71 hD rfl (he_14 t_70.2) neP) hD1
                clear hP1 hD1
                have hIS_73 : oInv S_73 := by rw [eS_73]; exact oInv.P (k := 14) hIS_63 t_70.2 (by decide) rfl (fun h => absurd h.1 (by decide)) hxS_63 (show 6 ≤ 6 ∧ 6 ≤ 6 from ⟨Nat.le_refl _, Nat.le_refl _⟩)
                have XS_73 : oX [2014] S_63 S_73 := by rw [eS_73]; exact oX.P (k := 14) (key := 2014) t_70.2 rfl (List.mem_singleton.mpr rfl)
                have pk_74 : oP S_73 q_52 4 = some b_69 := by rw [eS_73, setP_oth (ty_ne hxS_63 t_70 (by decide))]; exact hb_69
                have zf_75 : oI S_73 b_69 = fun _ => 0 := by rw [eS_73]; exact hfb_69
                have X_76 : oX [605, 1002, 2014, 2107] Z S_73 := oX.st X_65 XS_73 (by decide)
                have g_77 : (oI S_73 o 0).toInt = (oI S_63 o 0).toInt := by rw [eS_73]; rfl
                have g_78 : (oI S_73 o 2).toInt = (oI S_63 o 2).toInt := by rw [eS_73]; rfl
                have helS_73 : oP S_73 b_50 (x_51 : Int32).toNatClampNeg = some q_52 := by rw [eS_73, setP_same]
                have hsrS_73 : oP S_73 o 1 = some b_50 := by rw [eS_73, setP_oth (ty_ne (oXc.ty XS_63 (ty_ne t_58 tq_52 (by decide)) t_58) t_70 (by decide))]; exact sr_66
                refine lv_aload_n hx hb dX10_man_82 rfl (lv_at hl 0 rfl) ?_
                refine lv_dup hx hb dX10_man_83 rfl ?_
                have t_79 : oty S_73 o 10 := (oX.ty XS_73 (oXc.ty XS_63 (ty_ne t_58 tq_52 (by decide)) t_58))
                obtain ⟨q_80, hq_80⟩ := og (cq := cq) t_79.1 (oE_10 t_79.2)
                refine va_get (D := (dC, dI)) (ci := 10) (v := .int (oI S_73 o 2)) (C := RX10) (T := TX10) (N := 16) hx hb hts in_wsX10_man_X10 hown hK hP q_80 hq_80 rfl 2 (by decide) (hts (.fieldLink RX10 86 "ShipOffice" "manCount" "I") iw_X10_man_2) (fun _ h9 => h9) rfl dX10_man_84 ?_
                refine lv_topi (fun x_81 ex_81 => ?_)
                have hx_81 : 0 ≤ x_81.toInt ∧ x_81.toInt ≤ 40 := iv_of ex_81 (oInv.iv hIS_73 t_79.2 rfl rfl)
                have gx_81 : x_81.toInt = (oI S_73 o 2).toInt := iv_to ex_81
                clear ex_81
                refine lv_iconst (v := 1) hx hb dX10_man_87 (by decide) ?_
                refine lv_iadd hx hb dX10_man_88 ?_
                refine lv_topi (fun x_82 ex_82 => ?_)
                have hx_82 : x_82.toInt = x_81.toInt + 1 := (iv_to ex_82).trans (ad_i rfl (by decide) (by omega) (by omega))
                clear ex_82
                refine va_put (D := (dC, dI)) (ci := 10) (v := .int x_82) (ty := .int) (C := RX10) (T := TX10) (N := 16) hx hb hts in_wsX10_man_X10 tyX10 tyX10_ok nmX10 hown hK hP hD hS q_80 hq_80 rfl 2 (by decide) (hts (.fieldLink RX10 86 "ShipOffice" "manCount" "I") iw_X10_man_2) (fun _ h9 => h9) rfl (by decide +kernel) rfl rfl (Nat.le_of_ble_eq_true rfl) dX10_man_89 (fun H locs hP1 hD1 hS => ?_)
                obtain ⟨S_83, eS_83⟩ : ∃ zq, zq = setI S_73 o 2 x_82 := ⟨_, rfl⟩
                have hP : va_P (dC, dI) vwCl (oW cq S_83) H := by rw [eS_83]; exact cP (oset t_79.1 hq_80 hD rfl (he_10_2 t_79.2) neI) hP1
                have hD : va_D A (oW cq S_83) := by rw [eS_83]; exact cD (oset t_79.1 hq_80 hD rfl (he_10_2 t_79.2) neI) hD1
                clear hP1 hD1
                have hIS_83 : oInv S_83 := by rw [eS_83]; exact oInv.I (k := 10) (lo := 0) (hi := 40) hIS_73 t_79.2 (by decide) rfl rfl (by omega) (inv_cnt hIS_73 t_79 rfl hsrS_73 (by omega) (by omega) ⟨_, by rw [← cnt_at (x := x_51) (S := S_73) (a := o) (i := 2) (by omega)]; exact helS_73⟩)
                have XS_83 : oX [1002] S_73 S_83 := by rw [eS_83]; exact oX.I (k := 10) (key := 1002) t_79.2 rfl (List.mem_singleton.mpr rfl)
                have pk_84 : oP S_83 q_52 4 = some b_69 := by rw [eS_83]; exact pk_74
                have zf_85 : oI S_83 b_69 = fun _ => 0 := by rw [eS_83, setI_oth (ty_ne (oX.ty XS_73 tb_69) t_79 (by decide))]; exact zf_75
                have X_86 : oX [605, 1002, 2014, 2107] Z S_83 := oX.st X_76 XS_83 (by decide)
                have g_87 : (oI S_83 o 0).toInt = (oI S_73 o 0).toInt := by rw [eS_83, setI_ne (by decide)]
                have g_88 : (oI S_83 o 2).toInt = x_82.toInt := by rw [eS_83, setI_same]
                refine lv_aload_n hx hb dX10_man_92 rfl (lv_at hl 0 rfl) ?_
                refine lv_aload_n hx hb dX10_man_93 rfl (lv_at hl 0 rfl) ?_
                have t_89 : oty S_83 o 10 := (oX.ty XS_83 t_79)
                obtain ⟨q_90, hq_90⟩ := og (cq := cq) t_89.1 (oE_10 t_89.2)
                obtain ⟨b_91, hb_91⟩ := oInv.nn (i := 1) hIS_83 t_89 rfl
                refine va_get (D := (dC, dI)) (ci := 10) (v := .ref b_91) (C := RX10) (T := TX10) (N := 16) hx hb hts in_wsX10_man_X10 hown hK hP q_90 hq_90 rfl 1 (by decide) (hts (.fieldLink RX10 11 "ShipOffice" "men" "[LShipOffice$Man;") iw_X10_man_3) (fun _ h9 => h9) (o_rd hb_91) dX10_man_94 ?_
                have tb_91 : oty S_83 b_91 14 := oInv.rd hIS_83 t_89.2 hb_91 rfl rfl
                refine lv_aload_n hx hb dX10_man_97 rfl (lv_at hl 0 rfl) ?_
                refine va_get (D := (dC, dI)) (ci := 10) (v := .int (oI S_83 o 2)) (C := RX10) (T := TX10) (N := 16) hx hb hts in_wsX10_man_X10 hown hK hP q_90 hq_90 rfl 2 (by decide) (hts (.fieldLink RX10 86 "ShipOffice" "manCount" "I") iw_X10_man_2) (fun _ h9 => h9) rfl dX10_man_98 ?_
                refine lv_topi (fun x_92 ex_92 => ?_)
                have hx_92 : 0 ≤ x_92.toInt ∧ x_92.toInt ≤ 40 := iv_of ex_92 (oInv.iv hIS_83 t_89.2 rfl rfl)
                have gx_92 : x_92.toInt = (oI S_83 o 2).toInt := iv_to ex_92
                clear ex_92
                refine lv_iconst (v := 1) hx hb dX10_man_101 (by decide) ?_
                refine lv_isub hx hb dX10_man_102 ?_
                refine lv_topi (fun x_93 ex_93 => ?_)
                have hx_93 : x_93.toInt = x_92.toInt - 1 := (iv_to ex_93).trans (sb_i rfl (by decide) (by omega) (by omega))
                clear ex_93
                obtain ⟨q_94, hq_94⟩ := og (cq := cq) tb_91.1 (oE_14 tb_91.2)
                refine va_aldq hx hb hK hP q_94 3 hq_94 rfl (vp_in_iff.mpr (by omega)) dX10_man_103 ?_
                obtain ⟨b_95, hb_95⟩ := oInv.el (i := 2) (x := x_93) hIS_83 t_89 rfl hb_91 (by omega) (by omega)
                refine W.eq (g2 := F0 m 104 ls [.ref b_95, .ref o]) (congrArg (fun z => F0 m 104 ls [va_rf z, .ref o]) hb_95) ?_
                have tb_95 : oty S_83 b_95 6 := oInv.rd hIS_83 tb_91.2 hb_95 rfl rfl
                have hFc := o_free hD hS hA
                refine va_callv (va_runV (As := [.ref b_95]) (rest := []) ⟨hx, hb, hml, hown, hts⟩ (c_X10_joinGroups l dC dI H.size cq S_83 hIS_83 o t_89 b_95 tb_95) (cwV 1 hts gX10_man_X10_joinGroups rfl rfl rfl (by decide +kernel) ⟨(Nat.le_of_ble_eq_true rfl), (Nat.le_of_ble_eq_true rfl)⟩) (pr_V (r := (RX10, TX10, 16)) hP hK hD q_90 10 rfl hq_90) rfl rfl hl.1 rfl (lv_room (Nat.le_of_ble_eq_true rfl)) dX10_man_104 ⟨(Nat.le_of_ble_eq_true rfl), (Nat.le_of_ble_eq_true rfl)⟩) hS (fun q _ h => hFc q h) hFc (fun u t H locs ht hvm w_96 hB hz1 hk1 hS => ?_)
                obtain ⟨S_98, rfl⟩ : ∃ z, z = u := ⟨_, rfl⟩
                obtain ⟨hP1, hK1, hD1⟩ := hB
                rw [ht] at hP1
                have hP : va_P (dC, dI) vwCl (oW cq S_98) H := hP1
                have hD : va_D A (oW cq S_98) := hD1.weaken (fun _ _ _ h => hFc _ h)
                clear hP1 hK1 hD1 hk1 hz1 hvm ht hFc
                obtain ⟨hIS_98, XS_98⟩ := w_96
                have X_99 : oX [605, 1002, 2014, 2107] Z S_98 := oX.st X_86 XS_98 (by decide)
                refine lv_aload_n hx hb dX10_man_107 rfl (lv_at hl 0 rfl) ?_
                have t_100 : oty S_98 o 10 := (oX.ty XS_98 t_89)
                obtain ⟨q_101, hq_101⟩ := og (cq := cq) t_100.1 (oE_10 t_100.2)
                refine va_get (D := (dC, dI)) (ci := 10) (v := .int (oI S_98 o 2)) (C := RX10) (T := TX10) (N := 16) hx hb hts in_wsX10_man_X10 hown hK hP q_101 hq_101 rfl 2 (by decide) (hts (.fieldLink RX10 86 "ShipOffice" "manCount" "I") iw_X10_man_2) (fun _ h9 => h9) rfl dX10_man_108 ?_
                refine lv_topi (fun x_102 ex_102 => ?_)
                have hx_102 : 0 ≤ x_102.toInt ∧ x_102.toInt ≤ 40 := iv_of ex_102 (oInv.iv hIS_98 t_100.2 rfl rfl)
                have gx_102 : x_102.toInt = (oI S_98 o 2).toInt := iv_to ex_102
                clear ex_102
                refine lv_iconst (v := 1) hx hb dX10_man_111 (by decide) ?_
                refine lv_isub hx hb dX10_man_112 ?_
                refine lv_topi (fun x_103 ex_103 => ?_)
                have hx_103 : x_103.toInt = x_102.toInt - 1 := (iv_to ex_103).trans (sb_i rfl (by decide) (by omega) (by omega))
                clear ex_103
                exact W.iret (v := x_103) hx hb hr (fun t ht hW => ⟨⟨x_103, S_98, rfl, ⟨hIS_98, X_99⟩, ⟨by rw [ht]; exact hP, va_K.moved hW.alike hK, hD⟩⟩, hS.F ht⟩) hS.2.2 dX10_man_113
              · have dc_49 := c_nlt (a := x_48.toInt) (b := 40) rfl (by decide) c_49
                refine lv_aload_n hx hb dX10_man_52 rfl (lv_at hl 0 rfl) ?_
                refine lv_bipush (v := (-6)) hx hb dX10_man_53 (by decide) ?_
                have hFc := o_free hD hS hA
                refine va_calli (va_runV (As := [.int (-6)]) (rest := []) ⟨hx, hb, hml, hown, hts⟩ (c_X10_refuse l dC dI s.heap.size cq Z gI o to (-6) (by decide)) (cwV 1 hts gX10_man_X10_refuse rfl rfl rfl (by decide +kernel) ⟨(Nat.le_of_ble_eq_true rfl), (Nat.le_of_ble_eq_true rfl)⟩) (pr_V (r := (RX10, TX10, 16)) hP hK hD q_38 10 rfl hq_38) rfl rfl hl.1 rfl (lv_room (Nat.le_of_ble_eq_true rfl)) dX10_man_55 ⟨(Nat.le_of_ble_eq_true rfl), (Nat.le_of_ble_eq_true rfl)⟩) hS (fun q _ h => hFc q h) hFc (fun r_105 u t H locs ht hvm w_104 hB hz1 hk1 hS => ?_)
                obtain ⟨S_106, rfl⟩ : ∃ z, z = u := ⟨_, rfl⟩
                obtain ⟨hP1, hK1, hD1⟩ := hB
                rw [ht] at hP1
                have hP : va_P (dC, dI) vwCl (oW cq S_106) H := hP1
                have hD : va_D A (oW cq S_106) := hD1.weaken (fun _ _ _ h => hFc _ h)
                clear hP1 hK1 hD1 hk1 hz1 hvm ht hFc
                obtain ⟨hIS_106, XS_106, hb_107, hx_108⟩ := w_104
                have X_109 : oX [605, 1002, 2014, 2107] Z S_106 := oX.st oX.rf XS_106 (by decide)
                have rf_110 : r_105.toInt = -6 := by rw [hx_108]; decide
                refine W.widen (k := 2) (n := 10) (Nat.le_of_ble_eq_true rfl) (Nat.le_of_ble_eq_true rfl) ?_
                exact W.iret (v := r_105) hx hb hr (fun t ht hW => ⟨⟨r_105, S_106, rfl, ⟨hIS_106, X_109⟩, ⟨by rw [ht]; exact hP, va_K.moved hW.alike hK, hD⟩⟩, hS.F ht⟩) hS.2.2 dX10_man_58
      · have dc_19 := c_nle (a := (-30000)) (b := x3.toInt) (by decide) rfl c_19
        refine lv_aload_n hx hb dX10_man_15 rfl (lv_at hl 0 rfl) ?_
        refine lv_bipush (v := (-4)) hx hb dX10_man_16 (by decide) ?_
        have hFc := o_free hD hS hA
        obtain ⟨q_111, hq_111⟩ := og (cq := cq) to.1 (oE_10 to.2)
        refine va_calli (va_runV (As := [.int (-4)]) (rest := []) ⟨hx, hb, hml, hown, hts⟩ (c_X10_refuse l dC dI s.heap.size cq Z gI o to (-4) (by decide)) (cwV 1 hts gX10_man_X10_refuse rfl rfl rfl (by decide +kernel) ⟨(Nat.le_of_ble_eq_true rfl), (Nat.le_of_ble_eq_true rfl)⟩) (pr_V (r := (RX10, TX10, 16)) hP hK hD q_111 10 rfl hq_111) rfl rfl hl.1 rfl (lv_room (Nat.le_of_ble_eq_true rfl)) dX10_man_18 ⟨(Nat.le_of_ble_eq_true rfl), (Nat.le_of_ble_eq_true rfl)⟩) hS (fun q _ h => hFc q h) hFc (fun r_113 u t H locs ht hvm w_112 hB hz1 hk1 hS => ?_)
        obtain ⟨S_114, rfl⟩ : ∃ z, z = u := ⟨_, rfl⟩
        obtain ⟨hP1, hK1, hD1⟩ := hB
        rw [ht] at hP1
        have hP : va_P (dC, dI) vwCl (oW cq S_114) H := hP1
        have hD : va_D A (oW cq S_114) := hD1.weaken (fun _ _ _ h => hFc _ h)
        clear hP1 hK1 hD1 hk1 hz1 hvm ht hFc
        obtain ⟨hIS_114, XS_114, hb_115, hx_116⟩ := w_112
        have X_117 : oX [605, 1002, 2014, 2107] Z S_114 := oX.st oX.rf XS_114 (by decide)
        have rf_118 : r_113.toInt = -4 := by rw [hx_116]; decide
        refine W.widen (k := 2) (n := 10) (Nat.le_of_ble_eq_true rfl) (Nat.le_of_ble_eq_true rfl) ?_
        exact W.iret (v := r_113) hx hb hr (fun t ht hW => ⟨⟨r_113, S_114, rfl, ⟨hIS_114, X_117⟩, ⟨by rw [ht]; exact hP, va_K.moved hW.alike hK, hD⟩⟩, hS.F ht⟩) hS.2.2 dX10_man_21
set_option maxHeartbeats 4000000 in
set_option maxRecDepth 100000 in
theorem c_X10_voyage (l : Launch) (dC : Nat → ClassId) (dI : Nat → Nat → Nat) (sz : Nat) (cq : Nat → ClassId) (Z : oS) (gI : oInv Z) (o : Nat) (to : oty Z o 10) (x1 : Int32) (x2 : Int32) : Met l yX10_voyage wsX10_voyage ({ frames := 2, cells := 1, slots := 10, locals := 38 }) (va_Pc [.ref o, .int x1, .int x2] (pcW (dC, dI) (oT cq) (oW cq Z) sz)) (va_Qi (fun (r : Int32) (u : oS) => oInv u ∧ oX [1004, 2015, 2107] Z u) (fun u t => va_P (dC, dI) vwCl (oW cq u) t.heap ∧ va_K (dC, dI) vwCl (oT cq) t ∧ va_D (va_A (oW cq Z) sz) (oW cq u)) (va_A (oW cq Z) sz)) 1 10 (va_A (oW cq Z) sz) := by
  refine Met.ofW (cc := cX10_voyage) (maxL := 3) (ret := (some .int)) (by decide) rfl ?_
  intro p e s m args below meth c s₁ B hml hv
  obtain ⟨rfl, hsz, hP, hK, hD0⟩ := hv
  have hx := B.exec
  have hb := B.bytes
  have hr := B.returns
  have hts := atoms_spec (ws := wsX10_voyage) B.pre
  have hown : s.vm.findClass RX10 = some m.cls := findClass_of_methodNamed B.named
  have hlocks := B.notSynchronized
  subst hsz
  have hD := hD0.self (sz := s.heap.size)
  generalize hAe : va_A (oW cq Z) s.heap.size = A at hD ⊢
  have hA : ∀ q : Nat, s.heap.size ≤ q → A q := fun q h => by rw [← hAe]; exact Or.inr h
  have hS : va_S A s.heap s.heap [] := va_S.rf
  have hP : va_P (dC, dI) vwCl (oW cq Z) s.heap := hP
  have hl := lv_entry ([.ref o, .int x1, .int x2]) (n := 3) (Nat.le_of_ble_eq_true rfl)
  rw [lg_entry_eq]
  generalize (lg_sl ([.ref o, .int x1, .int x2]) ++ List.replicate (3 - (lg_sl ([.ref o, .int x1, .int x2])).length) Slot.unset).toArray = ls at hl ⊢
  have hl : lv_has ls 3 [(0, .ref o), (1, .int x1), (2, .int x2)] := hl
  refine lv_iload_n hx hb dX10_voyage_0 rfl (lv_at hl 1 rfl) ?_
  refine lv_if_lt (tgt := 17) hx hb dX10_voyage_1 (by decide) (fun c_1 => ?_) (fun c_1 => ?_)
  · have dc_1 := c_lt (a := x1.toInt) (b := 0) rfl (by decide) c_1
    refine lv_aload_n hx hb dX10_voyage_17 rfl (lv_at hl 0 rfl) ?_
    refine lv_iconst (v := (-1)) hx hb dX10_voyage_18 (by decide) ?_
    have hFc := o_free hD hS hA
    obtain ⟨q_2, hq_2⟩ := og (cq := cq) to.1 (oE_10 to.2)
    refine va_calli (va_runV (As := [.int (-1)]) (rest := []) ⟨hx, hb, hml, hown, hts⟩ (c_X10_refuse l dC dI s.heap.size cq Z gI o to (-1) (by decide)) (cwV 1 hts gX10_voyage_X10_refuse rfl rfl rfl (by decide +kernel) ⟨(Nat.le_of_ble_eq_true rfl), (Nat.le_of_ble_eq_true rfl)⟩) (pr_V (r := (RX10, TX10, 16)) hP hK hD q_2 10 rfl hq_2) rfl rfl hl.1 rfl (lv_room (Nat.le_of_ble_eq_true rfl)) dX10_voyage_19 ⟨(Nat.le_of_ble_eq_true rfl), (Nat.le_of_ble_eq_true rfl)⟩) hS (fun q _ h => hFc q h) hFc (fun r_4 u t H locs ht hvm w_3 hB hz1 hk1 hS => ?_)
    obtain ⟨S_5, rfl⟩ : ∃ z, z = u := ⟨_, rfl⟩
    obtain ⟨hP1, hK1, hD1⟩ := hB
    rw [ht] at hP1
    have hP : va_P (dC, dI) vwCl (oW cq S_5) H := hP1
    have hD : va_D A (oW cq S_5) := hD1.weaken (fun _ _ _ h => hFc _ h)
    clear hP1 hK1 hD1 hk1 hz1 hvm ht hFc
    obtain ⟨hIS_5, XS_5, hb_6, hx_7⟩ := w_3
    have X_8 : oX [1004, 2015, 2107] Z S_5 := oX.st oX.rf XS_5 (by decide)
    have rf_9 : r_4.toInt = -1 := by rw [hx_7]; decide
    refine W.widen (k := 1) (n := 10) (Nat.le_of_ble_eq_true rfl) (Nat.le_of_ble_eq_true rfl) ?_
    exact W.iret (v := r_4) hx hb hr (fun t ht hW => ⟨⟨r_4, S_5, rfl, ⟨hIS_5, X_8⟩, ⟨by rw [ht]; exact hP, va_K.moved hW.alike hK, hD⟩⟩, hS.F ht⟩) hS.2.2 dX10_voyage_22
  · have dc_1 := c_nlt (a := x1.toInt) (b := 0) rfl (by decide) c_1
    refine lv_iload_n hx hb dX10_voyage_4 rfl (lv_at hl 1 rfl) ?_
    refine lv_bipush (v := 10) hx hb dX10_voyage_5 (by decide) ?_
    refine lv_icmp_ge (tgt := 17) hx hb dX10_voyage_7 (by decide) (fun c_10 => ?_) (fun c_10 => ?_)
    · have dc_10 := c_le (a := 10) (b := x1.toInt) (by decide) rfl c_10
      refine lv_aload_n hx hb dX10_voyage_17 rfl (lv_at hl 0 rfl) ?_
      refine lv_iconst (v := (-1)) hx hb dX10_voyage_18 (by decide) ?_
      have hFc := o_free hD hS hA
      obtain ⟨q_11, hq_11⟩ := og (cq := cq) to.1 (oE_10 to.2)
      refine va_calli (va_runV (As := [.int (-1)]) (rest := []) ⟨hx, hb, hml, hown, hts⟩ (c_X10_refuse l dC dI s.heap.size cq Z gI o to (-1) (by decide)) (cwV 1 hts gX10_voyage_X10_refuse rfl rfl rfl (by decide +kernel) ⟨(Nat.le_of_ble_eq_true rfl), (Nat.le_of_ble_eq_true rfl)⟩) (pr_V (r := (RX10, TX10, 16)) hP hK hD q_11 10 rfl hq_11) rfl rfl hl.1 rfl (lv_room (Nat.le_of_ble_eq_true rfl)) dX10_voyage_19 ⟨(Nat.le_of_ble_eq_true rfl), (Nat.le_of_ble_eq_true rfl)⟩) hS (fun q _ h => hFc q h) hFc (fun r_13 u t H locs ht hvm w_12 hB hz1 hk1 hS => ?_)
      obtain ⟨S_14, rfl⟩ : ∃ z, z = u := ⟨_, rfl⟩
      obtain ⟨hP1, hK1, hD1⟩ := hB
      rw [ht] at hP1
      have hP : va_P (dC, dI) vwCl (oW cq S_14) H := hP1
      have hD : va_D A (oW cq S_14) := hD1.weaken (fun _ _ _ h => hFc _ h)
      clear hP1 hK1 hD1 hk1 hz1 hvm ht hFc
      obtain ⟨hIS_14, XS_14, hb_15, hx_16⟩ := w_12
      have X_17 : oX [1004, 2015, 2107] Z S_14 := oX.st oX.rf XS_14 (by decide)
      have rf_18 : r_13.toInt = -1 := by rw [hx_16]; decide
      refine W.widen (k := 1) (n := 10) (Nat.le_of_ble_eq_true rfl) (Nat.le_of_ble_eq_true rfl) ?_
      exact W.iret (v := r_13) hx hb hr (fun t ht hW => ⟨⟨r_13, S_14, rfl, ⟨hIS_14, X_17⟩, ⟨by rw [ht]; exact hP, va_K.moved hW.alike hK, hD⟩⟩, hS.F ht⟩) hS.2.2 dX10_voyage_22
    · have dc_10 := c_nle (a := 10) (b := x1.toInt) (by decide) rfl c_10
      refine lv_iload_n hx hb dX10_voyage_10 rfl (lv_at hl 2 rfl) ?_
      have hFc : ∀ q, va_A [] s.heap.size q → A q := pu_free hS hA
      have hPc := hP.sub (ws' := []) [] rfl
      have hDc := hD.sub (ws' := []) [] (by decide) rfl
      have hKc := hK.sub (tys' := []) [] rfl
      refine va_calli (va_runS (As := [.int x2]) (rest := []) ⟨hx, hb, hml, hown, hts⟩ (c_X10_isPort l dC dI s.heap.size  x2) (va_cwS 1 hts gX10_voyage_X10_isPort rfl rfl rfl (by decide +kernel) ⟨(Nat.le_of_ble_eq_true rfl), (Nat.le_of_ble_eq_true rfl)⟩) (pr_S hPc hKc hDc) rfl rfl hl.1 rfl (lv_room (Nat.le_of_ble_eq_true rfl)) dX10_voyage_11 ⟨(Nat.le_of_ble_eq_true rfl), (Nat.le_of_ble_eq_true rfl)⟩) hS (fun q _ h => hFc q h) hFc (fun r_20 u t H locs ht hvm w_19 hB hz1 hk1 hS => ?_)
      have hP := pu_keep hP hk1
      clear hk1 hz1 hvm hB ht hFc hPc hDc hKc
      obtain ⟨hb_21, hx_22⟩ := w_19
      refine lv_if_ne (tgt := 23) hx hb dX10_voyage_14 (by decide) (fun c_23 => ?_) (fun c_23 => ?_)
      · have dc_23 := c_ne (a := r_20.toInt) (b := 0) rfl (by decide) c_23
        have hi_24 := Or.resolve_left hx_22 c_23
        refine lv_aload_n hx hb dX10_voyage_23 rfl (lv_at hl 0 rfl) ?_
        refine lv_iload_n hx hb dX10_voyage_24 rfl (lv_at hl 1 rfl) ?_
        have hFc : ∀ q, va_A [] H.size q → A q := pu_free hS hA
        obtain ⟨q_25, hq_25⟩ := og (cq := cq) to.1 (oE_10 to.2)
        refine va_calli (va_runV (As := [.int x1]) (rest := []) ⟨hx, hb, hml, hown, hts⟩ (c_X10_hasVoyage l dC dI H.size cq Z gI o to x1) (cwV 1 hts gX10_voyage_X10_hasVoyage rfl rfl rfl (by decide +kernel) ⟨(Nat.le_of_ble_eq_true rfl), (Nat.le_of_ble_eq_true rfl)⟩) (pr_V (r := (RX10, TX10, 16)) hP hK hD q_25 10 rfl hq_25) rfl rfl hl.1 rfl (lv_room (Nat.le_of_ble_eq_true rfl)) dX10_voyage_25 ⟨(Nat.le_of_ble_eq_true rfl), (Nat.le_of_ble_eq_true rfl)⟩) hS (fun q _ h => hFc q h) hFc (fun r_27 u t H locs ht hvm w_26 hB hz1 hk1 hS => ?_)
        have hP := pu_keep hP hk1
        clear hk1 hz1 hvm hB ht hFc
        have hb_28 := w_26
        refine lv_if_eq (tgt := 38) hx hb dX10_voyage_28 (by decide) (fun c_29 => ?_) (fun c_29 => ?_)
        · have dc_29 := c_eq (a := r_27.toInt) (b := 0) rfl (by decide) c_29
          refine lv_aload_n hx hb dX10_voyage_38 rfl (lv_at hl 0 rfl) ?_
          refine va_get (D := (dC, dI)) (ci := 10) (v := .int (oI Z o 4)) (C := RX10) (T := TX10) (N := 16) hx hb hts in_wsX10_voyage_X10 hown hK hP q_25 hq_25 rfl 4 (by decide) (hts (.fieldLink RX10 99 "ShipOffice" "voyageCount" "I") iw_X10_voyage_1) (fun _ h9 => h9) rfl dX10_voyage_39 ?_
          refine lv_topi (fun x_30 ex_30 => ?_)
          have hx_30 : 0 ≤ x_30.toInt ∧ x_30.toInt ≤ 20 := iv_of ex_30 (oInv.iv gI to.2 rfl rfl)
          have gx_30 : x_30.toInt = (oI Z o 4).toInt := iv_to ex_30
          clear ex_30
          refine lv_bipush (v := 20) hx hb dX10_voyage_42 (by decide) ?_
          refine lv_icmp_lt (tgt := 54) hx hb dX10_voyage_44 (by decide) (fun c_31 => ?_) (fun c_31 => ?_)
          · have dc_31 := c_lt (a := x_30.toInt) (b := 20) rfl (by decide) c_31
            refine lv_aload_n hx hb dX10_voyage_54 rfl (lv_at hl 0 rfl) ?_
            obtain ⟨b_32, hb_32⟩ := oInv.nn (i := 3) gI to rfl
            refine va_get (D := (dC, dI)) (ci := 10) (v := .ref b_32) (C := RX10) (T := TX10) (N := 16) hx hb hts in_wsX10_voyage_X10 hown hK hP q_25 hq_25 rfl 3 (by decide) (hts (.fieldLink RX10 17 "ShipOffice" "voyages" "[LShipOffice$Voyage;") iw_X10_voyage_2) (fun _ h9 => h9) (o_rd hb_32) dX10_voyage_55 ?_
            have tb_32 : oty Z b_32 15 := oInv.rd gI to.2 hb_32 rfl rfl
            refine lv_aload_n hx hb dX10_voyage_58 rfl (lv_at hl 0 rfl) ?_
            refine va_get (D := (dC, dI)) (ci := 10) (v := .int (oI Z o 4)) (C := RX10) (T := TX10) (N := 16) hx hb hts in_wsX10_voyage_X10 hown hK hP q_25 hq_25 rfl 4 (by decide) (hts (.fieldLink RX10 99 "ShipOffice" "voyageCount" "I") iw_X10_voyage_1) (fun _ h9 => h9) rfl dX10_voyage_59 ?_
            refine lv_topi (fun x_33 ex_33 => ?_)
            have hx_33 : 0 ≤ x_33.toInt ∧ x_33.toInt ≤ 20 := iv_of ex_33 (oInv.iv gI to.2 rfl rfl)
            have gx_33 : x_33.toInt = (oI Z o 4).toInt := iv_to ex_33
            clear ex_33
            refine va_new (ci := 9) (fs := [.int 0, .int 0, .int 0, .int 0, .int 0, .int 0, .int 0, .int 0, .int 0, .null]) (C := RX9) (T := TX9) (N := 10) hx hb hts in_wsX10_voyage_X9 tyX9 tyX9_ok hown (hts (.classLink RX10 15 RX9) iw_X10_voyage_3) (hts (.instantiable RX9 10) iw_X10_voyage_4) (hts (.initialized RX9) iw_X10_voyage_5) hK hP hD hS hA rfl (fun j hj => by rcases (show j = 0 ∨ j = 1 ∨ j = 2 ∨ j = 3 ∨ j = 4 ∨ j = 5 ∨ j = 6 ∨ j = 7 ∨ j = 8 ∨ j = 9 by omega) with rfl | rfl | rfl | rfl | rfl | rfl | rfl | rfl | rfl | rfl <;> rfl) (Nat.le_of_ble_eq_true rfl) (Nat.le_of_ble_eq_true rfl) dX10_voyage_62 (fun q_34 H hP1 hD1 hS => ?_)
            have hnq_34 := add_q hD1
            obtain ⟨S_35, eS_35⟩ : ∃ zq, zq = addO Z q_34 39 := ⟨_, rfl⟩
            have hP : va_P (dC, dI) vwCl (oW cq S_35) H := by rw [eS_35]; exact cP (onew hD1 (by rw [oE_39 add_K, add_I, add_P]; rfl)) hP1
            have hD : va_D A (oW cq S_35) := by rw [eS_35]; exact cD (onew hD1 (by rw [oE_39 add_K, add_I, add_P]; rfl)) hD1
            clear hP1 hD1
            have hIS_35 : oInv S_35 := by rw [eS_35]; exact oInv.add gI hnq_34 (by decide)
            have XS_35 : oX [] Z S_35 := by rw [eS_35]; exact oX.add hnq_34
            have nzq_34 : q_34 ∉ oL Z := hnq_34
            have sr_36 : oP S_35 o 3 = some b_32 := by rw [eS_35, add_Pn hnq_34 to.1]; exact hb_32
            have g_37 : (oI S_35 o 4).toInt = (oI Z o 4).toInt := by rw [eS_35, add_In hnq_34 to.1]
            have X_38 : oX [1004, 2015, 2107] Z S_35 := oX.st oX.rf XS_35 (by decide)
            have tq_34 : oty S_35 q_34 39 := by rw [eS_35]; exact add_ty
            refine W.widen (k := 1) (n := 10) (Nat.le_of_ble_eq_true rfl) (Nat.le_of_ble_eq_true rfl) ?_
            refine lv_dup hx hb dX10_voyage_65 rfl ?_
            refine lv_aload_n hx hb dX10_voyage_66 rfl (lv_at hl 0 rfl) ?_
            have t_39 : oty S_35 o 10 := (oX.ty XS_35 to)
            obtain ⟨q_40, hq_40⟩ := og (cq := cq) t_39.1 (oE_10 t_39.2)
            refine va_get (D := (dC, dI)) (ci := 10) (v := .int (oI S_35 o 4)) (C := RX10) (T := TX10) (N := 16) hx hb hts in_wsX10_voyage_X10 hown hK hP q_40 hq_40 rfl 4 (by decide) (hts (.fieldLink RX10 99 "ShipOffice" "voyageCount" "I") iw_X10_voyage_1) (fun _ h9 => h9) rfl dX10_voyage_67 ?_
            refine lv_topi (fun x_41 ex_41 => ?_)
            have hx_41 : 0 ≤ x_41.toInt ∧ x_41.toInt ≤ 20 := iv_of ex_41 (oInv.iv hIS_35 t_39.2 rfl rfl)
            have gx_41 : x_41.toInt = (oI S_35 o 4).toInt := iv_to ex_41
            clear ex_41
            refine lv_iload_n hx hb dX10_voyage_70 rfl (lv_at hl 1 rfl) ?_
            refine lv_iload_n hx hb dX10_voyage_71 rfl (lv_at hl 2 rfl) ?_
            refine lv_aload_n hx hb dX10_voyage_72 rfl (lv_at hl 0 rfl) ?_
            refine va_get (D := (dC, dI)) (ci := 10) (v := .int (oI S_35 o 0)) (C := RX10) (T := TX10) (N := 16) hx hb hts in_wsX10_voyage_X10 hown hK hP q_40 hq_40 rfl 0 (by decide) (hts (.fieldLink RX10 73 "ShipOffice" "now" "I") iw_X10_voyage_6) (fun _ h9 => h9) rfl dX10_voyage_73 ?_
            refine lv_topi (fun x_42 ex_42 => ?_)
            have hx_42 : 0 ≤ x_42.toInt ∧ x_42.toInt ≤ 3000 := iv_of ex_42 (oInv.iv hIS_35 t_39.2 rfl rfl)
            have gx_42 : x_42.toInt = (oI S_35 o 0).toInt := iv_to ex_42
            clear ex_42
            have hFc := o_free hD hS hA
            refine va_callv (va_runI (As := [.int x_41, .int x1, .int x2, .int x_42]) (rest := [.ref q_34, .int x_33, .ref b_32]) ⟨hx, hb, hml, hown, hts⟩ (c_X9_init l dC dI H.size cq S_35 hIS_35 q_34 tq_34 x_41 x1 x2 (by omega) x_42 (by omega)) (cwI 4 hts gX10_voyage_X9_init rfl rfl rfl (hts (.initialized RX9) iw_X10_voyage_5) (hts (.methodLink RX10 102 yX9_init) iw_X10_voyage_7) (hts (.instanceMethod yX9_init) iw_X10_voyage_8) rfl (by decide +kernel) ⟨(Nat.le_of_ble_eq_true rfl), (Nat.le_of_ble_eq_true rfl)⟩) (pr_S hP hK hD) rfl rfl hl.1 rfl (lv_room (Nat.le_of_ble_eq_true rfl)) dX10_voyage_76 ⟨(Nat.le_of_ble_eq_true rfl), (Nat.le_of_ble_eq_true rfl)⟩) hS (fun q _ h => hFc q h) hFc (fun u t H locs ht hvm w_43 hB hz1 hk1 hS => ?_)
            obtain ⟨S_45, rfl⟩ : ∃ z, z = u := ⟨_, rfl⟩
            obtain ⟨hP1, hK1, hD1⟩ := hB
            rw [ht] at hP1
            have hP : va_P (dC, dI) vwCl (oW cq S_45) H := hP1
            have hD : va_D A (oW cq S_45) := hD1.weaken (fun _ _ _ h => hFc _ h)
            clear hP1 hK1 hD1 hk1 hz1 hvm ht hFc
            obtain ⟨hIS_45, XS_45, hx_46⟩ := w_43
            have hxS_45 := hx_46
            have X_47 : oX [1004, 2015, 2107] Z S_45 := oX.c X_38 XS_45 nzq_34 (by decide)
            have sr_48 : oP S_45 o 3 = some b_32 := by rw [oXc.p XS_45 (ty_ne t_39 tq_34 (by decide)) t_39 (by decide)]; exact sr_36
            have g_49 : (oI S_45 o 0).toInt = (oI S_35 o 0).toInt := by rw [oXc.i XS_45 (ty_ne t_39 tq_34 (by decide)) t_39 (by decide)]
            have g_50 : (oI S_45 o 4).toInt = (oI S_35 o 4).toInt := by rw [oXc.i XS_45 (ty_ne t_39 tq_34 (by decide)) t_39 (by decide)]
            have t_51 : oty S_45 b_32 15 := (oXc.ty XS_45 (ty_ne (oX.ty XS_35 tb_32) tq_34 (by decide)) (oX.ty XS_35 tb_32))
            obtain ⟨q_52, hq_52⟩ := og (cq := cq) t_51.1 (oE_15 t_51.2)
            obtain ⟨q_53, hq_53⟩ := og (cq := cq) hxS_45.1 (oE_9 hxS_45.2)
            refine va_astq (r := (RX9, TX9, 10)) hx hb hK hP hD hS q_52 4 q_53 9 hq_52 rfl hq_53 rfl (vp_in_iff.mpr (by omega)) dX10_voyage_79 (fun H locs hP1 hD1 hS => ?_)
            obtain ⟨S_54, eS_54⟩ : ∃ zq, zq = setP S_45 b_32 (x_33 : Int32).toNatClampNeg (some q_34) := ⟨_, rfl⟩
            have hP : va_P (dC, dI) vwCl (oW cq S_54) H := by rw [eS_54]; exact cP (oset t_51.1 hq_52 hD rfl (he_15 t_51.2) neP) hP1
            have hD : va_D A (oW cq S_54) := by rw [eS_54]; exact cD (oset t_51.1 hq_52 hD rfl (he_15 t_51.2) neP) hD1
            clear hP1 hD1
            have hIS_54 : oInv S_54 := by rw [eS_54]; exact oInv.P (k := 15) hIS_45 t_51.2 (by decide) rfl (fun h => absurd h.1 (by decide)) hxS_45 (show 9 ≤ 9 ∧ 9 ≤ 9 from ⟨Nat.le_refl _, Nat.le_refl _⟩)
            have XS_54 : oX [2015] S_45 S_54 := by rw [eS_54]; exact oX.P (k := 15) (key := 2015) t_51.2 rfl (List.mem_singleton.mpr rfl)
            have X_55 : oX [1004, 2015, 2107] Z S_54 := oX.st X_47 XS_54 (by decide)
            have g_56 : (oI S_54 o 0).toInt = (oI S_45 o 0).toInt := by rw [eS_54]; rfl
            have g_57 : (oI S_54 o 4).toInt = (oI S_45 o 4).toInt := by rw [eS_54]; rfl
            have helS_54 : oP S_54 b_32 (x_33 : Int32).toNatClampNeg = some q_34 := by rw [eS_54, setP_same]
            have hsrS_54 : oP S_54 o 3 = some b_32 := by rw [eS_54, setP_oth (ty_ne (oXc.ty XS_45 (ty_ne t_39 tq_34 (by decide)) t_39) t_51 (by decide))]; exact sr_48
            refine lv_aload_n hx hb dX10_voyage_80 rfl (lv_at hl 0 rfl) ?_
            refine lv_dup hx hb dX10_voyage_81 rfl ?_
            have t_58 : oty S_54 o 10 := (oX.ty XS_54 (oXc.ty XS_45 (ty_ne t_39 tq_34 (by decide)) t_39))
            obtain ⟨q_59, hq_59⟩ := og (cq := cq) t_58.1 (oE_10 t_58.2)
            refine va_get (D := (dC, dI)) (ci := 10) (v := .int (oI S_54 o 4)) (C := RX10) (T := TX10) (N := 16) hx hb hts in_wsX10_voyage_X10 hown hK hP q_59 hq_59 rfl 4 (by decide) (hts (.fieldLink RX10 99 "ShipOffice" "voyageCount" "I") iw_X10_voyage_1) (fun _ h9 => h9) rfl dX10_voyage_82 ?_
            refine lv_topi (fun x_60 ex_60 => ?_)
            have hx_60 : 0 ≤ x_60.toInt ∧ x_60.toInt ≤ 20 := iv_of ex_60 (oInv.iv hIS_54 t_58.2 rfl rfl)
            have gx_60 : x_60.toInt = (oI S_54 o 4).toInt := iv_to ex_60
            clear ex_60
            refine lv_iconst (v := 1) hx hb dX10_voyage_85 (by decide) ?_
            refine lv_iadd hx hb dX10_voyage_86 ?_
            refine lv_topi (fun x_61 ex_61 => ?_)
            have hx_61 : x_61.toInt = x_60.toInt + 1 := (iv_to ex_61).trans (ad_i rfl (by decide) (by omega) (by omega))
            clear ex_61
            refine va_put (D := (dC, dI)) (ci := 10) (v := .int x_61) (ty := .int) (C := RX10) (T := TX10) (N := 16) hx hb hts in_wsX10_voyage_X10 tyX10 tyX10_ok nmX10 hown hK hP hD hS q_59 hq_59 rfl 4 (by decide) (hts (.fieldLink RX10 99 "ShipOffice" "voyageCount" "I") iw_X10_voyage_1) (fun _ h9 => h9) rfl (by decide +kernel) rfl rfl (Nat.le_of_ble_eq_true rfl) dX10_voyage_87 (fun H locs hP1 hD1 hS => ?_)
            obtain ⟨S_62, eS_62⟩ : ∃ zq, zq = setI S_54 o 4 x_61 := ⟨_, rfl⟩
            have hP : va_P (dC, dI) vwCl (oW cq S_62) H := by rw [eS_62]; exact cP (oset t_58.1 hq_59 hD rfl (he_10_4 t_58.2) neI) hP1
            have hD : va_D A (oW cq S_62) := by rw [eS_62]; exact cD (oset t_58.1 hq_59 hD rfl (he_10_4 t_58.2) neI) hD1
            clear hP1 hD1
            have hIS_62 : oInv S_62 := by rw [eS_62]; exact oInv.I (k := 10) (lo := 0) (hi := 20) hIS_54 t_58.2 (by decide) rfl rfl (by omega) (inv_cnt hIS_54 t_58 rfl hsrS_54 (by omega) (by omega) ⟨_, by rw [← cnt_at (x := x_33) (S := S_54) (a := o) (i := 4) (by omega)]; exact helS_54⟩)
            have XS_62 : oX [1004] S_54 S_62 := by rw [eS_62]; exact oX.I (k := 10) (key := 1004) t_58.2 rfl (List.mem_singleton.mpr rfl)
            have X_63 : oX [1004, 2015, 2107] Z S_62 := oX.st X_55 XS_62 (by decide)
            have g_64 : (oI S_62 o 0).toInt = (oI S_54 o 0).toInt := by rw [eS_62, setI_ne (by decide)]
            have g_65 : (oI S_62 o 4).toInt = x_61.toInt := by rw [eS_62, setI_same]
            refine lv_aload_n hx hb dX10_voyage_90 rfl (lv_at hl 0 rfl) ?_
            have t_66 : oty S_62 o 10 := (oX.ty XS_62 t_58)
            obtain ⟨q_67, hq_67⟩ := og (cq := cq) t_66.1 (oE_10 t_66.2)
            refine va_get (D := (dC, dI)) (ci := 10) (v := .int (oI S_62 o 4)) (C := RX10) (T := TX10) (N := 16) hx hb hts in_wsX10_voyage_X10 hown hK hP q_67 hq_67 rfl 4 (by decide) (hts (.fieldLink RX10 99 "ShipOffice" "voyageCount" "I") iw_X10_voyage_1) (fun _ h9 => h9) rfl dX10_voyage_91 ?_
            refine lv_topi (fun x_68 ex_68 => ?_)
            have hx_68 : 0 ≤ x_68.toInt ∧ x_68.toInt ≤ 20 := iv_of ex_68 (oInv.iv hIS_62 t_66.2 rfl rfl)
            have gx_68 : x_68.toInt = (oI S_62 o 4).toInt := iv_to ex_68
            clear ex_68
            refine lv_iconst (v := 1) hx hb dX10_voyage_94 (by decide) ?_
            refine lv_isub hx hb dX10_voyage_95 ?_
            refine lv_topi (fun x_69 ex_69 => ?_)
            have hx_69 : x_69.toInt = x_68.toInt - 1 := (iv_to ex_69).trans (sb_i rfl (by decide) (by omega) (by omega))
            clear ex_69
            exact W.iret (v := x_69) hx hb hr (fun t ht hW => ⟨⟨x_69, S_62, rfl, ⟨hIS_62, X_63⟩, ⟨by rw [ht]; exact hP, va_K.moved hW.alike hK, hD⟩⟩, hS.F ht⟩) hS.2.2 dX10_voyage_96
          · have dc_31 := c_nlt (a := x_30.toInt) (b := 20) rfl (by decide) c_31
            refine lv_aload_n hx hb dX10_voyage_47 rfl (lv_at hl 0 rfl) ?_
            refine lv_bipush (v := (-6)) hx hb dX10_voyage_48 (by decide) ?_
            have hFc := o_free hD hS hA
            refine va_calli (va_runV (As := [.int (-6)]) (rest := []) ⟨hx, hb, hml, hown, hts⟩ (c_X10_refuse l dC dI H.size cq Z gI o to (-6) (by decide)) (cwV 1 hts gX10_voyage_X10_refuse rfl rfl rfl (by decide +kernel) ⟨(Nat.le_of_ble_eq_true rfl), (Nat.le_of_ble_eq_true rfl)⟩) (pr_V (r := (RX10, TX10, 16)) hP hK hD q_25 10 rfl hq_25) rfl rfl hl.1 rfl (lv_room (Nat.le_of_ble_eq_true rfl)) dX10_voyage_50 ⟨(Nat.le_of_ble_eq_true rfl), (Nat.le_of_ble_eq_true rfl)⟩) hS (fun q _ h => hFc q h) hFc (fun r_71 u t H locs ht hvm w_70 hB hz1 hk1 hS => ?_)
            obtain ⟨S_72, rfl⟩ : ∃ z, z = u := ⟨_, rfl⟩
            obtain ⟨hP1, hK1, hD1⟩ := hB
            rw [ht] at hP1
            have hP : va_P (dC, dI) vwCl (oW cq S_72) H := hP1
            have hD : va_D A (oW cq S_72) := hD1.weaken (fun _ _ _ h => hFc _ h)
            clear hP1 hK1 hD1 hk1 hz1 hvm ht hFc
            obtain ⟨hIS_72, XS_72, hb_73, hx_74⟩ := w_70
            have X_75 : oX [1004, 2015, 2107] Z S_72 := oX.st oX.rf XS_72 (by decide)
            have rf_76 : r_71.toInt = -6 := by rw [hx_74]; decide
            refine W.widen (k := 1) (n := 10) (Nat.le_of_ble_eq_true rfl) (Nat.le_of_ble_eq_true rfl) ?_
            exact W.iret (v := r_71) hx hb hr (fun t ht hW => ⟨⟨r_71, S_72, rfl, ⟨hIS_72, X_75⟩, ⟨by rw [ht]; exact hP, va_K.moved hW.alike hK, hD⟩⟩, hS.F ht⟩) hS.2.2 dX10_voyage_53
        · have dc_29 := c_ne (a := r_27.toInt) (b := 0) rfl (by decide) c_29
          refine lv_aload_n hx hb dX10_voyage_31 rfl (lv_at hl 0 rfl) ?_
          refine lv_bipush (v := (-3)) hx hb dX10_voyage_32 (by decide) ?_
          have hFc := o_free hD hS hA
          refine va_calli (va_runV (As := [.int (-3)]) (rest := []) ⟨hx, hb, hml, hown, hts⟩ (c_X10_refuse l dC dI H.size cq Z gI o to (-3) (by decide)) (cwV 1 hts gX10_voyage_X10_refuse rfl rfl rfl (by decide +kernel) ⟨(Nat.le_of_ble_eq_true rfl), (Nat.le_of_ble_eq_true rfl)⟩) (pr_V (r := (RX10, TX10, 16)) hP hK hD q_25 10 rfl hq_25) rfl rfl hl.1 rfl (lv_room (Nat.le_of_ble_eq_true rfl)) dX10_voyage_34 ⟨(Nat.le_of_ble_eq_true rfl), (Nat.le_of_ble_eq_true rfl)⟩) hS (fun q _ h => hFc q h) hFc (fun r_78 u t H locs ht hvm w_77 hB hz1 hk1 hS => ?_)
          obtain ⟨S_79, rfl⟩ : ∃ z, z = u := ⟨_, rfl⟩
          obtain ⟨hP1, hK1, hD1⟩ := hB
          rw [ht] at hP1
          have hP : va_P (dC, dI) vwCl (oW cq S_79) H := hP1
          have hD : va_D A (oW cq S_79) := hD1.weaken (fun _ _ _ h => hFc _ h)
          clear hP1 hK1 hD1 hk1 hz1 hvm ht hFc
          obtain ⟨hIS_79, XS_79, hb_80, hx_81⟩ := w_77
          have X_82 : oX [1004, 2015, 2107] Z S_79 := oX.st oX.rf XS_79 (by decide)
          have rf_83 : r_78.toInt = -3 := by rw [hx_81]; decide
          refine W.widen (k := 1) (n := 10) (Nat.le_of_ble_eq_true rfl) (Nat.le_of_ble_eq_true rfl) ?_
          exact W.iret (v := r_78) hx hb hr (fun t ht hW => ⟨⟨r_78, S_79, rfl, ⟨hIS_79, X_82⟩, ⟨by rw [ht]; exact hP, va_K.moved hW.alike hK, hD⟩⟩, hS.F ht⟩) hS.2.2 dX10_voyage_37
      · have dc_23 := c_eq (a := r_20.toInt) (b := 0) rfl (by decide) c_23
        refine lv_aload_n hx hb dX10_voyage_17 rfl (lv_at hl 0 rfl) ?_
        refine lv_iconst (v := (-1)) hx hb dX10_voyage_18 (by decide) ?_
        have hFc := o_free hD hS hA
        obtain ⟨q_84, hq_84⟩ := og (cq := cq) to.1 (oE_10 to.2)
        refine va_calli (va_runV (As := [.int (-1)]) (rest := []) ⟨hx, hb, hml, hown, hts⟩ (c_X10_refuse l dC dI H.size cq Z gI o to (-1) (by decide)) (cwV 1 hts gX10_voyage_X10_refuse rfl rfl rfl (by decide +kernel) ⟨(Nat.le_of_ble_eq_true rfl), (Nat.le_of_ble_eq_true rfl)⟩) (pr_V (r := (RX10, TX10, 16)) hP hK hD q_84 10 rfl hq_84) rfl rfl hl.1 rfl (lv_room (Nat.le_of_ble_eq_true rfl)) dX10_voyage_19 ⟨(Nat.le_of_ble_eq_true rfl), (Nat.le_of_ble_eq_true rfl)⟩) hS (fun q _ h => hFc q h) hFc (fun r_86 u t H locs ht hvm w_85 hB hz1 hk1 hS => ?_)
        obtain ⟨S_87, rfl⟩ : ∃ z, z = u := ⟨_, rfl⟩
        obtain ⟨hP1, hK1, hD1⟩ := hB
        rw [ht] at hP1
        have hP : va_P (dC, dI) vwCl (oW cq S_87) H := hP1
        have hD : va_D A (oW cq S_87) := hD1.weaken (fun _ _ _ h => hFc _ h)
        clear hP1 hK1 hD1 hk1 hz1 hvm ht hFc
        obtain ⟨hIS_87, XS_87, hb_88, hx_89⟩ := w_85
        have X_90 : oX [1004, 2015, 2107] Z S_87 := oX.st oX.rf XS_87 (by decide)
        have rf_91 : r_86.toInt = -1 := by rw [hx_89]; decide
        refine W.widen (k := 1) (n := 10) (Nat.le_of_ble_eq_true rfl) (Nat.le_of_ble_eq_true rfl) ?_
        exact W.iret (v := r_86) hx hb hr (fun t ht hW => ⟨⟨r_86, S_87, rfl, ⟨hIS_87, X_90⟩, ⟨by rw [ht]; exact hP, va_K.moved hW.alike hK, hD⟩⟩, hS.F ht⟩) hS.2.2 dX10_voyage_22
set_option maxHeartbeats 4000000 in
set_option maxRecDepth 100000 in
theorem c_X10_fine (l : Launch) (dC : Nat → ClassId) (dI : Nat → Nat → Nat) (sz : Nat) (cq : Nat → ClassId) (Z : oS) (gI : oInv Z) (o : Nat) (to : oty Z o 10) (x1 : Int32) (x2 : Int32) (x3 : Int32) (x4 : Int32) (hx4 : 0 ≤ x4.toInt ∧ x4.toInt ≤ 1) : Met l yX10_fine wsX10_fine ({ frames := 2, cells := 1, slots := 3, locals := 37 }) (va_Pc [.ref o, .int x1, .int x2, .int x3, .int x4] (pcW (dC, dI) (oT cq) (oW cq Z) sz)) (va_Qi (fun (r : Int32) (u : oS) => oInv u ∧ oX [113, 2017, 2107] Z u) (fun u t => va_P (dC, dI) vwCl (oW cq u) t.heap ∧ va_K (dC, dI) vwCl (oT cq) t ∧ va_D (va_A (oW cq Z) sz) (oW cq u)) (va_A (oW cq Z) sz)) 1 3 (va_A (oW cq Z) sz) := by
  refine Met.ofW (cc := cX10_fine) (maxL := 6) (ret := (some .int)) (by decide) rfl ?_
  intro p e s m args below meth c s₁ B hml hv
  obtain ⟨rfl, hsz, hP, hK, hD0⟩ := hv
  have hx := B.exec
  have hb := B.bytes
  have hr := B.returns
  have hts := atoms_spec (ws := wsX10_fine) B.pre
  have hown : s.vm.findClass RX10 = some m.cls := findClass_of_methodNamed B.named
  have hlocks := B.notSynchronized
  subst hsz
  have hD := hD0.self (sz := s.heap.size)
  generalize hAe : va_A (oW cq Z) s.heap.size = A at hD ⊢
  have hA : ∀ q : Nat, s.heap.size ≤ q → A q := fun q h => by rw [← hAe]; exact Or.inr h
  have hS : va_S A s.heap s.heap [] := va_S.rf
  have hP : va_P (dC, dI) vwCl (oW cq Z) s.heap := hP
  have hl := lv_entry ([.ref o, .int x1, .int x2, .int x3, .int x4]) (n := 6) (Nat.le_of_ble_eq_true rfl)
  rw [lg_entry_eq]
  generalize (lg_sl ([.ref o, .int x1, .int x2, .int x3, .int x4]) ++ List.replicate (6 - (lg_sl ([.ref o, .int x1, .int x2, .int x3, .int x4])).length) Slot.unset).toArray = ls at hl ⊢
  have hl : lv_has ls 6 [(0, .ref o), (1, .int x1), (2, .int x2), (3, .int x3), (4, .int x4)] := hl
  refine lv_aload_n hx hb dX10_fine_0 rfl (lv_at hl 0 rfl) ?_
  refine lv_iload_n hx hb dX10_fine_1 rfl (lv_at hl 1 rfl) ?_
  have hFc : ∀ q, va_A [] s.heap.size q → A q := pu_free hS hA
  obtain ⟨q_1, hq_1⟩ := og (cq := cq) to.1 (oE_10 to.2)
  refine va_callq (va_runV (As := [.int x1]) (rest := []) ⟨hx, hb, hml, hown, hts⟩ (c_X10_agreementAt l dC dI s.heap.size cq Z gI o to x1) (cwV 1 hts gX10_fine_X10_agreementAt rfl rfl rfl (by decide +kernel) ⟨(Nat.le_of_ble_eq_true rfl), (Nat.le_of_ble_eq_true rfl)⟩) (pr_V (r := (RX10, TX10, 16)) hP hK hD q_1 10 rfl hq_1) rfl rfl hl.1 rfl (lv_room (Nat.le_of_ble_eq_true rfl)) dX10_fine_2 ⟨(Nat.le_of_ble_eq_true rfl), (Nat.le_of_ble_eq_true rfl)⟩) hS (fun q _ h => hFc q h) hFc (fun r_3 u t H locs ht hvm w_2 hB hz1 hk1 hS => ?_)
  have hP := pu_keep hP hk1
  clear hk1 hz1 hvm hB ht hFc
  have hk_4 := w_2
  rcases r_3 with _ | b_5
  · refine W.eq (g2 := F0 m 5 ls [.null]) rfl ?_
    refine lv_astoreN (lv' := [(5, .null), (0, .ref o), (1, .int x1), (2, .int x2), (3, .int x3), (4, .int x4)]) hx hb dX10_fine_5 hl (by decide) rfl (fun ls hl => ?_)
    refine lv_aloadN hx hb dX10_fine_7 (lv_at hl 0 rfl) ?_
    refine lv_ifnonnullN hx hb dX10_fine_9 ?_
    refine lv_aload_n hx hb dX10_fine_12 rfl (lv_at hl 1 rfl) ?_
    refine lv_iconst (v := (-1)) hx hb dX10_fine_13 (by decide) ?_
    have hFc := o_free hD hS hA
    refine va_calli (va_runV (As := [.int (-1)]) (rest := []) ⟨hx, hb, hml, hown, hts⟩ (c_X10_refuse l dC dI H.size cq Z gI o to (-1) (by decide)) (cwV 1 hts gX10_fine_X10_refuse rfl rfl rfl (by decide +kernel) ⟨(Nat.le_of_ble_eq_true rfl), (Nat.le_of_ble_eq_true rfl)⟩) (pr_V (r := (RX10, TX10, 16)) hP hK hD q_1 10 rfl hq_1) rfl rfl hl.1 rfl (lv_room (Nat.le_of_ble_eq_true rfl)) dX10_fine_14 ⟨(Nat.le_of_ble_eq_true rfl), (Nat.le_of_ble_eq_true rfl)⟩) hS (fun q _ h => hFc q h) hFc (fun r_7 u t H locs ht hvm w_6 hB hz1 hk1 hS => ?_)
    obtain ⟨S_8, rfl⟩ : ∃ z, z = u := ⟨_, rfl⟩
    obtain ⟨hP1, hK1, hD1⟩ := hB
    rw [ht] at hP1
    have hP : va_P (dC, dI) vwCl (oW cq S_8) H := hP1
    have hD : va_D A (oW cq S_8) := hD1.weaken (fun _ _ _ h => hFc _ h)
    clear hP1 hK1 hD1 hk1 hz1 hvm ht hFc
    obtain ⟨hIS_8, XS_8, hb_9, hx_10⟩ := w_6
    have X_11 : oX [113, 2017, 2107] Z S_8 := oX.st oX.rf XS_8 (by decide)
    have rf_12 : r_7.toInt = -1 := by rw [hx_10]; decide
    refine W.widen (k := 1) (n := 3) (Nat.le_of_ble_eq_true rfl) (Nat.le_of_ble_eq_true rfl) ?_
    exact W.iret (v := r_7) hx hb hr (fun t ht hW => ⟨⟨r_7, S_8, rfl, ⟨hIS_8, X_11⟩, ⟨by rw [ht]; exact hP, va_K.moved hW.alike hK, hD⟩⟩, hS.F ht⟩) hS.2.2 dX10_fine_17
  · refine W.eq (g2 := F0 m 5 ls [.ref b_5]) rfl ?_
    have tb_5 : oty Z b_5 1 := hk_4 b_5 rfl
    refine lv_astore (lv' := [(5, .ref b_5), (0, .ref o), (1, .int x1), (2, .int x2), (3, .int x3), (4, .int x4)]) hx hb dX10_fine_5 hl (by decide) rfl (fun ls hl => ?_)
    refine lv_aload hx hb dX10_fine_7 (lv_at hl 0 rfl) ?_
    refine lv_ifnonnull (tgt := 18) hx hb dX10_fine_9 (by decide) ?_
    refine lv_aload hx hb dX10_fine_18 (lv_at hl 0 rfl) ?_
    obtain ⟨q_13, hq_13⟩ := og (cq := cq) tb_5.1 (oE_1 tb_5.2)
    refine va_get (D := (dC, dI)) (ci := 1) (v := .int (oI Z b_5 6)) (C := RX1) (T := TX1) (N := 18) hx hb hts in_wsX10_fine_X1 hown hK hP q_13 hq_13 rfl 6 (by decide) (hts (.fieldLink RX10 126 "ShipOffice$Agreement" "offDay" "I") iw_X10_fine_1) (fun _ h9 => h9) rfl dX10_fine_20 ?_
    refine lv_topi (fun x_14 ex_14 => ?_)
    have gx_14 : x_14.toInt = (oI Z b_5 6).toInt := iv_to ex_14
    clear ex_14
    refine lv_ldc (v := 1000000) hx hb hown (hts (.constant RX10 114 (1000000)) (by decide +kernel)) dX10_fine_23 ?_
    refine lv_icmp_eq (tgt := 35) hx hb dX10_fine_25 (by decide) (fun c_15 => ?_) (fun c_15 => ?_)
    · have dc_15 := c_eq (a := x_14.toInt) (b := 1000000) rfl (by decide) c_15
      refine lv_iload_n hx hb dX10_fine_35 rfl (lv_at hl 3 rfl) ?_
      refine lv_aload hx hb dX10_fine_36 (lv_at hl 0 rfl) ?_
      refine va_get (D := (dC, dI)) (ci := 1) (v := .int (oI Z b_5 2)) (C := RX1) (T := TX1) (N := 18) hx hb hts in_wsX10_fine_X1 hown hK hP q_13 hq_13 rfl 2 (by decide) (hts (.fieldLink RX10 255 "ShipOffice$Agreement" "signedOn" "I") iw_X10_fine_2) (fun _ h9 => h9) rfl dX10_fine_38 ?_
      refine lv_topi (fun x_16 ex_16 => ?_)
      clear ex_16
      refine lv_icmp_lt (tgt := 49) hx hb dX10_fine_41 (by decide) (fun c_17 => ?_) (fun c_17 => ?_)
      · have dc_17 := c_lt (a := x2.toInt) (b := x_16.toInt) rfl rfl c_17
        refine lv_aload_n hx hb dX10_fine_49 rfl (lv_at hl 1 rfl) ?_
        refine lv_bipush (v := (-4)) hx hb dX10_fine_50 (by decide) ?_
        have hFc := o_free hD hS hA
        refine va_calli (va_runV (As := [.int (-4)]) (rest := []) ⟨hx, hb, hml, hown, hts⟩ (c_X10_refuse l dC dI H.size cq Z gI o to (-4) (by decide)) (cwV 1 hts gX10_fine_X10_refuse rfl rfl rfl (by decide +kernel) ⟨(Nat.le_of_ble_eq_true rfl), (Nat.le_of_ble_eq_true rfl)⟩) (pr_V (r := (RX10, TX10, 16)) hP hK hD q_1 10 rfl hq_1) rfl rfl hl.1 rfl (lv_room (Nat.le_of_ble_eq_true rfl)) dX10_fine_52 ⟨(Nat.le_of_ble_eq_true rfl), (Nat.le_of_ble_eq_true rfl)⟩) hS (fun q _ h => hFc q h) hFc (fun r_19 u t H locs ht hvm w_18 hB hz1 hk1 hS => ?_)
        obtain ⟨S_20, rfl⟩ : ∃ z, z = u := ⟨_, rfl⟩
        obtain ⟨hP1, hK1, hD1⟩ := hB
        rw [ht] at hP1
        have hP : va_P (dC, dI) vwCl (oW cq S_20) H := hP1
        have hD : va_D A (oW cq S_20) := hD1.weaken (fun _ _ _ h => hFc _ h)
        clear hP1 hK1 hD1 hk1 hz1 hvm ht hFc
        obtain ⟨hIS_20, XS_20, hb_21, hx_22⟩ := w_18
        have X_23 : oX [113, 2017, 2107] Z S_20 := oX.st oX.rf XS_20 (by decide)
        have rf_24 : r_19.toInt = -4 := by rw [hx_22]; decide
        refine W.widen (k := 1) (n := 3) (Nat.le_of_ble_eq_true rfl) (Nat.le_of_ble_eq_true rfl) ?_
        exact W.iret (v := r_19) hx hb hr (fun t ht hW => ⟨⟨r_19, S_20, rfl, ⟨hIS_20, X_23⟩, ⟨by rw [ht]; exact hP, va_K.moved hW.alike hK, hD⟩⟩, hS.F ht⟩) hS.2.2 dX10_fine_55
      · have dc_17 := c_nlt (a := x2.toInt) (b := x_16.toInt) rfl rfl c_17
        refine lv_iload_n hx hb dX10_fine_44 rfl (lv_at hl 4 rfl) ?_
        refine lv_iconst (v := 1) hx hb dX10_fine_45 (by decide) ?_
        refine lv_icmp_ge (tgt := 56) hx hb dX10_fine_46 (by decide) (fun c_25 => ?_) (fun c_25 => ?_)
        · have dc_25 := c_le (a := 1) (b := x3.toInt) (by decide) rfl c_25
          refine lv_iload_n hx hb dX10_fine_56 rfl (lv_at hl 3 rfl) ?_
          refine lv_aload_n hx hb dX10_fine_57 rfl (lv_at hl 1 rfl) ?_
          refine va_get (D := (dC, dI)) (ci := 10) (v := .int (oI Z o 0)) (C := RX10) (T := TX10) (N := 16) hx hb hts in_wsX10_fine_X10 hown hK hP q_1 hq_1 rfl 0 (by decide) (hts (.fieldLink RX10 73 "ShipOffice" "now" "I") iw_X10_fine_3) (fun _ h9 => h9) rfl dX10_fine_58 ?_
          refine lv_topi (fun x_26 ex_26 => ?_)
          have hx_26 : 0 ≤ x_26.toInt ∧ x_26.toInt ≤ 3000 := iv_of ex_26 (oInv.iv gI to.2 rfl rfl)
          have gx_26 : x_26.toInt = (oI Z o 0).toInt := iv_to ex_26
          clear ex_26
          refine lv_icmp_gt (tgt := 81) hx hb dX10_fine_61 (by decide) (fun c_27 => ?_) (fun c_27 => ?_)
          · have dc_27 := c_lt (a := x_26.toInt) (b := x2.toInt) rfl rfl c_27
            refine lv_aload_n hx hb dX10_fine_81 rfl (lv_at hl 1 rfl) ?_
            refine lv_bipush (v := (-6)) hx hb dX10_fine_82 (by decide) ?_
            have hFc := o_free hD hS hA
            refine va_calli (va_runV (As := [.int (-6)]) (rest := []) ⟨hx, hb, hml, hown, hts⟩ (c_X10_refuse l dC dI H.size cq Z gI o to (-6) (by decide)) (cwV 1 hts gX10_fine_X10_refuse rfl rfl rfl (by decide +kernel) ⟨(Nat.le_of_ble_eq_true rfl), (Nat.le_of_ble_eq_true rfl)⟩) (pr_V (r := (RX10, TX10, 16)) hP hK hD q_1 10 rfl hq_1) rfl rfl hl.1 rfl (lv_room (Nat.le_of_ble_eq_true rfl)) dX10_fine_84 ⟨(Nat.le_of_ble_eq_true rfl), (Nat.le_of_ble_eq_true rfl)⟩) hS (fun q _ h => hFc q h) hFc (fun r_29 u t H locs ht hvm w_28 hB hz1 hk1 hS => ?_)
            obtain ⟨S_30, rfl⟩ : ∃ z, z = u := ⟨_, rfl⟩
            obtain ⟨hP1, hK1, hD1⟩ := hB
            rw [ht] at hP1
            have hP : va_P (dC, dI) vwCl (oW cq S_30) H := hP1
            have hD : va_D A (oW cq S_30) := hD1.weaken (fun _ _ _ h => hFc _ h)
            clear hP1 hK1 hD1 hk1 hz1 hvm ht hFc
            obtain ⟨hIS_30, XS_30, hb_31, hx_32⟩ := w_28
            have X_33 : oX [113, 2017, 2107] Z S_30 := oX.st oX.rf XS_30 (by decide)
            have rf_34 : r_29.toInt = -6 := by rw [hx_32]; decide
            refine W.widen (k := 1) (n := 3) (Nat.le_of_ble_eq_true rfl) (Nat.le_of_ble_eq_true rfl) ?_
            exact W.iret (v := r_29) hx hb hr (fun t ht hW => ⟨⟨r_29, S_30, rfl, ⟨hIS_30, X_33⟩, ⟨by rw [ht]; exact hP, va_K.moved hW.alike hK, hD⟩⟩, hS.F ht⟩) hS.2.2 dX10_fine_87
          · have dc_27 := c_nlt (a := x_26.toInt) (b := x2.toInt) rfl rfl c_27
            refine lv_iload_n hx hb dX10_fine_64 rfl (lv_at hl 4 rfl) ?_
            refine lv_sipush (v := 9999) hx hb dX10_fine_65 (by decide) ?_
            refine lv_icmp_gt (tgt := 81) hx hb dX10_fine_68 (by decide) (fun c_35 => ?_) (fun c_35 => ?_)
            · have dc_35 := c_lt (a := 9999) (b := x3.toInt) (by decide) rfl c_35
              refine lv_aload_n hx hb dX10_fine_81 rfl (lv_at hl 1 rfl) ?_
              refine lv_bipush (v := (-6)) hx hb dX10_fine_82 (by decide) ?_
              have hFc := o_free hD hS hA
              refine va_calli (va_runV (As := [.int (-6)]) (rest := []) ⟨hx, hb, hml, hown, hts⟩ (c_X10_refuse l dC dI H.size cq Z gI o to (-6) (by decide)) (cwV 1 hts gX10_fine_X10_refuse rfl rfl rfl (by decide +kernel) ⟨(Nat.le_of_ble_eq_true rfl), (Nat.le_of_ble_eq_true rfl)⟩) (pr_V (r := (RX10, TX10, 16)) hP hK hD q_1 10 rfl hq_1) rfl rfl hl.1 rfl (lv_room (Nat.le_of_ble_eq_true rfl)) dX10_fine_84 ⟨(Nat.le_of_ble_eq_true rfl), (Nat.le_of_ble_eq_true rfl)⟩) hS (fun q _ h => hFc q h) hFc (fun r_37 u t H locs ht hvm w_36 hB hz1 hk1 hS => ?_)
              obtain ⟨S_38, rfl⟩ : ∃ z, z = u := ⟨_, rfl⟩
              obtain ⟨hP1, hK1, hD1⟩ := hB
              rw [ht] at hP1
              have hP : va_P (dC, dI) vwCl (oW cq S_38) H := hP1
              have hD : va_D A (oW cq S_38) := hD1.weaken (fun _ _ _ h => hFc _ h)
              clear hP1 hK1 hD1 hk1 hz1 hvm ht hFc
              obtain ⟨hIS_38, XS_38, hb_39, hx_40⟩ := w_36
              have X_41 : oX [113, 2017, 2107] Z S_38 := oX.st oX.rf XS_38 (by decide)
              have rf_42 : r_37.toInt = -6 := by rw [hx_40]; decide
              refine W.widen (k := 1) (n := 3) (Nat.le_of_ble_eq_true rfl) (Nat.le_of_ble_eq_true rfl) ?_
              exact W.iret (v := r_37) hx hb hr (fun t ht hW => ⟨⟨r_37, S_38, rfl, ⟨hIS_38, X_41⟩, ⟨by rw [ht]; exact hP, va_K.moved hW.alike hK, hD⟩⟩, hS.F ht⟩) hS.2.2 dX10_fine_87
            · have dc_35 := c_nlt (a := 9999) (b := x3.toInt) (by decide) rfl c_35
              refine lv_aload hx hb dX10_fine_71 (lv_at hl 0 rfl) ?_
              refine va_get (D := (dC, dI)) (ci := 1) (v := .int (oI Z b_5 13)) (C := RX1) (T := TX1) (N := 18) hx hb hts in_wsX10_fine_X1 hown hK hP q_13 hq_13 rfl 13 (by decide) (hts (.fieldLink RX10 258 "ShipOffice$Agreement" "fineCount" "I") iw_X10_fine_4) (fun _ h9 => h9) rfl dX10_fine_73 ?_
              refine lv_topi (fun x_43 ex_43 => ?_)
              have hx_43 : 0 ≤ x_43.toInt ∧ x_43.toInt ≤ 6 := iv_of ex_43 (oInv.iv gI tb_5.2 rfl rfl)
              have gx_43 : x_43.toInt = (oI Z b_5 13).toInt := iv_to ex_43
              clear ex_43
              refine lv_bipush (v := 6) hx hb dX10_fine_76 (by decide) ?_
              refine lv_icmp_lt (tgt := 88) hx hb dX10_fine_78 (by decide) (fun c_44 => ?_) (fun c_44 => ?_)
              · have dc_44 := c_lt (a := x_43.toInt) (b := 6) rfl (by decide) c_44
                refine lv_aload hx hb dX10_fine_88 (lv_at hl 0 rfl) ?_
                obtain ⟨b_45, hb_45⟩ := oInv.nn (i := 12) gI tb_5 rfl
                refine va_get (D := (dC, dI)) (ci := 1) (v := .ref b_45) (C := RX1) (T := TX1) (N := 18) hx hb hts in_wsX10_fine_X1 hown hK hP q_13 hq_13 rfl 12 (by decide) (hts (.fieldLink RX10 261 "ShipOffice$Agreement" "fines" "[LShipOffice$Fine;") iw_X10_fine_5) (fun _ h9 => h9) (o_rd hb_45) dX10_fine_90 ?_
                have tb_45 : oty Z b_45 17 := oInv.rd gI tb_5.2 hb_45 rfl rfl
                refine lv_aload hx hb dX10_fine_93 (lv_at hl 0 rfl) ?_
                refine va_get (D := (dC, dI)) (ci := 1) (v := .int (oI Z b_5 13)) (C := RX1) (T := TX1) (N := 18) hx hb hts in_wsX10_fine_X1 hown hK hP q_13 hq_13 rfl 13 (by decide) (hts (.fieldLink RX10 258 "ShipOffice$Agreement" "fineCount" "I") iw_X10_fine_4) (fun _ h9 => h9) rfl dX10_fine_95 ?_
                refine lv_topi (fun x_46 ex_46 => ?_)
                have hx_46 : 0 ≤ x_46.toInt ∧ x_46.toInt ≤ 6 := iv_of ex_46 (oInv.iv gI tb_5.2 rfl rfl)
                have gx_46 : x_46.toInt = (oI Z b_5 13).toInt := iv_to ex_46
                clear ex_46
                refine va_new (ci := 2) (fs := [.int 0, .int 0, .int 0]) (C := RX2) (T := TX2) (N := 3) hx hb hts in_wsX10_fine_X2 tyX2 tyX2_ok hown (hts (.classLink RX10 265 RX2) iw_X10_fine_6) (hts (.instantiable RX2 3) iw_X10_fine_7) (hts (.initialized RX2) iw_X10_fine_8) hK hP hD hS hA rfl (fun j hj => by rcases (show j = 0 ∨ j = 1 ∨ j = 2 by omega) with rfl | rfl | rfl <;> rfl) (Nat.le_of_ble_eq_true rfl) (Nat.le_of_ble_eq_true rfl) dX10_fine_98 (fun q_47 H hP1 hD1 hS => ?_)
                have hnq_47 := add_q hD1
                obtain ⟨S_48, eS_48⟩ : ∃ zq, zq = addO Z q_47 32 := ⟨_, rfl⟩
                have hP : va_P (dC, dI) vwCl (oW cq S_48) H := by rw [eS_48]; exact cP (onew hD1 (by rw [oE_32 add_K, add_I])) hP1
                have hD : va_D A (oW cq S_48) := by rw [eS_48]; exact cD (onew hD1 (by rw [oE_32 add_K, add_I])) hD1
                clear hP1 hD1
                have hIS_48 : oInv S_48 := by rw [eS_48]; exact oInv.add gI hnq_47 (by decide)
                have XS_48 : oX [] Z S_48 := by rw [eS_48]; exact oX.add hnq_47
                have nzq_47 : q_47 ∉ oL Z := hnq_47
                have sr_49 : oP S_48 b_5 12 = some b_45 := by rw [eS_48, add_Pn hnq_47 tb_5.1]; exact hb_45
                have g_50 : (oI S_48 b_5 6).toInt = (oI Z b_5 6).toInt := by rw [eS_48, add_In hnq_47 tb_5.1]
                have g_51 : (oI S_48 b_5 13).toInt = (oI Z b_5 13).toInt := by rw [eS_48, add_In hnq_47 tb_5.1]
                have g_52 : (oI S_48 o 0).toInt = (oI Z o 0).toInt := by rw [eS_48, add_In hnq_47 to.1]
                have X_53 : oX [113, 2017, 2107] Z S_48 := oX.st oX.rf XS_48 (by decide)
                have tq_47 : oty S_48 q_47 32 := by rw [eS_48]; exact add_ty
                refine W.widen (k := 1) (n := 3) (Nat.le_of_ble_eq_true rfl) (Nat.le_of_ble_eq_true rfl) ?_
                refine lv_dup hx hb dX10_fine_101 rfl ?_
                refine lv_iload_n hx hb dX10_fine_102 rfl (lv_at hl 3 rfl) ?_
                refine lv_iload_n hx hb dX10_fine_103 rfl (lv_at hl 4 rfl) ?_
                refine lv_iload hx hb dX10_fine_104 (lv_at hl 5 rfl) ?_
                have hFc := o_free hD hS hA
                refine va_callv (va_runI (As := [.int x2, .int x3, .int x4]) (rest := [.ref q_47, .int x_46, .ref b_45]) ⟨hx, hb, hml, hown, hts⟩ (c_X2_init l dC dI H.size cq S_48 hIS_48 q_47 tq_47 x2 x3 x4 (by omega)) (cwI 3 hts gX10_fine_X2_init rfl rfl rfl (hts (.initialized RX2) iw_X10_fine_8) (hts (.methodLink RX10 267 yX2_init) iw_X10_fine_9) (hts (.instanceMethod yX2_init) iw_X10_fine_10) rfl (by decide +kernel) ⟨(Nat.le_of_ble_eq_true rfl), (Nat.le_of_ble_eq_true rfl)⟩) (pr_S hP hK hD) rfl rfl hl.1 rfl (lv_room (Nat.le_of_ble_eq_true rfl)) dX10_fine_106 ⟨(Nat.le_of_ble_eq_true rfl), (Nat.le_of_ble_eq_true rfl)⟩) hS (fun q _ h => hFc q h) hFc (fun u t H locs ht hvm w_54 hB hz1 hk1 hS => ?_)
                obtain ⟨S_56, rfl⟩ : ∃ z, z = u := ⟨_, rfl⟩
                obtain ⟨hP1, hK1, hD1⟩ := hB
                rw [ht] at hP1
                have hP : va_P (dC, dI) vwCl (oW cq S_56) H := hP1
                have hD : va_D A (oW cq S_56) := hD1.weaken (fun _ _ _ h => hFc _ h)
                clear hP1 hK1 hD1 hk1 hz1 hvm ht hFc
                obtain ⟨hIS_56, XS_56, hx_57⟩ := w_54
                have hxS_56 := hx_57
                have X_58 : oX [113, 2017, 2107] Z S_56 := oX.c X_53 XS_56 nzq_47 (by decide)
                have sr_59 : oP S_56 b_5 12 = some b_45 := by rw [oXc.p XS_56 (ty_ne (oX.ty XS_48 tb_5) tq_47 (by decide)) (oX.ty XS_48 tb_5) (by decide)]; exact sr_49
                have g_60 : (oI S_56 b_5 6).toInt = (oI S_48 b_5 6).toInt := by rw [oXc.i XS_56 (ty_ne (oX.ty XS_48 tb_5) tq_47 (by decide)) (oX.ty XS_48 tb_5) (by decide)]
                have g_61 : (oI S_56 b_5 13).toInt = (oI S_48 b_5 13).toInt := by rw [oXc.i XS_56 (ty_ne (oX.ty XS_48 tb_5) tq_47 (by decide)) (oX.ty XS_48 tb_5) (by decide)]
                have g_62 : (oI S_56 o 0).toInt = (oI S_48 o 0).toInt := by rw [oXc.i XS_56 (ty_ne (oX.ty XS_48 to) tq_47 (by decide)) (oX.ty XS_48 to) (by decide)]
                have t_63 : oty S_56 b_45 17 := (oXc.ty XS_56 (ty_ne (oX.ty XS_48 tb_45) tq_47 (by decide)) (oX.ty XS_48 tb_45))
                obtain ⟨q_64, hq_64⟩ := og (cq := cq) t_63.1 (oE_17 t_63.2)
                obtain ⟨q_65, hq_65⟩ := og (cq := cq) hxS_56.1 (oE_2 hxS_56.2)
                refine va_astq (r := (RX2, TX2, 3)) hx hb hK hP hD hS q_64 6 q_65 2 hq_64 rfl hq_65 rfl (vp_in_iff.mpr (by omega)) dX10_fine_109 (fun H locs hP1 hD1 hS => ?_)
                obtain ⟨S_66, eS_66⟩ : ∃ zq, zq = setP S_56 b_45 (x_46 : Int32).toNatClampNeg (some q_47) := ⟨_, rfl⟩
                have hP : va_P (dC, dI) vwCl (oW cq S_66) H := by rw [eS_66]; exact cP (oset t_63.1 hq_64 hD rfl (he_17 t_63.2) neP) hP1
                have hD : va_D A (oW cq S_66) := by rw [eS_66]; exact cD (oset t_63.1 hq_64 hD rfl (he_17 t_63.2) neP) hD1
                clear hP1 hD1
                have hIS_66 : oInv S_66 := by rw [eS_66]; exact oInv.P (k := 17) hIS_56 t_63.2 (by decide) rfl (fun h => absurd h.1 (by decide)) hxS_56 (show 2 ≤ 2 ∧ 2 ≤ 2 from ⟨Nat.le_refl _, Nat.le_refl _⟩)
                have XS_66 : oX [2017] S_56 S_66 := by rw [eS_66]; exact oX.P (k := 17) (key := 2017) t_63.2 rfl (List.mem_singleton.mpr rfl)
                have X_67 : oX [113, 2017, 2107] Z S_66 := oX.st X_58 XS_66 (by decide)
                have g_68 : (oI S_66 b_5 6).toInt = (oI S_56 b_5 6).toInt := by rw [eS_66]; rfl
                have g_69 : (oI S_66 b_5 13).toInt = (oI S_56 b_5 13).toInt := by rw [eS_66]; rfl
                have g_70 : (oI S_66 o 0).toInt = (oI S_56 o 0).toInt := by rw [eS_66]; rfl
                have helS_66 : oP S_66 b_45 (x_46 : Int32).toNatClampNeg = some q_47 := by rw [eS_66, setP_same]
                have hsrS_66 : oP S_66 b_5 12 = some b_45 := by rw [eS_66, setP_oth (ty_ne (oXc.ty XS_56 (ty_ne (oX.ty XS_48 tb_5) tq_47 (by decide)) (oX.ty XS_48 tb_5)) t_63 (by decide))]; exact sr_59
                refine lv_aload hx hb dX10_fine_110 (lv_at hl 0 rfl) ?_
                refine lv_dup hx hb dX10_fine_112 rfl ?_
                have t_71 : oty S_66 b_5 1 := (oX.ty XS_66 (oXc.ty XS_56 (ty_ne (oX.ty XS_48 tb_5) tq_47 (by decide)) (oX.ty XS_48 tb_5)))
                obtain ⟨q_72, hq_72⟩ := og (cq := cq) t_71.1 (oE_1 t_71.2)
                refine va_get (D := (dC, dI)) (ci := 1) (v := .int (oI S_66 b_5 13)) (C := RX1) (T := TX1) (N := 18) hx hb hts in_wsX10_fine_X1 hown hK hP q_72 hq_72 rfl 13 (by decide) (hts (.fieldLink RX10 258 "ShipOffice$Agreement" "fineCount" "I") iw_X10_fine_4) (fun _ h9 => h9) rfl dX10_fine_113 ?_
                refine lv_topi (fun x_73 ex_73 => ?_)
                have hx_73 : 0 ≤ x_73.toInt ∧ x_73.toInt ≤ 6 := iv_of ex_73 (oInv.iv hIS_66 t_71.2 rfl rfl)
                have gx_73 : x_73.toInt = (oI S_66 b_5 13).toInt := iv_to ex_73
                clear ex_73
                refine lv_iconst (v := 1) hx hb dX10_fine_116 (by decide) ?_
                refine lv_iadd hx hb dX10_fine_117 ?_
                refine lv_topi (fun x_74 ex_74 => ?_)
                have hx_74 : x_74.toInt = x_73.toInt + 1 := (iv_to ex_74).trans (ad_i rfl (by decide) (by omega) (by omega))
                clear ex_74
                refine va_put (D := (dC, dI)) (ci := 1) (v := .int x_74) (ty := .int) (C := RX1) (T := TX1) (N := 18) hx hb hts in_wsX10_fine_X1 tyX1 tyX1_ok nmX1 hown hK hP hD hS q_72 hq_72 rfl 13 (by decide) (hts (.fieldLink RX10 258 "ShipOffice$Agreement" "fineCount" "I") iw_X10_fine_4) (fun _ h9 => h9) rfl (by decide +kernel) rfl rfl (Nat.le_of_ble_eq_true rfl) dX10_fine_118 (fun H locs hP1 hD1 hS => ?_)
                obtain ⟨S_75, eS_75⟩ : ∃ zq, zq = setI S_66 b_5 13 x_74 := ⟨_, rfl⟩
                have hP : va_P (dC, dI) vwCl (oW cq S_75) H := by rw [eS_75]; exact cP (oset t_71.1 hq_72 hD rfl (he_1_13 t_71.2) neI) hP1
                have hD : va_D A (oW cq S_75) := by rw [eS_75]; exact cD (oset t_71.1 hq_72 hD rfl (he_1_13 t_71.2) neI) hD1
                clear hP1 hD1
                have hIS_75 : oInv S_75 := by rw [eS_75]; exact oInv.I (k := 1) (lo := 0) (hi := 6) hIS_66 t_71.2 (by decide) rfl rfl (by omega) (inv_cnt hIS_66 t_71 rfl hsrS_66 (by omega) (by omega) ⟨_, by rw [← cnt_at (x := x_46) (S := S_66) (a := b_5) (i := 13) (by omega)]; exact helS_66⟩)
                have XS_75 : oX [113] S_66 S_75 := by rw [eS_75]; exact oX.I (k := 1) (key := 113) t_71.2 rfl (List.mem_singleton.mpr rfl)
                have X_76 : oX [113, 2017, 2107] Z S_75 := oX.st X_67 XS_75 (by decide)
                have g_77 : (oI S_75 b_5 6).toInt = (oI S_66 b_5 6).toInt := by rw [eS_75, setI_ne (by decide)]
                have g_78 : (oI S_75 b_5 13).toInt = x_74.toInt := by rw [eS_75, setI_same]
                have g_79 : (oI S_75 o 0).toInt = (oI S_66 o 0).toInt := by rw [eS_75, setI_oth (ty_ne (oX.ty XS_66 (oXc.ty XS_56 (ty_ne (oX.ty XS_48 to) tq_47 (by decide)) (oX.ty XS_48 to))) t_71 (by decide))]
                refine lv_aload hx hb dX10_fine_121 (lv_at hl 0 rfl) ?_
                have t_80 : oty S_75 b_5 1 := (oX.ty XS_75 t_71)
                obtain ⟨q_81, hq_81⟩ := og (cq := cq) t_80.1 (oE_1 t_80.2)
                refine va_get (D := (dC, dI)) (ci := 1) (v := .int (oI S_75 b_5 13)) (C := RX1) (T := TX1) (N := 18) hx hb hts in_wsX10_fine_X1 hown hK hP q_81 hq_81 rfl 13 (by decide) (hts (.fieldLink RX10 258 "ShipOffice$Agreement" "fineCount" "I") iw_X10_fine_4) (fun _ h9 => h9) rfl dX10_fine_123 ?_
                refine lv_topi (fun x_82 ex_82 => ?_)
                have hx_82 : 0 ≤ x_82.toInt ∧ x_82.toInt ≤ 6 := iv_of ex_82 (oInv.iv hIS_75 t_80.2 rfl rfl)
                have gx_82 : x_82.toInt = (oI S_75 b_5 13).toInt := iv_to ex_82
                clear ex_82
                exact W.iret (v := x_82) hx hb hr (fun t ht hW => ⟨⟨x_82, S_75, rfl, ⟨hIS_75, X_76⟩, ⟨by rw [ht]; exact hP, va_K.moved hW.alike hK, hD⟩⟩, hS.F ht⟩) hS.2.2 dX10_fine_126
              · have dc_44 := c_nlt (a := x_43.toInt) (b := 6) rfl (by decide) c_44
                refine lv_aload_n hx hb dX10_fine_81 rfl (lv_at hl 1 rfl) ?_
                refine lv_bipush (v := (-6)) hx hb dX10_fine_82 (by decide) ?_
                have hFc := o_free hD hS hA
                refine va_calli (va_runV (As := [.int (-6)]) (rest := []) ⟨hx, hb, hml, hown, hts⟩ (c_X10_refuse l dC dI H.size cq Z gI o to (-6) (by decide)) (cwV 1 hts gX10_fine_X10_refuse rfl rfl rfl (by decide +kernel) ⟨(Nat.le_of_ble_eq_true rfl), (Nat.le_of_ble_eq_true rfl)⟩) (pr_V (r := (RX10, TX10, 16)) hP hK hD q_1 10 rfl hq_1) rfl rfl hl.1 rfl (lv_room (Nat.le_of_ble_eq_true rfl)) dX10_fine_84 ⟨(Nat.le_of_ble_eq_true rfl), (Nat.le_of_ble_eq_true rfl)⟩) hS (fun q _ h => hFc q h) hFc (fun r_84 u t H locs ht hvm w_83 hB hz1 hk1 hS => ?_)
                obtain ⟨S_85, rfl⟩ : ∃ z, z = u := ⟨_, rfl⟩
                obtain ⟨hP1, hK1, hD1⟩ := hB
                rw [ht] at hP1
                have hP : va_P (dC, dI) vwCl (oW cq S_85) H := hP1
                have hD : va_D A (oW cq S_85) := hD1.weaken (fun _ _ _ h => hFc _ h)
                clear hP1 hK1 hD1 hk1 hz1 hvm ht hFc
                obtain ⟨hIS_85, XS_85, hb_86, hx_87⟩ := w_83
                have X_88 : oX [113, 2017, 2107] Z S_85 := oX.st oX.rf XS_85 (by decide)
                have rf_89 : r_84.toInt = -6 := by rw [hx_87]; decide
                refine W.widen (k := 1) (n := 3) (Nat.le_of_ble_eq_true rfl) (Nat.le_of_ble_eq_true rfl) ?_
                exact W.iret (v := r_84) hx hb hr (fun t ht hW => ⟨⟨r_84, S_85, rfl, ⟨hIS_85, X_88⟩, ⟨by rw [ht]; exact hP, va_K.moved hW.alike hK, hD⟩⟩, hS.F ht⟩) hS.2.2 dX10_fine_87
        · have dc_25 := c_nle (a := 1) (b := x3.toInt) (by decide) rfl c_25
          refine lv_aload_n hx hb dX10_fine_49 rfl (lv_at hl 1 rfl) ?_
          refine lv_bipush (v := (-4)) hx hb dX10_fine_50 (by decide) ?_
          have hFc := o_free hD hS hA
          refine va_calli (va_runV (As := [.int (-4)]) (rest := []) ⟨hx, hb, hml, hown, hts⟩ (c_X10_refuse l dC dI H.size cq Z gI o to (-4) (by decide)) (cwV 1 hts gX10_fine_X10_refuse rfl rfl rfl (by decide +kernel) ⟨(Nat.le_of_ble_eq_true rfl), (Nat.le_of_ble_eq_true rfl)⟩) (pr_V (r := (RX10, TX10, 16)) hP hK hD q_1 10 rfl hq_1) rfl rfl hl.1 rfl (lv_room (Nat.le_of_ble_eq_true rfl)) dX10_fine_52 ⟨(Nat.le_of_ble_eq_true rfl), (Nat.le_of_ble_eq_true rfl)⟩) hS (fun q _ h => hFc q h) hFc (fun r_91 u t H locs ht hvm w_90 hB hz1 hk1 hS => ?_)
          obtain ⟨S_92, rfl⟩ : ∃ z, z = u := ⟨_, rfl⟩
          obtain ⟨hP1, hK1, hD1⟩ := hB
          rw [ht] at hP1
          have hP : va_P (dC, dI) vwCl (oW cq S_92) H := hP1
          have hD : va_D A (oW cq S_92) := hD1.weaken (fun _ _ _ h => hFc _ h)
          clear hP1 hK1 hD1 hk1 hz1 hvm ht hFc
          obtain ⟨hIS_92, XS_92, hb_93, hx_94⟩ := w_90
          have X_95 : oX [113, 2017, 2107] Z S_92 := oX.st oX.rf XS_92 (by decide)
          have rf_96 : r_91.toInt = -4 := by rw [hx_94]; decide
          refine W.widen (k := 1) (n := 3) (Nat.le_of_ble_eq_true rfl) (Nat.le_of_ble_eq_true rfl) ?_
          exact W.iret (v := r_91) hx hb hr (fun t ht hW => ⟨⟨r_91, S_92, rfl, ⟨hIS_92, X_95⟩, ⟨by rw [ht]; exact hP, va_K.moved hW.alike hK, hD⟩⟩, hS.F ht⟩) hS.2.2 dX10_fine_55
    · have dc_15 := c_ne (a := x_14.toInt) (b := 1000000) rfl (by decide) c_15
      refine lv_aload_n hx hb dX10_fine_28 rfl (lv_at hl 1 rfl) ?_
      refine lv_bipush (v := (-3)) hx hb dX10_fine_29 (by decide) ?_
      have hFc := o_free hD hS hA
      refine va_calli (va_runV (As := [.int (-3)]) (rest := []) ⟨hx, hb, hml, hown, hts⟩ (c_X10_refuse l dC dI H.size cq Z gI o to (-3) (by decide)) (cwV 1 hts gX10_fine_X10_refuse rfl rfl rfl (by decide +kernel) ⟨(Nat.le_of_ble_eq_true rfl), (Nat.le_of_ble_eq_true rfl)⟩) (pr_V (r := (RX10, TX10, 16)) hP hK hD q_1 10 rfl hq_1) rfl rfl hl.1 rfl (lv_room (Nat.le_of_ble_eq_true rfl)) dX10_fine_31 ⟨(Nat.le_of_ble_eq_true rfl), (Nat.le_of_ble_eq_true rfl)⟩) hS (fun q _ h => hFc q h) hFc (fun r_98 u t H locs ht hvm w_97 hB hz1 hk1 hS => ?_)
      obtain ⟨S_99, rfl⟩ : ∃ z, z = u := ⟨_, rfl⟩
      obtain ⟨hP1, hK1, hD1⟩ := hB
      rw [ht] at hP1
      have hP : va_P (dC, dI) vwCl (oW cq S_99) H := hP1
      have hD : va_D A (oW cq S_99) := hD1.weaken (fun _ _ _ h => hFc _ h)
      clear hP1 hK1 hD1 hk1 hz1 hvm ht hFc
      obtain ⟨hIS_99, XS_99, hb_100, hx_101⟩ := w_97
      have X_102 : oX [113, 2017, 2107] Z S_99 := oX.st oX.rf XS_99 (by decide)
      have rf_103 : r_98.toInt = -3 := by rw [hx_101]; decide
      refine W.widen (k := 1) (n := 3) (Nat.le_of_ble_eq_true rfl) (Nat.le_of_ble_eq_true rfl) ?_
      exact W.iret (v := r_98) hx hb hr (fun t ht hW => ⟨⟨r_98, S_99, rfl, ⟨hIS_99, X_102⟩, ⟨by rw [ht]; exact hP, va_K.moved hW.alike hK, hD⟩⟩, hS.F ht⟩) hS.2.2 dX10_fine_34
set_option maxHeartbeats 4000000 in
set_option maxRecDepth 100000 in
theorem c_X10_sign (l : Launch) (dC : Nat → ClassId) (dI : Nat → Nat → Nat) (sz : Nat) (tL tS tG : Nat) (cq : Nat → ClassId) (Z : oS) (gI : oInv Z) (o : Nat) (to : oty Z o 10) (x1 : Int32) (x2 : Int32) (x3 : Int32) (x4 : Int32) (x5 : Int32) : Met l yX10_sign wsX10_sign ({ frames := 4, cells := 4, slots := 64, locals := 95 }) (va_Pc [.ref o, .int x1, .int x2, .int x3, .int x4, .int x5] (pcO (dC, dI) (oT cq) (oW cq Z) sz tL tS tG (oW cq Z))) (va_Qi (fun (r : Int32) (u : oS) => oInv u ∧ oX [1006, 2016, 2107, 2108, 5001] Z u) (fun u t => va_P (dC, dI) vwCl (oW cq u) t.heap ∧ va_K (dC, dI) vwCl (oT cq) t ∧ va_D (va_A (oW cq Z) sz) (oW cq u)) (va_A (oW cq Z) sz)) 4 64 (va_A (oW cq Z) sz) := by
  refine Met.ofW (cc := cX10_sign) (maxL := 11) (ret := (some .int)) (by decide) rfl ?_
  intro p e s m args below meth c s₁ B hml hv
  obtain ⟨rfl, ⟨hsz, hP, hK, hD0⟩, hZ⟩ := hv
  have hx := B.exec
  have hb := B.bytes
  have hr := B.returns
  have hts := atoms_spec (ws := wsX10_sign) B.pre
  have hown : s.vm.findClass RX10 = some m.cls := findClass_of_methodNamed B.named
  have hlocks := B.notSynchronized
  subst hsz
  have hD := hD0.self (sz := s.heap.size)
  generalize hAe : va_A (oW cq Z) s.heap.size = A at hD hZ ⊢
  have hA : ∀ q : Nat, s.heap.size ≤ q → A q := fun q h => by rw [← hAe]; exact Or.inr h
  have hS : va_S A s.heap s.heap [] := va_S.rf
  have hP : va_P (dC, dI) vwCl (oW cq Z) s.heap := hP
  have hl := lv_entry ([.ref o, .int x1, .int x2, .int x3, .int x4, .int x5]) (n := 11) (Nat.le_of_ble_eq_true rfl)
  rw [lg_entry_eq]
  generalize (lg_sl ([.ref o, .int x1, .int x2, .int x3, .int x4, .int x5]) ++ List.replicate (11 - (lg_sl ([.ref o, .int x1, .int x2, .int x3, .int x4, .int x5])).length) Slot.unset).toArray = ls at hl ⊢
  have hl : lv_has ls 11 [(0, .ref o), (1, .int x1), (2, .int x2), (3, .int x3), (4, .int x4), (5, .int x5)] := hl
  refine lv_aload_n hx hb dX10_sign_0 rfl (lv_at hl 0 rfl) ?_
  refine lv_iload_n hx hb dX10_sign_1 rfl (lv_at hl 1 rfl) ?_
  have hFc : ∀ q, va_A [] s.heap.size q → A q := pu_free hS hA
  obtain ⟨q_1, hq_1⟩ := og (cq := cq) to.1 (oE_10 to.2)
  refine va_callq (va_runV (As := [.int x1]) (rest := []) ⟨hx, hb, hml, hown, hts⟩ (c_X10_manAt l dC dI s.heap.size cq Z gI o to x1) (cwV 1 hts gX10_sign_X10_manAt rfl rfl rfl (by decide +kernel) ⟨(Nat.le_of_ble_eq_true rfl), (Nat.le_of_ble_eq_true rfl)⟩) (pr_V (r := (RX10, TX10, 16)) hP hK hD q_1 10 rfl hq_1) rfl rfl hl.1 rfl (lv_room (Nat.le_of_ble_eq_true rfl)) dX10_sign_2 ⟨(Nat.le_of_ble_eq_true rfl), (Nat.le_of_ble_eq_true rfl)⟩) hS (fun q _ h => hFc q h) hFc (fun r_3 u t H locs ht hvm w_2 hB hz1 hk1 hS => ?_)
  have hP := pu_keep hP hk1
  clear hk1 hz1 hvm hB ht hFc
  have hk_4 := w_2
  rcases r_3 with _ | b_5
  · refine W.eq (g2 := F0 m 5 ls [.null]) rfl ?_
    refine lv_astoreN (lv' := [(6, .null), (0, .ref o), (1, .int x1), (2, .int x2), (3, .int x3), (4, .int x4), (5, .int x5)]) hx hb dX10_sign_5 hl (by decide) rfl (fun ls hl => ?_)
    refine lv_aload_n hx hb dX10_sign_7 rfl (lv_at hl 1 rfl) ?_
    refine lv_iload_n hx hb dX10_sign_8 rfl (lv_at hl 3 rfl) ?_
    have hFc : ∀ q, va_A [] H.size q → A q := pu_free hS hA
    refine va_callq (va_runV (As := [.int x2]) (rest := []) ⟨hx, hb, hml, hown, hts⟩ (c_X10_voyageAt l dC dI H.size cq Z gI o to x2) (cwV 1 hts gX10_sign_X10_voyageAt rfl rfl rfl (by decide +kernel) ⟨(Nat.le_of_ble_eq_true rfl), (Nat.le_of_ble_eq_true rfl)⟩) (pr_V (r := (RX10, TX10, 16)) hP hK hD q_1 10 rfl hq_1) rfl rfl hl.1 rfl (lv_room (Nat.le_of_ble_eq_true rfl)) dX10_sign_9 ⟨(Nat.le_of_ble_eq_true rfl), (Nat.le_of_ble_eq_true rfl)⟩) hS (fun q _ h => hFc q h) hFc (fun r_7 u t H locs ht hvm w_6 hB hz1 hk1 hS => ?_)
    have hP := pu_keep hP hk1
    clear hk1 hz1 hvm hB ht hFc
    have hk_8 := w_6
    rcases r_7 with _ | b_9
    · refine W.eq (g2 := F0 m 12 ls [.null]) rfl ?_
      refine lv_astoreN (lv' := [(7, .null), (6, .null), (0, .ref o), (1, .int x1), (2, .int x2), (3, .int x3), (4, .int x4), (5, .int x5)]) hx hb dX10_sign_12 hl (by decide) rfl (fun ls hl => ?_)
      refine lv_aload_n hx hb dX10_sign_14 rfl (lv_at hl 2 rfl) ?_
      refine lv_iload hx hb dX10_sign_15 (lv_at hl 7 rfl) ?_
      have hFc : ∀ q, va_A [] H.size q → A q := pu_free hS hA
      refine va_callq (va_runV (As := [.int x5]) (rest := []) ⟨hx, hb, hml, hown, hts⟩ (c_X10_agreementAt l dC dI H.size cq Z gI o to x5) (cwV 1 hts gX10_sign_X10_agreementAt rfl rfl rfl (by decide +kernel) ⟨(Nat.le_of_ble_eq_true rfl), (Nat.le_of_ble_eq_true rfl)⟩) (pr_V (r := (RX10, TX10, 16)) hP hK hD q_1 10 rfl hq_1) rfl rfl hl.1 rfl (lv_room (Nat.le_of_ble_eq_true rfl)) dX10_sign_17 ⟨(Nat.le_of_ble_eq_true rfl), (Nat.le_of_ble_eq_true rfl)⟩) hS (fun q _ h => hFc q h) hFc (fun r_11 u t H locs ht hvm w_10 hB hz1 hk1 hS => ?_)
      have hP := pu_keep hP hk1
      clear hk1 hz1 hvm hB ht hFc
      have hk_12 := w_10
      rcases r_11 with _ | b_13
      · refine W.eq (g2 := F0 m 20 ls [.null]) rfl ?_
        refine lv_astoreN (lv' := [(8, .null), (7, .null), (6, .null), (0, .ref o), (1, .int x1), (2, .int x2), (3, .int x3), (4, .int x4), (5, .int x5)]) hx hb dX10_sign_20 hl (by decide) rfl (fun ls hl => ?_)
        refine lv_aloadN hx hb dX10_sign_22 (lv_at hl 2 rfl) ?_
        refine lv_ifnullN (tgt := 43) hx hb dX10_sign_24 (by decide) ?_
        refine lv_aload_n hx hb dX10_sign_43 rfl (lv_at hl 3 rfl) ?_
        refine lv_iconst (v := (-1)) hx hb dX10_sign_44 (by decide) ?_
        have hFc := o_free hD hS hA
        refine va_calli (va_runV (As := [.int (-1)]) (rest := []) ⟨hx, hb, hml, hown, hts⟩ (c_X10_refuse l dC dI H.size cq Z gI o to (-1) (by decide)) (cwV 1 hts gX10_sign_X10_refuse rfl rfl rfl (by decide +kernel) ⟨(Nat.le_of_ble_eq_true rfl), (Nat.le_of_ble_eq_true rfl)⟩) (pr_V (r := (RX10, TX10, 16)) hP hK hD q_1 10 rfl hq_1) rfl rfl hl.1 rfl (lv_room (Nat.le_of_ble_eq_true rfl)) dX10_sign_45 ⟨(Nat.le_of_ble_eq_true rfl), (Nat.le_of_ble_eq_true rfl)⟩) hS (fun q _ h => hFc q h) hFc (fun r_15 u t H locs ht hvm w_14 hB hz1 hk1 hS => ?_)
        obtain ⟨S_16, rfl⟩ : ∃ z, z = u := ⟨_, rfl⟩
        obtain ⟨hP1, hK1, hD1⟩ := hB
        rw [ht] at hP1
        have hP : va_P (dC, dI) vwCl (oW cq S_16) H := hP1
        have hD : va_D A (oW cq S_16) := hD1.weaken (fun _ _ _ h => hFc _ h)
        clear hP1 hK1 hD1 hk1 hz1 hvm ht hFc
        obtain ⟨hIS_16, XS_16, hb_17, hx_18⟩ := w_14
        have X_19 : oX [1006, 2016, 2107, 2108, 5001] Z S_16 := oX.st oX.rf XS_16 (by decide)
        have rf_20 : r_15.toInt = -1 := by rw [hx_18]; decide
        refine W.widen (k := 4) (n := 64) (Nat.le_of_ble_eq_true rfl) (Nat.le_of_ble_eq_true rfl) ?_
        exact W.iret (v := r_15) hx hb hr (fun t ht hW => ⟨⟨r_15, S_16, rfl, ⟨hIS_16, X_19⟩, ⟨by rw [ht]; exact hP, va_K.moved hW.alike hK, hD⟩⟩, hS.F ht⟩) hS.2.2 dX10_sign_48
      · refine W.eq (g2 := F0 m 20 ls [.ref b_13]) rfl ?_
        have tb_13 : oty Z b_13 1 := hk_12 b_13 rfl
        refine lv_astore (lv' := [(8, .ref b_13), (7, .null), (6, .null), (0, .ref o), (1, .int x1), (2, .int x2), (3, .int x3), (4, .int x4), (5, .int x5)]) hx hb dX10_sign_20 hl (by decide) rfl (fun ls hl => ?_)
        refine lv_aloadN hx hb dX10_sign_22 (lv_at hl 2 rfl) ?_
        refine lv_ifnullN (tgt := 43) hx hb dX10_sign_24 (by decide) ?_
        refine lv_aload_n hx hb dX10_sign_43 rfl (lv_at hl 3 rfl) ?_
        refine lv_iconst (v := (-1)) hx hb dX10_sign_44 (by decide) ?_
        have hFc := o_free hD hS hA
        refine va_calli (va_runV (As := [.int (-1)]) (rest := []) ⟨hx, hb, hml, hown, hts⟩ (c_X10_refuse l dC dI H.size cq Z gI o to (-1) (by decide)) (cwV 1 hts gX10_sign_X10_refuse rfl rfl rfl (by decide +kernel) ⟨(Nat.le_of_ble_eq_true rfl), (Nat.le_of_ble_eq_true rfl)⟩) (pr_V (r := (RX10, TX10, 16)) hP hK hD q_1 10 rfl hq_1) rfl rfl hl.1 rfl (lv_room (Nat.le_of_ble_eq_true rfl)) dX10_sign_45 ⟨(Nat.le_of_ble_eq_true rfl), (Nat.le_of_ble_eq_true rfl)⟩) hS (fun q _ h => hFc q h) hFc (fun r_22 u t H locs ht hvm w_21 hB hz1 hk1 hS => ?_)
        obtain ⟨S_23, rfl⟩ : ∃ z, z = u := ⟨_, rfl⟩
        obtain ⟨hP1, hK1, hD1⟩ := hB
        rw [ht] at hP1
        have hP : va_P (dC, dI) vwCl (oW cq S_23) H := hP1
        have hD : va_D A (oW cq S_23) := hD1.weaken (fun _ _ _ h => hFc _ h)
        clear hP1 hK1 hD1 hk1 hz1 hvm ht hFc
        obtain ⟨hIS_23, XS_23, hb_24, hx_25⟩ := w_21
        have X_26 : oX [1006, 2016, 2107, 2108, 5001] Z S_23 := oX.st oX.rf XS_23 (by decide)
        have rf_27 : r_22.toInt = -1 := by rw [hx_25]; decide
        refine W.widen (k := 4) (n := 64) (Nat.le_of_ble_eq_true rfl) (Nat.le_of_ble_eq_true rfl) ?_
        exact W.iret (v := r_22) hx hb hr (fun t ht hW => ⟨⟨r_22, S_23, rfl, ⟨hIS_23, X_26⟩, ⟨by rw [ht]; exact hP, va_K.moved hW.alike hK, hD⟩⟩, hS.F ht⟩) hS.2.2 dX10_sign_48
    · refine W.eq (g2 := F0 m 12 ls [.ref b_9]) rfl ?_
      have tb_9 : oty Z b_9 9 := hk_8 b_9 rfl
      refine lv_astore (lv' := [(7, .ref b_9), (6, .null), (0, .ref o), (1, .int x1), (2, .int x2), (3, .int x3), (4, .int x4), (5, .int x5)]) hx hb dX10_sign_12 hl (by decide) rfl (fun ls hl => ?_)
      refine lv_aload_n hx hb dX10_sign_14 rfl (lv_at hl 2 rfl) ?_
      refine lv_iload hx hb dX10_sign_15 (lv_at hl 7 rfl) ?_
      have hFc : ∀ q, va_A [] H.size q → A q := pu_free hS hA
      refine va_callq (va_runV (As := [.int x5]) (rest := []) ⟨hx, hb, hml, hown, hts⟩ (c_X10_agreementAt l dC dI H.size cq Z gI o to x5) (cwV 1 hts gX10_sign_X10_agreementAt rfl rfl rfl (by decide +kernel) ⟨(Nat.le_of_ble_eq_true rfl), (Nat.le_of_ble_eq_true rfl)⟩) (pr_V (r := (RX10, TX10, 16)) hP hK hD q_1 10 rfl hq_1) rfl rfl hl.1 rfl (lv_room (Nat.le_of_ble_eq_true rfl)) dX10_sign_17 ⟨(Nat.le_of_ble_eq_true rfl), (Nat.le_of_ble_eq_true rfl)⟩) hS (fun q _ h => hFc q h) hFc (fun r_29 u t H locs ht hvm w_28 hB hz1 hk1 hS => ?_)
      have hP := pu_keep hP hk1
      clear hk1 hz1 hvm hB ht hFc
      have hk_30 := w_28
      rcases r_29 with _ | b_31
      · refine W.eq (g2 := F0 m 20 ls [.null]) rfl ?_
        refine lv_astoreN (lv' := [(8, .null), (7, .ref b_9), (6, .null), (0, .ref o), (1, .int x1), (2, .int x2), (3, .int x3), (4, .int x4), (5, .int x5)]) hx hb dX10_sign_20 hl (by decide) rfl (fun ls hl => ?_)
        refine lv_aloadN hx hb dX10_sign_22 (lv_at hl 2 rfl) ?_
        refine lv_ifnullN (tgt := 43) hx hb dX10_sign_24 (by decide) ?_
        refine lv_aload_n hx hb dX10_sign_43 rfl (lv_at hl 3 rfl) ?_
        refine lv_iconst (v := (-1)) hx hb dX10_sign_44 (by decide) ?_
        have hFc := o_free hD hS hA
        refine va_calli (va_runV (As := [.int (-1)]) (rest := []) ⟨hx, hb, hml, hown, hts⟩ (c_X10_refuse l dC dI H.size cq Z gI o to (-1) (by decide)) (cwV 1 hts gX10_sign_X10_refuse rfl rfl rfl (by decide +kernel) ⟨(Nat.le_of_ble_eq_true rfl), (Nat.le_of_ble_eq_true rfl)⟩) (pr_V (r := (RX10, TX10, 16)) hP hK hD q_1 10 rfl hq_1) rfl rfl hl.1 rfl (lv_room (Nat.le_of_ble_eq_true rfl)) dX10_sign_45 ⟨(Nat.le_of_ble_eq_true rfl), (Nat.le_of_ble_eq_true rfl)⟩) hS (fun q _ h => hFc q h) hFc (fun r_33 u t H locs ht hvm w_32 hB hz1 hk1 hS => ?_)
        obtain ⟨S_34, rfl⟩ : ∃ z, z = u := ⟨_, rfl⟩
        obtain ⟨hP1, hK1, hD1⟩ := hB
        rw [ht] at hP1
        have hP : va_P (dC, dI) vwCl (oW cq S_34) H := hP1
        have hD : va_D A (oW cq S_34) := hD1.weaken (fun _ _ _ h => hFc _ h)
        clear hP1 hK1 hD1 hk1 hz1 hvm ht hFc
        obtain ⟨hIS_34, XS_34, hb_35, hx_36⟩ := w_32
        have X_37 : oX [1006, 2016, 2107, 2108, 5001] Z S_34 := oX.st oX.rf XS_34 (by decide)
        have rf_38 : r_33.toInt = -1 := by rw [hx_36]; decide
        refine W.widen (k := 4) (n := 64) (Nat.le_of_ble_eq_true rfl) (Nat.le_of_ble_eq_true rfl) ?_
        exact W.iret (v := r_33) hx hb hr (fun t ht hW => ⟨⟨r_33, S_34, rfl, ⟨hIS_34, X_37⟩, ⟨by rw [ht]; exact hP, va_K.moved hW.alike hK, hD⟩⟩, hS.F ht⟩) hS.2.2 dX10_sign_48
      · refine W.eq (g2 := F0 m 20 ls [.ref b_31]) rfl ?_
        have tb_31 : oty Z b_31 1 := hk_30 b_31 rfl
        refine lv_astore (lv' := [(8, .ref b_31), (7, .ref b_9), (6, .null), (0, .ref o), (1, .int x1), (2, .int x2), (3, .int x3), (4, .int x4), (5, .int x5)]) hx hb dX10_sign_20 hl (by decide) rfl (fun ls hl => ?_)
        refine lv_aloadN hx hb dX10_sign_22 (lv_at hl 2 rfl) ?_
        refine lv_ifnullN (tgt := 43) hx hb dX10_sign_24 (by decide) ?_
        refine lv_aload_n hx hb dX10_sign_43 rfl (lv_at hl 3 rfl) ?_
        refine lv_iconst (v := (-1)) hx hb dX10_sign_44 (by decide) ?_
        have hFc := o_free hD hS hA
        refine va_calli (va_runV (As := [.int (-1)]) (rest := []) ⟨hx, hb, hml, hown, hts⟩ (c_X10_refuse l dC dI H.size cq Z gI o to (-1) (by decide)) (cwV 1 hts gX10_sign_X10_refuse rfl rfl rfl (by decide +kernel) ⟨(Nat.le_of_ble_eq_true rfl), (Nat.le_of_ble_eq_true rfl)⟩) (pr_V (r := (RX10, TX10, 16)) hP hK hD q_1 10 rfl hq_1) rfl rfl hl.1 rfl (lv_room (Nat.le_of_ble_eq_true rfl)) dX10_sign_45 ⟨(Nat.le_of_ble_eq_true rfl), (Nat.le_of_ble_eq_true rfl)⟩) hS (fun q _ h => hFc q h) hFc (fun r_40 u t H locs ht hvm w_39 hB hz1 hk1 hS => ?_)
        obtain ⟨S_41, rfl⟩ : ∃ z, z = u := ⟨_, rfl⟩
        obtain ⟨hP1, hK1, hD1⟩ := hB
        rw [ht] at hP1
        have hP : va_P (dC, dI) vwCl (oW cq S_41) H := hP1
        have hD : va_D A (oW cq S_41) := hD1.weaken (fun _ _ _ h => hFc _ h)
        clear hP1 hK1 hD1 hk1 hz1 hvm ht hFc
        obtain ⟨hIS_41, XS_41, hb_42, hx_43⟩ := w_39
        have X_44 : oX [1006, 2016, 2107, 2108, 5001] Z S_41 := oX.st oX.rf XS_41 (by decide)
        have rf_45 : r_40.toInt = -1 := by rw [hx_43]; decide
        refine W.widen (k := 4) (n := 64) (Nat.le_of_ble_eq_true rfl) (Nat.le_of_ble_eq_true rfl) ?_
        exact W.iret (v := r_40) hx hb hr (fun t ht hW => ⟨⟨r_40, S_41, rfl, ⟨hIS_41, X_44⟩, ⟨by rw [ht]; exact hP, va_K.moved hW.alike hK, hD⟩⟩, hS.F ht⟩) hS.2.2 dX10_sign_48
  · refine W.eq (g2 := F0 m 5 ls [.ref b_5]) rfl ?_
    have tb_5 : oty Z b_5 6 := hk_4 b_5 rfl
    refine lv_astore (lv' := [(6, .ref b_5), (0, .ref o), (1, .int x1), (2, .int x2), (3, .int x3), (4, .int x4), (5, .int x5)]) hx hb dX10_sign_5 hl (by decide) rfl (fun ls hl => ?_)
    refine lv_aload_n hx hb dX10_sign_7 rfl (lv_at hl 1 rfl) ?_
    refine lv_iload_n hx hb dX10_sign_8 rfl (lv_at hl 3 rfl) ?_
    have hFc : ∀ q, va_A [] H.size q → A q := pu_free hS hA
    refine va_callq (va_runV (As := [.int x2]) (rest := []) ⟨hx, hb, hml, hown, hts⟩ (c_X10_voyageAt l dC dI H.size cq Z gI o to x2) (cwV 1 hts gX10_sign_X10_voyageAt rfl rfl rfl (by decide +kernel) ⟨(Nat.le_of_ble_eq_true rfl), (Nat.le_of_ble_eq_true rfl)⟩) (pr_V (r := (RX10, TX10, 16)) hP hK hD q_1 10 rfl hq_1) rfl rfl hl.1 rfl (lv_room (Nat.le_of_ble_eq_true rfl)) dX10_sign_9 ⟨(Nat.le_of_ble_eq_true rfl), (Nat.le_of_ble_eq_true rfl)⟩) hS (fun q _ h => hFc q h) hFc (fun r_47 u t H locs ht hvm w_46 hB hz1 hk1 hS => ?_)
    have hP := pu_keep hP hk1
    clear hk1 hz1 hvm hB ht hFc
    have hk_48 := w_46
    rcases r_47 with _ | b_49
    · refine W.eq (g2 := F0 m 12 ls [.null]) rfl ?_
      refine lv_astoreN (lv' := [(7, .null), (6, .ref b_5), (0, .ref o), (1, .int x1), (2, .int x2), (3, .int x3), (4, .int x4), (5, .int x5)]) hx hb dX10_sign_12 hl (by decide) rfl (fun ls hl => ?_)
      refine lv_aload_n hx hb dX10_sign_14 rfl (lv_at hl 2 rfl) ?_
      refine lv_iload hx hb dX10_sign_15 (lv_at hl 7 rfl) ?_
      have hFc : ∀ q, va_A [] H.size q → A q := pu_free hS hA
      refine va_callq (va_runV (As := [.int x5]) (rest := []) ⟨hx, hb, hml, hown, hts⟩ (c_X10_agreementAt l dC dI H.size cq Z gI o to x5) (cwV 1 hts gX10_sign_X10_agreementAt rfl rfl rfl (by decide +kernel) ⟨(Nat.le_of_ble_eq_true rfl), (Nat.le_of_ble_eq_true rfl)⟩) (pr_V (r := (RX10, TX10, 16)) hP hK hD q_1 10 rfl hq_1) rfl rfl hl.1 rfl (lv_room (Nat.le_of_ble_eq_true rfl)) dX10_sign_17 ⟨(Nat.le_of_ble_eq_true rfl), (Nat.le_of_ble_eq_true rfl)⟩) hS (fun q _ h => hFc q h) hFc (fun r_51 u t H locs ht hvm w_50 hB hz1 hk1 hS => ?_)
      have hP := pu_keep hP hk1
      clear hk1 hz1 hvm hB ht hFc
      have hk_52 := w_50
      rcases r_51 with _ | b_53
      · refine W.eq (g2 := F0 m 20 ls [.null]) rfl ?_
        refine lv_astoreN (lv' := [(8, .null), (7, .null), (6, .ref b_5), (0, .ref o), (1, .int x1), (2, .int x2), (3, .int x3), (4, .int x4), (5, .int x5)]) hx hb dX10_sign_20 hl (by decide) rfl (fun ls hl => ?_)
        refine lv_aload hx hb dX10_sign_22 (lv_at hl 2 rfl) ?_
        refine lv_ifnull hx hb dX10_sign_24 ?_
        refine lv_aloadN hx hb dX10_sign_27 (lv_at hl 1 rfl) ?_
        refine lv_ifnullN (tgt := 43) hx hb dX10_sign_29 (by decide) ?_
        refine lv_aload_n hx hb dX10_sign_43 rfl (lv_at hl 3 rfl) ?_
        refine lv_iconst (v := (-1)) hx hb dX10_sign_44 (by decide) ?_
        have hFc := o_free hD hS hA
        refine va_calli (va_runV (As := [.int (-1)]) (rest := []) ⟨hx, hb, hml, hown, hts⟩ (c_X10_refuse l dC dI H.size cq Z gI o to (-1) (by decide)) (cwV 1 hts gX10_sign_X10_refuse rfl rfl rfl (by decide +kernel) ⟨(Nat.le_of_ble_eq_true rfl), (Nat.le_of_ble_eq_true rfl)⟩) (pr_V (r := (RX10, TX10, 16)) hP hK hD q_1 10 rfl hq_1) rfl rfl hl.1 rfl (lv_room (Nat.le_of_ble_eq_true rfl)) dX10_sign_45 ⟨(Nat.le_of_ble_eq_true rfl), (Nat.le_of_ble_eq_true rfl)⟩) hS (fun q _ h => hFc q h) hFc (fun r_55 u t H locs ht hvm w_54 hB hz1 hk1 hS => ?_)
        obtain ⟨S_56, rfl⟩ : ∃ z, z = u := ⟨_, rfl⟩
        obtain ⟨hP1, hK1, hD1⟩ := hB
        rw [ht] at hP1
        have hP : va_P (dC, dI) vwCl (oW cq S_56) H := hP1
        have hD : va_D A (oW cq S_56) := hD1.weaken (fun _ _ _ h => hFc _ h)
        clear hP1 hK1 hD1 hk1 hz1 hvm ht hFc
        obtain ⟨hIS_56, XS_56, hb_57, hx_58⟩ := w_54
        have X_59 : oX [1006, 2016, 2107, 2108, 5001] Z S_56 := oX.st oX.rf XS_56 (by decide)
        have rf_60 : r_55.toInt = -1 := by rw [hx_58]; decide
        refine W.widen (k := 4) (n := 64) (Nat.le_of_ble_eq_true rfl) (Nat.le_of_ble_eq_true rfl) ?_
        exact W.iret (v := r_55) hx hb hr (fun t ht hW => ⟨⟨r_55, S_56, rfl, ⟨hIS_56, X_59⟩, ⟨by rw [ht]; exact hP, va_K.moved hW.alike hK, hD⟩⟩, hS.F ht⟩) hS.2.2 dX10_sign_48
      · refine W.eq (g2 := F0 m 20 ls [.ref b_53]) rfl ?_
        have tb_53 : oty Z b_53 1 := hk_52 b_53 rfl
        refine lv_astore (lv' := [(8, .ref b_53), (7, .null), (6, .ref b_5), (0, .ref o), (1, .int x1), (2, .int x2), (3, .int x3), (4, .int x4), (5, .int x5)]) hx hb dX10_sign_20 hl (by decide) rfl (fun ls hl => ?_)
        refine lv_aload hx hb dX10_sign_22 (lv_at hl 2 rfl) ?_
        refine lv_ifnull hx hb dX10_sign_24 ?_
        refine lv_aloadN hx hb dX10_sign_27 (lv_at hl 1 rfl) ?_
        refine lv_ifnullN (tgt := 43) hx hb dX10_sign_29 (by decide) ?_
        refine lv_aload_n hx hb dX10_sign_43 rfl (lv_at hl 3 rfl) ?_
        refine lv_iconst (v := (-1)) hx hb dX10_sign_44 (by decide) ?_
        have hFc := o_free hD hS hA
        refine va_calli (va_runV (As := [.int (-1)]) (rest := []) ⟨hx, hb, hml, hown, hts⟩ (c_X10_refuse l dC dI H.size cq Z gI o to (-1) (by decide)) (cwV 1 hts gX10_sign_X10_refuse rfl rfl rfl (by decide +kernel) ⟨(Nat.le_of_ble_eq_true rfl), (Nat.le_of_ble_eq_true rfl)⟩) (pr_V (r := (RX10, TX10, 16)) hP hK hD q_1 10 rfl hq_1) rfl rfl hl.1 rfl (lv_room (Nat.le_of_ble_eq_true rfl)) dX10_sign_45 ⟨(Nat.le_of_ble_eq_true rfl), (Nat.le_of_ble_eq_true rfl)⟩) hS (fun q _ h => hFc q h) hFc (fun r_62 u t H locs ht hvm w_61 hB hz1 hk1 hS => ?_)
        obtain ⟨S_63, rfl⟩ : ∃ z, z = u := ⟨_, rfl⟩
        obtain ⟨hP1, hK1, hD1⟩ := hB
        rw [ht] at hP1
        have hP : va_P (dC, dI) vwCl (oW cq S_63) H := hP1
        have hD : va_D A (oW cq S_63) := hD1.weaken (fun _ _ _ h => hFc _ h)
        clear hP1 hK1 hD1 hk1 hz1 hvm ht hFc
        obtain ⟨hIS_63, XS_63, hb_64, hx_65⟩ := w_61
        have X_66 : oX [1006, 2016, 2107, 2108, 5001] Z S_63 := oX.st oX.rf XS_63 (by decide)
        have rf_67 : r_62.toInt = -1 := by rw [hx_65]; decide
        refine W.widen (k := 4) (n := 64) (Nat.le_of_ble_eq_true rfl) (Nat.le_of_ble_eq_true rfl) ?_
        exact W.iret (v := r_62) hx hb hr (fun t ht hW => ⟨⟨r_62, S_63, rfl, ⟨hIS_63, X_66⟩, ⟨by rw [ht]; exact hP, va_K.moved hW.alike hK, hD⟩⟩, hS.F ht⟩) hS.2.2 dX10_sign_48
    · refine W.eq (g2 := F0 m 12 ls [.ref b_49]) rfl ?_
      have tb_49 : oty Z b_49 9 := hk_48 b_49 rfl
      refine lv_astore (lv' := [(7, .ref b_49), (6, .ref b_5), (0, .ref o), (1, .int x1), (2, .int x2), (3, .int x3), (4, .int x4), (5, .int x5)]) hx hb dX10_sign_12 hl (by decide) rfl (fun ls hl => ?_)
      refine lv_aload_n hx hb dX10_sign_14 rfl (lv_at hl 2 rfl) ?_
      refine lv_iload hx hb dX10_sign_15 (lv_at hl 7 rfl) ?_
      have hFc : ∀ q, va_A [] H.size q → A q := pu_free hS hA
      refine va_callq (va_runV (As := [.int x5]) (rest := []) ⟨hx, hb, hml, hown, hts⟩ (c_X10_agreementAt l dC dI H.size cq Z gI o to x5) (cwV 1 hts gX10_sign_X10_agreementAt rfl rfl rfl (by decide +kernel) ⟨(Nat.le_of_ble_eq_true rfl), (Nat.le_of_ble_eq_true rfl)⟩) (pr_V (r := (RX10, TX10, 16)) hP hK hD q_1 10 rfl hq_1) rfl rfl hl.1 rfl (lv_room (Nat.le_of_ble_eq_true rfl)) dX10_sign_17 ⟨(Nat.le_of_ble_eq_true rfl), (Nat.le_of_ble_eq_true rfl)⟩) hS (fun q _ h => hFc q h) hFc (fun r_69 u t H locs ht hvm w_68 hB hz1 hk1 hS => ?_)
      have hP := pu_keep hP hk1
      clear hk1 hz1 hvm hB ht hFc
      have hk_70 := w_68
      rcases r_69 with _ | b_71
      · refine W.eq (g2 := F0 m 20 ls [.null]) rfl ?_
        refine lv_astoreN (lv' := [(8, .null), (7, .ref b_49), (6, .ref b_5), (0, .ref o), (1, .int x1), (2, .int x2), (3, .int x3), (4, .int x4), (5, .int x5)]) hx hb dX10_sign_20 hl (by decide) rfl (fun ls hl => ?_)
        refine lv_aload hx hb dX10_sign_22 (lv_at hl 2 rfl) ?_
        refine lv_ifnull hx hb dX10_sign_24 ?_
        refine lv_aload hx hb dX10_sign_27 (lv_at hl 1 rfl) ?_
        refine lv_ifnull hx hb dX10_sign_29 ?_
        refine lv_aloadN hx hb dX10_sign_32 (lv_at hl 0 rfl) ?_
        refine lv_ifnonnullN hx hb dX10_sign_34 ?_
        refine lv_iload hx hb dX10_sign_37 (lv_at hl 8 rfl) ?_
        refine lv_iconst (v := (-1)) hx hb dX10_sign_39 (by decide) ?_
        refine lv_icmp_eq (tgt := 49) hx hb dX10_sign_40 (by decide) (fun c_72 => ?_) (fun c_72 => ?_)
        · have dc_72 := c_eq (a := x5.toInt) (b := (-1)) rfl (by decide) c_72
          refine lv_iload_n hx hb dX10_sign_49 rfl (lv_at hl 6 rfl) ?_
          refine lv_iconst (v := 1) hx hb dX10_sign_50 (by decide) ?_
          refine lv_icmp_lt (tgt := 59) hx hb dX10_sign_51 (by decide) (fun c_73 => ?_) (fun c_73 => ?_)
          · have dc_73 := c_lt (a := x3.toInt) (b := 1) rfl (by decide) c_73
            refine lv_aload_n hx hb dX10_sign_59 rfl (lv_at hl 3 rfl) ?_
            refine lv_bipush (v := (-4)) hx hb dX10_sign_60 (by decide) ?_
            have hFc := o_free hD hS hA
            refine va_calli (va_runV (As := [.int (-4)]) (rest := []) ⟨hx, hb, hml, hown, hts⟩ (c_X10_refuse l dC dI H.size cq Z gI o to (-4) (by decide)) (cwV 1 hts gX10_sign_X10_refuse rfl rfl rfl (by decide +kernel) ⟨(Nat.le_of_ble_eq_true rfl), (Nat.le_of_ble_eq_true rfl)⟩) (pr_V (r := (RX10, TX10, 16)) hP hK hD q_1 10 rfl hq_1) rfl rfl hl.1 rfl (lv_room (Nat.le_of_ble_eq_true rfl)) dX10_sign_62 ⟨(Nat.le_of_ble_eq_true rfl), (Nat.le_of_ble_eq_true rfl)⟩) hS (fun q _ h => hFc q h) hFc (fun r_75 u t H locs ht hvm w_74 hB hz1 hk1 hS => ?_)
            obtain ⟨S_76, rfl⟩ : ∃ z, z = u := ⟨_, rfl⟩
            obtain ⟨hP1, hK1, hD1⟩ := hB
            rw [ht] at hP1
            have hP : va_P (dC, dI) vwCl (oW cq S_76) H := hP1
            have hD : va_D A (oW cq S_76) := hD1.weaken (fun _ _ _ h => hFc _ h)
            clear hP1 hK1 hD1 hk1 hz1 hvm ht hFc
            obtain ⟨hIS_76, XS_76, hb_77, hx_78⟩ := w_74
            have X_79 : oX [1006, 2016, 2107, 2108, 5001] Z S_76 := oX.st oX.rf XS_76 (by decide)
            have rf_80 : r_75.toInt = -4 := by rw [hx_78]; decide
            refine W.widen (k := 4) (n := 64) (Nat.le_of_ble_eq_true rfl) (Nat.le_of_ble_eq_true rfl) ?_
            exact W.iret (v := r_75) hx hb hr (fun t ht hW => ⟨⟨r_75, S_76, rfl, ⟨hIS_76, X_79⟩, ⟨by rw [ht]; exact hP, va_K.moved hW.alike hK, hD⟩⟩, hS.F ht⟩) hS.2.2 dX10_sign_65
          · have dc_73 := c_nlt (a := x3.toInt) (b := 1) rfl (by decide) c_73
            refine lv_iload hx hb dX10_sign_54 (lv_at hl 7 rfl) ?_
            refine lv_if_ge (tgt := 66) hx hb dX10_sign_56 (by decide) (fun c_81 => ?_) (fun c_81 => ?_)
            · have dc_81 := c_le (a := 0) (b := x4.toInt) (by decide) rfl c_81
              refine lv_iload_n hx hb dX10_sign_66 rfl (lv_at hl 6 rfl) ?_
              refine lv_sipush (v := 9999) hx hb dX10_sign_67 (by decide) ?_
              refine lv_icmp_gt (tgt := 88) hx hb dX10_sign_70 (by decide) (fun c_82 => ?_) (fun c_82 => ?_)
              · have dc_82 := c_lt (a := 9999) (b := x3.toInt) (by decide) rfl c_82
                refine lv_aload_n hx hb dX10_sign_88 rfl (lv_at hl 3 rfl) ?_
                refine lv_bipush (v := (-6)) hx hb dX10_sign_89 (by decide) ?_
                have hFc := o_free hD hS hA
                refine va_calli (va_runV (As := [.int (-6)]) (rest := []) ⟨hx, hb, hml, hown, hts⟩ (c_X10_refuse l dC dI H.size cq Z gI o to (-6) (by decide)) (cwV 1 hts gX10_sign_X10_refuse rfl rfl rfl (by decide +kernel) ⟨(Nat.le_of_ble_eq_true rfl), (Nat.le_of_ble_eq_true rfl)⟩) (pr_V (r := (RX10, TX10, 16)) hP hK hD q_1 10 rfl hq_1) rfl rfl hl.1 rfl (lv_room (Nat.le_of_ble_eq_true rfl)) dX10_sign_91 ⟨(Nat.le_of_ble_eq_true rfl), (Nat.le_of_ble_eq_true rfl)⟩) hS (fun q _ h => hFc q h) hFc (fun r_84 u t H locs ht hvm w_83 hB hz1 hk1 hS => ?_)
                obtain ⟨S_85, rfl⟩ : ∃ z, z = u := ⟨_, rfl⟩
                obtain ⟨hP1, hK1, hD1⟩ := hB
                rw [ht] at hP1
                have hP : va_P (dC, dI) vwCl (oW cq S_85) H := hP1
                have hD : va_D A (oW cq S_85) := hD1.weaken (fun _ _ _ h => hFc _ h)
                clear hP1 hK1 hD1 hk1 hz1 hvm ht hFc
                obtain ⟨hIS_85, XS_85, hb_86, hx_87⟩ := w_83
                have X_88 : oX [1006, 2016, 2107, 2108, 5001] Z S_85 := oX.st oX.rf XS_85 (by decide)
                have rf_89 : r_84.toInt = -6 := by rw [hx_87]; decide
                refine W.widen (k := 4) (n := 64) (Nat.le_of_ble_eq_true rfl) (Nat.le_of_ble_eq_true rfl) ?_
                exact W.iret (v := r_84) hx hb hr (fun t ht hW => ⟨⟨r_84, S_85, rfl, ⟨hIS_85, X_88⟩, ⟨by rw [ht]; exact hP, va_K.moved hW.alike hK, hD⟩⟩, hS.F ht⟩) hS.2.2 dX10_sign_94
              · have dc_82 := c_nlt (a := 9999) (b := x3.toInt) (by decide) rfl c_82
                refine lv_iload hx hb dX10_sign_73 (lv_at hl 7 rfl) ?_
                refine lv_iconst (v := 4) hx hb dX10_sign_75 (by decide) ?_
                refine lv_icmp_ge (tgt := 88) hx hb dX10_sign_76 (by decide) (fun c_90 => ?_) (fun c_90 => ?_)
                · have dc_90 := c_le (a := 4) (b := x4.toInt) (by decide) rfl c_90
                  refine lv_aload_n hx hb dX10_sign_88 rfl (lv_at hl 3 rfl) ?_
                  refine lv_bipush (v := (-6)) hx hb dX10_sign_89 (by decide) ?_
                  have hFc := o_free hD hS hA
                  refine va_calli (va_runV (As := [.int (-6)]) (rest := []) ⟨hx, hb, hml, hown, hts⟩ (c_X10_refuse l dC dI H.size cq Z gI o to (-6) (by decide)) (cwV 1 hts gX10_sign_X10_refuse rfl rfl rfl (by decide +kernel) ⟨(Nat.le_of_ble_eq_true rfl), (Nat.le_of_ble_eq_true rfl)⟩) (pr_V (r := (RX10, TX10, 16)) hP hK hD q_1 10 rfl hq_1) rfl rfl hl.1 rfl (lv_room (Nat.le_of_ble_eq_true rfl)) dX10_sign_91 ⟨(Nat.le_of_ble_eq_true rfl), (Nat.le_of_ble_eq_true rfl)⟩) hS (fun q _ h => hFc q h) hFc (fun r_92 u t H locs ht hvm w_91 hB hz1 hk1 hS => ?_)
                  obtain ⟨S_93, rfl⟩ : ∃ z, z = u := ⟨_, rfl⟩
                  obtain ⟨hP1, hK1, hD1⟩ := hB
                  rw [ht] at hP1
                  have hP : va_P (dC, dI) vwCl (oW cq S_93) H := hP1
                  have hD : va_D A (oW cq S_93) := hD1.weaken (fun _ _ _ h => hFc _ h)
                  clear hP1 hK1 hD1 hk1 hz1 hvm ht hFc
                  obtain ⟨hIS_93, XS_93, hb_94, hx_95⟩ := w_91
                  have X_96 : oX [1006, 2016, 2107, 2108, 5001] Z S_93 := oX.st oX.rf XS_93 (by decide)
                  have rf_97 : r_92.toInt = -6 := by rw [hx_95]; decide
                  refine W.widen (k := 4) (n := 64) (Nat.le_of_ble_eq_true rfl) (Nat.le_of_ble_eq_true rfl) ?_
                  exact W.iret (v := r_92) hx hb hr (fun t ht hW => ⟨⟨r_92, S_93, rfl, ⟨hIS_93, X_96⟩, ⟨by rw [ht]; exact hP, va_K.moved hW.alike hK, hD⟩⟩, hS.F ht⟩) hS.2.2 dX10_sign_94
                · have dc_90 := c_nle (a := 4) (b := x4.toInt) (by decide) rfl c_90
                  refine lv_aload_n hx hb dX10_sign_79 rfl (lv_at hl 3 rfl) ?_
                  refine va_get (D := (dC, dI)) (ci := 10) (v := .int (oI Z o 6)) (C := RX10) (T := TX10) (N := 16) hx hb hts in_wsX10_sign_X10 hown hK hP q_1 hq_1 rfl 6 (by decide) (hts (.fieldLink RX10 115 "ShipOffice" "agreementCount" "I") iw_X10_sign_1) (fun _ h9 => h9) rfl dX10_sign_80 ?_
                  refine lv_topi (fun x_98 ex_98 => ?_)
                  have hx_98 : 0 ≤ x_98.toInt ∧ x_98.toInt ≤ 60 := iv_of ex_98 (oInv.iv gI to.2 rfl rfl)
                  have gx_98 : x_98.toInt = (oI Z o 6).toInt := iv_to ex_98
                  clear ex_98
                  refine lv_bipush (v := 60) hx hb dX10_sign_83 (by decide) ?_
                  refine lv_icmp_lt (tgt := 95) hx hb dX10_sign_85 (by decide) (fun c_99 => ?_) (fun c_99 => ?_)
                  · have dc_99 := c_lt (a := x_98.toInt) (b := 60) rfl (by decide) c_99
                    refine lv_aloadN hx hb dX10_sign_95 (lv_at hl 0 rfl) ?_
                    refine lv_ifnullN (tgt := 110) hx hb dX10_sign_97 (by decide) ?_
                    refine lv_iconst (v := 1) hx hb dX10_sign_110 (by decide) ?_
                    refine lv_goto (tgt := 115) hx hb dX10_sign_111 (by decide) ?_
                    refine lv_istore (lv' := [(9, .int 1), (8, .null), (7, .ref b_49), (6, .ref b_5), (0, .ref o), (1, .int x1), (2, .int x2), (3, .int x3), (4, .int x4), (5, .int x5)]) hx hb dX10_sign_115 hl (by decide) rfl (fun ls hl => ?_)
                    refine lv_aload hx hb dX10_sign_117 (lv_at hl 2 rfl) ?_
                    have hFc : ∀ q, va_A [] H.size q → A q := pu_free hS hA
                    obtain ⟨q_100, hq_100⟩ := og (cq := cq) tb_49.1 (oE_9 tb_49.2)
                    refine va_calli (va_runV (As := []) (rest := []) ⟨hx, hb, hml, hown, hts⟩ (c_X9_takesHands l dC dI H.size cq Z gI b_49 tb_49) (cwV 0 hts gX10_sign_X9_takesHands rfl rfl rfl (by decide +kernel) ⟨(Nat.le_of_ble_eq_true rfl), (Nat.le_of_ble_eq_true rfl)⟩) (pr_V (r := (RX9, TX9, 10)) hP hK hD q_100 9 rfl hq_100) rfl rfl hl.1 rfl (lv_room (Nat.le_of_ble_eq_true rfl)) dX10_sign_119 ⟨(Nat.le_of_ble_eq_true rfl), (Nat.le_of_ble_eq_true rfl)⟩) hS (fun q _ h => hFc q h) hFc (fun r_102 u t H locs ht hvm w_101 hB hz1 hk1 hS => ?_)
                    have hP := pu_keep hP hk1
                    clear hk1 hz1 hvm hB ht hFc
                    have hb_103 := w_101
                    refine lv_if_eq (tgt := 151) hx hb dX10_sign_122 (by decide) (fun c_104 => ?_) (fun c_104 => ?_)
                    · have dc_104 := c_eq (a := r_102.toInt) (b := 0) rfl (by decide) c_104
                      refine lv_aload_n hx hb dX10_sign_151 rfl (lv_at hl 4 rfl) ?_
                      refine lv_bipush (v := (-3)) hx hb dX10_sign_152 (by decide) ?_
                      have hFc := o_free hD hS hA
                      refine va_calli (va_runV (As := [.int (-3)]) (rest := []) ⟨hx, hb, hml, hown, hts⟩ (c_X10_refuse l dC dI H.size cq Z gI o to (-3) (by decide)) (cwV 1 hts gX10_sign_X10_refuse rfl rfl rfl (by decide +kernel) ⟨(Nat.le_of_ble_eq_true rfl), (Nat.le_of_ble_eq_true rfl)⟩) (pr_V (r := (RX10, TX10, 16)) hP hK hD q_1 10 rfl hq_1) rfl rfl hl.1 rfl (lv_room (Nat.le_of_ble_eq_true rfl)) dX10_sign_154 ⟨(Nat.le_of_ble_eq_true rfl), (Nat.le_of_ble_eq_true rfl)⟩) hS (fun q _ h => hFc q h) hFc (fun r_106 u t H locs ht hvm w_105 hB hz1 hk1 hS => ?_)
                      obtain ⟨S_107, rfl⟩ : ∃ z, z = u := ⟨_, rfl⟩
                      obtain ⟨hP1, hK1, hD1⟩ := hB
                      rw [ht] at hP1
                      have hP : va_P (dC, dI) vwCl (oW cq S_107) H := hP1
                      have hD : va_D A (oW cq S_107) := hD1.weaken (fun _ _ _ h => hFc _ h)
                      clear hP1 hK1 hD1 hk1 hz1 hvm ht hFc
                      obtain ⟨hIS_107, XS_107, hb_108, hx_109⟩ := w_105
                      have X_110 : oX [1006, 2016, 2107, 2108, 5001] Z S_107 := oX.st oX.rf XS_107 (by decide)
                      have g_111 : (oI S_107 o 6).toInt = (oI Z o 6).toInt := by rw [oX.i XS_107 to (by decide)]
                      have rf_112 : r_106.toInt = -3 := by rw [hx_109]; decide
                      refine W.widen (k := 4) (n := 64) (Nat.le_of_ble_eq_true rfl) (Nat.le_of_ble_eq_true rfl) ?_
                      exact W.iret (v := r_106) hx hb hr (fun t ht hW => ⟨⟨r_106, S_107, rfl, ⟨hIS_107, X_110⟩, ⟨by rw [ht]; exact hP, va_K.moved hW.alike hK, hD⟩⟩, hS.F ht⟩) hS.2.2 dX10_sign_157
                    · have dc_104 := c_ne (a := r_102.toInt) (b := 0) rfl (by decide) c_104
                      refine lv_aload_n hx hb dX10_sign_125 rfl (lv_at hl 4 rfl) ?_
                      refine lv_aload hx hb dX10_sign_126 (lv_at hl 3 rfl) ?_
                      have hFc : ∀ q, va_A [] H.size q → A q := pu_free hS hA
                      refine va_calli (va_runV (As := [.ref b_5]) (rest := []) ⟨hx, hb, hml, hown, hts⟩ (c_X10_isFree l dC dI H.size cq Z gI o to b_5 tb_5) (cwV 1 hts gX10_sign_X10_isFree rfl rfl rfl (by decide +kernel) ⟨(Nat.le_of_ble_eq_true rfl), (Nat.le_of_ble_eq_true rfl)⟩) (pr_V (r := (RX10, TX10, 16)) hP hK hD q_1 10 rfl hq_1) rfl rfl hl.1 rfl (lv_room (Nat.le_of_ble_eq_true rfl)) dX10_sign_128 ⟨(Nat.le_of_ble_eq_true rfl), (Nat.le_of_ble_eq_true rfl)⟩) hS (fun q _ h => hFc q h) hFc (fun r_114 u t H locs ht hvm w_113 hB hz1 hk1 hS => ?_)
                      have hP := pu_keep hP hk1
                      clear hk1 hz1 hvm hB ht hFc
                      have hb_115 := w_113
                      refine lv_if_eq (tgt := 151) hx hb dX10_sign_131 (by decide) (fun c_116 => ?_) (fun c_116 => ?_)
                      · have dc_116 := c_eq (a := r_114.toInt) (b := 0) rfl (by decide) c_116
                        refine lv_aload_n hx hb dX10_sign_151 rfl (lv_at hl 4 rfl) ?_
                        refine lv_bipush (v := (-3)) hx hb dX10_sign_152 (by decide) ?_
                        have hFc := o_free hD hS hA
                        refine va_calli (va_runV (As := [.int (-3)]) (rest := []) ⟨hx, hb, hml, hown, hts⟩ (c_X10_refuse l dC dI H.size cq Z gI o to (-3) (by decide)) (cwV 1 hts gX10_sign_X10_refuse rfl rfl rfl (by decide +kernel) ⟨(Nat.le_of_ble_eq_true rfl), (Nat.le_of_ble_eq_true rfl)⟩) (pr_V (r := (RX10, TX10, 16)) hP hK hD q_1 10 rfl hq_1) rfl rfl hl.1 rfl (lv_room (Nat.le_of_ble_eq_true rfl)) dX10_sign_154 ⟨(Nat.le_of_ble_eq_true rfl), (Nat.le_of_ble_eq_true rfl)⟩) hS (fun q _ h => hFc q h) hFc (fun r_118 u t H locs ht hvm w_117 hB hz1 hk1 hS => ?_)
                        obtain ⟨S_119, rfl⟩ : ∃ z, z = u := ⟨_, rfl⟩
                        obtain ⟨hP1, hK1, hD1⟩ := hB
                        rw [ht] at hP1
                        have hP : va_P (dC, dI) vwCl (oW cq S_119) H := hP1
                        have hD : va_D A (oW cq S_119) := hD1.weaken (fun _ _ _ h => hFc _ h)
                        clear hP1 hK1 hD1 hk1 hz1 hvm ht hFc
                        obtain ⟨hIS_119, XS_119, hb_120, hx_121⟩ := w_117
                        have X_122 : oX [1006, 2016, 2107, 2108, 5001] Z S_119 := oX.st oX.rf XS_119 (by decide)
                        have g_123 : (oI S_119 o 6).toInt = (oI Z o 6).toInt := by rw [oX.i XS_119 to (by decide)]
                        have rf_124 : r_118.toInt = -3 := by rw [hx_121]; decide
                        refine W.widen (k := 4) (n := 64) (Nat.le_of_ble_eq_true rfl) (Nat.le_of_ble_eq_true rfl) ?_
                        exact W.iret (v := r_118) hx hb hr (fun t ht hW => ⟨⟨r_118, S_119, rfl, ⟨hIS_119, X_122⟩, ⟨by rw [ht]; exact hP, va_K.moved hW.alike hK, hD⟩⟩, hS.F ht⟩) hS.2.2 dX10_sign_157
                      · have dc_116 := c_ne (a := r_114.toInt) (b := 0) rfl (by decide) c_116
                        refine lv_iload hx hb dX10_sign_134 (lv_at hl 0 rfl) ?_
                        refine lv_if_eq (tgt := 151) hx hb dX10_sign_136 (by decide) (fun c_125 => absurd c_125 (by decide)) (fun _ => ?_)
                        refine lv_aload_n hx hb dX10_sign_139 rfl (lv_at hl 4 rfl) ?_
                        refine lv_aload hx hb dX10_sign_140 (lv_at hl 3 rfl) ?_
                        refine lv_iload_n hx hb dX10_sign_142 rfl (lv_at hl 7 rfl) ?_
                        refine lv_iload hx hb dX10_sign_143 (lv_at hl 8 rfl) ?_
                        have hFc := o_free hD hS hA
                        refine va_calli (va_runV (As := [.ref b_5, .int x3, .int x4]) (rest := []) ⟨hx, hb, hml, hown, hts⟩ (c_X10_signWorth l dC dI H.size cq Z gI o to b_5 tb_5 x3 x4) (cwV 3 hts gX10_sign_X10_signWorth rfl rfl rfl (by decide +kernel) ⟨(Nat.le_of_ble_eq_true rfl), (Nat.le_of_ble_eq_true rfl)⟩) (pr_V (r := (RX10, TX10, 16)) hP hK hD q_1 10 rfl hq_1) rfl rfl hl.1 rfl (lv_room (Nat.le_of_ble_eq_true rfl)) dX10_sign_145 ⟨(Nat.le_of_ble_eq_true rfl), (Nat.le_of_ble_eq_true rfl)⟩) hS (fun q _ h => hFc q h) hFc (fun r_127 u t H locs ht hvm w_126 hB hz1 hk1 hS => ?_)
                        obtain ⟨S_128, rfl⟩ : ∃ z, z = u := ⟨_, rfl⟩
                        obtain ⟨hP1, hK1, hD1⟩ := hB
                        rw [ht] at hP1
                        have hP : va_P (dC, dI) vwCl (oW cq S_128) H := hP1
                        have hD : va_D A (oW cq S_128) := hD1.weaken (fun _ _ _ h => hFc _ h)
                        clear hP1 hK1 hD1 hk1 hz1 hvm ht hFc
                        obtain ⟨hIS_128, XS_128⟩ := w_126
                        have X_129 : oX [1006, 2016, 2107, 2108, 5001] Z S_128 := oX.st oX.rf XS_128 (by decide)
                        have g_130 : (oI S_128 o 6).toInt = (oI Z o 6).toInt := by rw [oX.i XS_128 to (by decide)]
                        refine lv_if_gt (tgt := 158) hx hb dX10_sign_148 (by decide) (fun c_131 => ?_) (fun c_131 => ?_)
                        · have dc_131 := c_lt (a := 0) (b := r_127.toInt) (by decide) rfl c_131
                          refine va_new (ci := 1) (fs := [.null, .null, .int 0, .null, .int 0, .int 0, .int 0, .int 0, .null, .int 0, .int 0, .int 0, .null, .int 0, .null, .null, .int 0, .int 0]) (C := RX1) (T := TX1) (N := 18) hx hb hts in_wsX10_sign_X1 tyX1 tyX1_ok hown (hts (.classLink RX10 21 RX1) iw_X10_sign_2) (hts (.instantiable RX1 18) iw_X10_sign_3) (hts (.initialized RX1) iw_X10_sign_4) hK hP hD hS hA rfl (fun j hj => by rcases (show j = 0 ∨ j = 1 ∨ j = 2 ∨ j = 3 ∨ j = 4 ∨ j = 5 ∨ j = 6 ∨ j = 7 ∨ j = 8 ∨ j = 9 ∨ j = 10 ∨ j = 11 ∨ j = 12 ∨ j = 13 ∨ j = 14 ∨ j = 15 ∨ j = 16 ∨ j = 17 by omega) with rfl | rfl | rfl | rfl | rfl | rfl | rfl | rfl | rfl | rfl | rfl | rfl | rfl | rfl | rfl | rfl | rfl | rfl <;> rfl) (Nat.le_of_ble_eq_true rfl) (Nat.le_of_ble_eq_true rfl) dX10_sign_158 (fun q_132 H hP1 hD1 hS => ?_)
                          have hnq_132 := add_q hD1
                          obtain ⟨S_133, eS_133⟩ : ∃ zq, zq = addO S_128 q_132 31 := ⟨_, rfl⟩
                          have hP : va_P (dC, dI) vwCl (oW cq S_133) H := by rw [eS_133]; exact cP (onew hD1 (by rw [oE_31 add_K, add_I, add_P]; rfl)) hP1
                          have hD : va_D A (oW cq S_133) := by rw [eS_133]; exact cD (onew hD1 (by rw [oE_31 add_K, add_I, add_P]; rfl)) hD1
                          clear hP1 hD1
                          have hIS_133 : oInv S_133 := by rw [eS_133]; exact oInv.add hIS_128 hnq_132 (by decide)
                          have XS_133 : oX [] S_128 S_133 := by rw [eS_133]; exact oX.add hnq_132
                          have nzq_132 : q_132 ∉ oL Z := oX.nin X_129 hnq_132
                          have g_134 : (oI S_133 o 6).toInt = (oI S_128 o 6).toInt := by rw [eS_133, add_In hnq_132 (oX.ty XS_128 to).1]
                          have X_135 : oX [1006, 2016, 2107, 2108, 5001] Z S_133 := oX.st X_129 XS_133 (by decide)
                          have tq_132 : oty S_133 q_132 31 := by rw [eS_133]; exact add_ty
                          refine W.widen (k := 1) (n := 18) (Nat.le_of_ble_eq_true rfl) (Nat.le_of_ble_eq_true rfl) ?_
                          refine lv_dup hx hb dX10_sign_161 rfl ?_
                          refine lv_aload hx hb dX10_sign_162 (lv_at hl 3 rfl) ?_
                          refine lv_aload hx hb dX10_sign_164 (lv_at hl 2 rfl) ?_
                          refine lv_aload_n hx hb dX10_sign_166 rfl (lv_at hl 4 rfl) ?_
                          have t_136 : oty S_133 o 10 := (oX.ty XS_133 (oX.ty XS_128 to))
                          obtain ⟨q_137, hq_137⟩ := og (cq := cq) t_136.1 (oE_10 t_136.2)
                          refine va_get (D := (dC, dI)) (ci := 10) (v := .int (oI S_133 o 0)) (C := RX10) (T := TX10) (N := 16) hx hb hts in_wsX10_sign_X10 hown hK hP q_137 hq_137 rfl 0 (by decide) (hts (.fieldLink RX10 73 "ShipOffice" "now" "I") iw_X10_sign_5) (fun _ h9 => h9) rfl dX10_sign_167 ?_
                          refine lv_topi (fun x_138 ex_138 => ?_)
                          have hx_138 : 0 ≤ x_138.toInt ∧ x_138.toInt ≤ 3000 := iv_of ex_138 (oInv.iv hIS_133 t_136.2 rfl rfl)
                          have gx_138 : x_138.toInt = (oI S_133 o 0).toInt := iv_to ex_138
                          clear ex_138
                          refine lv_aloadN hx hb dX10_sign_170 (lv_at hl 1 rfl) ?_
                          have t_139 : oty S_133 b_5 6 := (oX.ty XS_133 (oX.ty XS_128 tb_5))
                          have t_140 : oty S_133 b_49 9 := (oX.ty XS_133 (oX.ty XS_128 tb_49))
                          have hFc := o_free hD hS hA
                          refine va_callv (va_runI (As := [.ref b_5, .ref b_49, .int x_138, .null]) (rest := [.ref q_132]) ⟨hx, hb, hml, hown, hts⟩ (c_X1_init l dC dI H.size tL tS tG cq S_133 hIS_133 q_132 tq_132 b_5 t_139 b_49 t_140 x_138 none (fun b h => by cases h) (fun j => by rw [eS_133, add_I])) (cwI 4 hts gX10_sign_X1_init rfl rfl rfl (hts (.initialized RX1) iw_X10_sign_4) (hts (.methodLink RX10 220 yX1_init) iw_X10_sign_6) (hts (.instanceMethod yX1_init) iw_X10_sign_7) rfl (by decide +kernel) ⟨(Nat.le_of_ble_eq_true rfl), (Nat.le_of_ble_eq_true rfl)⟩) (pr_SO hP hK hD (hZ.go hS hFc)) rfl rfl hl.1 rfl (lv_room (Nat.le_of_ble_eq_true rfl)) dX10_sign_172 ⟨(Nat.le_of_ble_eq_true rfl), (Nat.le_of_ble_eq_true rfl)⟩) hS (fun q _ h => hFc q h) hFc (fun u t H locs ht hvm w_141 hB hz1 hk1 hS => ?_)
                          obtain ⟨S_143, rfl⟩ : ∃ z, z = u := ⟨_, rfl⟩
                          obtain ⟨hP1, hK1, hD1⟩ := hB
                          rw [ht] at hP1
                          have hP : va_P (dC, dI) vwCl (oW cq S_143) H := hP1
                          have hD : va_D A (oW cq S_143) := hD1.weaken (fun _ _ _ h => hFc _ h)
                          clear hP1 hK1 hD1 hk1 hz1 hvm ht hFc
                          refine W.widen (k := 4) (n := 64) (Nat.le_of_ble_eq_true rfl) (Nat.le_of_ble_eq_true rfl) ?_
                          obtain ⟨hIS_143, XS_143, hx_144⟩ := w_141
                          have hxS_143 := hx_144
                          have X_145 : oX [1006, 2016, 2107, 2108, 5001] Z S_143 := oX.c X_135 XS_143 nzq_132 (by decide)
                          have g_146 : (oI S_143 o 0).toInt = (oI S_133 o 0).toInt := by rw [oXc.i XS_143 (ty_ne t_136 tq_132 (by decide)) t_136 (by decide)]
                          have g_147 : (oI S_143 o 6).toInt = (oI S_133 o 6).toInt := by rw [oXc.i XS_143 (ty_ne t_136 tq_132 (by decide)) t_136 (by decide)]
                          refine lv_astore (lv' := [(10, .ref q_132), (9, .int 1), (8, .null), (7, .ref b_49), (6, .ref b_5), (0, .ref o), (1, .int x1), (2, .int x2), (3, .int x3), (4, .int x4), (5, .int x5)]) hx hb dX10_sign_175 hl (by decide) rfl (fun ls hl => ?_)
                          refine lv_aload hx hb dX10_sign_177 (lv_at hl 0 rfl) ?_
                          refine lv_iload_n hx hb dX10_sign_179 rfl (lv_at hl 8 rfl) ?_
                          obtain ⟨q_148, hq_148⟩ := og (cq := cq) hxS_143.1 (oE_1 hxS_143.2)
                          refine va_put (D := (dC, dI)) (ci := 1) (v := .int x3) (ty := .int) (C := RX1) (T := TX1) (N := 18) hx hb hts in_wsX10_sign_X1 tyX1 tyX1_ok nmX1 hown hK hP hD hS q_148 hq_148 rfl 4 (by decide) (hts (.fieldLink RX10 223 "ShipOffice$Agreement" "wage" "I") iw_X10_sign_8) (fun _ h9 => h9) rfl (by decide +kernel) rfl rfl (Nat.le_of_ble_eq_true rfl) dX10_sign_180 (fun H locs hP1 hD1 hS => ?_)
                          obtain ⟨S_149, eS_149⟩ : ∃ zq, zq = setI S_143 q_132 4 x3 := ⟨_, rfl⟩
                          have hP : va_P (dC, dI) vwCl (oW cq S_149) H := by rw [eS_149]; exact cP (oset hxS_143.1 hq_148 hD rfl (he_1_4 hxS_143.2) neI) hP1
                          have hD : va_D A (oW cq S_149) := by rw [eS_149]; exact cD (oset hxS_143.1 hq_148 hD rfl (he_1_4 hxS_143.2) neI) hD1
                          clear hP1 hD1
                          have hIS_149 : oInv S_149 := by rw [eS_149]; exact oInv.I0 (k := 1) (lo := -2147483648) (hi := 2147483647) hIS_143 hxS_143.2 (by decide) rfl rfl rfl (iv_all _)
                          have XS_149 : oX [104] S_143 S_149 := by rw [eS_149]; exact oX.I (k := 1) (key := 104) hxS_143.2 rfl (List.mem_singleton.mpr rfl)
                          have X_150 : oX [1006, 2016, 2107, 2108, 5001] Z S_149 := by rw [eS_149]; exact oX.In X_145 nzq_132
                          have g_151 : (oI S_149 o 0).toInt = (oI S_143 o 0).toInt := by rw [eS_149, setI_oth (ty_ne (oXc.ty XS_143 (ty_ne t_136 tq_132 (by decide)) t_136) hxS_143 (by decide))]
                          have g_152 : (oI S_149 o 6).toInt = (oI S_143 o 6).toInt := by rw [eS_149, setI_oth (ty_ne (oXc.ty XS_143 (ty_ne t_136 tq_132 (by decide)) t_136) hxS_143 (by decide))]
                          refine lv_aload hx hb dX10_sign_183 (lv_at hl 0 rfl) ?_
                          refine lv_iload hx hb dX10_sign_185 (lv_at hl 9 rfl) ?_
                          have t_153 : oty S_149 q_132 1 := (oX.ty XS_149 hxS_143)
                          obtain ⟨q_154, hq_154⟩ := og (cq := cq) t_153.1 (oE_1 t_153.2)
                          refine va_put (D := (dC, dI)) (ci := 1) (v := .int x4) (ty := .int) (C := RX1) (T := TX1) (N := 18) hx hb hts in_wsX10_sign_X1 tyX1 tyX1_ok nmX1 hown hK hP hD hS q_154 hq_154 rfl 5 (by decide) (hts (.fieldLink RX10 226 "ShipOffice$Agreement" "rank" "I") iw_X10_sign_9) (fun _ h9 => h9) rfl (by decide +kernel) rfl rfl (Nat.le_of_ble_eq_true rfl) dX10_sign_187 (fun H locs hP1 hD1 hS => ?_)
                          obtain ⟨S_155, eS_155⟩ : ∃ zq, zq = setI S_149 q_132 5 x4 := ⟨_, rfl⟩
                          have hP : va_P (dC, dI) vwCl (oW cq S_155) H := by rw [eS_155]; exact cP (oset t_153.1 hq_154 hD rfl (he_1_5 t_153.2) neI) hP1
                          have hD : va_D A (oW cq S_155) := by rw [eS_155]; exact cD (oset t_153.1 hq_154 hD rfl (he_1_5 t_153.2) neI) hD1
                          clear hP1 hD1
                          have hIS_155 : oInv S_155 := by rw [eS_155]; exact oInv.I0 (k := 1) (lo := -2147483648) (hi := 2147483647) hIS_149 t_153.2 (by decide) rfl rfl rfl (iv_all _)
                          have XS_155 : oX [105] S_149 S_155 := by rw [eS_155]; exact oX.I (k := 1) (key := 105) t_153.2 rfl (List.mem_singleton.mpr rfl)
                          have X_156 : oX [1006, 2016, 2107, 2108, 5001] Z S_155 := by rw [eS_155]; exact oX.In X_150 nzq_132
                          have g_157 : (oI S_155 o 0).toInt = (oI S_149 o 0).toInt := by rw [eS_155, setI_oth (ty_ne (oX.ty XS_149 (oXc.ty XS_143 (ty_ne t_136 tq_132 (by decide)) t_136)) t_153 (by decide))]
                          have g_158 : (oI S_155 o 6).toInt = (oI S_149 o 6).toInt := by rw [eS_155, setI_oth (ty_ne (oX.ty XS_149 (oXc.ty XS_143 (ty_ne t_136 tq_132 (by decide)) t_136)) t_153 (by decide))]
                          refine lv_aload_n hx hb dX10_sign_190 rfl (lv_at hl 5 rfl) ?_
                          have t_159 : oty S_155 o 10 := (oX.ty XS_155 (oX.ty XS_149 (oXc.ty XS_143 (ty_ne t_136 tq_132 (by decide)) t_136)))
                          obtain ⟨q_160, hq_160⟩ := og (cq := cq) t_159.1 (oE_10 t_159.2)
                          obtain ⟨b_161, hb_161⟩ := oInv.nn (i := 5) hIS_155 t_159 rfl
                          refine va_get (D := (dC, dI)) (ci := 10) (v := .ref b_161) (C := RX10) (T := TX10) (N := 16) hx hb hts in_wsX10_sign_X10 hown hK hP q_160 hq_160 rfl 5 (by decide) (hts (.fieldLink RX10 23 "ShipOffice" "agreements" "[LShipOffice$Agreement;") iw_X10_sign_10) (fun _ h9 => h9) (o_rd hb_161) dX10_sign_191 ?_
                          have tb_161 : oty S_155 b_161 16 := oInv.rd hIS_155 t_159.2 hb_161 rfl rfl
                          refine lv_aload_n hx hb dX10_sign_194 rfl (lv_at hl 5 rfl) ?_
                          refine va_get (D := (dC, dI)) (ci := 10) (v := .int (oI S_155 o 6)) (C := RX10) (T := TX10) (N := 16) hx hb hts in_wsX10_sign_X10 hown hK hP q_160 hq_160 rfl 6 (by decide) (hts (.fieldLink RX10 115 "ShipOffice" "agreementCount" "I") iw_X10_sign_1) (fun _ h9 => h9) rfl dX10_sign_195 ?_
                          refine lv_topi (fun x_162 ex_162 => ?_)
                          have hx_162 : 0 ≤ x_162.toInt ∧ x_162.toInt ≤ 60 := iv_of ex_162 (oInv.iv hIS_155 t_159.2 rfl rfl)
                          have gx_162 : x_162.toInt = (oI S_155 o 6).toInt := iv_to ex_162
                          clear ex_162
                          refine lv_aload hx hb dX10_sign_198 (lv_at hl 0 rfl) ?_
                          obtain ⟨q_163, hq_163⟩ := og (cq := cq) tb_161.1 (oE_16 tb_161.2)
                          have t_164 : oty S_155 q_132 1 := (oX.ty XS_155 t_153)
                          obtain ⟨q_165, hq_165⟩ := og (cq := cq) t_164.1 (oE_1 t_164.2)
                          refine va_astq (r := (RX1, TX1, 18)) hx hb hK hP hD hS q_163 5 q_165 1 hq_163 rfl hq_165 rfl (vp_in_iff.mpr (by omega)) dX10_sign_200 (fun H locs hP1 hD1 hS => ?_)
                          obtain ⟨S_166, eS_166⟩ : ∃ zq, zq = setP S_155 b_161 (x_162 : Int32).toNatClampNeg (some q_132) := ⟨_, rfl⟩
                          have hP : va_P (dC, dI) vwCl (oW cq S_166) H := by rw [eS_166]; exact cP (oset tb_161.1 hq_163 hD rfl (he_16 tb_161.2) neP) hP1
                          have hD : va_D A (oW cq S_166) := by rw [eS_166]; exact cD (oset tb_161.1 hq_163 hD rfl (he_16 tb_161.2) neP) hD1
                          clear hP1 hD1
                          have hIS_166 : oInv S_166 := by rw [eS_166]; exact oInv.P (k := 16) hIS_155 tb_161.2 (by decide) rfl (fun h => absurd h.1 (by decide)) t_164 (show 1 ≤ 1 ∧ 1 ≤ 1 from ⟨Nat.le_refl _, Nat.le_refl _⟩)
                          have XS_166 : oX [2016] S_155 S_166 := by rw [eS_166]; exact oX.P (k := 16) (key := 2016) tb_161.2 rfl (List.mem_singleton.mpr rfl)
                          have X_167 : oX [1006, 2016, 2107, 2108, 5001] Z S_166 := oX.st X_156 XS_166 (by decide)
                          have g_168 : (oI S_166 o 0).toInt = (oI S_155 o 0).toInt := by rw [eS_166]; rfl
                          have g_169 : (oI S_166 o 6).toInt = (oI S_155 o 6).toInt := by rw [eS_166]; rfl
                          have helS_166 : oP S_166 b_161 (x_162 : Int32).toNatClampNeg = some q_132 := by rw [eS_166, setP_same]
                          have hsrS_166 : oP S_166 o 5 = some b_161 := by rw [eS_166, setP_oth (ty_ne t_159 tb_161 (by decide))]; exact hb_161
                          refine lv_aload_n hx hb dX10_sign_201 rfl (lv_at hl 5 rfl) ?_
                          refine lv_dup hx hb dX10_sign_202 rfl ?_
                          have t_170 : oty S_166 o 10 := (oX.ty XS_166 t_159)
                          obtain ⟨q_171, hq_171⟩ := og (cq := cq) t_170.1 (oE_10 t_170.2)
                          refine va_get (D := (dC, dI)) (ci := 10) (v := .int (oI S_166 o 6)) (C := RX10) (T := TX10) (N := 16) hx hb hts in_wsX10_sign_X10 hown hK hP q_171 hq_171 rfl 6 (by decide) (hts (.fieldLink RX10 115 "ShipOffice" "agreementCount" "I") iw_X10_sign_1) (fun _ h9 => h9) rfl dX10_sign_203 ?_
                          refine lv_topi (fun x_172 ex_172 => ?_)
                          have hx_172 : 0 ≤ x_172.toInt ∧ x_172.toInt ≤ 60 := iv_of ex_172 (oInv.iv hIS_166 t_170.2 rfl rfl)
                          have gx_172 : x_172.toInt = (oI S_166 o 6).toInt := iv_to ex_172
                          clear ex_172
                          refine lv_iconst (v := 1) hx hb dX10_sign_206 (by decide) ?_
                          refine lv_iadd hx hb dX10_sign_207 ?_
                          refine lv_topi (fun x_173 ex_173 => ?_)
                          have hx_173 : x_173.toInt = x_172.toInt + 1 := (iv_to ex_173).trans (ad_i rfl (by decide) (by omega) (by omega))
                          clear ex_173
                          refine va_put (D := (dC, dI)) (ci := 10) (v := .int x_173) (ty := .int) (C := RX10) (T := TX10) (N := 16) hx hb hts in_wsX10_sign_X10 tyX10 tyX10_ok nmX10 hown hK hP hD hS q_171 hq_171 rfl 6 (by decide) (hts (.fieldLink RX10 115 "ShipOffice" "agreementCount" "I") iw_X10_sign_1) (fun _ h9 => h9) rfl (by decide +kernel) rfl rfl (Nat.le_of_ble_eq_true rfl) dX10_sign_208 (fun H locs hP1 hD1 hS => ?_)
                          obtain ⟨S_174, eS_174⟩ : ∃ zq, zq = setI S_166 o 6 x_173 := ⟨_, rfl⟩
                          have hP : va_P (dC, dI) vwCl (oW cq S_174) H := by rw [eS_174]; exact cP (oset t_170.1 hq_171 hD rfl (he_10_6 t_170.2) neI) hP1
                          have hD : va_D A (oW cq S_174) := by rw [eS_174]; exact cD (oset t_170.1 hq_171 hD rfl (he_10_6 t_170.2) neI) hD1
                          clear hP1 hD1
                          have hIS_174 : oInv S_174 := by rw [eS_174]; exact oInv.I (k := 10) (lo := 0) (hi := 60) hIS_166 t_170.2 (by decide) rfl rfl (by omega) (inv_cnt hIS_166 t_170 rfl hsrS_166 (by omega) (by omega) ⟨_, by rw [← cnt_at (x := x_162) (S := S_166) (a := o) (i := 6) (by omega)]; exact helS_166⟩)
                          have XS_174 : oX [1006] S_166 S_174 := by rw [eS_174]; exact oX.I (k := 10) (key := 1006) t_170.2 rfl (List.mem_singleton.mpr rfl)
                          have X_175 : oX [1006, 2016, 2107, 2108, 5001] Z S_174 := oX.st X_167 XS_174 (by decide)
                          have g_176 : (oI S_174 o 0).toInt = (oI S_166 o 0).toInt := by rw [eS_174, setI_ne (by decide)]
                          have g_177 : (oI S_174 o 6).toInt = x_173.toInt := by rw [eS_174, setI_same]
                          refine lv_aload_n hx hb dX10_sign_211 rfl (lv_at hl 5 rfl) ?_
                          have t_178 : oty S_174 o 10 := (oX.ty XS_174 t_170)
                          obtain ⟨q_179, hq_179⟩ := og (cq := cq) t_178.1 (oE_10 t_178.2)
                          refine va_get (D := (dC, dI)) (ci := 10) (v := .int (oI S_174 o 6)) (C := RX10) (T := TX10) (N := 16) hx hb hts in_wsX10_sign_X10 hown hK hP q_179 hq_179 rfl 6 (by decide) (hts (.fieldLink RX10 115 "ShipOffice" "agreementCount" "I") iw_X10_sign_1) (fun _ h9 => h9) rfl dX10_sign_212 ?_
                          refine lv_topi (fun x_180 ex_180 => ?_)
                          have hx_180 : 0 ≤ x_180.toInt ∧ x_180.toInt ≤ 60 := iv_of ex_180 (oInv.iv hIS_174 t_178.2 rfl rfl)
                          have gx_180 : x_180.toInt = (oI S_174 o 6).toInt := iv_to ex_180
                          clear ex_180
                          refine lv_iconst (v := 1) hx hb dX10_sign_215 (by decide) ?_
                          refine lv_isub hx hb dX10_sign_216 ?_
                          refine lv_topi (fun x_181 ex_181 => ?_)
                          have hx_181 : x_181.toInt = x_180.toInt - 1 := (iv_to ex_181).trans (sb_i rfl (by decide) (by omega) (by omega))
                          clear ex_181
                          exact W.iret (v := x_181) hx hb hr (fun t ht hW => ⟨⟨x_181, S_174, rfl, ⟨hIS_174, X_175⟩, ⟨by rw [ht]; exact hP, va_K.moved hW.alike hK, hD⟩⟩, hS.F ht⟩) hS.2.2 dX10_sign_217
                        · have dc_131 := c_nlt (a := 0) (b := r_127.toInt) (by decide) rfl c_131
                          refine lv_aload_n hx hb dX10_sign_151 rfl (lv_at hl 4 rfl) ?_
                          refine lv_bipush (v := (-3)) hx hb dX10_sign_152 (by decide) ?_
                          have t_182 : oty S_128 o 10 := (oX.ty XS_128 to)
                          have hFc := o_free hD hS hA
                          obtain ⟨q_183, hq_183⟩ := og (cq := cq) t_182.1 (oE_10 t_182.2)
                          refine va_calli (va_runV (As := [.int (-3)]) (rest := []) ⟨hx, hb, hml, hown, hts⟩ (c_X10_refuse l dC dI H.size cq S_128 hIS_128 o t_182 (-3) (by decide)) (cwV 1 hts gX10_sign_X10_refuse rfl rfl rfl (by decide +kernel) ⟨(Nat.le_of_ble_eq_true rfl), (Nat.le_of_ble_eq_true rfl)⟩) (pr_V (r := (RX10, TX10, 16)) hP hK hD q_183 10 rfl hq_183) rfl rfl hl.1 rfl (lv_room (Nat.le_of_ble_eq_true rfl)) dX10_sign_154 ⟨(Nat.le_of_ble_eq_true rfl), (Nat.le_of_ble_eq_true rfl)⟩) hS (fun q _ h => hFc q h) hFc (fun r_185 u t H locs ht hvm w_184 hB hz1 hk1 hS => ?_)
                          obtain ⟨S_186, rfl⟩ : ∃ z, z = u := ⟨_, rfl⟩
                          obtain ⟨hP1, hK1, hD1⟩ := hB
                          rw [ht] at hP1
                          have hP : va_P (dC, dI) vwCl (oW cq S_186) H := hP1
                          have hD : va_D A (oW cq S_186) := hD1.weaken (fun _ _ _ h => hFc _ h)
                          clear hP1 hK1 hD1 hk1 hz1 hvm ht hFc
                          obtain ⟨hIS_186, XS_186, hb_187, hx_188⟩ := w_184
                          have X_189 : oX [1006, 2016, 2107, 2108, 5001] Z S_186 := oX.st X_129 XS_186 (by decide)
                          have g_190 : (oI S_186 o 6).toInt = (oI S_128 o 6).toInt := by rw [oX.i XS_186 t_182 (by decide)]
                          have rf_191 : r_185.toInt = -3 := by rw [hx_188]; decide
                          refine W.widen (k := 4) (n := 64) (Nat.le_of_ble_eq_true rfl) (Nat.le_of_ble_eq_true rfl) ?_
                          exact W.iret (v := r_185) hx hb hr (fun t ht hW => ⟨⟨r_185, S_186, rfl, ⟨hIS_186, X_189⟩, ⟨by rw [ht]; exact hP, va_K.moved hW.alike hK, hD⟩⟩, hS.F ht⟩) hS.2.2 dX10_sign_157
                  · have dc_99 := c_nlt (a := x_98.toInt) (b := 60) rfl (by decide) c_99
                    refine lv_aload_n hx hb dX10_sign_88 rfl (lv_at hl 3 rfl) ?_
                    refine lv_bipush (v := (-6)) hx hb dX10_sign_89 (by decide) ?_
                    have hFc := o_free hD hS hA
                    refine va_calli (va_runV (As := [.int (-6)]) (rest := []) ⟨hx, hb, hml, hown, hts⟩ (c_X10_refuse l dC dI H.size cq Z gI o to (-6) (by decide)) (cwV 1 hts gX10_sign_X10_refuse rfl rfl rfl (by decide +kernel) ⟨(Nat.le_of_ble_eq_true rfl), (Nat.le_of_ble_eq_true rfl)⟩) (pr_V (r := (RX10, TX10, 16)) hP hK hD q_1 10 rfl hq_1) rfl rfl hl.1 rfl (lv_room (Nat.le_of_ble_eq_true rfl)) dX10_sign_91 ⟨(Nat.le_of_ble_eq_true rfl), (Nat.le_of_ble_eq_true rfl)⟩) hS (fun q _ h => hFc q h) hFc (fun r_193 u t H locs ht hvm w_192 hB hz1 hk1 hS => ?_)
                    obtain ⟨S_194, rfl⟩ : ∃ z, z = u := ⟨_, rfl⟩
                    obtain ⟨hP1, hK1, hD1⟩ := hB
                    rw [ht] at hP1
                    have hP : va_P (dC, dI) vwCl (oW cq S_194) H := hP1
                    have hD : va_D A (oW cq S_194) := hD1.weaken (fun _ _ _ h => hFc _ h)
                    clear hP1 hK1 hD1 hk1 hz1 hvm ht hFc
                    obtain ⟨hIS_194, XS_194, hb_195, hx_196⟩ := w_192
                    have X_197 : oX [1006, 2016, 2107, 2108, 5001] Z S_194 := oX.st oX.rf XS_194 (by decide)
                    have g_198 : (oI S_194 o 6).toInt = (oI Z o 6).toInt := by rw [oX.i XS_194 to (by decide)]
                    have rf_199 : r_193.toInt = -6 := by rw [hx_196]; decide
                    refine W.widen (k := 4) (n := 64) (Nat.le_of_ble_eq_true rfl) (Nat.le_of_ble_eq_true rfl) ?_
                    exact W.iret (v := r_193) hx hb hr (fun t ht hW => ⟨⟨r_193, S_194, rfl, ⟨hIS_194, X_197⟩, ⟨by rw [ht]; exact hP, va_K.moved hW.alike hK, hD⟩⟩, hS.F ht⟩) hS.2.2 dX10_sign_94
            · have dc_81 := c_nle (a := 0) (b := x4.toInt) (by decide) rfl c_81
              refine lv_aload_n hx hb dX10_sign_59 rfl (lv_at hl 3 rfl) ?_
              refine lv_bipush (v := (-4)) hx hb dX10_sign_60 (by decide) ?_
              have hFc := o_free hD hS hA
              refine va_calli (va_runV (As := [.int (-4)]) (rest := []) ⟨hx, hb, hml, hown, hts⟩ (c_X10_refuse l dC dI H.size cq Z gI o to (-4) (by decide)) (cwV 1 hts gX10_sign_X10_refuse rfl rfl rfl (by decide +kernel) ⟨(Nat.le_of_ble_eq_true rfl), (Nat.le_of_ble_eq_true rfl)⟩) (pr_V (r := (RX10, TX10, 16)) hP hK hD q_1 10 rfl hq_1) rfl rfl hl.1 rfl (lv_room (Nat.le_of_ble_eq_true rfl)) dX10_sign_62 ⟨(Nat.le_of_ble_eq_true rfl), (Nat.le_of_ble_eq_true rfl)⟩) hS (fun q _ h => hFc q h) hFc (fun r_201 u t H locs ht hvm w_200 hB hz1 hk1 hS => ?_)
              obtain ⟨S_202, rfl⟩ : ∃ z, z = u := ⟨_, rfl⟩
              obtain ⟨hP1, hK1, hD1⟩ := hB
              rw [ht] at hP1
              have hP : va_P (dC, dI) vwCl (oW cq S_202) H := hP1
              have hD : va_D A (oW cq S_202) := hD1.weaken (fun _ _ _ h => hFc _ h)
              clear hP1 hK1 hD1 hk1 hz1 hvm ht hFc
              obtain ⟨hIS_202, XS_202, hb_203, hx_204⟩ := w_200
              have X_205 : oX [1006, 2016, 2107, 2108, 5001] Z S_202 := oX.st oX.rf XS_202 (by decide)
              have rf_206 : r_201.toInt = -4 := by rw [hx_204]; decide
              refine W.widen (k := 4) (n := 64) (Nat.le_of_ble_eq_true rfl) (Nat.le_of_ble_eq_true rfl) ?_
              exact W.iret (v := r_201) hx hb hr (fun t ht hW => ⟨⟨r_201, S_202, rfl, ⟨hIS_202, X_205⟩, ⟨by rw [ht]; exact hP, va_K.moved hW.alike hK, hD⟩⟩, hS.F ht⟩) hS.2.2 dX10_sign_65
        · have dc_72 := c_ne (a := x5.toInt) (b := (-1)) rfl (by decide) c_72
          refine lv_aload_n hx hb dX10_sign_43 rfl (lv_at hl 3 rfl) ?_
          refine lv_iconst (v := (-1)) hx hb dX10_sign_44 (by decide) ?_
          have hFc := o_free hD hS hA
          refine va_calli (va_runV (As := [.int (-1)]) (rest := []) ⟨hx, hb, hml, hown, hts⟩ (c_X10_refuse l dC dI H.size cq Z gI o to (-1) (by decide)) (cwV 1 hts gX10_sign_X10_refuse rfl rfl rfl (by decide +kernel) ⟨(Nat.le_of_ble_eq_true rfl), (Nat.le_of_ble_eq_true rfl)⟩) (pr_V (r := (RX10, TX10, 16)) hP hK hD q_1 10 rfl hq_1) rfl rfl hl.1 rfl (lv_room (Nat.le_of_ble_eq_true rfl)) dX10_sign_45 ⟨(Nat.le_of_ble_eq_true rfl), (Nat.le_of_ble_eq_true rfl)⟩) hS (fun q _ h => hFc q h) hFc (fun r_208 u t H locs ht hvm w_207 hB hz1 hk1 hS => ?_)
          obtain ⟨S_209, rfl⟩ : ∃ z, z = u := ⟨_, rfl⟩
          obtain ⟨hP1, hK1, hD1⟩ := hB
          rw [ht] at hP1
          have hP : va_P (dC, dI) vwCl (oW cq S_209) H := hP1
          have hD : va_D A (oW cq S_209) := hD1.weaken (fun _ _ _ h => hFc _ h)
          clear hP1 hK1 hD1 hk1 hz1 hvm ht hFc
          obtain ⟨hIS_209, XS_209, hb_210, hx_211⟩ := w_207
          have X_212 : oX [1006, 2016, 2107, 2108, 5001] Z S_209 := oX.st oX.rf XS_209 (by decide)
          have rf_213 : r_208.toInt = -1 := by rw [hx_211]; decide
          refine W.widen (k := 4) (n := 64) (Nat.le_of_ble_eq_true rfl) (Nat.le_of_ble_eq_true rfl) ?_
          exact W.iret (v := r_208) hx hb hr (fun t ht hW => ⟨⟨r_208, S_209, rfl, ⟨hIS_209, X_212⟩, ⟨by rw [ht]; exact hP, va_K.moved hW.alike hK, hD⟩⟩, hS.F ht⟩) hS.2.2 dX10_sign_48
      · refine W.eq (g2 := F0 m 20 ls [.ref b_71]) rfl ?_
        have tb_71 : oty Z b_71 1 := hk_70 b_71 rfl
        refine lv_astore (lv' := [(8, .ref b_71), (7, .ref b_49), (6, .ref b_5), (0, .ref o), (1, .int x1), (2, .int x2), (3, .int x3), (4, .int x4), (5, .int x5)]) hx hb dX10_sign_20 hl (by decide) rfl (fun ls hl => ?_)
        refine lv_aload hx hb dX10_sign_22 (lv_at hl 2 rfl) ?_
        refine lv_ifnull hx hb dX10_sign_24 ?_
        refine lv_aload hx hb dX10_sign_27 (lv_at hl 1 rfl) ?_
        refine lv_ifnull hx hb dX10_sign_29 ?_
        refine lv_aload hx hb dX10_sign_32 (lv_at hl 0 rfl) ?_
        refine lv_ifnonnull (tgt := 49) hx hb dX10_sign_34 (by decide) ?_
        refine lv_iload_n hx hb dX10_sign_49 rfl (lv_at hl 6 rfl) ?_
        refine lv_iconst (v := 1) hx hb dX10_sign_50 (by decide) ?_
        refine lv_icmp_lt (tgt := 59) hx hb dX10_sign_51 (by decide) (fun c_214 => ?_) (fun c_214 => ?_)
        · have dc_214 := c_lt (a := x3.toInt) (b := 1) rfl (by decide) c_214
          refine lv_aload_n hx hb dX10_sign_59 rfl (lv_at hl 3 rfl) ?_
          refine lv_bipush (v := (-4)) hx hb dX10_sign_60 (by decide) ?_
          have hFc := o_free hD hS hA
          refine va_calli (va_runV (As := [.int (-4)]) (rest := []) ⟨hx, hb, hml, hown, hts⟩ (c_X10_refuse l dC dI H.size cq Z gI o to (-4) (by decide)) (cwV 1 hts gX10_sign_X10_refuse rfl rfl rfl (by decide +kernel) ⟨(Nat.le_of_ble_eq_true rfl), (Nat.le_of_ble_eq_true rfl)⟩) (pr_V (r := (RX10, TX10, 16)) hP hK hD q_1 10 rfl hq_1) rfl rfl hl.1 rfl (lv_room (Nat.le_of_ble_eq_true rfl)) dX10_sign_62 ⟨(Nat.le_of_ble_eq_true rfl), (Nat.le_of_ble_eq_true rfl)⟩) hS (fun q _ h => hFc q h) hFc (fun r_216 u t H locs ht hvm w_215 hB hz1 hk1 hS => ?_)
          obtain ⟨S_217, rfl⟩ : ∃ z, z = u := ⟨_, rfl⟩
          obtain ⟨hP1, hK1, hD1⟩ := hB
          rw [ht] at hP1
          have hP : va_P (dC, dI) vwCl (oW cq S_217) H := hP1
          have hD : va_D A (oW cq S_217) := hD1.weaken (fun _ _ _ h => hFc _ h)
          clear hP1 hK1 hD1 hk1 hz1 hvm ht hFc
          obtain ⟨hIS_217, XS_217, hb_218, hx_219⟩ := w_215
          have X_220 : oX [1006, 2016, 2107, 2108, 5001] Z S_217 := oX.st oX.rf XS_217 (by decide)
          have rf_221 : r_216.toInt = -4 := by rw [hx_219]; decide
          refine W.widen (k := 4) (n := 64) (Nat.le_of_ble_eq_true rfl) (Nat.le_of_ble_eq_true rfl) ?_
          exact W.iret (v := r_216) hx hb hr (fun t ht hW => ⟨⟨r_216, S_217, rfl, ⟨hIS_217, X_220⟩, ⟨by rw [ht]; exact hP, va_K.moved hW.alike hK, hD⟩⟩, hS.F ht⟩) hS.2.2 dX10_sign_65
        · have dc_214 := c_nlt (a := x3.toInt) (b := 1) rfl (by decide) c_214
          refine lv_iload hx hb dX10_sign_54 (lv_at hl 7 rfl) ?_
          refine lv_if_ge (tgt := 66) hx hb dX10_sign_56 (by decide) (fun c_222 => ?_) (fun c_222 => ?_)
          · have dc_222 := c_le (a := 0) (b := x4.toInt) (by decide) rfl c_222
            refine lv_iload_n hx hb dX10_sign_66 rfl (lv_at hl 6 rfl) ?_
            refine lv_sipush (v := 9999) hx hb dX10_sign_67 (by decide) ?_
            refine lv_icmp_gt (tgt := 88) hx hb dX10_sign_70 (by decide) (fun c_223 => ?_) (fun c_223 => ?_)
            · have dc_223 := c_lt (a := 9999) (b := x3.toInt) (by decide) rfl c_223
              refine lv_aload_n hx hb dX10_sign_88 rfl (lv_at hl 3 rfl) ?_
              refine lv_bipush (v := (-6)) hx hb dX10_sign_89 (by decide) ?_
              have hFc := o_free hD hS hA
              refine va_calli (va_runV (As := [.int (-6)]) (rest := []) ⟨hx, hb, hml, hown, hts⟩ (c_X10_refuse l dC dI H.size cq Z gI o to (-6) (by decide)) (cwV 1 hts gX10_sign_X10_refuse rfl rfl rfl (by decide +kernel) ⟨(Nat.le_of_ble_eq_true rfl), (Nat.le_of_ble_eq_true rfl)⟩) (pr_V (r := (RX10, TX10, 16)) hP hK hD q_1 10 rfl hq_1) rfl rfl hl.1 rfl (lv_room (Nat.le_of_ble_eq_true rfl)) dX10_sign_91 ⟨(Nat.le_of_ble_eq_true rfl), (Nat.le_of_ble_eq_true rfl)⟩) hS (fun q _ h => hFc q h) hFc (fun r_225 u t H locs ht hvm w_224 hB hz1 hk1 hS => ?_)
              obtain ⟨S_226, rfl⟩ : ∃ z, z = u := ⟨_, rfl⟩
              obtain ⟨hP1, hK1, hD1⟩ := hB
              rw [ht] at hP1
              have hP : va_P (dC, dI) vwCl (oW cq S_226) H := hP1
              have hD : va_D A (oW cq S_226) := hD1.weaken (fun _ _ _ h => hFc _ h)
              clear hP1 hK1 hD1 hk1 hz1 hvm ht hFc
              obtain ⟨hIS_226, XS_226, hb_227, hx_228⟩ := w_224
              have X_229 : oX [1006, 2016, 2107, 2108, 5001] Z S_226 := oX.st oX.rf XS_226 (by decide)
              have rf_230 : r_225.toInt = -6 := by rw [hx_228]; decide
              refine W.widen (k := 4) (n := 64) (Nat.le_of_ble_eq_true rfl) (Nat.le_of_ble_eq_true rfl) ?_
              exact W.iret (v := r_225) hx hb hr (fun t ht hW => ⟨⟨r_225, S_226, rfl, ⟨hIS_226, X_229⟩, ⟨by rw [ht]; exact hP, va_K.moved hW.alike hK, hD⟩⟩, hS.F ht⟩) hS.2.2 dX10_sign_94
            · have dc_223 := c_nlt (a := 9999) (b := x3.toInt) (by decide) rfl c_223
              refine lv_iload hx hb dX10_sign_73 (lv_at hl 7 rfl) ?_
              refine lv_iconst (v := 4) hx hb dX10_sign_75 (by decide) ?_
              refine lv_icmp_ge (tgt := 88) hx hb dX10_sign_76 (by decide) (fun c_231 => ?_) (fun c_231 => ?_)
              · have dc_231 := c_le (a := 4) (b := x4.toInt) (by decide) rfl c_231
                refine lv_aload_n hx hb dX10_sign_88 rfl (lv_at hl 3 rfl) ?_
                refine lv_bipush (v := (-6)) hx hb dX10_sign_89 (by decide) ?_
                have hFc := o_free hD hS hA
                refine va_calli (va_runV (As := [.int (-6)]) (rest := []) ⟨hx, hb, hml, hown, hts⟩ (c_X10_refuse l dC dI H.size cq Z gI o to (-6) (by decide)) (cwV 1 hts gX10_sign_X10_refuse rfl rfl rfl (by decide +kernel) ⟨(Nat.le_of_ble_eq_true rfl), (Nat.le_of_ble_eq_true rfl)⟩) (pr_V (r := (RX10, TX10, 16)) hP hK hD q_1 10 rfl hq_1) rfl rfl hl.1 rfl (lv_room (Nat.le_of_ble_eq_true rfl)) dX10_sign_91 ⟨(Nat.le_of_ble_eq_true rfl), (Nat.le_of_ble_eq_true rfl)⟩) hS (fun q _ h => hFc q h) hFc (fun r_233 u t H locs ht hvm w_232 hB hz1 hk1 hS => ?_)
                obtain ⟨S_234, rfl⟩ : ∃ z, z = u := ⟨_, rfl⟩
                obtain ⟨hP1, hK1, hD1⟩ := hB
                rw [ht] at hP1
                have hP : va_P (dC, dI) vwCl (oW cq S_234) H := hP1
                have hD : va_D A (oW cq S_234) := hD1.weaken (fun _ _ _ h => hFc _ h)
                clear hP1 hK1 hD1 hk1 hz1 hvm ht hFc
                obtain ⟨hIS_234, XS_234, hb_235, hx_236⟩ := w_232
                have X_237 : oX [1006, 2016, 2107, 2108, 5001] Z S_234 := oX.st oX.rf XS_234 (by decide)
                have rf_238 : r_233.toInt = -6 := by rw [hx_236]; decide
                refine W.widen (k := 4) (n := 64) (Nat.le_of_ble_eq_true rfl) (Nat.le_of_ble_eq_true rfl) ?_
                exact W.iret (v := r_233) hx hb hr (fun t ht hW => ⟨⟨r_233, S_234, rfl, ⟨hIS_234, X_237⟩, ⟨by rw [ht]; exact hP, va_K.moved hW.alike hK, hD⟩⟩, hS.F ht⟩) hS.2.2 dX10_sign_94
              · have dc_231 := c_nle (a := 4) (b := x4.toInt) (by decide) rfl c_231
                refine lv_aload_n hx hb dX10_sign_79 rfl (lv_at hl 3 rfl) ?_
                refine va_get (D := (dC, dI)) (ci := 10) (v := .int (oI Z o 6)) (C := RX10) (T := TX10) (N := 16) hx hb hts in_wsX10_sign_X10 hown hK hP q_1 hq_1 rfl 6 (by decide) (hts (.fieldLink RX10 115 "ShipOffice" "agreementCount" "I") iw_X10_sign_1) (fun _ h9 => h9) rfl dX10_sign_80 ?_
                refine lv_topi (fun x_239 ex_239 => ?_)
                have hx_239 : 0 ≤ x_239.toInt ∧ x_239.toInt ≤ 60 := iv_of ex_239 (oInv.iv gI to.2 rfl rfl)
                have gx_239 : x_239.toInt = (oI Z o 6).toInt := iv_to ex_239
                clear ex_239
                refine lv_bipush (v := 60) hx hb dX10_sign_83 (by decide) ?_
                refine lv_icmp_lt (tgt := 95) hx hb dX10_sign_85 (by decide) (fun c_240 => ?_) (fun c_240 => ?_)
                · have dc_240 := c_lt (a := x_239.toInt) (b := 60) rfl (by decide) c_240
                  refine lv_aload hx hb dX10_sign_95 (lv_at hl 0 rfl) ?_
                  refine lv_ifnull hx hb dX10_sign_97 ?_
                  refine lv_aload hx hb dX10_sign_100 (lv_at hl 0 rfl) ?_
                  obtain ⟨q_241, hq_241⟩ := og (cq := cq) tb_71.1 (oE_1 tb_71.2)
                  refine va_get (D := (dC, dI)) (ci := 1) (v := .int (oI Z b_71 6)) (C := RX1) (T := TX1) (N := 18) hx hb hts in_wsX10_sign_X1 hown hK hP q_241 hq_241 rfl 6 (by decide) (hts (.fieldLink RX10 126 "ShipOffice$Agreement" "offDay" "I") iw_X10_sign_11) (fun _ h9 => h9) rfl dX10_sign_102 ?_
                  refine lv_topi (fun x_242 ex_242 => ?_)
                  have gx_242 : x_242.toInt = (oI Z b_71 6).toInt := iv_to ex_242
                  clear ex_242
                  refine lv_ldc (v := 1000000) hx hb hown (hts (.constant RX10 114 (1000000)) (by decide +kernel)) dX10_sign_105 ?_
                  refine lv_icmp_eq (tgt := 114) hx hb dX10_sign_107 (by decide) (fun c_243 => ?_) (fun c_243 => ?_)
                  · have dc_243 := c_eq (a := x_242.toInt) (b := 1000000) rfl (by decide) c_243
                    refine lv_iconst (v := 0) hx hb dX10_sign_114 (by decide) ?_
                    refine lv_istore (lv' := [(9, .int 0), (8, .ref b_71), (7, .ref b_49), (6, .ref b_5), (0, .ref o), (1, .int x1), (2, .int x2), (3, .int x3), (4, .int x4), (5, .int x5)]) hx hb dX10_sign_115 hl (by decide) rfl (fun ls hl => ?_)
                    refine lv_aload hx hb dX10_sign_117 (lv_at hl 2 rfl) ?_
                    have hFc : ∀ q, va_A [] H.size q → A q := pu_free hS hA
                    obtain ⟨q_244, hq_244⟩ := og (cq := cq) tb_49.1 (oE_9 tb_49.2)
                    refine va_calli (va_runV (As := []) (rest := []) ⟨hx, hb, hml, hown, hts⟩ (c_X9_takesHands l dC dI H.size cq Z gI b_49 tb_49) (cwV 0 hts gX10_sign_X9_takesHands rfl rfl rfl (by decide +kernel) ⟨(Nat.le_of_ble_eq_true rfl), (Nat.le_of_ble_eq_true rfl)⟩) (pr_V (r := (RX9, TX9, 10)) hP hK hD q_244 9 rfl hq_244) rfl rfl hl.1 rfl (lv_room (Nat.le_of_ble_eq_true rfl)) dX10_sign_119 ⟨(Nat.le_of_ble_eq_true rfl), (Nat.le_of_ble_eq_true rfl)⟩) hS (fun q _ h => hFc q h) hFc (fun r_246 u t H locs ht hvm w_245 hB hz1 hk1 hS => ?_)
                    have hP := pu_keep hP hk1
                    clear hk1 hz1 hvm hB ht hFc
                    have hb_247 := w_245
                    refine lv_if_eq (tgt := 151) hx hb dX10_sign_122 (by decide) (fun c_248 => ?_) (fun c_248 => ?_)
                    · have dc_248 := c_eq (a := r_246.toInt) (b := 0) rfl (by decide) c_248
                      refine lv_aload_n hx hb dX10_sign_151 rfl (lv_at hl 4 rfl) ?_
                      refine lv_bipush (v := (-3)) hx hb dX10_sign_152 (by decide) ?_
                      have hFc := o_free hD hS hA
                      refine va_calli (va_runV (As := [.int (-3)]) (rest := []) ⟨hx, hb, hml, hown, hts⟩ (c_X10_refuse l dC dI H.size cq Z gI o to (-3) (by decide)) (cwV 1 hts gX10_sign_X10_refuse rfl rfl rfl (by decide +kernel) ⟨(Nat.le_of_ble_eq_true rfl), (Nat.le_of_ble_eq_true rfl)⟩) (pr_V (r := (RX10, TX10, 16)) hP hK hD q_1 10 rfl hq_1) rfl rfl hl.1 rfl (lv_room (Nat.le_of_ble_eq_true rfl)) dX10_sign_154 ⟨(Nat.le_of_ble_eq_true rfl), (Nat.le_of_ble_eq_true rfl)⟩) hS (fun q _ h => hFc q h) hFc (fun r_250 u t H locs ht hvm w_249 hB hz1 hk1 hS => ?_)
                      obtain ⟨S_251, rfl⟩ : ∃ z, z = u := ⟨_, rfl⟩
                      obtain ⟨hP1, hK1, hD1⟩ := hB
                      rw [ht] at hP1
                      have hP : va_P (dC, dI) vwCl (oW cq S_251) H := hP1
                      have hD : va_D A (oW cq S_251) := hD1.weaken (fun _ _ _ h => hFc _ h)
                      clear hP1 hK1 hD1 hk1 hz1 hvm ht hFc
                      obtain ⟨hIS_251, XS_251, hb_252, hx_253⟩ := w_249
                      have X_254 : oX [1006, 2016, 2107, 2108, 5001] Z S_251 := oX.st oX.rf XS_251 (by decide)
                      have g_255 : (oI S_251 b_71 6).toInt = (oI Z b_71 6).toInt := by rw [oX.i XS_251 tb_71 (by decide)]
                      have g_256 : (oI S_251 o 6).toInt = (oI Z o 6).toInt := by rw [oX.i XS_251 to (by decide)]
                      have rf_257 : r_250.toInt = -3 := by rw [hx_253]; decide
                      refine W.widen (k := 4) (n := 64) (Nat.le_of_ble_eq_true rfl) (Nat.le_of_ble_eq_true rfl) ?_
                      exact W.iret (v := r_250) hx hb hr (fun t ht hW => ⟨⟨r_250, S_251, rfl, ⟨hIS_251, X_254⟩, ⟨by rw [ht]; exact hP, va_K.moved hW.alike hK, hD⟩⟩, hS.F ht⟩) hS.2.2 dX10_sign_157
                    · have dc_248 := c_ne (a := r_246.toInt) (b := 0) rfl (by decide) c_248
                      refine lv_aload_n hx hb dX10_sign_125 rfl (lv_at hl 4 rfl) ?_
                      refine lv_aload hx hb dX10_sign_126 (lv_at hl 3 rfl) ?_
                      have hFc : ∀ q, va_A [] H.size q → A q := pu_free hS hA
                      refine va_calli (va_runV (As := [.ref b_5]) (rest := []) ⟨hx, hb, hml, hown, hts⟩ (c_X10_isFree l dC dI H.size cq Z gI o to b_5 tb_5) (cwV 1 hts gX10_sign_X10_isFree rfl rfl rfl (by decide +kernel) ⟨(Nat.le_of_ble_eq_true rfl), (Nat.le_of_ble_eq_true rfl)⟩) (pr_V (r := (RX10, TX10, 16)) hP hK hD q_1 10 rfl hq_1) rfl rfl hl.1 rfl (lv_room (Nat.le_of_ble_eq_true rfl)) dX10_sign_128 ⟨(Nat.le_of_ble_eq_true rfl), (Nat.le_of_ble_eq_true rfl)⟩) hS (fun q _ h => hFc q h) hFc (fun r_259 u t H locs ht hvm w_258 hB hz1 hk1 hS => ?_)
                      have hP := pu_keep hP hk1
                      clear hk1 hz1 hvm hB ht hFc
                      have hb_260 := w_258
                      refine lv_if_eq (tgt := 151) hx hb dX10_sign_131 (by decide) (fun c_261 => ?_) (fun c_261 => ?_)
                      · have dc_261 := c_eq (a := r_259.toInt) (b := 0) rfl (by decide) c_261
                        refine lv_aload_n hx hb dX10_sign_151 rfl (lv_at hl 4 rfl) ?_
                        refine lv_bipush (v := (-3)) hx hb dX10_sign_152 (by decide) ?_
                        have hFc := o_free hD hS hA
                        refine va_calli (va_runV (As := [.int (-3)]) (rest := []) ⟨hx, hb, hml, hown, hts⟩ (c_X10_refuse l dC dI H.size cq Z gI o to (-3) (by decide)) (cwV 1 hts gX10_sign_X10_refuse rfl rfl rfl (by decide +kernel) ⟨(Nat.le_of_ble_eq_true rfl), (Nat.le_of_ble_eq_true rfl)⟩) (pr_V (r := (RX10, TX10, 16)) hP hK hD q_1 10 rfl hq_1) rfl rfl hl.1 rfl (lv_room (Nat.le_of_ble_eq_true rfl)) dX10_sign_154 ⟨(Nat.le_of_ble_eq_true rfl), (Nat.le_of_ble_eq_true rfl)⟩) hS (fun q _ h => hFc q h) hFc (fun r_263 u t H locs ht hvm w_262 hB hz1 hk1 hS => ?_)
                        obtain ⟨S_264, rfl⟩ : ∃ z, z = u := ⟨_, rfl⟩
                        obtain ⟨hP1, hK1, hD1⟩ := hB
                        rw [ht] at hP1
                        have hP : va_P (dC, dI) vwCl (oW cq S_264) H := hP1
                        have hD : va_D A (oW cq S_264) := hD1.weaken (fun _ _ _ h => hFc _ h)
                        clear hP1 hK1 hD1 hk1 hz1 hvm ht hFc
                        obtain ⟨hIS_264, XS_264, hb_265, hx_266⟩ := w_262
                        have X_267 : oX [1006, 2016, 2107, 2108, 5001] Z S_264 := oX.st oX.rf XS_264 (by decide)
                        have g_268 : (oI S_264 b_71 6).toInt = (oI Z b_71 6).toInt := by rw [oX.i XS_264 tb_71 (by decide)]
                        have g_269 : (oI S_264 o 6).toInt = (oI Z o 6).toInt := by rw [oX.i XS_264 to (by decide)]
                        have rf_270 : r_263.toInt = -3 := by rw [hx_266]; decide
                        refine W.widen (k := 4) (n := 64) (Nat.le_of_ble_eq_true rfl) (Nat.le_of_ble_eq_true rfl) ?_
                        exact W.iret (v := r_263) hx hb hr (fun t ht hW => ⟨⟨r_263, S_264, rfl, ⟨hIS_264, X_267⟩, ⟨by rw [ht]; exact hP, va_K.moved hW.alike hK, hD⟩⟩, hS.F ht⟩) hS.2.2 dX10_sign_157
                      · have dc_261 := c_ne (a := r_259.toInt) (b := 0) rfl (by decide) c_261
                        refine lv_iload hx hb dX10_sign_134 (lv_at hl 0 rfl) ?_
                        refine lv_if_eq (tgt := 151) hx hb dX10_sign_136 (by decide) (fun _ => ?_) (fun c_271 => absurd c_271 (by decide))
                        refine lv_aload_n hx hb dX10_sign_151 rfl (lv_at hl 4 rfl) ?_
                        refine lv_bipush (v := (-3)) hx hb dX10_sign_152 (by decide) ?_
                        have hFc := o_free hD hS hA
                        refine va_calli (va_runV (As := [.int (-3)]) (rest := []) ⟨hx, hb, hml, hown, hts⟩ (c_X10_refuse l dC dI H.size cq Z gI o to (-3) (by decide)) (cwV 1 hts gX10_sign_X10_refuse rfl rfl rfl (by decide +kernel) ⟨(Nat.le_of_ble_eq_true rfl), (Nat.le_of_ble_eq_true rfl)⟩) (pr_V (r := (RX10, TX10, 16)) hP hK hD q_1 10 rfl hq_1) rfl rfl hl.1 rfl (lv_room (Nat.le_of_ble_eq_true rfl)) dX10_sign_154 ⟨(Nat.le_of_ble_eq_true rfl), (Nat.le_of_ble_eq_true rfl)⟩) hS (fun q _ h => hFc q h) hFc (fun r_273 u t H locs ht hvm w_272 hB hz1 hk1 hS => ?_)
                        obtain ⟨S_274, rfl⟩ : ∃ z, z = u := ⟨_, rfl⟩
                        obtain ⟨hP1, hK1, hD1⟩ := hB
                        rw [ht] at hP1
                        have hP : va_P (dC, dI) vwCl (oW cq S_274) H := hP1
                        have hD : va_D A (oW cq S_274) := hD1.weaken (fun _ _ _ h => hFc _ h)
                        clear hP1 hK1 hD1 hk1 hz1 hvm ht hFc
                        obtain ⟨hIS_274, XS_274, hb_275, hx_276⟩ := w_272
                        have X_277 : oX [1006, 2016, 2107, 2108, 5001] Z S_274 := oX.st oX.rf XS_274 (by decide)
                        have g_278 : (oI S_274 b_71 6).toInt = (oI Z b_71 6).toInt := by rw [oX.i XS_274 tb_71 (by decide)]
                        have g_279 : (oI S_274 o 6).toInt = (oI Z o 6).toInt := by rw [oX.i XS_274 to (by decide)]
                        have rf_280 : r_273.toInt = -3 := by rw [hx_276]; decide
                        refine W.widen (k := 4) (n := 64) (Nat.le_of_ble_eq_true rfl) (Nat.le_of_ble_eq_true rfl) ?_
                        exact W.iret (v := r_273) hx hb hr (fun t ht hW => ⟨⟨r_273, S_274, rfl, ⟨hIS_274, X_277⟩, ⟨by rw [ht]; exact hP, va_K.moved hW.alike hK, hD⟩⟩, hS.F ht⟩) hS.2.2 dX10_sign_157
                  · have dc_243 := c_ne (a := x_242.toInt) (b := 1000000) rfl (by decide) c_243
                    refine lv_iconst (v := 1) hx hb dX10_sign_110 (by decide) ?_
                    refine lv_goto (tgt := 115) hx hb dX10_sign_111 (by decide) ?_
                    refine lv_istore (lv' := [(9, .int 1), (8, .ref b_71), (7, .ref b_49), (6, .ref b_5), (0, .ref o), (1, .int x1), (2, .int x2), (3, .int x3), (4, .int x4), (5, .int x5)]) hx hb dX10_sign_115 hl (by decide) rfl (fun ls hl => ?_)
                    refine lv_aload hx hb dX10_sign_117 (lv_at hl 2 rfl) ?_
                    have hFc : ∀ q, va_A [] H.size q → A q := pu_free hS hA
                    obtain ⟨q_281, hq_281⟩ := og (cq := cq) tb_49.1 (oE_9 tb_49.2)
                    refine va_calli (va_runV (As := []) (rest := []) ⟨hx, hb, hml, hown, hts⟩ (c_X9_takesHands l dC dI H.size cq Z gI b_49 tb_49) (cwV 0 hts gX10_sign_X9_takesHands rfl rfl rfl (by decide +kernel) ⟨(Nat.le_of_ble_eq_true rfl), (Nat.le_of_ble_eq_true rfl)⟩) (pr_V (r := (RX9, TX9, 10)) hP hK hD q_281 9 rfl hq_281) rfl rfl hl.1 rfl (lv_room (Nat.le_of_ble_eq_true rfl)) dX10_sign_119 ⟨(Nat.le_of_ble_eq_true rfl), (Nat.le_of_ble_eq_true rfl)⟩) hS (fun q _ h => hFc q h) hFc (fun r_283 u t H locs ht hvm w_282 hB hz1 hk1 hS => ?_)
                    have hP := pu_keep hP hk1
                    clear hk1 hz1 hvm hB ht hFc
                    have hb_284 := w_282
                    refine lv_if_eq (tgt := 151) hx hb dX10_sign_122 (by decide) (fun c_285 => ?_) (fun c_285 => ?_)
                    · have dc_285 := c_eq (a := r_283.toInt) (b := 0) rfl (by decide) c_285
                      refine lv_aload_n hx hb dX10_sign_151 rfl (lv_at hl 4 rfl) ?_
                      refine lv_bipush (v := (-3)) hx hb dX10_sign_152 (by decide) ?_
                      have hFc := o_free hD hS hA
                      refine va_calli (va_runV (As := [.int (-3)]) (rest := []) ⟨hx, hb, hml, hown, hts⟩ (c_X10_refuse l dC dI H.size cq Z gI o to (-3) (by decide)) (cwV 1 hts gX10_sign_X10_refuse rfl rfl rfl (by decide +kernel) ⟨(Nat.le_of_ble_eq_true rfl), (Nat.le_of_ble_eq_true rfl)⟩) (pr_V (r := (RX10, TX10, 16)) hP hK hD q_1 10 rfl hq_1) rfl rfl hl.1 rfl (lv_room (Nat.le_of_ble_eq_true rfl)) dX10_sign_154 ⟨(Nat.le_of_ble_eq_true rfl), (Nat.le_of_ble_eq_true rfl)⟩) hS (fun q _ h => hFc q h) hFc (fun r_287 u t H locs ht hvm w_286 hB hz1 hk1 hS => ?_)
                      obtain ⟨S_288, rfl⟩ : ∃ z, z = u := ⟨_, rfl⟩
                      obtain ⟨hP1, hK1, hD1⟩ := hB
                      rw [ht] at hP1
                      have hP : va_P (dC, dI) vwCl (oW cq S_288) H := hP1
                      have hD : va_D A (oW cq S_288) := hD1.weaken (fun _ _ _ h => hFc _ h)
                      clear hP1 hK1 hD1 hk1 hz1 hvm ht hFc
                      obtain ⟨hIS_288, XS_288, hb_289, hx_290⟩ := w_286
                      have X_291 : oX [1006, 2016, 2107, 2108, 5001] Z S_288 := oX.st oX.rf XS_288 (by decide)
                      have g_292 : (oI S_288 b_71 6).toInt = (oI Z b_71 6).toInt := by rw [oX.i XS_288 tb_71 (by decide)]
                      have g_293 : (oI S_288 o 6).toInt = (oI Z o 6).toInt := by rw [oX.i XS_288 to (by decide)]
                      have rf_294 : r_287.toInt = -3 := by rw [hx_290]; decide
                      refine W.widen (k := 4) (n := 64) (Nat.le_of_ble_eq_true rfl) (Nat.le_of_ble_eq_true rfl) ?_
                      exact W.iret (v := r_287) hx hb hr (fun t ht hW => ⟨⟨r_287, S_288, rfl, ⟨hIS_288, X_291⟩, ⟨by rw [ht]; exact hP, va_K.moved hW.alike hK, hD⟩⟩, hS.F ht⟩) hS.2.2 dX10_sign_157
                    · have dc_285 := c_ne (a := r_283.toInt) (b := 0) rfl (by decide) c_285
                      refine lv_aload_n hx hb dX10_sign_125 rfl (lv_at hl 4 rfl) ?_
                      refine lv_aload hx hb dX10_sign_126 (lv_at hl 3 rfl) ?_
                      have hFc : ∀ q, va_A [] H.size q → A q := pu_free hS hA
                      refine va_calli (va_runV (As := [.ref b_5]) (rest := []) ⟨hx, hb, hml, hown, hts⟩ (c_X10_isFree l dC dI H.size cq Z gI o to b_5 tb_5) (cwV 1 hts gX10_sign_X10_isFree rfl rfl rfl (by decide +kernel) ⟨(Nat.le_of_ble_eq_true rfl), (Nat.le_of_ble_eq_true rfl)⟩) (pr_V (r := (RX10, TX10, 16)) hP hK hD q_1 10 rfl hq_1) rfl rfl hl.1 rfl (lv_room (Nat.le_of_ble_eq_true rfl)) dX10_sign_128 ⟨(Nat.le_of_ble_eq_true rfl), (Nat.le_of_ble_eq_true rfl)⟩) hS (fun q _ h => hFc q h) hFc (fun r_296 u t H locs ht hvm w_295 hB hz1 hk1 hS => ?_)
                      have hP := pu_keep hP hk1
                      clear hk1 hz1 hvm hB ht hFc
                      have hb_297 := w_295
                      refine lv_if_eq (tgt := 151) hx hb dX10_sign_131 (by decide) (fun c_298 => ?_) (fun c_298 => ?_)
                      · have dc_298 := c_eq (a := r_296.toInt) (b := 0) rfl (by decide) c_298
                        refine lv_aload_n hx hb dX10_sign_151 rfl (lv_at hl 4 rfl) ?_
                        refine lv_bipush (v := (-3)) hx hb dX10_sign_152 (by decide) ?_
                        have hFc := o_free hD hS hA
                        refine va_calli (va_runV (As := [.int (-3)]) (rest := []) ⟨hx, hb, hml, hown, hts⟩ (c_X10_refuse l dC dI H.size cq Z gI o to (-3) (by decide)) (cwV 1 hts gX10_sign_X10_refuse rfl rfl rfl (by decide +kernel) ⟨(Nat.le_of_ble_eq_true rfl), (Nat.le_of_ble_eq_true rfl)⟩) (pr_V (r := (RX10, TX10, 16)) hP hK hD q_1 10 rfl hq_1) rfl rfl hl.1 rfl (lv_room (Nat.le_of_ble_eq_true rfl)) dX10_sign_154 ⟨(Nat.le_of_ble_eq_true rfl), (Nat.le_of_ble_eq_true rfl)⟩) hS (fun q _ h => hFc q h) hFc (fun r_300 u t H locs ht hvm w_299 hB hz1 hk1 hS => ?_)
                        obtain ⟨S_301, rfl⟩ : ∃ z, z = u := ⟨_, rfl⟩
                        obtain ⟨hP1, hK1, hD1⟩ := hB
                        rw [ht] at hP1
                        have hP : va_P (dC, dI) vwCl (oW cq S_301) H := hP1
                        have hD : va_D A (oW cq S_301) := hD1.weaken (fun _ _ _ h => hFc _ h)
                        clear hP1 hK1 hD1 hk1 hz1 hvm ht hFc
                        obtain ⟨hIS_301, XS_301, hb_302, hx_303⟩ := w_299
                        have X_304 : oX [1006, 2016, 2107, 2108, 5001] Z S_301 := oX.st oX.rf XS_301 (by decide)
                        have g_305 : (oI S_301 b_71 6).toInt = (oI Z b_71 6).toInt := by rw [oX.i XS_301 tb_71 (by decide)]
                        have g_306 : (oI S_301 o 6).toInt = (oI Z o 6).toInt := by rw [oX.i XS_301 to (by decide)]
                        have rf_307 : r_300.toInt = -3 := by rw [hx_303]; decide
                        refine W.widen (k := 4) (n := 64) (Nat.le_of_ble_eq_true rfl) (Nat.le_of_ble_eq_true rfl) ?_
                        exact W.iret (v := r_300) hx hb hr (fun t ht hW => ⟨⟨r_300, S_301, rfl, ⟨hIS_301, X_304⟩, ⟨by rw [ht]; exact hP, va_K.moved hW.alike hK, hD⟩⟩, hS.F ht⟩) hS.2.2 dX10_sign_157
                      · have dc_298 := c_ne (a := r_296.toInt) (b := 0) rfl (by decide) c_298
                        refine lv_iload hx hb dX10_sign_134 (lv_at hl 0 rfl) ?_
                        refine lv_if_eq (tgt := 151) hx hb dX10_sign_136 (by decide) (fun c_308 => absurd c_308 (by decide)) (fun _ => ?_)
                        refine lv_aload_n hx hb dX10_sign_139 rfl (lv_at hl 4 rfl) ?_
                        refine lv_aload hx hb dX10_sign_140 (lv_at hl 3 rfl) ?_
                        refine lv_iload_n hx hb dX10_sign_142 rfl (lv_at hl 7 rfl) ?_
                        refine lv_iload hx hb dX10_sign_143 (lv_at hl 8 rfl) ?_
                        have hFc := o_free hD hS hA
                        refine va_calli (va_runV (As := [.ref b_5, .int x3, .int x4]) (rest := []) ⟨hx, hb, hml, hown, hts⟩ (c_X10_signWorth l dC dI H.size cq Z gI o to b_5 tb_5 x3 x4) (cwV 3 hts gX10_sign_X10_signWorth rfl rfl rfl (by decide +kernel) ⟨(Nat.le_of_ble_eq_true rfl), (Nat.le_of_ble_eq_true rfl)⟩) (pr_V (r := (RX10, TX10, 16)) hP hK hD q_1 10 rfl hq_1) rfl rfl hl.1 rfl (lv_room (Nat.le_of_ble_eq_true rfl)) dX10_sign_145 ⟨(Nat.le_of_ble_eq_true rfl), (Nat.le_of_ble_eq_true rfl)⟩) hS (fun q _ h => hFc q h) hFc (fun r_310 u t H locs ht hvm w_309 hB hz1 hk1 hS => ?_)
                        obtain ⟨S_311, rfl⟩ : ∃ z, z = u := ⟨_, rfl⟩
                        obtain ⟨hP1, hK1, hD1⟩ := hB
                        rw [ht] at hP1
                        have hP : va_P (dC, dI) vwCl (oW cq S_311) H := hP1
                        have hD : va_D A (oW cq S_311) := hD1.weaken (fun _ _ _ h => hFc _ h)
                        clear hP1 hK1 hD1 hk1 hz1 hvm ht hFc
                        obtain ⟨hIS_311, XS_311⟩ := w_309
                        have X_312 : oX [1006, 2016, 2107, 2108, 5001] Z S_311 := oX.st oX.rf XS_311 (by decide)
                        have g_313 : (oI S_311 b_71 6).toInt = (oI Z b_71 6).toInt := by rw [oX.i XS_311 tb_71 (by decide)]
                        have g_314 : (oI S_311 o 6).toInt = (oI Z o 6).toInt := by rw [oX.i XS_311 to (by decide)]
                        refine lv_if_gt (tgt := 158) hx hb dX10_sign_148 (by decide) (fun c_315 => ?_) (fun c_315 => ?_)
                        · have dc_315 := c_lt (a := 0) (b := r_310.toInt) (by decide) rfl c_315
                          refine va_new (ci := 1) (fs := [.null, .null, .int 0, .null, .int 0, .int 0, .int 0, .int 0, .null, .int 0, .int 0, .int 0, .null, .int 0, .null, .null, .int 0, .int 0]) (C := RX1) (T := TX1) (N := 18) hx hb hts in_wsX10_sign_X1 tyX1 tyX1_ok hown (hts (.classLink RX10 21 RX1) iw_X10_sign_2) (hts (.instantiable RX1 18) iw_X10_sign_3) (hts (.initialized RX1) iw_X10_sign_4) hK hP hD hS hA rfl (fun j hj => by rcases (show j = 0 ∨ j = 1 ∨ j = 2 ∨ j = 3 ∨ j = 4 ∨ j = 5 ∨ j = 6 ∨ j = 7 ∨ j = 8 ∨ j = 9 ∨ j = 10 ∨ j = 11 ∨ j = 12 ∨ j = 13 ∨ j = 14 ∨ j = 15 ∨ j = 16 ∨ j = 17 by omega) with rfl | rfl | rfl | rfl | rfl | rfl | rfl | rfl | rfl | rfl | rfl | rfl | rfl | rfl | rfl | rfl | rfl | rfl <;> rfl) (Nat.le_of_ble_eq_true rfl) (Nat.le_of_ble_eq_true rfl) dX10_sign_158 (fun q_316 H hP1 hD1 hS => ?_)
                          have hnq_316 := add_q hD1
                          obtain ⟨S_317, eS_317⟩ : ∃ zq, zq = addO S_311 q_316 31 := ⟨_, rfl⟩
                          have hP : va_P (dC, dI) vwCl (oW cq S_317) H := by rw [eS_317]; exact cP (onew hD1 (by rw [oE_31 add_K, add_I, add_P]; rfl)) hP1
                          have hD : va_D A (oW cq S_317) := by rw [eS_317]; exact cD (onew hD1 (by rw [oE_31 add_K, add_I, add_P]; rfl)) hD1
                          clear hP1 hD1
                          have hIS_317 : oInv S_317 := by rw [eS_317]; exact oInv.add hIS_311 hnq_316 (by decide)
                          have XS_317 : oX [] S_311 S_317 := by rw [eS_317]; exact oX.add hnq_316
                          have nzq_316 : q_316 ∉ oL Z := oX.nin X_312 hnq_316
                          have g_318 : (oI S_317 b_71 6).toInt = (oI S_311 b_71 6).toInt := by rw [eS_317, add_In hnq_316 (oX.ty XS_311 tb_71).1]
                          have g_319 : (oI S_317 o 6).toInt = (oI S_311 o 6).toInt := by rw [eS_317, add_In hnq_316 (oX.ty XS_311 to).1]
                          have X_320 : oX [1006, 2016, 2107, 2108, 5001] Z S_317 := oX.st X_312 XS_317 (by decide)
                          have tq_316 : oty S_317 q_316 31 := by rw [eS_317]; exact add_ty
                          refine W.widen (k := 1) (n := 18) (Nat.le_of_ble_eq_true rfl) (Nat.le_of_ble_eq_true rfl) ?_
                          refine lv_dup hx hb dX10_sign_161 rfl ?_
                          refine lv_aload hx hb dX10_sign_162 (lv_at hl 3 rfl) ?_
                          refine lv_aload hx hb dX10_sign_164 (lv_at hl 2 rfl) ?_
                          refine lv_aload_n hx hb dX10_sign_166 rfl (lv_at hl 4 rfl) ?_
                          have t_321 : oty S_317 o 10 := (oX.ty XS_317 (oX.ty XS_311 to))
                          obtain ⟨q_322, hq_322⟩ := og (cq := cq) t_321.1 (oE_10 t_321.2)
                          refine va_get (D := (dC, dI)) (ci := 10) (v := .int (oI S_317 o 0)) (C := RX10) (T := TX10) (N := 16) hx hb hts in_wsX10_sign_X10 hown hK hP q_322 hq_322 rfl 0 (by decide) (hts (.fieldLink RX10 73 "ShipOffice" "now" "I") iw_X10_sign_5) (fun _ h9 => h9) rfl dX10_sign_167 ?_
                          refine lv_topi (fun x_323 ex_323 => ?_)
                          have hx_323 : 0 ≤ x_323.toInt ∧ x_323.toInt ≤ 3000 := iv_of ex_323 (oInv.iv hIS_317 t_321.2 rfl rfl)
                          have gx_323 : x_323.toInt = (oI S_317 o 0).toInt := iv_to ex_323
                          clear ex_323
                          refine lv_aload hx hb dX10_sign_170 (lv_at hl 1 rfl) ?_
                          have t_324 : oty S_317 b_5 6 := (oX.ty XS_317 (oX.ty XS_311 tb_5))
                          have t_325 : oty S_317 b_49 9 := (oX.ty XS_317 (oX.ty XS_311 tb_49))
                          have t_326 : oty S_317 b_71 1 := (oX.ty XS_317 (oX.ty XS_311 tb_71))
                          have hFc := o_free hD hS hA
                          refine va_callv (va_runI (As := [.ref b_5, .ref b_49, .int x_323, .ref b_71]) (rest := [.ref q_316]) ⟨hx, hb, hml, hown, hts⟩ (c_X1_init l dC dI H.size tL tS tG cq S_317 hIS_317 q_316 tq_316 b_5 t_324 b_49 t_325 x_323 (some b_71) (fun b h => by cases h; exact t_326) (fun j => by rw [eS_317, add_I])) (cwI 4 hts gX10_sign_X1_init rfl rfl rfl (hts (.initialized RX1) iw_X10_sign_4) (hts (.methodLink RX10 220 yX1_init) iw_X10_sign_6) (hts (.instanceMethod yX1_init) iw_X10_sign_7) rfl (by decide +kernel) ⟨(Nat.le_of_ble_eq_true rfl), (Nat.le_of_ble_eq_true rfl)⟩) (pr_SO hP hK hD (hZ.go hS hFc)) rfl rfl hl.1 rfl (lv_room (Nat.le_of_ble_eq_true rfl)) dX10_sign_172 ⟨(Nat.le_of_ble_eq_true rfl), (Nat.le_of_ble_eq_true rfl)⟩) hS (fun q _ h => hFc q h) hFc (fun u t H locs ht hvm w_327 hB hz1 hk1 hS => ?_)
                          obtain ⟨S_329, rfl⟩ : ∃ z, z = u := ⟨_, rfl⟩
                          obtain ⟨hP1, hK1, hD1⟩ := hB
                          rw [ht] at hP1
                          have hP : va_P (dC, dI) vwCl (oW cq S_329) H := hP1
                          have hD : va_D A (oW cq S_329) := hD1.weaken (fun _ _ _ h => hFc _ h)
                          clear hP1 hK1 hD1 hk1 hz1 hvm ht hFc
                          refine W.widen (k := 4) (n := 64) (Nat.le_of_ble_eq_true rfl) (Nat.le_of_ble_eq_true rfl) ?_
                          obtain ⟨hIS_329, XS_329, hx_330⟩ := w_327
                          have hxS_329 := hx_330
                          have X_331 : oX [1006, 2016, 2107, 2108, 5001] Z S_329 := oX.c X_320 XS_329 nzq_316 (by decide)
                          have g_332 : (oI S_329 b_71 6).toInt = (oI S_317 b_71 6).toInt := by rw [oXc.i XS_329 (ty_ne t_326 tq_316 (by decide)) t_326 (by decide)]
                          have g_333 : (oI S_329 o 0).toInt = (oI S_317 o 0).toInt := by rw [oXc.i XS_329 (ty_ne t_321 tq_316 (by decide)) t_321 (by decide)]
                          have g_334 : (oI S_329 o 6).toInt = (oI S_317 o 6).toInt := by rw [oXc.i XS_329 (ty_ne t_321 tq_316 (by decide)) t_321 (by decide)]
                          refine lv_astore (lv' := [(10, .ref q_316), (9, .int 1), (8, .ref b_71), (7, .ref b_49), (6, .ref b_5), (0, .ref o), (1, .int x1), (2, .int x2), (3, .int x3), (4, .int x4), (5, .int x5)]) hx hb dX10_sign_175 hl (by decide) rfl (fun ls hl => ?_)
                          refine lv_aload hx hb dX10_sign_177 (lv_at hl 0 rfl) ?_
                          refine lv_iload_n hx hb dX10_sign_179 rfl (lv_at hl 8 rfl) ?_
                          obtain ⟨q_335, hq_335⟩ := og (cq := cq) hxS_329.1 (oE_1 hxS_329.2)
                          refine va_put (D := (dC, dI)) (ci := 1) (v := .int x3) (ty := .int) (C := RX1) (T := TX1) (N := 18) hx hb hts in_wsX10_sign_X1 tyX1 tyX1_ok nmX1 hown hK hP hD hS q_335 hq_335 rfl 4 (by decide) (hts (.fieldLink RX10 223 "ShipOffice$Agreement" "wage" "I") iw_X10_sign_8) (fun _ h9 => h9) rfl (by decide +kernel) rfl rfl (Nat.le_of_ble_eq_true rfl) dX10_sign_180 (fun H locs hP1 hD1 hS => ?_)
                          obtain ⟨S_336, eS_336⟩ : ∃ zq, zq = setI S_329 q_316 4 x3 := ⟨_, rfl⟩
                          have hP : va_P (dC, dI) vwCl (oW cq S_336) H := by rw [eS_336]; exact cP (oset hxS_329.1 hq_335 hD rfl (he_1_4 hxS_329.2) neI) hP1
                          have hD : va_D A (oW cq S_336) := by rw [eS_336]; exact cD (oset hxS_329.1 hq_335 hD rfl (he_1_4 hxS_329.2) neI) hD1
                          clear hP1 hD1
                          have hIS_336 : oInv S_336 := by rw [eS_336]; exact oInv.I0 (k := 1) (lo := -2147483648) (hi := 2147483647) hIS_329 hxS_329.2 (by decide) rfl rfl rfl (iv_all _)
                          have XS_336 : oX [104] S_329 S_336 := by rw [eS_336]; exact oX.I (k := 1) (key := 104) hxS_329.2 rfl (List.mem_singleton.mpr rfl)
                          have X_337 : oX [1006, 2016, 2107, 2108, 5001] Z S_336 := by rw [eS_336]; exact oX.In X_331 nzq_316
                          have g_338 : (oI S_336 o 0).toInt = (oI S_329 o 0).toInt := by rw [eS_336, setI_oth (ty_ne (oXc.ty XS_329 (ty_ne t_321 tq_316 (by decide)) t_321) hxS_329 (by decide))]
                          have g_339 : (oI S_336 o 6).toInt = (oI S_329 o 6).toInt := by rw [eS_336, setI_oth (ty_ne (oXc.ty XS_329 (ty_ne t_321 tq_316 (by decide)) t_321) hxS_329 (by decide))]
                          refine lv_aload hx hb dX10_sign_183 (lv_at hl 0 rfl) ?_
                          refine lv_iload hx hb dX10_sign_185 (lv_at hl 9 rfl) ?_
                          have t_340 : oty S_336 q_316 1 := (oX.ty XS_336 hxS_329)
                          obtain ⟨q_341, hq_341⟩ := og (cq := cq) t_340.1 (oE_1 t_340.2)
                          refine va_put (D := (dC, dI)) (ci := 1) (v := .int x4) (ty := .int) (C := RX1) (T := TX1) (N := 18) hx hb hts in_wsX10_sign_X1 tyX1 tyX1_ok nmX1 hown hK hP hD hS q_341 hq_341 rfl 5 (by decide) (hts (.fieldLink RX10 226 "ShipOffice$Agreement" "rank" "I") iw_X10_sign_9) (fun _ h9 => h9) rfl (by decide +kernel) rfl rfl (Nat.le_of_ble_eq_true rfl) dX10_sign_187 (fun H locs hP1 hD1 hS => ?_)
                          obtain ⟨S_342, eS_342⟩ : ∃ zq, zq = setI S_336 q_316 5 x4 := ⟨_, rfl⟩
                          have hP : va_P (dC, dI) vwCl (oW cq S_342) H := by rw [eS_342]; exact cP (oset t_340.1 hq_341 hD rfl (he_1_5 t_340.2) neI) hP1
                          have hD : va_D A (oW cq S_342) := by rw [eS_342]; exact cD (oset t_340.1 hq_341 hD rfl (he_1_5 t_340.2) neI) hD1
                          clear hP1 hD1
                          have hIS_342 : oInv S_342 := by rw [eS_342]; exact oInv.I0 (k := 1) (lo := -2147483648) (hi := 2147483647) hIS_336 t_340.2 (by decide) rfl rfl rfl (iv_all _)
                          have XS_342 : oX [105] S_336 S_342 := by rw [eS_342]; exact oX.I (k := 1) (key := 105) t_340.2 rfl (List.mem_singleton.mpr rfl)
                          have X_343 : oX [1006, 2016, 2107, 2108, 5001] Z S_342 := by rw [eS_342]; exact oX.In X_337 nzq_316
                          have g_344 : (oI S_342 o 0).toInt = (oI S_336 o 0).toInt := by rw [eS_342, setI_oth (ty_ne (oX.ty XS_336 (oXc.ty XS_329 (ty_ne t_321 tq_316 (by decide)) t_321)) t_340 (by decide))]
                          have g_345 : (oI S_342 o 6).toInt = (oI S_336 o 6).toInt := by rw [eS_342, setI_oth (ty_ne (oX.ty XS_336 (oXc.ty XS_329 (ty_ne t_321 tq_316 (by decide)) t_321)) t_340 (by decide))]
                          refine lv_aload_n hx hb dX10_sign_190 rfl (lv_at hl 5 rfl) ?_
                          have t_346 : oty S_342 o 10 := (oX.ty XS_342 (oX.ty XS_336 (oXc.ty XS_329 (ty_ne t_321 tq_316 (by decide)) t_321)))
                          obtain ⟨q_347, hq_347⟩ := og (cq := cq) t_346.1 (oE_10 t_346.2)
                          obtain ⟨b_348, hb_348⟩ := oInv.nn (i := 5) hIS_342 t_346 rfl
                          refine va_get (D := (dC, dI)) (ci := 10) (v := .ref b_348) (C := RX10) (T := TX10) (N := 16) hx hb hts in_wsX10_sign_X10 hown hK hP q_347 hq_347 rfl 5 (by decide) (hts (.fieldLink RX10 23 "ShipOffice" "agreements" "[LShipOffice$Agreement;") iw_X10_sign_10) (fun _ h9 => h9) (o_rd hb_348) dX10_sign_191 ?_
                          have tb_348 : oty S_342 b_348 16 := oInv.rd hIS_342 t_346.2 hb_348 rfl rfl
                          refine lv_aload_n hx hb dX10_sign_194 rfl (lv_at hl 5 rfl) ?_
                          refine va_get (D := (dC, dI)) (ci := 10) (v := .int (oI S_342 o 6)) (C := RX10) (T := TX10) (N := 16) hx hb hts in_wsX10_sign_X10 hown hK hP q_347 hq_347 rfl 6 (by decide) (hts (.fieldLink RX10 115 "ShipOffice" "agreementCount" "I") iw_X10_sign_1) (fun _ h9 => h9) rfl dX10_sign_195 ?_
                          refine lv_topi (fun x_349 ex_349 => ?_)
                          have hx_349 : 0 ≤ x_349.toInt ∧ x_349.toInt ≤ 60 := iv_of ex_349 (oInv.iv hIS_342 t_346.2 rfl rfl)
                          have gx_349 : x_349.toInt = (oI S_342 o 6).toInt := iv_to ex_349
                          clear ex_349
                          refine lv_aload hx hb dX10_sign_198 (lv_at hl 0 rfl) ?_
                          obtain ⟨q_350, hq_350⟩ := og (cq := cq) tb_348.1 (oE_16 tb_348.2)
                          have t_351 : oty S_342 q_316 1 := (oX.ty XS_342 t_340)
                          obtain ⟨q_352, hq_352⟩ := og (cq := cq) t_351.1 (oE_1 t_351.2)
                          refine va_astq (r := (RX1, TX1, 18)) hx hb hK hP hD hS q_350 5 q_352 1 hq_350 rfl hq_352 rfl (vp_in_iff.mpr (by omega)) dX10_sign_200 (fun H locs hP1 hD1 hS => ?_)
                          obtain ⟨S_353, eS_353⟩ : ∃ zq, zq = setP S_342 b_348 (x_349 : Int32).toNatClampNeg (some q_316) := ⟨_, rfl⟩
                          have hP : va_P (dC, dI) vwCl (oW cq S_353) H := by rw [eS_353]; exact cP (oset tb_348.1 hq_350 hD rfl (he_16 tb_348.2) neP) hP1
                          have hD : va_D A (oW cq S_353) := by rw [eS_353]; exact cD (oset tb_348.1 hq_350 hD rfl (he_16 tb_348.2) neP) hD1
                          clear hP1 hD1
                          have hIS_353 : oInv S_353 := by rw [eS_353]; exact oInv.P (k := 16) hIS_342 tb_348.2 (by decide) rfl (fun h => absurd h.1 (by decide)) t_351 (show 1 ≤ 1 ∧ 1 ≤ 1 from ⟨Nat.le_refl _, Nat.le_refl _⟩)
                          have XS_353 : oX [2016] S_342 S_353 := by rw [eS_353]; exact oX.P (k := 16) (key := 2016) tb_348.2 rfl (List.mem_singleton.mpr rfl)
                          have X_354 : oX [1006, 2016, 2107, 2108, 5001] Z S_353 := oX.st X_343 XS_353 (by decide)
                          have g_355 : (oI S_353 o 0).toInt = (oI S_342 o 0).toInt := by rw [eS_353]; rfl
                          have g_356 : (oI S_353 o 6).toInt = (oI S_342 o 6).toInt := by rw [eS_353]; rfl
                          have helS_353 : oP S_353 b_348 (x_349 : Int32).toNatClampNeg = some q_316 := by rw [eS_353, setP_same]
                          have hsrS_353 : oP S_353 o 5 = some b_348 := by rw [eS_353, setP_oth (ty_ne t_346 tb_348 (by decide))]; exact hb_348
                          refine lv_aload_n hx hb dX10_sign_201 rfl (lv_at hl 5 rfl) ?_
                          refine lv_dup hx hb dX10_sign_202 rfl ?_
                          have t_357 : oty S_353 o 10 := (oX.ty XS_353 t_346)
                          obtain ⟨q_358, hq_358⟩ := og (cq := cq) t_357.1 (oE_10 t_357.2)
                          refine va_get (D := (dC, dI)) (ci := 10) (v := .int (oI S_353 o 6)) (C := RX10) (T := TX10) (N := 16) hx hb hts in_wsX10_sign_X10 hown hK hP q_358 hq_358 rfl 6 (by decide) (hts (.fieldLink RX10 115 "ShipOffice" "agreementCount" "I") iw_X10_sign_1) (fun _ h9 => h9) rfl dX10_sign_203 ?_
                          refine lv_topi (fun x_359 ex_359 => ?_)
                          have hx_359 : 0 ≤ x_359.toInt ∧ x_359.toInt ≤ 60 := iv_of ex_359 (oInv.iv hIS_353 t_357.2 rfl rfl)
                          have gx_359 : x_359.toInt = (oI S_353 o 6).toInt := iv_to ex_359
                          clear ex_359
                          refine lv_iconst (v := 1) hx hb dX10_sign_206 (by decide) ?_
                          refine lv_iadd hx hb dX10_sign_207 ?_
                          refine lv_topi (fun x_360 ex_360 => ?_)
                          have hx_360 : x_360.toInt = x_359.toInt + 1 := (iv_to ex_360).trans (ad_i rfl (by decide) (by omega) (by omega))
                          clear ex_360
                          refine va_put (D := (dC, dI)) (ci := 10) (v := .int x_360) (ty := .int) (C := RX10) (T := TX10) (N := 16) hx hb hts in_wsX10_sign_X10 tyX10 tyX10_ok nmX10 hown hK hP hD hS q_358 hq_358 rfl 6 (by decide) (hts (.fieldLink RX10 115 "ShipOffice" "agreementCount" "I") iw_X10_sign_1) (fun _ h9 => h9) rfl (by decide +kernel) rfl rfl (Nat.le_of_ble_eq_true rfl) dX10_sign_208 (fun H locs hP1 hD1 hS => ?_)
                          obtain ⟨S_361, eS_361⟩ : ∃ zq, zq = setI S_353 o 6 x_360 := ⟨_, rfl⟩
                          have hP : va_P (dC, dI) vwCl (oW cq S_361) H := by rw [eS_361]; exact cP (oset t_357.1 hq_358 hD rfl (he_10_6 t_357.2) neI) hP1
                          have hD : va_D A (oW cq S_361) := by rw [eS_361]; exact cD (oset t_357.1 hq_358 hD rfl (he_10_6 t_357.2) neI) hD1
                          clear hP1 hD1
                          have hIS_361 : oInv S_361 := by rw [eS_361]; exact oInv.I (k := 10) (lo := 0) (hi := 60) hIS_353 t_357.2 (by decide) rfl rfl (by omega) (inv_cnt hIS_353 t_357 rfl hsrS_353 (by omega) (by omega) ⟨_, by rw [← cnt_at (x := x_349) (S := S_353) (a := o) (i := 6) (by omega)]; exact helS_353⟩)
                          have XS_361 : oX [1006] S_353 S_361 := by rw [eS_361]; exact oX.I (k := 10) (key := 1006) t_357.2 rfl (List.mem_singleton.mpr rfl)
                          have X_362 : oX [1006, 2016, 2107, 2108, 5001] Z S_361 := oX.st X_354 XS_361 (by decide)
                          have g_363 : (oI S_361 o 0).toInt = (oI S_353 o 0).toInt := by rw [eS_361, setI_ne (by decide)]
                          have g_364 : (oI S_361 o 6).toInt = x_360.toInt := by rw [eS_361, setI_same]
                          refine lv_aload_n hx hb dX10_sign_211 rfl (lv_at hl 5 rfl) ?_
                          have t_365 : oty S_361 o 10 := (oX.ty XS_361 t_357)
                          obtain ⟨q_366, hq_366⟩ := og (cq := cq) t_365.1 (oE_10 t_365.2)
                          refine va_get (D := (dC, dI)) (ci := 10) (v := .int (oI S_361 o 6)) (C := RX10) (T := TX10) (N := 16) hx hb hts in_wsX10_sign_X10 hown hK hP q_366 hq_366 rfl 6 (by decide) (hts (.fieldLink RX10 115 "ShipOffice" "agreementCount" "I") iw_X10_sign_1) (fun _ h9 => h9) rfl dX10_sign_212 ?_
                          refine lv_topi (fun x_367 ex_367 => ?_)
                          have hx_367 : 0 ≤ x_367.toInt ∧ x_367.toInt ≤ 60 := iv_of ex_367 (oInv.iv hIS_361 t_365.2 rfl rfl)
                          have gx_367 : x_367.toInt = (oI S_361 o 6).toInt := iv_to ex_367
                          clear ex_367
                          refine lv_iconst (v := 1) hx hb dX10_sign_215 (by decide) ?_
                          refine lv_isub hx hb dX10_sign_216 ?_
                          refine lv_topi (fun x_368 ex_368 => ?_)
                          have hx_368 : x_368.toInt = x_367.toInt - 1 := (iv_to ex_368).trans (sb_i rfl (by decide) (by omega) (by omega))
                          clear ex_368
                          exact W.iret (v := x_368) hx hb hr (fun t ht hW => ⟨⟨x_368, S_361, rfl, ⟨hIS_361, X_362⟩, ⟨by rw [ht]; exact hP, va_K.moved hW.alike hK, hD⟩⟩, hS.F ht⟩) hS.2.2 dX10_sign_217
                        · have dc_315 := c_nlt (a := 0) (b := r_310.toInt) (by decide) rfl c_315
                          refine lv_aload_n hx hb dX10_sign_151 rfl (lv_at hl 4 rfl) ?_
                          refine lv_bipush (v := (-3)) hx hb dX10_sign_152 (by decide) ?_
                          have t_369 : oty S_311 o 10 := (oX.ty XS_311 to)
                          have hFc := o_free hD hS hA
                          obtain ⟨q_370, hq_370⟩ := og (cq := cq) t_369.1 (oE_10 t_369.2)
                          refine va_calli (va_runV (As := [.int (-3)]) (rest := []) ⟨hx, hb, hml, hown, hts⟩ (c_X10_refuse l dC dI H.size cq S_311 hIS_311 o t_369 (-3) (by decide)) (cwV 1 hts gX10_sign_X10_refuse rfl rfl rfl (by decide +kernel) ⟨(Nat.le_of_ble_eq_true rfl), (Nat.le_of_ble_eq_true rfl)⟩) (pr_V (r := (RX10, TX10, 16)) hP hK hD q_370 10 rfl hq_370) rfl rfl hl.1 rfl (lv_room (Nat.le_of_ble_eq_true rfl)) dX10_sign_154 ⟨(Nat.le_of_ble_eq_true rfl), (Nat.le_of_ble_eq_true rfl)⟩) hS (fun q _ h => hFc q h) hFc (fun r_372 u t H locs ht hvm w_371 hB hz1 hk1 hS => ?_)
                          obtain ⟨S_373, rfl⟩ : ∃ z, z = u := ⟨_, rfl⟩
                          obtain ⟨hP1, hK1, hD1⟩ := hB
                          rw [ht] at hP1
                          have hP : va_P (dC, dI) vwCl (oW cq S_373) H := hP1
                          have hD : va_D A (oW cq S_373) := hD1.weaken (fun _ _ _ h => hFc _ h)
                          clear hP1 hK1 hD1 hk1 hz1 hvm ht hFc
                          obtain ⟨hIS_373, XS_373, hb_374, hx_375⟩ := w_371
                          have X_376 : oX [1006, 2016, 2107, 2108, 5001] Z S_373 := oX.st X_312 XS_373 (by decide)
                          have g_377 : (oI S_373 b_71 6).toInt = (oI S_311 b_71 6).toInt := by rw [oX.i XS_373 (oX.ty XS_311 tb_71) (by decide)]
                          have g_378 : (oI S_373 o 6).toInt = (oI S_311 o 6).toInt := by rw [oX.i XS_373 t_369 (by decide)]
                          have rf_379 : r_372.toInt = -3 := by rw [hx_375]; decide
                          refine W.widen (k := 4) (n := 64) (Nat.le_of_ble_eq_true rfl) (Nat.le_of_ble_eq_true rfl) ?_
                          exact W.iret (v := r_372) hx hb hr (fun t ht hW => ⟨⟨r_372, S_373, rfl, ⟨hIS_373, X_376⟩, ⟨by rw [ht]; exact hP, va_K.moved hW.alike hK, hD⟩⟩, hS.F ht⟩) hS.2.2 dX10_sign_157
                · have dc_240 := c_nlt (a := x_239.toInt) (b := 60) rfl (by decide) c_240
                  refine lv_aload_n hx hb dX10_sign_88 rfl (lv_at hl 3 rfl) ?_
                  refine lv_bipush (v := (-6)) hx hb dX10_sign_89 (by decide) ?_
                  have hFc := o_free hD hS hA
                  refine va_calli (va_runV (As := [.int (-6)]) (rest := []) ⟨hx, hb, hml, hown, hts⟩ (c_X10_refuse l dC dI H.size cq Z gI o to (-6) (by decide)) (cwV 1 hts gX10_sign_X10_refuse rfl rfl rfl (by decide +kernel) ⟨(Nat.le_of_ble_eq_true rfl), (Nat.le_of_ble_eq_true rfl)⟩) (pr_V (r := (RX10, TX10, 16)) hP hK hD q_1 10 rfl hq_1) rfl rfl hl.1 rfl (lv_room (Nat.le_of_ble_eq_true rfl)) dX10_sign_91 ⟨(Nat.le_of_ble_eq_true rfl), (Nat.le_of_ble_eq_true rfl)⟩) hS (fun q _ h => hFc q h) hFc (fun r_381 u t H locs ht hvm w_380 hB hz1 hk1 hS => ?_)
                  obtain ⟨S_382, rfl⟩ : ∃ z, z = u := ⟨_, rfl⟩
                  obtain ⟨hP1, hK1, hD1⟩ := hB
                  rw [ht] at hP1
                  have hP : va_P (dC, dI) vwCl (oW cq S_382) H := hP1
                  have hD : va_D A (oW cq S_382) := hD1.weaken (fun _ _ _ h => hFc _ h)
                  clear hP1 hK1 hD1 hk1 hz1 hvm ht hFc
                  obtain ⟨hIS_382, XS_382, hb_383, hx_384⟩ := w_380
                  have X_385 : oX [1006, 2016, 2107, 2108, 5001] Z S_382 := oX.st oX.rf XS_382 (by decide)
                  have g_386 : (oI S_382 o 6).toInt = (oI Z o 6).toInt := by rw [oX.i XS_382 to (by decide)]
                  have rf_387 : r_381.toInt = -6 := by rw [hx_384]; decide
                  refine W.widen (k := 4) (n := 64) (Nat.le_of_ble_eq_true rfl) (Nat.le_of_ble_eq_true rfl) ?_
                  exact W.iret (v := r_381) hx hb hr (fun t ht hW => ⟨⟨r_381, S_382, rfl, ⟨hIS_382, X_385⟩, ⟨by rw [ht]; exact hP, va_K.moved hW.alike hK, hD⟩⟩, hS.F ht⟩) hS.2.2 dX10_sign_94
          · have dc_222 := c_nle (a := 0) (b := x4.toInt) (by decide) rfl c_222
            refine lv_aload_n hx hb dX10_sign_59 rfl (lv_at hl 3 rfl) ?_
            refine lv_bipush (v := (-4)) hx hb dX10_sign_60 (by decide) ?_
            have hFc := o_free hD hS hA
            refine va_calli (va_runV (As := [.int (-4)]) (rest := []) ⟨hx, hb, hml, hown, hts⟩ (c_X10_refuse l dC dI H.size cq Z gI o to (-4) (by decide)) (cwV 1 hts gX10_sign_X10_refuse rfl rfl rfl (by decide +kernel) ⟨(Nat.le_of_ble_eq_true rfl), (Nat.le_of_ble_eq_true rfl)⟩) (pr_V (r := (RX10, TX10, 16)) hP hK hD q_1 10 rfl hq_1) rfl rfl hl.1 rfl (lv_room (Nat.le_of_ble_eq_true rfl)) dX10_sign_62 ⟨(Nat.le_of_ble_eq_true rfl), (Nat.le_of_ble_eq_true rfl)⟩) hS (fun q _ h => hFc q h) hFc (fun r_389 u t H locs ht hvm w_388 hB hz1 hk1 hS => ?_)
            obtain ⟨S_390, rfl⟩ : ∃ z, z = u := ⟨_, rfl⟩
            obtain ⟨hP1, hK1, hD1⟩ := hB
            rw [ht] at hP1
            have hP : va_P (dC, dI) vwCl (oW cq S_390) H := hP1
            have hD : va_D A (oW cq S_390) := hD1.weaken (fun _ _ _ h => hFc _ h)
            clear hP1 hK1 hD1 hk1 hz1 hvm ht hFc
            obtain ⟨hIS_390, XS_390, hb_391, hx_392⟩ := w_388
            have X_393 : oX [1006, 2016, 2107, 2108, 5001] Z S_390 := oX.st oX.rf XS_390 (by decide)
            have rf_394 : r_389.toInt = -4 := by rw [hx_392]; decide
            refine W.widen (k := 4) (n := 64) (Nat.le_of_ble_eq_true rfl) (Nat.le_of_ble_eq_true rfl) ?_
            exact W.iret (v := r_389) hx hb hr (fun t ht hW => ⟨⟨r_389, S_390, rfl, ⟨hIS_390, X_393⟩, ⟨by rw [ht]; exact hP, va_K.moved hW.alike hK, hD⟩⟩, hS.F ht⟩) hS.2.2 dX10_sign_65
