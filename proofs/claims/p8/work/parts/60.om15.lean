abbrev cX10_man : ByteArray := prog_1_method_4_code
def yX10_man : MethodName := ⟨RX10, "man", "(III)I"⟩
abbrev cX10_voyage : ByteArray := prog_1_method_5_code
def yX10_voyage : MethodName := ⟨RX10, "voyage", "(II)I"⟩
abbrev cX10_heard : ByteArray := prog_1_method_8_code
def yX10_heard : MethodName := ⟨RX10, "heard", "(II)I"⟩
abbrev cX10_left : ByteArray := prog_1_method_10_code
def yX10_left : MethodName := ⟨RX10, "left", "(IIII)I"⟩
abbrev cX10_died : ByteArray := prog_1_method_11_code
def yX10_died : MethodName := ⟨RX10, "died", "(II)I"⟩
abbrev cX10_back : ByteArray := prog_1_method_12_code
def yX10_back : MethodName := ⟨RX10, "back", "(II)I"⟩
abbrev cX10_sign : ByteArray := prog_1_method_15_code
def yX10_sign : MethodName := ⟨RX10, "sign", "(IIIII)I"⟩
abbrev cX10_fine : ByteArray := prog_1_method_22_code
def yX10_fine : MethodName := ⟨RX10, "fine", "(IIIZ)I"⟩
abbrev cX10_addTiding : ByteArray := prog_1_method_46_code
def yX10_addTiding : MethodName := ⟨RX10, "addTiding", "(LShipOffice$Agreement;IIII)I"⟩
theorem gw_X1_init : wsX1_init.all goodWord = true := by decide +kernel
theorem gw_X2_init : wsX2_init.all goodWord = true := by decide +kernel
theorem gw_X3_init : wsX3_init.all goodWord = true := by decide +kernel
theorem gw_X6_init : wsX6_init.all goodWord = true := by decide +kernel
theorem gw_X9_init : wsX9_init.all goodWord = true := by decide +kernel
theorem gw_X9_takesHands : wsX9_takesHands.all goodWord = true := by decide +kernel
theorem gw_X10_joinGroups : wsX10_joinGroups.all goodWord = true := by decide +kernel
def wsX10_man_r1 : List Cond := [Cond.constant RX10 85 (99999), Cond.fieldLink RX10 73 "ShipOffice" "now" "I", Cond.fieldLink RX10 86 "ShipOffice" "manCount" "I", Cond.fieldLink RX10 11 "ShipOffice" "men" "[LShipOffice$Man;", Cond.classLink RX10 9 RX6, Cond.instantiable RX6 6, Cond.initialized RX6, Cond.methodLink RX10 69 yX10_refuse, Cond.instanceMethod yX10_refuse, Cond.selects RX10 yX10_refuse yX10_refuse, Cond.initialized RX10, Cond.code yX10_refuse cX10_refuse 2 (some .int), Cond.fieldLink RX10 66 "ShipOffice" "refusals" "[I", Cond.methodLink RX10 89 yX6_init, Cond.instanceMethod yX6_init, Cond.code yX6_init cX6_init 5 none, Cond.methodLink RX6 3 objectInit, Cond.instanceMethod objectInit, Cond.code objectInit ⟨#[0xb1]⟩ 1 none, Cond.arrayClass .int, Cond.fieldLink RX6 9 "ShipOffice$Man" "wages" "[I", Cond.fieldLink RX6 15 "ShipOffice$Man" "number" "I", Cond.fieldLink RX6 19 "ShipOffice$Man" "name" "I", Cond.fieldLink RX6 22 "ShipOffice$Man" "marks" "I"]
def wsX10_man_r2 : List Cond := [Cond.fieldLink RX6 25 "ShipOffice$Man" "born" "I", Cond.fieldLink RX6 28 "ShipOffice$Man" "leastAlike" "I", Cond.methodLink RX10 92 yX10_joinGroups, Cond.instanceMethod yX10_joinGroups, Cond.selects RX10 yX10_joinGroups yX10_joinGroups, Cond.code yX10_joinGroups cX10_joinGroups 3 none, Cond.fieldLink RX10 311 "ShipOffice$Man" "leastAlike" "I", Cond.methodLink RX10 371 yX6_isAlike, Cond.instanceMethod yX6_isAlike, Cond.selects RX6 yX6_isAlike yX6_isAlike, Cond.code yX6_isAlike cX6_isAlike 2 (some .boolean), Cond.methodLink RX6 31 yX6_digitsApart, Cond.static yX6_digitsApart, Cond.code yX6_digitsApart cX6_digitsApart 6 (some .int), Cond.methodLink RX10 374 yX10_mergeGroups, Cond.instanceMethod yX10_mergeGroups, Cond.selects RX10 yX10_mergeGroups yX10_mergeGroups, Cond.code yX10_mergeGroups cX10_mergeGroups 6 none, Cond.methodLink RX10 378 Lib.Math.min.name, Cond.static Lib.Math.min.name, Cond.initialized "java/lang/Math", Cond.code Lib.Math.min.name Lib.Math.min.code 2 (some .int), Cond.methodLink RX10 383 Lib.Math.max.name, Cond.static Lib.Math.max.name]
def wsX10_man_r3 : List Cond := [Cond.code Lib.Math.max.name Lib.Math.max.code 2 (some .int)]
def wsX10_man : List Cond := .code yX10_man cX10_man 4 (some .int) :: ((wsX10_man_r1 ++ (wsX10_man_r2 ++ wsX10_man_r3)) ++ wsX100 ++ wsX60)
theorem il_X10_man_1 : ∀ w ∈ wsX10_man_r1, w ∈ wsX10_man := fun w h => (List.mem_cons_of_mem _ (List.mem_append_left _ (List.mem_append_left _ (List.mem_append_left _ h))))
theorem il_X10_man_2 : ∀ w ∈ wsX10_man_r2, w ∈ wsX10_man := fun w h => (List.mem_cons_of_mem _ (List.mem_append_left _ (List.mem_append_left _ (List.mem_append_right _ (List.mem_append_left _ h)))))
theorem il_X10_man_3 : ∀ w ∈ wsX10_man_r3, w ∈ wsX10_man := fun w h => (List.mem_cons_of_mem _ (List.mem_append_left _ (List.mem_append_left _ (List.mem_append_right _ (List.mem_append_right _ h)))))
theorem il_X10_man_4 : ∀ w ∈ wsX100, w ∈ wsX10_man := fun w h => (List.mem_cons_of_mem _ (List.mem_append_left _ (List.mem_append_right _ h)))
theorem il_X10_man_5 : ∀ w ∈ wsX60, w ∈ wsX10_man := fun w h => (List.mem_cons_of_mem _ (List.mem_append_right _ h))
theorem iw_X10_man_1 : Cond.fieldLink RX10 73 "ShipOffice" "now" "I" ∈ wsX10_man := (mmI il_X10_man_1 1 rfl)
theorem iw_X10_man_2 : Cond.fieldLink RX10 86 "ShipOffice" "manCount" "I" ∈ wsX10_man := (mmI il_X10_man_1 2 rfl)
theorem iw_X10_man_3 : Cond.fieldLink RX10 11 "ShipOffice" "men" "[LShipOffice$Man;" ∈ wsX10_man := (mmI il_X10_man_1 3 rfl)
theorem iw_X10_man_4 : Cond.classLink RX10 9 RX6 ∈ wsX10_man := (mmI il_X10_man_1 4 rfl)
theorem iw_X10_man_5 : Cond.instantiable RX6 6 ∈ wsX10_man := (mmI il_X10_man_1 5 rfl)
theorem iw_X10_man_6 : Cond.initialized RX6 ∈ wsX10_man := (mmI il_X10_man_1 6 rfl)
theorem iw_X10_man_7 : Cond.methodLink RX10 89 yX6_init ∈ wsX10_man := (mmI il_X10_man_1 13 rfl)
theorem iw_X10_man_8 : Cond.instanceMethod yX6_init ∈ wsX10_man := (mmI il_X10_man_1 14 rfl)
theorem gw_X10_hasVoyage : wsX10_hasVoyage.all goodWord = true := by decide +kernel
def wsX10_voyage_r1 : List Cond := [Cond.fieldLink RX10 99 "ShipOffice" "voyageCount" "I", Cond.fieldLink RX10 17 "ShipOffice" "voyages" "[LShipOffice$Voyage;", Cond.classLink RX10 15 RX9, Cond.instantiable RX9 10, Cond.initialized RX9, Cond.fieldLink RX10 73 "ShipOffice" "now" "I", Cond.methodLink RX10 77 yX10_isPort, Cond.static yX10_isPort, Cond.initialized RX10, Cond.code yX10_isPort cX10_isPort 1 (some .boolean), Cond.methodLink RX10 69 yX10_refuse, Cond.instanceMethod yX10_refuse, Cond.selects RX10 yX10_refuse yX10_refuse, Cond.code yX10_refuse cX10_refuse 2 (some .int), Cond.fieldLink RX10 66 "ShipOffice" "refusals" "[I", Cond.methodLink RX10 96 yX10_hasVoyage, Cond.instanceMethod yX10_hasVoyage, Cond.selects RX10 yX10_hasVoyage yX10_hasVoyage, Cond.code yX10_hasVoyage cX10_hasVoyage 3 (some .boolean), Cond.fieldLink RX10 386 "ShipOffice$Voyage" "ship" "I", Cond.fieldLink RX10 107 "ShipOffice$Voyage" "isOver" "Z", Cond.methodLink RX10 102 yX9_init, Cond.instanceMethod yX9_init, Cond.code yX9_init cX9_init 5 none]
def wsX10_voyage_r2 : List Cond := [Cond.methodLink RX9 3 objectInit, Cond.instanceMethod objectInit, Cond.code objectInit ⟨#[0xb1]⟩ 1 none, Cond.constant RX9 9 (1000000), Cond.fieldLink RX9 10 "ShipOffice$Voyage" "sailedDay" "I", Cond.fieldLink RX9 16 "ShipOffice$Voyage" "sailedTold" "I", Cond.fieldLink RX9 19 "ShipOffice$Voyage" "lostDay" "I", Cond.fieldLink RX9 22 "ShipOffice$Voyage" "lostTold" "I", Cond.fieldLink RX9 25 "ShipOffice$Voyage" "number" "I", Cond.fieldLink RX9 28 "ShipOffice$Voyage" "ship" "I", Cond.fieldLink RX9 31 "ShipOffice$Voyage" "port" "I", Cond.fieldLink RX9 34 "ShipOffice$Voyage" "openedOn" "I"]
def wsX10_voyage : List Cond := .code yX10_voyage cX10_voyage 3 (some .int) :: ((wsX10_voyage_r1 ++ wsX10_voyage_r2) ++ wsX100 ++ wsX90)
theorem il_X10_voyage_1 : ∀ w ∈ wsX10_voyage_r1, w ∈ wsX10_voyage := fun w h => (List.mem_cons_of_mem _ (List.mem_append_left _ (List.mem_append_left _ (List.mem_append_left _ h))))
theorem il_X10_voyage_2 : ∀ w ∈ wsX10_voyage_r2, w ∈ wsX10_voyage := fun w h => (List.mem_cons_of_mem _ (List.mem_append_left _ (List.mem_append_left _ (List.mem_append_right _ h))))
theorem il_X10_voyage_3 : ∀ w ∈ wsX100, w ∈ wsX10_voyage := fun w h => (List.mem_cons_of_mem _ (List.mem_append_left _ (List.mem_append_right _ h)))
theorem il_X10_voyage_4 : ∀ w ∈ wsX90, w ∈ wsX10_voyage := fun w h => (List.mem_cons_of_mem _ (List.mem_append_right _ h))
theorem iw_X10_voyage_1 : Cond.fieldLink RX10 99 "ShipOffice" "voyageCount" "I" ∈ wsX10_voyage := (mmI il_X10_voyage_1 0 rfl)
theorem iw_X10_voyage_2 : Cond.fieldLink RX10 17 "ShipOffice" "voyages" "[LShipOffice$Voyage;" ∈ wsX10_voyage := (mmI il_X10_voyage_1 1 rfl)
theorem iw_X10_voyage_3 : Cond.classLink RX10 15 RX9 ∈ wsX10_voyage := (mmI il_X10_voyage_1 2 rfl)
theorem iw_X10_voyage_4 : Cond.instantiable RX9 10 ∈ wsX10_voyage := (mmI il_X10_voyage_1 3 rfl)
theorem iw_X10_voyage_5 : Cond.initialized RX9 ∈ wsX10_voyage := (mmI il_X10_voyage_1 4 rfl)
theorem iw_X10_voyage_6 : Cond.fieldLink RX10 73 "ShipOffice" "now" "I" ∈ wsX10_voyage := (mmI il_X10_voyage_1 5 rfl)
theorem iw_X10_voyage_7 : Cond.methodLink RX10 102 yX9_init ∈ wsX10_voyage := (mmI il_X10_voyage_1 21 rfl)
theorem iw_X10_voyage_8 : Cond.instanceMethod yX9_init ∈ wsX10_voyage := (mmI il_X10_voyage_1 22 rfl)
def wsX10_heard_r1 : List Cond := [Cond.classLink RX10 142 RX3, Cond.instantiable RX3 6, Cond.initialized RX3, Cond.fieldLink RX10 73 "ShipOffice" "now" "I", Cond.fieldLink RX10 144 "ShipOffice$Voyage" "heardOf" "LShipOffice$Happening;", Cond.fieldLink RX10 139 "ShipOffice" "happeningCount" "I", Cond.methodLink RX10 103 yX10_voyageAt, Cond.instanceMethod yX10_voyageAt, Cond.selects RX10 yX10_voyageAt yX10_voyageAt, Cond.initialized RX10, Cond.code yX10_voyageAt cX10_voyageAt 2 (some (.object "ShipOffice$Voyage")), Cond.fieldLink RX10 99 "ShipOffice" "voyageCount" "I", Cond.fieldLink RX10 17 "ShipOffice" "voyages" "[LShipOffice$Voyage;", Cond.methodLink RX10 69 yX10_refuse, Cond.instanceMethod yX10_refuse, Cond.selects RX10 yX10_refuse yX10_refuse, Cond.code yX10_refuse cX10_refuse 2 (some .int), Cond.fieldLink RX10 66 "ShipOffice" "refusals" "[I", Cond.methodLink RX10 132 yX10_voyageRefusal, Cond.instanceMethod yX10_voyageRefusal, Cond.selects RX10 yX10_voyageRefusal yX10_voyageRefusal, Cond.code yX10_voyageRefusal cX10_voyageRefusal 4 (some .int), Cond.fieldLink RX10 107 "ShipOffice$Voyage" "isOver" "Z", Cond.fieldLink RX10 365 "ShipOffice$Voyage" "openedOn" "I"]
def wsX10_heard_r2 : List Cond := [Cond.methodLink RX10 148 yX3_init, Cond.instanceMethod yX3_init, Cond.code yX3_init cX3_init 7 none, Cond.methodLink RX3 1 objectInit, Cond.instanceMethod objectInit, Cond.code objectInit ⟨#[0xb1]⟩ 1 none, Cond.fieldLink RX3 7 "ShipOffice$Happening" "kind" "I", Cond.fieldLink RX3 13 "ShipOffice$Happening" "day" "I", Cond.fieldLink RX3 16 "ShipOffice$Happening" "told" "I", Cond.fieldLink RX3 19 "ShipOffice$Happening" "way" "I", Cond.fieldLink RX3 22 "ShipOffice$Happening" "port" "I", Cond.fieldLink RX3 25 "ShipOffice$Happening" "before" "LShipOffice$Happening;"]
def wsX10_heard : List Cond := .code yX10_heard cX10_heard 5 (some .int) :: ((wsX10_heard_r1 ++ wsX10_heard_r2) ++ wsX30 ++ wsX100 ++ wsX90)
theorem il_X10_heard_1 : ∀ w ∈ wsX10_heard_r1, w ∈ wsX10_heard := fun w h => (List.mem_cons_of_mem _ (List.mem_append_left _ (List.mem_append_left _ (List.mem_append_left _ (List.mem_append_left _ h)))))
theorem il_X10_heard_2 : ∀ w ∈ wsX10_heard_r2, w ∈ wsX10_heard := fun w h => (List.mem_cons_of_mem _ (List.mem_append_left _ (List.mem_append_left _ (List.mem_append_left _ (List.mem_append_right _ h)))))
theorem il_X10_heard_3 : ∀ w ∈ wsX30, w ∈ wsX10_heard := fun w h => (List.mem_cons_of_mem _ (List.mem_append_left _ (List.mem_append_left _ (List.mem_append_right _ h))))
theorem il_X10_heard_4 : ∀ w ∈ wsX100, w ∈ wsX10_heard := fun w h => (List.mem_cons_of_mem _ (List.mem_append_left _ (List.mem_append_right _ h)))
theorem il_X10_heard_5 : ∀ w ∈ wsX90, w ∈ wsX10_heard := fun w h => (List.mem_cons_of_mem _ (List.mem_append_right _ h))
theorem iw_X10_heard_1 : Cond.classLink RX10 142 RX3 ∈ wsX10_heard := (mmI il_X10_heard_1 0 rfl)
theorem iw_X10_heard_2 : Cond.instantiable RX3 6 ∈ wsX10_heard := (mmI il_X10_heard_1 1 rfl)
theorem iw_X10_heard_3 : Cond.initialized RX3 ∈ wsX10_heard := (mmI il_X10_heard_1 2 rfl)
theorem iw_X10_heard_4 : Cond.fieldLink RX10 73 "ShipOffice" "now" "I" ∈ wsX10_heard := (mmI il_X10_heard_1 3 rfl)
theorem iw_X10_heard_5 : Cond.fieldLink RX10 144 "ShipOffice$Voyage" "heardOf" "LShipOffice$Happening;" ∈ wsX10_heard := (mmI il_X10_heard_1 4 rfl)
theorem iw_X10_heard_6 : Cond.methodLink RX10 148 yX3_init ∈ wsX10_heard := (mmI il_X10_heard_2 0 rfl)
theorem iw_X10_heard_7 : Cond.instanceMethod yX3_init ∈ wsX10_heard := (mmI il_X10_heard_2 1 rfl)
theorem iw_X10_heard_8 : Cond.fieldLink RX10 139 "ShipOffice" "happeningCount" "I" ∈ wsX10_heard := (mmI il_X10_heard_1 5 rfl)
theorem gw_X10_tidingRefusal : wsX10_tidingRefusal.all goodWord = true := by decide +kernel
def wsX10_addTiding : List Cond := .code yX10_addTiding cX10_addTiding 6 (some .int) :: ([.classLink RX10 142 RX3, .instantiable RX3 6, .initialized RX3, .fieldLink RX10 73 "ShipOffice" "now" "I", .fieldLink RX10 368 "ShipOffice$Agreement" "tidings" "LShipOffice$Happening;", .fieldLink RX10 139 "ShipOffice" "happeningCount" "I", .methodLink RX10 148 yX3_init, .instanceMethod yX3_init, .code yX3_init cX3_init 7 none, .methodLink RX3 1 objectInit, .instanceMethod objectInit, .code objectInit ⟨#[0xb1]⟩ 1 none, .fieldLink RX3 7 "ShipOffice$Happening" "kind" "I", .fieldLink RX3 13 "ShipOffice$Happening" "day" "I", .fieldLink RX3 16 "ShipOffice$Happening" "told" "I", .fieldLink RX3 19 "ShipOffice$Happening" "way" "I", .fieldLink RX3 22 "ShipOffice$Happening" "port" "I", .fieldLink RX3 25 "ShipOffice$Happening" "before" "LShipOffice$Happening;"] ++ wsX30 ++ wsX100 ++ wsX10)
theorem gw_X10_addTiding : wsX10_addTiding.all goodWord = true := by decide +kernel
theorem il_X10_addTiding_1 : ∀ w ∈ ([.classLink RX10 142 RX3, .instantiable RX3 6, .initialized RX3, .fieldLink RX10 73 "ShipOffice" "now" "I", .fieldLink RX10 368 "ShipOffice$Agreement" "tidings" "LShipOffice$Happening;", .fieldLink RX10 139 "ShipOffice" "happeningCount" "I", .methodLink RX10 148 yX3_init, .instanceMethod yX3_init, .code yX3_init cX3_init 7 none, .methodLink RX3 1 objectInit, .instanceMethod objectInit, .code objectInit ⟨#[0xb1]⟩ 1 none, .fieldLink RX3 7 "ShipOffice$Happening" "kind" "I", .fieldLink RX3 13 "ShipOffice$Happening" "day" "I", .fieldLink RX3 16 "ShipOffice$Happening" "told" "I", .fieldLink RX3 19 "ShipOffice$Happening" "way" "I", .fieldLink RX3 22 "ShipOffice$Happening" "port" "I", .fieldLink RX3 25 "ShipOffice$Happening" "before" "LShipOffice$Happening;"] : List Cond), w ∈ wsX10_addTiding := fun w h => (List.mem_cons_of_mem _ (List.mem_append_left _ (List.mem_append_left _ (List.mem_append_left _ h))))
theorem il_X10_addTiding_2 : ∀ w ∈ wsX30, w ∈ wsX10_addTiding := fun w h => (List.mem_cons_of_mem _ (List.mem_append_left _ (List.mem_append_left _ (List.mem_append_right _ h))))
theorem iw_X10_addTiding_1 : Cond.classLink RX10 142 RX3 ∈ wsX10_addTiding := (mmI il_X10_addTiding_1 0 rfl)
theorem iw_X10_addTiding_2 : Cond.instantiable RX3 6 ∈ wsX10_addTiding := (mmI il_X10_addTiding_1 1 rfl)
theorem iw_X10_addTiding_3 : Cond.initialized RX3 ∈ wsX10_addTiding := (mmI il_X10_addTiding_1 2 rfl)
theorem iw_X10_addTiding_4 : Cond.fieldLink RX10 73 "ShipOffice" "now" "I" ∈ wsX10_addTiding := (mmI il_X10_addTiding_1 3 rfl)
theorem iw_X10_addTiding_5 : Cond.fieldLink RX10 368 "ShipOffice$Agreement" "tidings" "LShipOffice$Happening;" ∈ wsX10_addTiding := (mmI il_X10_addTiding_1 4 rfl)
theorem iw_X10_addTiding_6 : Cond.methodLink RX10 148 yX3_init ∈ wsX10_addTiding := (mmI il_X10_addTiding_1 6 rfl)
theorem iw_X10_addTiding_7 : Cond.instanceMethod yX3_init ∈ wsX10_addTiding := (mmI il_X10_addTiding_1 7 rfl)
theorem iw_X10_addTiding_8 : Cond.fieldLink RX10 139 "ShipOffice" "happeningCount" "I" ∈ wsX10_addTiding := (mmI il_X10_addTiding_1 5 rfl)
def wsX10_left_r1 : List Cond := [Cond.methodLink RX10 154 yX10_agreementAt, Cond.instanceMethod yX10_agreementAt, Cond.selects RX10 yX10_agreementAt yX10_agreementAt, Cond.initialized RX10, Cond.code yX10_agreementAt cX10_agreementAt 2 (some (.object "ShipOffice$Agreement")), Cond.fieldLink RX10 115 "ShipOffice" "agreementCount" "I", Cond.fieldLink RX10 23 "ShipOffice" "agreements" "[LShipOffice$Agreement;", Cond.methodLink RX10 77 yX10_isPort, Cond.static yX10_isPort, Cond.code yX10_isPort cX10_isPort 1 (some .boolean), Cond.methodLink RX10 69 yX10_refuse, Cond.instanceMethod yX10_refuse, Cond.selects RX10 yX10_refuse yX10_refuse, Cond.code yX10_refuse cX10_refuse 2 (some .int), Cond.fieldLink RX10 66 "ShipOffice" "refusals" "[I", Cond.methodLink RX10 158 yX10_tidingRefusal, Cond.instanceMethod yX10_tidingRefusal, Cond.selects RX10 yX10_tidingRefusal yX10_tidingRefusal, Cond.code yX10_tidingRefusal cX10_tidingRefusal 3 (some .int), Cond.fieldLink RX10 126 "ShipOffice$Agreement" "offDay" "I", Cond.constant RX10 114 (1000000), Cond.fieldLink RX10 255 "ShipOffice$Agreement" "signedOn" "I", Cond.fieldLink RX10 73 "ShipOffice" "now" "I", Cond.fieldLink RX10 139 "ShipOffice" "happeningCount" "I"]
def wsX10_left_r2 : List Cond := [Cond.methodLink RX10 162 yX10_addTiding, Cond.instanceMethod yX10_addTiding, Cond.selects RX10 yX10_addTiding yX10_addTiding, Cond.code yX10_addTiding cX10_addTiding 6 (some .int), Cond.classLink RX10 142 RX3, Cond.instantiable RX3 6, Cond.initialized RX3, Cond.fieldLink RX10 368 "ShipOffice$Agreement" "tidings" "LShipOffice$Happening;", Cond.methodLink RX10 148 yX3_init, Cond.instanceMethod yX3_init, Cond.code yX3_init cX3_init 7 none, Cond.methodLink RX3 1 objectInit, Cond.instanceMethod objectInit, Cond.code objectInit ⟨#[0xb1]⟩ 1 none, Cond.fieldLink RX3 7 "ShipOffice$Happening" "kind" "I", Cond.fieldLink RX3 13 "ShipOffice$Happening" "day" "I", Cond.fieldLink RX3 16 "ShipOffice$Happening" "told" "I", Cond.fieldLink RX3 19 "ShipOffice$Happening" "way" "I", Cond.fieldLink RX3 22 "ShipOffice$Happening" "port" "I", Cond.fieldLink RX3 25 "ShipOffice$Happening" "before" "LShipOffice$Happening;"]
def wsX10_left : List Cond := .code yX10_left cX10_left 7 (some .int) :: ((wsX10_left_r1 ++ wsX10_left_r2) ++ wsX100 ++ wsX10 ++ wsX30)
theorem il_X10_left_1 : ∀ w ∈ wsX10_left_r1, w ∈ wsX10_left := fun w h => (List.mem_cons_of_mem _ (List.mem_append_left _ (List.mem_append_left _ (List.mem_append_left _ (List.mem_append_left _ h)))))
theorem il_X10_left_2 : ∀ w ∈ wsX10_left_r2, w ∈ wsX10_left := fun w h => (List.mem_cons_of_mem _ (List.mem_append_left _ (List.mem_append_left _ (List.mem_append_left _ (List.mem_append_right _ h)))))
theorem il_X10_left_3 : ∀ w ∈ wsX100, w ∈ wsX10_left := fun w h => (List.mem_cons_of_mem _ (List.mem_append_left _ (List.mem_append_left _ (List.mem_append_right _ h))))
theorem il_X10_left_4 : ∀ w ∈ wsX10, w ∈ wsX10_left := fun w h => (List.mem_cons_of_mem _ (List.mem_append_left _ (List.mem_append_right _ h)))
theorem il_X10_left_5 : ∀ w ∈ wsX30, w ∈ wsX10_left := fun w h => (List.mem_cons_of_mem _ (List.mem_append_right _ h))
def wsX10_died_r1 : List Cond := [Cond.fieldLink RX10 166 "ShipOffice$Agreement" "isDead" "Z", Cond.methodLink RX10 154 yX10_agreementAt, Cond.instanceMethod yX10_agreementAt, Cond.selects RX10 yX10_agreementAt yX10_agreementAt, Cond.initialized RX10, Cond.code yX10_agreementAt cX10_agreementAt 2 (some (.object "ShipOffice$Agreement")), Cond.fieldLink RX10 115 "ShipOffice" "agreementCount" "I", Cond.fieldLink RX10 23 "ShipOffice" "agreements" "[LShipOffice$Agreement;", Cond.methodLink RX10 69 yX10_refuse, Cond.instanceMethod yX10_refuse, Cond.selects RX10 yX10_refuse yX10_refuse, Cond.code yX10_refuse cX10_refuse 2 (some .int), Cond.fieldLink RX10 66 "ShipOffice" "refusals" "[I", Cond.methodLink RX10 158 yX10_tidingRefusal, Cond.instanceMethod yX10_tidingRefusal, Cond.selects RX10 yX10_tidingRefusal yX10_tidingRefusal, Cond.code yX10_tidingRefusal cX10_tidingRefusal 3 (some .int), Cond.fieldLink RX10 126 "ShipOffice$Agreement" "offDay" "I", Cond.constant RX10 114 (1000000), Cond.fieldLink RX10 255 "ShipOffice$Agreement" "signedOn" "I", Cond.fieldLink RX10 73 "ShipOffice" "now" "I", Cond.fieldLink RX10 139 "ShipOffice" "happeningCount" "I", Cond.methodLink RX10 162 yX10_addTiding, Cond.instanceMethod yX10_addTiding]
def wsX10_died_r2 : List Cond := [Cond.selects RX10 yX10_addTiding yX10_addTiding, Cond.code yX10_addTiding cX10_addTiding 6 (some .int), Cond.classLink RX10 142 RX3, Cond.instantiable RX3 6, Cond.initialized RX3, Cond.fieldLink RX10 368 "ShipOffice$Agreement" "tidings" "LShipOffice$Happening;", Cond.methodLink RX10 148 yX3_init, Cond.instanceMethod yX3_init, Cond.code yX3_init cX3_init 7 none, Cond.methodLink RX3 1 objectInit, Cond.instanceMethod objectInit, Cond.code objectInit ⟨#[0xb1]⟩ 1 none, Cond.fieldLink RX3 7 "ShipOffice$Happening" "kind" "I", Cond.fieldLink RX3 13 "ShipOffice$Happening" "day" "I", Cond.fieldLink RX3 16 "ShipOffice$Happening" "told" "I", Cond.fieldLink RX3 19 "ShipOffice$Happening" "way" "I", Cond.fieldLink RX3 22 "ShipOffice$Happening" "port" "I", Cond.fieldLink RX3 25 "ShipOffice$Happening" "before" "LShipOffice$Happening;"]
def wsX10_died : List Cond := .code yX10_died cX10_died 5 (some .int) :: ((wsX10_died_r1 ++ wsX10_died_r2) ++ wsX10 ++ wsX100 ++ wsX30)
theorem il_X10_died_1 : ∀ w ∈ wsX10_died_r1, w ∈ wsX10_died := fun w h => (List.mem_cons_of_mem _ (List.mem_append_left _ (List.mem_append_left _ (List.mem_append_left _ (List.mem_append_left _ h)))))
theorem il_X10_died_2 : ∀ w ∈ wsX10_died_r2, w ∈ wsX10_died := fun w h => (List.mem_cons_of_mem _ (List.mem_append_left _ (List.mem_append_left _ (List.mem_append_left _ (List.mem_append_right _ h)))))
theorem il_X10_died_3 : ∀ w ∈ wsX10, w ∈ wsX10_died := fun w h => (List.mem_cons_of_mem _ (List.mem_append_left _ (List.mem_append_left _ (List.mem_append_right _ h))))
theorem il_X10_died_4 : ∀ w ∈ wsX100, w ∈ wsX10_died := fun w h => (List.mem_cons_of_mem _ (List.mem_append_left _ (List.mem_append_right _ h)))
theorem il_X10_died_5 : ∀ w ∈ wsX30, w ∈ wsX10_died := fun w h => (List.mem_cons_of_mem _ (List.mem_append_right _ h))
theorem iw_X10_died_1 : Cond.fieldLink RX10 166 "ShipOffice$Agreement" "isDead" "Z" ∈ wsX10_died := (mmI il_X10_died_1 0 rfl)
def wsX10_back_r1 : List Cond := [Cond.methodLink RX10 154 yX10_agreementAt, Cond.instanceMethod yX10_agreementAt, Cond.selects RX10 yX10_agreementAt yX10_agreementAt, Cond.initialized RX10, Cond.code yX10_agreementAt cX10_agreementAt 2 (some (.object "ShipOffice$Agreement")), Cond.fieldLink RX10 115 "ShipOffice" "agreementCount" "I", Cond.fieldLink RX10 23 "ShipOffice" "agreements" "[LShipOffice$Agreement;", Cond.methodLink RX10 69 yX10_refuse, Cond.instanceMethod yX10_refuse, Cond.selects RX10 yX10_refuse yX10_refuse, Cond.code yX10_refuse cX10_refuse 2 (some .int), Cond.fieldLink RX10 66 "ShipOffice" "refusals" "[I", Cond.methodLink RX10 158 yX10_tidingRefusal, Cond.instanceMethod yX10_tidingRefusal, Cond.selects RX10 yX10_tidingRefusal yX10_tidingRefusal, Cond.code yX10_tidingRefusal cX10_tidingRefusal 3 (some .int), Cond.fieldLink RX10 126 "ShipOffice$Agreement" "offDay" "I", Cond.constant RX10 114 (1000000), Cond.fieldLink RX10 255 "ShipOffice$Agreement" "signedOn" "I", Cond.fieldLink RX10 73 "ShipOffice" "now" "I", Cond.fieldLink RX10 139 "ShipOffice" "happeningCount" "I", Cond.methodLink RX10 162 yX10_addTiding, Cond.instanceMethod yX10_addTiding, Cond.selects RX10 yX10_addTiding yX10_addTiding]
def wsX10_back_r2 : List Cond := [Cond.code yX10_addTiding cX10_addTiding 6 (some .int), Cond.classLink RX10 142 RX3, Cond.instantiable RX3 6, Cond.initialized RX3, Cond.fieldLink RX10 368 "ShipOffice$Agreement" "tidings" "LShipOffice$Happening;", Cond.methodLink RX10 148 yX3_init, Cond.instanceMethod yX3_init, Cond.code yX3_init cX3_init 7 none, Cond.methodLink RX3 1 objectInit, Cond.instanceMethod objectInit, Cond.code objectInit ⟨#[0xb1]⟩ 1 none, Cond.fieldLink RX3 7 "ShipOffice$Happening" "kind" "I", Cond.fieldLink RX3 13 "ShipOffice$Happening" "day" "I", Cond.fieldLink RX3 16 "ShipOffice$Happening" "told" "I", Cond.fieldLink RX3 19 "ShipOffice$Happening" "way" "I", Cond.fieldLink RX3 22 "ShipOffice$Happening" "port" "I", Cond.fieldLink RX3 25 "ShipOffice$Happening" "before" "LShipOffice$Happening;"]
def wsX10_back : List Cond := .code yX10_back cX10_back 5 (some .int) :: ((wsX10_back_r1 ++ wsX10_back_r2) ++ wsX100 ++ wsX10 ++ wsX30)
theorem il_X10_back_1 : ∀ w ∈ wsX10_back_r1, w ∈ wsX10_back := fun w h => (List.mem_cons_of_mem _ (List.mem_append_left _ (List.mem_append_left _ (List.mem_append_left _ (List.mem_append_left _ h)))))
theorem il_X10_back_2 : ∀ w ∈ wsX10_back_r2, w ∈ wsX10_back := fun w h => (List.mem_cons_of_mem _ (List.mem_append_left _ (List.mem_append_left _ (List.mem_append_left _ (List.mem_append_right _ h)))))
theorem il_X10_back_3 : ∀ w ∈ wsX100, w ∈ wsX10_back := fun w h => (List.mem_cons_of_mem _ (List.mem_append_left _ (List.mem_append_left _ (List.mem_append_right _ h))))
theorem il_X10_back_4 : ∀ w ∈ wsX10, w ∈ wsX10_back := fun w h => (List.mem_cons_of_mem _ (List.mem_append_left _ (List.mem_append_right _ h)))
theorem il_X10_back_5 : ∀ w ∈ wsX30, w ∈ wsX10_back := fun w h => (List.mem_cons_of_mem _ (List.mem_append_right _ h))
theorem gw_X10_signWorth : wsX10_signWorth.all goodWord = true := by decide +kernel
def wsX10_sign_r1 : List Cond := [Cond.fieldLink RX10 115 "ShipOffice" "agreementCount" "I", Cond.fieldLink RX10 126 "ShipOffice$Agreement" "offDay" "I", Cond.constant RX10 114 (1000000), Cond.classLink RX10 21 RX1, Cond.instantiable RX1 18, Cond.initialized RX1, Cond.fieldLink RX10 73 "ShipOffice" "now" "I", Cond.fieldLink RX10 223 "ShipOffice$Agreement" "wage" "I", Cond.fieldLink RX10 226 "ShipOffice$Agreement" "rank" "I", Cond.fieldLink RX10 23 "ShipOffice" "agreements" "[LShipOffice$Agreement;", Cond.methodLink RX10 205 yX10_manAt, Cond.instanceMethod yX10_manAt, Cond.selects RX10 yX10_manAt yX10_manAt, Cond.initialized RX10, Cond.code yX10_manAt cX10_manAt 2 (some (.object "ShipOffice$Man")), Cond.fieldLink RX10 86 "ShipOffice" "manCount" "I", Cond.fieldLink RX10 11 "ShipOffice" "men" "[LShipOffice$Man;", Cond.methodLink RX10 103 yX10_voyageAt, Cond.instanceMethod yX10_voyageAt, Cond.selects RX10 yX10_voyageAt yX10_voyageAt, Cond.code yX10_voyageAt cX10_voyageAt 2 (some (.object "ShipOffice$Voyage")), Cond.fieldLink RX10 99 "ShipOffice" "voyageCount" "I", Cond.fieldLink RX10 17 "ShipOffice" "voyages" "[LShipOffice$Voyage;", Cond.methodLink RX10 154 yX10_agreementAt]
def wsX10_sign_r2 : List Cond := [Cond.instanceMethod yX10_agreementAt, Cond.selects RX10 yX10_agreementAt yX10_agreementAt, Cond.code yX10_agreementAt cX10_agreementAt 2 (some (.object "ShipOffice$Agreement")), Cond.methodLink RX10 69 yX10_refuse, Cond.instanceMethod yX10_refuse, Cond.selects RX10 yX10_refuse yX10_refuse, Cond.code yX10_refuse cX10_refuse 2 (some .int), Cond.fieldLink RX10 66 "ShipOffice" "refusals" "[I", Cond.methodLink RX10 209 yX9_takesHands, Cond.instanceMethod yX9_takesHands, Cond.selects RX9 yX9_takesHands yX9_takesHands, Cond.initialized RX9, Cond.code yX9_takesHands cX9_takesHands 1 (some .boolean), Cond.fieldLink RX9 37 "ShipOffice$Voyage" "isOver" "Z", Cond.fieldLink RX9 16 "ShipOffice$Voyage" "sailedTold" "I", Cond.constant RX9 9 (1000000), Cond.fieldLink RX9 22 "ShipOffice$Voyage" "lostTold" "I", Cond.methodLink RX10 212 yX10_isFree, Cond.instanceMethod yX10_isFree, Cond.selects RX10 yX10_isFree yX10_isFree, Cond.code yX10_isFree cX10_isFree 3 (some .boolean), Cond.fieldLink RX10 299 "ShipOffice$Agreement" "man" "LShipOffice$Man;", Cond.methodLink RX10 122 yX1_goesOn, Cond.instanceMethod yX1_goesOn]
def wsX10_sign_r3 : List Cond := [Cond.selects RX1 yX1_goesOn yX1_goesOn, Cond.code yX1_goesOn cX1_goesOn 1 (some .boolean), Cond.fieldLink RX1 10 "ShipOffice$Agreement" "offDay" "I", Cond.constant RX1 9 (1000000), Cond.fieldLink RX1 44 "ShipOffice$Agreement" "isDead" "Z", Cond.fieldLink RX1 33 "ShipOffice$Agreement" "voyage" "LShipOffice$Voyage;", Cond.fieldLink RX1 48 "ShipOffice$Voyage" "lostTold" "I", Cond.methodLink RX10 216 yX10_signWorth, Cond.instanceMethod yX10_signWorth, Cond.selects RX10 yX10_signWorth yX10_signWorth, Cond.code yX10_signWorth cX10_signWorth 4 (some .int), Cond.fieldLink RX10 59 "ShipOffice" "letters" "[I", Cond.fieldLink RX10 30 "ShipOffice" "law" "LShipOffice$Law;", Cond.methodLink RX10 393 yJ7_fill_53178, Cond.static yJ7_fill_53178, Cond.initialized RJ7, Cond.code yJ7_fill_53178 cJ7_fill_53178 4 none, Cond.methodLink RX10 397 yX6_yearsOn, Cond.instanceMethod yX6_yearsOn, Cond.selects RX6 yX6_yearsOn yX6_yearsOn, Cond.initialized RX6, Cond.code yX6_yearsOn cX6_yearsOn 2 (some .int), Cond.fieldLink RX6 25 "ShipOffice$Man" "born" "I", Cond.methodLink RX10 400 yX5_inForce]
def wsX10_sign_r4 : List Cond := [Cond.instanceMethod yX5_inForce, Cond.selects RX5 yX5_inForce yX5_inForce, Cond.initialized RX5, Cond.code yX5_inForce cX5_inForce 6 (some (.object "ShipOffice$Act")), Cond.fieldLink RX5 17 "ShipOffice$Law" "customs" "[LShipOffice$Act;", Cond.fieldLink RX5 23 "ShipOffice$Law" "actCount" "I", Cond.fieldLink RX5 11 "ShipOffice$Law" "acts" "[LShipOffice$Act;", Cond.fieldLink RX5 27 "ShipOffice$Act" "purpose" "I", Cond.fieldLink RX5 30 "ShipOffice$Act" "day" "I", Cond.methodLink RX10 404 yX0_worth, Cond.instanceMethod yX0_worth, Cond.selects RX0 yX0_worth yX0_worth, Cond.initialized RX0, Cond.code yX0_worth cX0_worth 8 (some .int), Cond.fieldLink RX0 16 "ShipOffice$Act" "code" "[I", Cond.fieldLink RX0 20 "ShipOffice$Act" "stack" "[I", Cond.methodLink RX0 36 yX0_joined, Cond.static yX0_joined, Cond.code yX0_joined cX0_joined 5 (some .int), Cond.methodLink RX0 40 yX0_held, Cond.static yX0_held, Cond.code yX0_held cX0_held 2 (some .int), Cond.constantLong RX0 44 (1000000000), Cond.constant RX0 46 (1000000000)]
def wsX10_sign_r5 : List Cond := [Cond.constantLong RX0 47 (-1000000000), Cond.constant RX0 49 (-1000000000), Cond.methodLink RX10 220 yX1_init, Cond.instanceMethod yX1_init, Cond.code yX1_init cX1_init 5 none, Cond.methodLink RX1 3 objectInit, Cond.instanceMethod objectInit, Cond.code objectInit ⟨#[0xb1]⟩ 1 none, Cond.classLink RX1 16 RX2, Cond.fieldLink RX1 18 "ShipOffice$Agreement" "fines" "[LShipOffice$Fine;", Cond.arrayClass .int, Cond.fieldLink RX1 22 "ShipOffice$Agreement" "shortTold" "[I", Cond.fieldLink RX1 26 "ShipOffice$Agreement" "shortSum" "[I", Cond.fieldLink RX1 29 "ShipOffice$Agreement" "man" "LShipOffice$Man;", Cond.fieldLink RX1 37 "ShipOffice$Agreement" "signedOn" "I", Cond.fieldLink RX1 40 "ShipOffice$Agreement" "paper" "LShipOffice$Agreement;"]
def wsX10_sign : List Cond := .code yX10_sign cX10_sign 11 (some .int) :: ((wsX10_sign_r1 ++ (wsX10_sign_r2 ++ (wsX10_sign_r3 ++ (wsX10_sign_r4 ++ wsX10_sign_r5)))) ++ wsX100 ++ wsX10 ++ wsX90 ++ wsX60 ++ wsX50 ++ wsX00)
theorem il_X10_sign_1 : ∀ w ∈ wsX10_sign_r1, w ∈ wsX10_sign := fun w h => (List.mem_cons_of_mem _ (List.mem_append_left _ (List.mem_append_left _ (List.mem_append_left _ (List.mem_append_left _ (List.mem_append_left _ (List.mem_append_left _ (List.mem_append_left _ h))))))))
theorem il_X10_sign_2 : ∀ w ∈ wsX10_sign_r2, w ∈ wsX10_sign := fun w h => (List.mem_cons_of_mem _ (List.mem_append_left _ (List.mem_append_left _ (List.mem_append_left _ (List.mem_append_left _ (List.mem_append_left _ (List.mem_append_left _ (List.mem_append_right _ (List.mem_append_left _ h)))))))))
theorem il_X10_sign_3 : ∀ w ∈ wsX10_sign_r3, w ∈ wsX10_sign := fun w h => (List.mem_cons_of_mem _ (List.mem_append_left _ (List.mem_append_left _ (List.mem_append_left _ (List.mem_append_left _ (List.mem_append_left _ (List.mem_append_left _ (List.mem_append_right _ (List.mem_append_right _ (List.mem_append_left _ h))))))))))
theorem il_X10_sign_4 : ∀ w ∈ wsX10_sign_r4, w ∈ wsX10_sign := fun w h => (List.mem_cons_of_mem _ (List.mem_append_left _ (List.mem_append_left _ (List.mem_append_left _ (List.mem_append_left _ (List.mem_append_left _ (List.mem_append_left _ (List.mem_append_right _ (List.mem_append_right _ (List.mem_append_right _ (List.mem_append_left _ h)))))))))))
theorem il_X10_sign_5 : ∀ w ∈ wsX10_sign_r5, w ∈ wsX10_sign := fun w h => (List.mem_cons_of_mem _ (List.mem_append_left _ (List.mem_append_left _ (List.mem_append_left _ (List.mem_append_left _ (List.mem_append_left _ (List.mem_append_left _ (List.mem_append_right _ (List.mem_append_right _ (List.mem_append_right _ (List.mem_append_right _ h)))))))))))
theorem il_X10_sign_6 : ∀ w ∈ wsX100, w ∈ wsX10_sign := fun w h => (List.mem_cons_of_mem _ (List.mem_append_left _ (List.mem_append_left _ (List.mem_append_left _ (List.mem_append_left _ (List.mem_append_left _ (List.mem_append_right _ h)))))))
theorem il_X10_sign_7 : ∀ w ∈ wsX10, w ∈ wsX10_sign := fun w h => (List.mem_cons_of_mem _ (List.mem_append_left _ (List.mem_append_left _ (List.mem_append_left _ (List.mem_append_left _ (List.mem_append_right _ h))))))
theorem il_X10_sign_8 : ∀ w ∈ wsX90, w ∈ wsX10_sign := fun w h => (List.mem_cons_of_mem _ (List.mem_append_left _ (List.mem_append_left _ (List.mem_append_left _ (List.mem_append_right _ h)))))
theorem il_X10_sign_9 : ∀ w ∈ wsX60, w ∈ wsX10_sign := fun w h => (List.mem_cons_of_mem _ (List.mem_append_left _ (List.mem_append_left _ (List.mem_append_right _ h))))
theorem il_X10_sign_10 : ∀ w ∈ wsX50, w ∈ wsX10_sign := fun w h => (List.mem_cons_of_mem _ (List.mem_append_left _ (List.mem_append_right _ h)))
theorem il_X10_sign_11 : ∀ w ∈ wsX00, w ∈ wsX10_sign := fun w h => (List.mem_cons_of_mem _ (List.mem_append_right _ h))
theorem iw_X10_sign_1 : Cond.fieldLink RX10 115 "ShipOffice" "agreementCount" "I" ∈ wsX10_sign := (mmI il_X10_sign_1 0 rfl)
theorem iw_X10_sign_2 : Cond.classLink RX10 21 RX1 ∈ wsX10_sign := (mmI il_X10_sign_1 3 rfl)
theorem iw_X10_sign_3 : Cond.instantiable RX1 18 ∈ wsX10_sign := (mmI il_X10_sign_1 4 rfl)
theorem iw_X10_sign_4 : Cond.initialized RX1 ∈ wsX10_sign := (mmI il_X10_sign_1 5 rfl)
theorem iw_X10_sign_5 : Cond.fieldLink RX10 73 "ShipOffice" "now" "I" ∈ wsX10_sign := (mmI il_X10_sign_1 6 rfl)
theorem iw_X10_sign_6 : Cond.methodLink RX10 220 yX1_init ∈ wsX10_sign := (mmI il_X10_sign_5 2 rfl)
theorem iw_X10_sign_7 : Cond.instanceMethod yX1_init ∈ wsX10_sign := (mmI il_X10_sign_5 3 rfl)
theorem iw_X10_sign_8 : Cond.fieldLink RX10 223 "ShipOffice$Agreement" "wage" "I" ∈ wsX10_sign := (mmI il_X10_sign_1 7 rfl)
theorem iw_X10_sign_9 : Cond.fieldLink RX10 226 "ShipOffice$Agreement" "rank" "I" ∈ wsX10_sign := (mmI il_X10_sign_1 8 rfl)
theorem iw_X10_sign_10 : Cond.fieldLink RX10 23 "ShipOffice" "agreements" "[LShipOffice$Agreement;" ∈ wsX10_sign := (mmI il_X10_sign_1 9 rfl)
theorem iw_X10_sign_11 : Cond.fieldLink RX10 126 "ShipOffice$Agreement" "offDay" "I" ∈ wsX10_sign := (mmI il_X10_sign_1 1 rfl)
def wsX10_fine_r1 : List Cond := [Cond.fieldLink RX10 126 "ShipOffice$Agreement" "offDay" "I", Cond.constant RX10 114 (1000000), Cond.fieldLink RX10 255 "ShipOffice$Agreement" "signedOn" "I", Cond.fieldLink RX10 73 "ShipOffice" "now" "I", Cond.fieldLink RX10 258 "ShipOffice$Agreement" "fineCount" "I", Cond.fieldLink RX10 261 "ShipOffice$Agreement" "fines" "[LShipOffice$Fine;", Cond.classLink RX10 265 RX2, Cond.instantiable RX2 3, Cond.initialized RX2, Cond.methodLink RX10 154 yX10_agreementAt, Cond.instanceMethod yX10_agreementAt, Cond.selects RX10 yX10_agreementAt yX10_agreementAt, Cond.initialized RX10, Cond.code yX10_agreementAt cX10_agreementAt 2 (some (.object "ShipOffice$Agreement")), Cond.fieldLink RX10 115 "ShipOffice" "agreementCount" "I", Cond.fieldLink RX10 23 "ShipOffice" "agreements" "[LShipOffice$Agreement;", Cond.methodLink RX10 69 yX10_refuse, Cond.instanceMethod yX10_refuse, Cond.selects RX10 yX10_refuse yX10_refuse, Cond.code yX10_refuse cX10_refuse 2 (some .int), Cond.fieldLink RX10 66 "ShipOffice" "refusals" "[I", Cond.methodLink RX10 267 yX2_init, Cond.instanceMethod yX2_init, Cond.code yX2_init cX2_init 4 none]
def wsX10_fine_r2 : List Cond := [Cond.methodLink RX2 1 objectInit, Cond.instanceMethod objectInit, Cond.code objectInit ⟨#[0xb1]⟩ 1 none, Cond.fieldLink RX2 7 "ShipOffice$Fine" "day" "I", Cond.fieldLink RX2 13 "ShipOffice$Fine" "sum" "I", Cond.fieldLink RX2 16 "ShipOffice$Fine" "isRead" "Z"]
def wsX10_fine : List Cond := .code yX10_fine cX10_fine 6 (some .int) :: ((wsX10_fine_r1 ++ wsX10_fine_r2) ++ wsX10 ++ wsX100 ++ wsX20)
theorem il_X10_fine_1 : ∀ w ∈ wsX10_fine_r1, w ∈ wsX10_fine := fun w h => (List.mem_cons_of_mem _ (List.mem_append_left _ (List.mem_append_left _ (List.mem_append_left _ (List.mem_append_left _ h)))))
theorem il_X10_fine_2 : ∀ w ∈ wsX10_fine_r2, w ∈ wsX10_fine := fun w h => (List.mem_cons_of_mem _ (List.mem_append_left _ (List.mem_append_left _ (List.mem_append_left _ (List.mem_append_right _ h)))))
theorem il_X10_fine_4 : ∀ w ∈ wsX100, w ∈ wsX10_fine := fun w h => (List.mem_cons_of_mem _ (List.mem_append_left _ (List.mem_append_right _ h)))
theorem il_X10_fine_5 : ∀ w ∈ wsX20, w ∈ wsX10_fine := fun w h => (List.mem_cons_of_mem _ (List.mem_append_right _ h))
theorem iw_X10_fine_1 : Cond.fieldLink RX10 126 "ShipOffice$Agreement" "offDay" "I" ∈ wsX10_fine := (mmI il_X10_fine_1 0 rfl)
theorem iw_X10_fine_2 : Cond.fieldLink RX10 255 "ShipOffice$Agreement" "signedOn" "I" ∈ wsX10_fine := (mmI il_X10_fine_1 2 rfl)
theorem iw_X10_fine_3 : Cond.fieldLink RX10 73 "ShipOffice" "now" "I" ∈ wsX10_fine := (mmI il_X10_fine_1 3 rfl)
theorem iw_X10_fine_4 : Cond.fieldLink RX10 258 "ShipOffice$Agreement" "fineCount" "I" ∈ wsX10_fine := (mmI il_X10_fine_1 4 rfl)
theorem iw_X10_fine_5 : Cond.fieldLink RX10 261 "ShipOffice$Agreement" "fines" "[LShipOffice$Fine;" ∈ wsX10_fine := (mmI il_X10_fine_1 5 rfl)
theorem iw_X10_fine_6 : Cond.classLink RX10 265 RX2 ∈ wsX10_fine := (mmI il_X10_fine_1 6 rfl)
theorem iw_X10_fine_7 : Cond.instantiable RX2 3 ∈ wsX10_fine := (mmI il_X10_fine_1 7 rfl)
theorem iw_X10_fine_8 : Cond.initialized RX2 ∈ wsX10_fine := (mmI il_X10_fine_1 8 rfl)
theorem iw_X10_fine_9 : Cond.methodLink RX10 267 yX2_init ∈ wsX10_fine := (mmI il_X10_fine_1 21 rfl)
theorem iw_X10_fine_10 : Cond.instanceMethod yX2_init ∈ wsX10_fine := (mmI il_X10_fine_1 22 rfl)
set_option maxRecDepth 100000 in
theorem ggX10_man_X10_refuse : GoodIn wsX10_man wsX10_refuse := goodIn_sub (mmC (mmI il_X10_man_1 11 rfl) (mmA (mmC (mmI il_X10_man_1 12 rfl) mmN) il_X10_man_4)) gw_X10_refuse
theorem gX10_man_X10_refuse : GoodIn wsX10_man (wsV RX10 69 RX10 yX10_refuse wsX10_refuse) := goodIn_app (goodIn_sub (mmC (mmI il_X10_man_1 7 rfl) (mmC (mmI il_X10_man_1 8 rfl) (mmC (mmI il_X10_man_1 9 rfl) (mmC (mmI il_X10_man_1 10 rfl) mmN)))) (by decide +kernel)) ggX10_man_X10_refuse
set_option maxRecDepth 100000 in
theorem ggX10_man_X6_init : GoodIn wsX10_man wsX6_init := goodIn_sub (mmC (mmI il_X10_man_1 15 rfl) (mmA (mmC (mmI il_X10_man_1 16 rfl) (mmC (mmI il_X10_man_1 17 rfl) (mmC (mmI il_X10_man_1 18 rfl) (mmC (mmI il_X10_man_1 19 rfl) (mmC (mmI il_X10_man_1 20 rfl) (mmC (mmI il_X10_man_1 21 rfl) (mmC (mmI il_X10_man_1 22 rfl) (mmC (mmI il_X10_man_1 23 rfl) (mmC (mmI il_X10_man_2 0 rfl) (mmC (mmI il_X10_man_2 1 rfl) mmN)))))))))) il_X10_man_5)) gw_X6_init
set_option maxRecDepth 20000 in
theorem gX10_man_X6_init : GoodIn wsX10_man (wsX6_init) := ggX10_man_X6_init
set_option maxRecDepth 100000 in
theorem ggX10_man_X10_joinGroups : GoodIn wsX10_man wsX10_joinGroups := goodIn_sub (mmC (mmI il_X10_man_2 5 rfl) (mmA (mmA (mmA (mmC (mmI il_X10_man_1 2 rfl) (mmC (mmI il_X10_man_1 3 rfl) (mmC (mmI il_X10_man_2 6 rfl) (mmC (mmI il_X10_man_2 7 rfl) (mmC (mmI il_X10_man_2 8 rfl) (mmC (mmI il_X10_man_2 9 rfl) (mmC (mmI il_X10_man_1 6 rfl) (mmC (mmI il_X10_man_2 10 rfl) (mmC (mmI il_X10_man_1 23 rfl) (mmC (mmI il_X10_man_1 22 rfl) (mmC (mmI il_X10_man_2 11 rfl) (mmC (mmI il_X10_man_2 12 rfl) (mmC (mmI il_X10_man_2 13 rfl) (mmC (mmI il_X10_man_2 14 rfl) (mmC (mmI il_X10_man_2 15 rfl) (mmC (mmI il_X10_man_2 16 rfl) (mmC (mmI il_X10_man_1 10 rfl) (mmC (mmI il_X10_man_2 17 rfl) (mmC (mmI il_X10_man_2 18 rfl) (mmC (mmI il_X10_man_2 19 rfl) (mmC (mmI il_X10_man_2 20 rfl) (mmC (mmI il_X10_man_2 21 rfl) (mmC (mmI il_X10_man_2 22 rfl) (mmC (mmI il_X10_man_2 23 rfl) mmN)))))))))))))))))))))))) (mmC (mmI il_X10_man_3 0 rfl) mmN)) il_X10_man_4) il_X10_man_5)) gw_X10_joinGroups
theorem gX10_man_X10_joinGroups : GoodIn wsX10_man (wsV RX10 92 RX10 yX10_joinGroups wsX10_joinGroups) := goodIn_app (goodIn_sub (mmC (mmI il_X10_man_2 2 rfl) (mmC (mmI il_X10_man_2 3 rfl) (mmC (mmI il_X10_man_2 4 rfl) (mmC (mmI il_X10_man_1 10 rfl) mmN)))) (by decide +kernel)) ggX10_man_X10_joinGroups
theorem dX10_man_0 : decode cX10_man 0 = .ok (.iload_n 1, 1) := by decide +kernel
theorem dX10_man_1 : decode cX10_man 1 = .ok (.ifCond .lt 14, 3) := by decide +kernel
theorem dX10_man_4 : decode cX10_man 4 = .ok (.iload_n 2, 1) := by decide +kernel
theorem dX10_man_5 : decode cX10_man 5 = .ok (.ifCond .lt 10, 3) := by decide +kernel
theorem dX10_man_8 : decode cX10_man 8 = .ok (.iload_n 3, 1) := by decide +kernel
theorem dX10_man_9 : decode cX10_man 9 = .ok (.sipush (-30000), 3) := by decide +kernel
theorem dX10_man_12 : decode cX10_man 12 = .ok (.if_icmp .ge 10, 3) := by decide +kernel
theorem dX10_man_15 : decode cX10_man 15 = .ok (.aload_n 0, 1) := by decide +kernel
theorem dX10_man_16 : decode cX10_man 16 = .ok (.bipush (-4), 2) := by decide +kernel
theorem dX10_man_18 : decode cX10_man 18 = .ok (.invokevirtual 69, 3) := by decide +kernel
theorem dX10_man_21 : decode cX10_man 21 = .ok (.ireturn, 1) := by decide +kernel
theorem dX10_man_22 : decode cX10_man 22 = .ok (.iload_n 1, 1) := by decide +kernel
theorem dX10_man_23 : decode cX10_man 23 = .ok (.sipush 9999, 3) := by decide +kernel
theorem dX10_man_26 : decode cX10_man 26 = .ok (.if_icmp .gt 26, 3) := by decide +kernel
theorem dX10_man_29 : decode cX10_man 29 = .ok (.iload_n 2, 1) := by decide +kernel
theorem dX10_man_30 : decode cX10_man 30 = .ok (.ldc 85, 2) := by decide +kernel
theorem dX10_man_32 : decode cX10_man 32 = .ok (.if_icmp .gt 20, 3) := by decide +kernel
theorem dX10_man_35 : decode cX10_man 35 = .ok (.iload_n 3, 1) := by decide +kernel
theorem dX10_man_36 : decode cX10_man 36 = .ok (.aload_n 0, 1) := by decide +kernel
theorem dX10_man_37 : decode cX10_man 37 = .ok (.getfield 73, 3) := by decide +kernel
theorem dX10_man_40 : decode cX10_man 40 = .ok (.if_icmp .gt 12, 3) := by decide +kernel
theorem dX10_man_43 : decode cX10_man 43 = .ok (.aload_n 0, 1) := by decide +kernel
theorem dX10_man_44 : decode cX10_man 44 = .ok (.getfield 86, 3) := by decide +kernel
theorem dX10_man_47 : decode cX10_man 47 = .ok (.bipush 40, 2) := by decide +kernel
theorem dX10_man_49 : decode cX10_man 49 = .ok (.if_icmp .lt 10, 3) := by decide +kernel
theorem dX10_man_52 : decode cX10_man 52 = .ok (.aload_n 0, 1) := by decide +kernel
theorem dX10_man_53 : decode cX10_man 53 = .ok (.bipush (-6), 2) := by decide +kernel
theorem dX10_man_55 : decode cX10_man 55 = .ok (.invokevirtual 69, 3) := by decide +kernel
theorem dX10_man_58 : decode cX10_man 58 = .ok (.ireturn, 1) := by decide +kernel
theorem dX10_man_59 : decode cX10_man 59 = .ok (.aload_n 0, 1) := by decide +kernel
theorem dX10_man_60 : decode cX10_man 60 = .ok (.getfield 11, 3) := by decide +kernel
theorem dX10_man_63 : decode cX10_man 63 = .ok (.aload_n 0, 1) := by decide +kernel
theorem dX10_man_64 : decode cX10_man 64 = .ok (.getfield 86, 3) := by decide +kernel
theorem dX10_man_67 : decode cX10_man 67 = .ok (.new 9, 3) := by decide +kernel
theorem dX10_man_70 : decode cX10_man 70 = .ok (.dup, 1) := by decide +kernel
theorem dX10_man_71 : decode cX10_man 71 = .ok (.aload_n 0, 1) := by decide +kernel
theorem dX10_man_72 : decode cX10_man 72 = .ok (.getfield 86, 3) := by decide +kernel
theorem dX10_man_75 : decode cX10_man 75 = .ok (.iload_n 1, 1) := by decide +kernel
theorem dX10_man_76 : decode cX10_man 76 = .ok (.iload_n 2, 1) := by decide +kernel
theorem dX10_man_77 : decode cX10_man 77 = .ok (.iload_n 3, 1) := by decide +kernel
theorem dX10_man_78 : decode cX10_man 78 = .ok (.invokespecial 89, 3) := by decide +kernel
theorem dX10_man_81 : decode cX10_man 81 = .ok (.aastore, 1) := by decide +kernel
theorem dX10_man_82 : decode cX10_man 82 = .ok (.aload_n 0, 1) := by decide +kernel
theorem dX10_man_83 : decode cX10_man 83 = .ok (.dup, 1) := by decide +kernel
theorem dX10_man_84 : decode cX10_man 84 = .ok (.getfield 86, 3) := by decide +kernel
theorem dX10_man_87 : decode cX10_man 87 = .ok (.iconst 1, 1) := by decide +kernel
theorem dX10_man_88 : decode cX10_man 88 = .ok (.iadd, 1) := by decide +kernel
theorem dX10_man_89 : decode cX10_man 89 = .ok (.putfield 86, 3) := by decide +kernel
theorem dX10_man_92 : decode cX10_man 92 = .ok (.aload_n 0, 1) := by decide +kernel
theorem dX10_man_93 : decode cX10_man 93 = .ok (.aload_n 0, 1) := by decide +kernel
theorem dX10_man_94 : decode cX10_man 94 = .ok (.getfield 11, 3) := by decide +kernel
theorem dX10_man_97 : decode cX10_man 97 = .ok (.aload_n 0, 1) := by decide +kernel
theorem dX10_man_98 : decode cX10_man 98 = .ok (.getfield 86, 3) := by decide +kernel
theorem dX10_man_101 : decode cX10_man 101 = .ok (.iconst 1, 1) := by decide +kernel
theorem dX10_man_102 : decode cX10_man 102 = .ok (.isub, 1) := by decide +kernel
theorem dX10_man_103 : decode cX10_man 103 = .ok (.aaload, 1) := by decide +kernel
theorem dX10_man_104 : decode cX10_man 104 = .ok (.invokevirtual 92, 3) := by decide +kernel
theorem dX10_man_107 : decode cX10_man 107 = .ok (.aload_n 0, 1) := by decide +kernel
theorem dX10_man_108 : decode cX10_man 108 = .ok (.getfield 86, 3) := by decide +kernel
theorem dX10_man_111 : decode cX10_man 111 = .ok (.iconst 1, 1) := by decide +kernel
theorem dX10_man_112 : decode cX10_man 112 = .ok (.isub, 1) := by decide +kernel
theorem dX10_man_113 : decode cX10_man 113 = .ok (.ireturn, 1) := by decide +kernel
set_option maxRecDepth 100000 in
theorem ggX10_voyage_X10_isPort : GoodIn wsX10_voyage wsX10_isPort := goodIn_sub (mmC (mmI il_X10_voyage_1 9 rfl) mmN) gw_X10_isPort
set_option maxRecDepth 20000 in
theorem gX10_voyage_X10_isPort : GoodIn wsX10_voyage (va_wsS RX10 77 yX10_isPort wsX10_isPort) := goodIn_app (goodIn_of _ (by decide +kernel)) ggX10_voyage_X10_isPort
set_option maxRecDepth 100000 in
theorem ggX10_voyage_X10_refuse : GoodIn wsX10_voyage wsX10_refuse := goodIn_sub (mmC (mmI il_X10_voyage_1 13 rfl) (mmA (mmC (mmI il_X10_voyage_1 14 rfl) mmN) il_X10_voyage_3)) gw_X10_refuse
theorem gX10_voyage_X10_refuse : GoodIn wsX10_voyage (wsV RX10 69 RX10 yX10_refuse wsX10_refuse) := goodIn_app (goodIn_sub (mmC (mmI il_X10_voyage_1 10 rfl) (mmC (mmI il_X10_voyage_1 11 rfl) (mmC (mmI il_X10_voyage_1 12 rfl) (mmC (mmI il_X10_voyage_1 8 rfl) mmN)))) (by decide +kernel)) ggX10_voyage_X10_refuse
set_option maxRecDepth 100000 in
theorem ggX10_voyage_X10_hasVoyage : GoodIn wsX10_voyage wsX10_hasVoyage := goodIn_sub (mmC (mmI il_X10_voyage_1 18 rfl) (mmA (mmA (mmC (mmI il_X10_voyage_1 0 rfl) (mmC (mmI il_X10_voyage_1 1 rfl) (mmC (mmI il_X10_voyage_1 19 rfl) (mmC (mmI il_X10_voyage_1 20 rfl) mmN)))) il_X10_voyage_3) il_X10_voyage_4)) gw_X10_hasVoyage
theorem gX10_voyage_X10_hasVoyage : GoodIn wsX10_voyage (wsV RX10 96 RX10 yX10_hasVoyage wsX10_hasVoyage) := goodIn_app (goodIn_sub (mmC (mmI il_X10_voyage_1 15 rfl) (mmC (mmI il_X10_voyage_1 16 rfl) (mmC (mmI il_X10_voyage_1 17 rfl) (mmC (mmI il_X10_voyage_1 8 rfl) mmN)))) (by decide +kernel)) ggX10_voyage_X10_hasVoyage
set_option maxRecDepth 100000 in
theorem ggX10_voyage_X9_init : GoodIn wsX10_voyage wsX9_init := goodIn_sub (mmC (mmI il_X10_voyage_1 23 rfl) (mmA (mmC (mmI il_X10_voyage_2 0 rfl) (mmC (mmI il_X10_voyage_2 1 rfl) (mmC (mmI il_X10_voyage_2 2 rfl) (mmC (mmI il_X10_voyage_2 3 rfl) (mmC (mmI il_X10_voyage_2 4 rfl) (mmC (mmI il_X10_voyage_2 5 rfl) (mmC (mmI il_X10_voyage_2 6 rfl) (mmC (mmI il_X10_voyage_2 7 rfl) (mmC (mmI il_X10_voyage_2 8 rfl) (mmC (mmI il_X10_voyage_2 9 rfl) (mmC (mmI il_X10_voyage_2 10 rfl) (mmC (mmI il_X10_voyage_2 11 rfl) mmN)))))))))))) il_X10_voyage_4)) gw_X9_init
set_option maxRecDepth 20000 in
theorem gX10_voyage_X9_init : GoodIn wsX10_voyage (wsX9_init) := ggX10_voyage_X9_init
theorem dX10_voyage_0 : decode cX10_voyage 0 = .ok (.iload_n 1, 1) := by decide +kernel
theorem dX10_voyage_1 : decode cX10_voyage 1 = .ok (.ifCond .lt 16, 3) := by decide +kernel
theorem dX10_voyage_4 : decode cX10_voyage 4 = .ok (.iload_n 1, 1) := by decide +kernel
theorem dX10_voyage_5 : decode cX10_voyage 5 = .ok (.bipush 10, 2) := by decide +kernel
theorem dX10_voyage_7 : decode cX10_voyage 7 = .ok (.if_icmp .ge 10, 3) := by decide +kernel
theorem dX10_voyage_10 : decode cX10_voyage 10 = .ok (.iload_n 2, 1) := by decide +kernel
theorem dX10_voyage_11 : decode cX10_voyage 11 = .ok (.invokestatic 77, 3) := by decide +kernel
theorem dX10_voyage_14 : decode cX10_voyage 14 = .ok (.ifCond .ne 9, 3) := by decide +kernel
theorem dX10_voyage_17 : decode cX10_voyage 17 = .ok (.aload_n 0, 1) := by decide +kernel
theorem dX10_voyage_18 : decode cX10_voyage 18 = .ok (.iconst (-1), 1) := by decide +kernel
theorem dX10_voyage_19 : decode cX10_voyage 19 = .ok (.invokevirtual 69, 3) := by decide +kernel
theorem dX10_voyage_22 : decode cX10_voyage 22 = .ok (.ireturn, 1) := by decide +kernel
theorem dX10_voyage_23 : decode cX10_voyage 23 = .ok (.aload_n 0, 1) := by decide +kernel
theorem dX10_voyage_24 : decode cX10_voyage 24 = .ok (.iload_n 1, 1) := by decide +kernel
theorem dX10_voyage_25 : decode cX10_voyage 25 = .ok (.invokevirtual 96, 3) := by decide +kernel
theorem dX10_voyage_28 : decode cX10_voyage 28 = .ok (.ifCond .eq 10, 3) := by decide +kernel
theorem dX10_voyage_31 : decode cX10_voyage 31 = .ok (.aload_n 0, 1) := by decide +kernel
theorem dX10_voyage_32 : decode cX10_voyage 32 = .ok (.bipush (-3), 2) := by decide +kernel
theorem dX10_voyage_34 : decode cX10_voyage 34 = .ok (.invokevirtual 69, 3) := by decide +kernel
theorem dX10_voyage_37 : decode cX10_voyage 37 = .ok (.ireturn, 1) := by decide +kernel
theorem dX10_voyage_38 : decode cX10_voyage 38 = .ok (.aload_n 0, 1) := by decide +kernel
theorem dX10_voyage_39 : decode cX10_voyage 39 = .ok (.getfield 99, 3) := by decide +kernel
theorem dX10_voyage_42 : decode cX10_voyage 42 = .ok (.bipush 20, 2) := by decide +kernel
theorem dX10_voyage_44 : decode cX10_voyage 44 = .ok (.if_icmp .lt 10, 3) := by decide +kernel
theorem dX10_voyage_47 : decode cX10_voyage 47 = .ok (.aload_n 0, 1) := by decide +kernel
theorem dX10_voyage_48 : decode cX10_voyage 48 = .ok (.bipush (-6), 2) := by decide +kernel
theorem dX10_voyage_50 : decode cX10_voyage 50 = .ok (.invokevirtual 69, 3) := by decide +kernel
theorem dX10_voyage_53 : decode cX10_voyage 53 = .ok (.ireturn, 1) := by decide +kernel
theorem dX10_voyage_54 : decode cX10_voyage 54 = .ok (.aload_n 0, 1) := by decide +kernel
theorem dX10_voyage_55 : decode cX10_voyage 55 = .ok (.getfield 17, 3) := by decide +kernel
theorem dX10_voyage_58 : decode cX10_voyage 58 = .ok (.aload_n 0, 1) := by decide +kernel
theorem dX10_voyage_59 : decode cX10_voyage 59 = .ok (.getfield 99, 3) := by decide +kernel
theorem dX10_voyage_62 : decode cX10_voyage 62 = .ok (.new 15, 3) := by decide +kernel
theorem dX10_voyage_65 : decode cX10_voyage 65 = .ok (.dup, 1) := by decide +kernel
theorem dX10_voyage_66 : decode cX10_voyage 66 = .ok (.aload_n 0, 1) := by decide +kernel
theorem dX10_voyage_67 : decode cX10_voyage 67 = .ok (.getfield 99, 3) := by decide +kernel
theorem dX10_voyage_70 : decode cX10_voyage 70 = .ok (.iload_n 1, 1) := by decide +kernel
theorem dX10_voyage_71 : decode cX10_voyage 71 = .ok (.iload_n 2, 1) := by decide +kernel
theorem dX10_voyage_72 : decode cX10_voyage 72 = .ok (.aload_n 0, 1) := by decide +kernel
theorem dX10_voyage_73 : decode cX10_voyage 73 = .ok (.getfield 73, 3) := by decide +kernel
theorem dX10_voyage_76 : decode cX10_voyage 76 = .ok (.invokespecial 102, 3) := by decide +kernel
theorem dX10_voyage_79 : decode cX10_voyage 79 = .ok (.aastore, 1) := by decide +kernel
theorem dX10_voyage_80 : decode cX10_voyage 80 = .ok (.aload_n 0, 1) := by decide +kernel
theorem dX10_voyage_81 : decode cX10_voyage 81 = .ok (.dup, 1) := by decide +kernel
theorem dX10_voyage_82 : decode cX10_voyage 82 = .ok (.getfield 99, 3) := by decide +kernel
theorem dX10_voyage_85 : decode cX10_voyage 85 = .ok (.iconst 1, 1) := by decide +kernel
theorem dX10_voyage_86 : decode cX10_voyage 86 = .ok (.iadd, 1) := by decide +kernel
theorem dX10_voyage_87 : decode cX10_voyage 87 = .ok (.putfield 99, 3) := by decide +kernel
theorem dX10_voyage_90 : decode cX10_voyage 90 = .ok (.aload_n 0, 1) := by decide +kernel
theorem dX10_voyage_91 : decode cX10_voyage 91 = .ok (.getfield 99, 3) := by decide +kernel
theorem dX10_voyage_94 : decode cX10_voyage 94 = .ok (.iconst 1, 1) := by decide +kernel
theorem dX10_voyage_95 : decode cX10_voyage 95 = .ok (.isub, 1) := by decide +kernel
theorem dX10_voyage_96 : decode cX10_voyage 96 = .ok (.ireturn, 1) := by decide +kernel
set_option maxRecDepth 100000 in
theorem ggX10_heard_X10_voyageAt : GoodIn wsX10_heard wsX10_voyageAt := goodIn_sub (mmC (mmI il_X10_heard_1 10 rfl) (mmA (mmC (mmI il_X10_heard_1 11 rfl) (mmC (mmI il_X10_heard_1 12 rfl) mmN)) il_X10_heard_4)) gw_X10_voyageAt
theorem gX10_heard_X10_voyageAt : GoodIn wsX10_heard (wsV RX10 103 RX10 yX10_voyageAt wsX10_voyageAt) := goodIn_app (goodIn_sub (mmC (mmI il_X10_heard_1 6 rfl) (mmC (mmI il_X10_heard_1 7 rfl) (mmC (mmI il_X10_heard_1 8 rfl) (mmC (mmI il_X10_heard_1 9 rfl) mmN)))) (by decide +kernel)) ggX10_heard_X10_voyageAt
set_option maxRecDepth 100000 in
theorem ggX10_heard_X10_refuse : GoodIn wsX10_heard wsX10_refuse := goodIn_sub (mmC (mmI il_X10_heard_1 16 rfl) (mmA (mmC (mmI il_X10_heard_1 17 rfl) mmN) il_X10_heard_4)) gw_X10_refuse
theorem gX10_heard_X10_refuse : GoodIn wsX10_heard (wsV RX10 69 RX10 yX10_refuse wsX10_refuse) := goodIn_app (goodIn_sub (mmC (mmI il_X10_heard_1 13 rfl) (mmC (mmI il_X10_heard_1 14 rfl) (mmC (mmI il_X10_heard_1 15 rfl) (mmC (mmI il_X10_heard_1 9 rfl) mmN)))) (by decide +kernel)) ggX10_heard_X10_refuse
set_option maxRecDepth 100000 in
theorem ggX10_heard_X10_voyageRefusal : GoodIn wsX10_heard wsX10_voyageRefusal := goodIn_sub (mmC (mmI il_X10_heard_1 21 rfl) (mmA (mmA (mmC (mmI il_X10_heard_1 22 rfl) (mmC (mmI il_X10_heard_1 23 rfl) (mmC (mmI il_X10_heard_1 3 rfl) (mmC (mmI il_X10_heard_1 5 rfl) mmN)))) il_X10_heard_5) il_X10_heard_4)) gw_X10_voyageRefusal
theorem gX10_heard_X10_voyageRefusal : GoodIn wsX10_heard (wsV RX10 132 RX10 yX10_voyageRefusal wsX10_voyageRefusal) := goodIn_app (goodIn_sub (mmC (mmI il_X10_heard_1 18 rfl) (mmC (mmI il_X10_heard_1 19 rfl) (mmC (mmI il_X10_heard_1 20 rfl) (mmC (mmI il_X10_heard_1 9 rfl) mmN)))) (by decide +kernel)) ggX10_heard_X10_voyageRefusal
set_option maxRecDepth 100000 in
theorem ggX10_heard_X3_init : GoodIn wsX10_heard wsX3_init := goodIn_sub (mmC (mmI il_X10_heard_2 2 rfl) (mmA (mmC (mmI il_X10_heard_2 3 rfl) (mmC (mmI il_X10_heard_2 4 rfl) (mmC (mmI il_X10_heard_2 5 rfl) (mmC (mmI il_X10_heard_2 6 rfl) (mmC (mmI il_X10_heard_2 7 rfl) (mmC (mmI il_X10_heard_2 8 rfl) (mmC (mmI il_X10_heard_2 9 rfl) (mmC (mmI il_X10_heard_2 10 rfl) (mmC (mmI il_X10_heard_2 11 rfl) mmN))))))))) il_X10_heard_3)) gw_X3_init
set_option maxRecDepth 20000 in
theorem gX10_heard_X3_init : GoodIn wsX10_heard (wsX3_init) := ggX10_heard_X3_init
theorem dX10_heard_0 : decode cX10_heard 0 = .ok (.aload_n 0, 1) := by decide +kernel
theorem dX10_heard_1 : decode cX10_heard 1 = .ok (.iload_n 1, 1) := by decide +kernel
theorem dX10_heard_2 : decode cX10_heard 2 = .ok (.invokevirtual 103, 3) := by decide +kernel
theorem dX10_heard_5 : decode cX10_heard 5 = .ok (.astore_n 3, 1) := by decide +kernel
theorem dX10_heard_6 : decode cX10_heard 6 = .ok (.aload_n 3, 1) := by decide +kernel
theorem dX10_heard_7 : decode cX10_heard 7 = .ok (.ifnonnull 9, 3) := by decide +kernel
theorem dX10_heard_10 : decode cX10_heard 10 = .ok (.aload_n 0, 1) := by decide +kernel
theorem dX10_heard_11 : decode cX10_heard 11 = .ok (.iconst (-1), 1) := by decide +kernel
theorem dX10_heard_12 : decode cX10_heard 12 = .ok (.invokevirtual 69, 3) := by decide +kernel
theorem dX10_heard_15 : decode cX10_heard 15 = .ok (.ireturn, 1) := by decide +kernel
theorem dX10_heard_16 : decode cX10_heard 16 = .ok (.aload_n 0, 1) := by decide +kernel
theorem dX10_heard_17 : decode cX10_heard 17 = .ok (.aload_n 3, 1) := by decide +kernel
theorem dX10_heard_18 : decode cX10_heard 18 = .ok (.iload_n 2, 1) := by decide +kernel
theorem dX10_heard_19 : decode cX10_heard 19 = .ok (.iconst 0, 1) := by decide +kernel
theorem dX10_heard_20 : decode cX10_heard 20 = .ok (.invokevirtual 132, 3) := by decide +kernel
theorem dX10_heard_23 : decode cX10_heard 23 = .ok (.istore 4, 2) := by decide +kernel
theorem dX10_heard_25 : decode cX10_heard 25 = .ok (.iload 4, 2) := by decide +kernel
theorem dX10_heard_27 : decode cX10_heard 27 = .ok (.ifCond .eq 10, 3) := by decide +kernel
theorem dX10_heard_30 : decode cX10_heard 30 = .ok (.aload_n 0, 1) := by decide +kernel
theorem dX10_heard_31 : decode cX10_heard 31 = .ok (.iload 4, 2) := by decide +kernel
theorem dX10_heard_33 : decode cX10_heard 33 = .ok (.invokevirtual 69, 3) := by decide +kernel
theorem dX10_heard_36 : decode cX10_heard 36 = .ok (.ireturn, 1) := by decide +kernel
theorem dX10_heard_37 : decode cX10_heard 37 = .ok (.aload_n 3, 1) := by decide +kernel
theorem dX10_heard_38 : decode cX10_heard 38 = .ok (.new 142, 3) := by decide +kernel
theorem dX10_heard_41 : decode cX10_heard 41 = .ok (.dup, 1) := by decide +kernel
theorem dX10_heard_42 : decode cX10_heard 42 = .ok (.iconst 3, 1) := by decide +kernel
theorem dX10_heard_43 : decode cX10_heard 43 = .ok (.iload_n 2, 1) := by decide +kernel
theorem dX10_heard_44 : decode cX10_heard 44 = .ok (.aload_n 0, 1) := by decide +kernel
theorem dX10_heard_45 : decode cX10_heard 45 = .ok (.getfield 73, 3) := by decide +kernel
theorem dX10_heard_48 : decode cX10_heard 48 = .ok (.bipush (-9), 2) := by decide +kernel
theorem dX10_heard_50 : decode cX10_heard 50 = .ok (.bipush (-9), 2) := by decide +kernel
theorem dX10_heard_52 : decode cX10_heard 52 = .ok (.aload_n 3, 1) := by decide +kernel
theorem dX10_heard_53 : decode cX10_heard 53 = .ok (.getfield 144, 3) := by decide +kernel
theorem dX10_heard_56 : decode cX10_heard 56 = .ok (.invokespecial 148, 3) := by decide +kernel
theorem dX10_heard_59 : decode cX10_heard 59 = .ok (.putfield 144, 3) := by decide +kernel
theorem dX10_heard_62 : decode cX10_heard 62 = .ok (.aload_n 0, 1) := by decide +kernel
theorem dX10_heard_63 : decode cX10_heard 63 = .ok (.dup, 1) := by decide +kernel
theorem dX10_heard_64 : decode cX10_heard 64 = .ok (.getfield 139, 3) := by decide +kernel
theorem dX10_heard_67 : decode cX10_heard 67 = .ok (.iconst 1, 1) := by decide +kernel
theorem dX10_heard_68 : decode cX10_heard 68 = .ok (.iadd, 1) := by decide +kernel
theorem dX10_heard_69 : decode cX10_heard 69 = .ok (.putfield 139, 3) := by decide +kernel
theorem dX10_heard_72 : decode cX10_heard 72 = .ok (.aload_n 0, 1) := by decide +kernel
theorem dX10_heard_73 : decode cX10_heard 73 = .ok (.getfield 139, 3) := by decide +kernel
theorem dX10_heard_76 : decode cX10_heard 76 = .ok (.ireturn, 1) := by decide +kernel
set_option maxRecDepth 100000 in
theorem ggX10_left_X10_agreementAt : GoodIn wsX10_left wsX10_agreementAt := goodIn_sub (mmC (mmI il_X10_left_1 4 rfl) (mmA (mmC (mmI il_X10_left_1 5 rfl) (mmC (mmI il_X10_left_1 6 rfl) mmN)) il_X10_left_3)) gw_X10_agreementAt
theorem gX10_left_X10_agreementAt : GoodIn wsX10_left (wsV RX10 154 RX10 yX10_agreementAt wsX10_agreementAt) := goodIn_app (goodIn_sub (mmC (mmI il_X10_left_1 0 rfl) (mmC (mmI il_X10_left_1 1 rfl) (mmC (mmI il_X10_left_1 2 rfl) (mmC (mmI il_X10_left_1 3 rfl) mmN)))) (by decide +kernel)) ggX10_left_X10_agreementAt
set_option maxRecDepth 100000 in
theorem ggX10_left_X10_isPort : GoodIn wsX10_left wsX10_isPort := goodIn_sub (mmC (mmI il_X10_left_1 9 rfl) mmN) gw_X10_isPort
set_option maxRecDepth 20000 in
theorem gX10_left_X10_isPort : GoodIn wsX10_left (va_wsS RX10 77 yX10_isPort wsX10_isPort) := goodIn_app (goodIn_of _ (by decide +kernel)) ggX10_left_X10_isPort
set_option maxRecDepth 100000 in
theorem ggX10_left_X10_refuse : GoodIn wsX10_left wsX10_refuse := goodIn_sub (mmC (mmI il_X10_left_1 13 rfl) (mmA (mmC (mmI il_X10_left_1 14 rfl) mmN) il_X10_left_3)) gw_X10_refuse
theorem gX10_left_X10_refuse : GoodIn wsX10_left (wsV RX10 69 RX10 yX10_refuse wsX10_refuse) := goodIn_app (goodIn_sub (mmC (mmI il_X10_left_1 10 rfl) (mmC (mmI il_X10_left_1 11 rfl) (mmC (mmI il_X10_left_1 12 rfl) (mmC (mmI il_X10_left_1 3 rfl) mmN)))) (by decide +kernel)) ggX10_left_X10_refuse
set_option maxRecDepth 100000 in
theorem ggX10_left_X10_tidingRefusal : GoodIn wsX10_left wsX10_tidingRefusal := goodIn_sub (mmC (mmI il_X10_left_1 18 rfl) (mmA (mmA (mmC (mmI il_X10_left_1 19 rfl) (mmC (mmI il_X10_left_1 20 rfl) (mmC (mmI il_X10_left_1 21 rfl) (mmC (mmI il_X10_left_1 22 rfl) (mmC (mmI il_X10_left_1 23 rfl) mmN))))) il_X10_left_4) il_X10_left_3)) gw_X10_tidingRefusal
theorem gX10_left_X10_tidingRefusal : GoodIn wsX10_left (wsV RX10 158 RX10 yX10_tidingRefusal wsX10_tidingRefusal) := goodIn_app (goodIn_sub (mmC (mmI il_X10_left_1 15 rfl) (mmC (mmI il_X10_left_1 16 rfl) (mmC (mmI il_X10_left_1 17 rfl) (mmC (mmI il_X10_left_1 3 rfl) mmN)))) (by decide +kernel)) ggX10_left_X10_tidingRefusal
set_option maxRecDepth 100000 in
theorem ggX10_left_X10_addTiding : GoodIn wsX10_left wsX10_addTiding := goodIn_sub (mmC (mmI il_X10_left_2 3 rfl) (mmA (mmA (mmA (mmC (mmI il_X10_left_2 4 rfl) (mmC (mmI il_X10_left_2 5 rfl) (mmC (mmI il_X10_left_2 6 rfl) (mmC (mmI il_X10_left_1 22 rfl) (mmC (mmI il_X10_left_2 7 rfl) (mmC (mmI il_X10_left_1 23 rfl) (mmC (mmI il_X10_left_2 8 rfl) (mmC (mmI il_X10_left_2 9 rfl) (mmC (mmI il_X10_left_2 10 rfl) (mmC (mmI il_X10_left_2 11 rfl) (mmC (mmI il_X10_left_2 12 rfl) (mmC (mmI il_X10_left_2 13 rfl) (mmC (mmI il_X10_left_2 14 rfl) (mmC (mmI il_X10_left_2 15 rfl) (mmC (mmI il_X10_left_2 16 rfl) (mmC (mmI il_X10_left_2 17 rfl) (mmC (mmI il_X10_left_2 18 rfl) (mmC (mmI il_X10_left_2 19 rfl) mmN)))))))))))))))))) il_X10_left_5) il_X10_left_3) il_X10_left_4)) gw_X10_addTiding
theorem gX10_left_X10_addTiding : GoodIn wsX10_left (wsV RX10 162 RX10 yX10_addTiding wsX10_addTiding) := goodIn_app (goodIn_sub (mmC (mmI il_X10_left_2 0 rfl) (mmC (mmI il_X10_left_2 1 rfl) (mmC (mmI il_X10_left_2 2 rfl) (mmC (mmI il_X10_left_1 3 rfl) mmN)))) (by decide +kernel)) ggX10_left_X10_addTiding
theorem dX10_left_0 : decode cX10_left 0 = .ok (.aload_n 0, 1) := by decide +kernel
theorem dX10_left_1 : decode cX10_left 1 = .ok (.iload_n 1, 1) := by decide +kernel
theorem dX10_left_2 : decode cX10_left 2 = .ok (.invokevirtual 154, 3) := by decide +kernel
theorem dX10_left_5 : decode cX10_left 5 = .ok (.astore 5, 2) := by decide +kernel
theorem dX10_left_7 : decode cX10_left 7 = .ok (.aload 5, 2) := by decide +kernel
theorem dX10_left_9 : decode cX10_left 9 = .ok (.ifnull 11, 3) := by decide +kernel
theorem dX10_left_12 : decode cX10_left 12 = .ok (.iload 4, 2) := by decide +kernel
theorem dX10_left_14 : decode cX10_left 14 = .ok (.invokestatic 77, 3) := by decide +kernel
theorem dX10_left_17 : decode cX10_left 17 = .ok (.ifCond .ne 9, 3) := by decide +kernel
theorem dX10_left_20 : decode cX10_left 20 = .ok (.aload_n 0, 1) := by decide +kernel
theorem dX10_left_21 : decode cX10_left 21 = .ok (.iconst (-1), 1) := by decide +kernel
theorem dX10_left_22 : decode cX10_left 22 = .ok (.invokevirtual 69, 3) := by decide +kernel
theorem dX10_left_25 : decode cX10_left 25 = .ok (.ireturn, 1) := by decide +kernel
theorem dX10_left_26 : decode cX10_left 26 = .ok (.iload_n 3, 1) := by decide +kernel
theorem dX10_left_27 : decode cX10_left 27 = .ok (.ifCond .lt 8, 3) := by decide +kernel
theorem dX10_left_30 : decode cX10_left 30 = .ok (.iload_n 3, 1) := by decide +kernel
theorem dX10_left_31 : decode cX10_left 31 = .ok (.iconst 2, 1) := by decide +kernel
theorem dX10_left_32 : decode cX10_left 32 = .ok (.if_icmp .le 10, 3) := by decide +kernel
theorem dX10_left_35 : decode cX10_left 35 = .ok (.aload_n 0, 1) := by decide +kernel
theorem dX10_left_36 : decode cX10_left 36 = .ok (.bipush (-2), 2) := by decide +kernel
theorem dX10_left_38 : decode cX10_left 38 = .ok (.invokevirtual 69, 3) := by decide +kernel
theorem dX10_left_41 : decode cX10_left 41 = .ok (.ireturn, 1) := by decide +kernel
theorem dX10_left_42 : decode cX10_left 42 = .ok (.aload_n 0, 1) := by decide +kernel
theorem dX10_left_43 : decode cX10_left 43 = .ok (.aload 5, 2) := by decide +kernel
theorem dX10_left_45 : decode cX10_left 45 = .ok (.iload_n 2, 1) := by decide +kernel
theorem dX10_left_46 : decode cX10_left 46 = .ok (.invokevirtual 158, 3) := by decide +kernel
theorem dX10_left_49 : decode cX10_left 49 = .ok (.istore 6, 2) := by decide +kernel
theorem dX10_left_51 : decode cX10_left 51 = .ok (.iload 6, 2) := by decide +kernel
theorem dX10_left_53 : decode cX10_left 53 = .ok (.ifCond .eq 10, 3) := by decide +kernel
theorem dX10_left_56 : decode cX10_left 56 = .ok (.aload_n 0, 1) := by decide +kernel
theorem dX10_left_57 : decode cX10_left 57 = .ok (.iload 6, 2) := by decide +kernel
theorem dX10_left_59 : decode cX10_left 59 = .ok (.invokevirtual 69, 3) := by decide +kernel
theorem dX10_left_62 : decode cX10_left 62 = .ok (.ireturn, 1) := by decide +kernel
theorem dX10_left_63 : decode cX10_left 63 = .ok (.aload_n 0, 1) := by decide +kernel
theorem dX10_left_64 : decode cX10_left 64 = .ok (.aload 5, 2) := by decide +kernel
theorem dX10_left_66 : decode cX10_left 66 = .ok (.iconst 0, 1) := by decide +kernel
theorem dX10_left_67 : decode cX10_left 67 = .ok (.iload_n 2, 1) := by decide +kernel
theorem dX10_left_68 : decode cX10_left 68 = .ok (.iload_n 3, 1) := by decide +kernel
theorem dX10_left_69 : decode cX10_left 69 = .ok (.iload 4, 2) := by decide +kernel
theorem dX10_left_71 : decode cX10_left 71 = .ok (.invokevirtual 162, 3) := by decide +kernel
theorem dX10_left_74 : decode cX10_left 74 = .ok (.ireturn, 1) := by decide +kernel
set_option maxRecDepth 100000 in
theorem ggX10_died_X10_agreementAt : GoodIn wsX10_died wsX10_agreementAt := goodIn_sub (mmC (mmI il_X10_died_1 5 rfl) (mmA (mmC (mmI il_X10_died_1 6 rfl) (mmC (mmI il_X10_died_1 7 rfl) mmN)) il_X10_died_4)) gw_X10_agreementAt
theorem gX10_died_X10_agreementAt : GoodIn wsX10_died (wsV RX10 154 RX10 yX10_agreementAt wsX10_agreementAt) := goodIn_app (goodIn_sub (mmC (mmI il_X10_died_1 1 rfl) (mmC (mmI il_X10_died_1 2 rfl) (mmC (mmI il_X10_died_1 3 rfl) (mmC (mmI il_X10_died_1 4 rfl) mmN)))) (by decide +kernel)) ggX10_died_X10_agreementAt
set_option maxRecDepth 100000 in
theorem ggX10_died_X10_refuse : GoodIn wsX10_died wsX10_refuse := goodIn_sub (mmC (mmI il_X10_died_1 11 rfl) (mmA (mmC (mmI il_X10_died_1 12 rfl) mmN) il_X10_died_4)) gw_X10_refuse
theorem gX10_died_X10_refuse : GoodIn wsX10_died (wsV RX10 69 RX10 yX10_refuse wsX10_refuse) := goodIn_app (goodIn_sub (mmC (mmI il_X10_died_1 8 rfl) (mmC (mmI il_X10_died_1 9 rfl) (mmC (mmI il_X10_died_1 10 rfl) (mmC (mmI il_X10_died_1 4 rfl) mmN)))) (by decide +kernel)) ggX10_died_X10_refuse
set_option maxRecDepth 100000 in
theorem ggX10_died_X10_tidingRefusal : GoodIn wsX10_died wsX10_tidingRefusal := goodIn_sub (mmC (mmI il_X10_died_1 16 rfl) (mmA (mmA (mmC (mmI il_X10_died_1 17 rfl) (mmC (mmI il_X10_died_1 18 rfl) (mmC (mmI il_X10_died_1 19 rfl) (mmC (mmI il_X10_died_1 20 rfl) (mmC (mmI il_X10_died_1 21 rfl) mmN))))) il_X10_died_3) il_X10_died_4)) gw_X10_tidingRefusal
theorem gX10_died_X10_tidingRefusal : GoodIn wsX10_died (wsV RX10 158 RX10 yX10_tidingRefusal wsX10_tidingRefusal) := goodIn_app (goodIn_sub (mmC (mmI il_X10_died_1 13 rfl) (mmC (mmI il_X10_died_1 14 rfl) (mmC (mmI il_X10_died_1 15 rfl) (mmC (mmI il_X10_died_1 4 rfl) mmN)))) (by decide +kernel)) ggX10_died_X10_tidingRefusal
set_option maxRecDepth 100000 in
theorem ggX10_died_X10_addTiding : GoodIn wsX10_died wsX10_addTiding := goodIn_sub (mmC (mmI il_X10_died_2 1 rfl) (mmA (mmA (mmA (mmC (mmI il_X10_died_2 2 rfl) (mmC (mmI il_X10_died_2 3 rfl) (mmC (mmI il_X10_died_2 4 rfl) (mmC (mmI il_X10_died_1 20 rfl) (mmC (mmI il_X10_died_2 5 rfl) (mmC (mmI il_X10_died_1 21 rfl) (mmC (mmI il_X10_died_2 6 rfl) (mmC (mmI il_X10_died_2 7 rfl) (mmC (mmI il_X10_died_2 8 rfl) (mmC (mmI il_X10_died_2 9 rfl) (mmC (mmI il_X10_died_2 10 rfl) (mmC (mmI il_X10_died_2 11 rfl) (mmC (mmI il_X10_died_2 12 rfl) (mmC (mmI il_X10_died_2 13 rfl) (mmC (mmI il_X10_died_2 14 rfl) (mmC (mmI il_X10_died_2 15 rfl) (mmC (mmI il_X10_died_2 16 rfl) (mmC (mmI il_X10_died_2 17 rfl) mmN)))))))))))))))))) il_X10_died_5) il_X10_died_4) il_X10_died_3)) gw_X10_addTiding
theorem gX10_died_X10_addTiding : GoodIn wsX10_died (wsV RX10 162 RX10 yX10_addTiding wsX10_addTiding) := goodIn_app (goodIn_sub (mmC (mmI il_X10_died_1 22 rfl) (mmC (mmI il_X10_died_1 23 rfl) (mmC (mmI il_X10_died_2 0 rfl) (mmC (mmI il_X10_died_1 4 rfl) mmN)))) (by decide +kernel)) ggX10_died_X10_addTiding
theorem dX10_died_0 : decode cX10_died 0 = .ok (.aload_n 0, 1) := by decide +kernel
theorem dX10_died_1 : decode cX10_died 1 = .ok (.iload_n 1, 1) := by decide +kernel
theorem dX10_died_2 : decode cX10_died 2 = .ok (.invokevirtual 154, 3) := by decide +kernel
theorem dX10_died_5 : decode cX10_died 5 = .ok (.astore_n 3, 1) := by decide +kernel
theorem dX10_died_6 : decode cX10_died 6 = .ok (.aload_n 3, 1) := by decide +kernel
theorem dX10_died_7 : decode cX10_died 7 = .ok (.ifnonnull 9, 3) := by decide +kernel
theorem dX10_died_10 : decode cX10_died 10 = .ok (.aload_n 0, 1) := by decide +kernel
theorem dX10_died_11 : decode cX10_died 11 = .ok (.iconst (-1), 1) := by decide +kernel
theorem dX10_died_12 : decode cX10_died 12 = .ok (.invokevirtual 69, 3) := by decide +kernel
theorem dX10_died_15 : decode cX10_died 15 = .ok (.ireturn, 1) := by decide +kernel
theorem dX10_died_16 : decode cX10_died 16 = .ok (.aload_n 0, 1) := by decide +kernel
theorem dX10_died_17 : decode cX10_died 17 = .ok (.aload_n 3, 1) := by decide +kernel
theorem dX10_died_18 : decode cX10_died 18 = .ok (.iload_n 2, 1) := by decide +kernel
theorem dX10_died_19 : decode cX10_died 19 = .ok (.invokevirtual 158, 3) := by decide +kernel
theorem dX10_died_22 : decode cX10_died 22 = .ok (.istore 4, 2) := by decide +kernel
theorem dX10_died_24 : decode cX10_died 24 = .ok (.iload 4, 2) := by decide +kernel
theorem dX10_died_26 : decode cX10_died 26 = .ok (.ifCond .eq 10, 3) := by decide +kernel
theorem dX10_died_29 : decode cX10_died 29 = .ok (.aload_n 0, 1) := by decide +kernel
theorem dX10_died_30 : decode cX10_died 30 = .ok (.iload 4, 2) := by decide +kernel
theorem dX10_died_32 : decode cX10_died 32 = .ok (.invokevirtual 69, 3) := by decide +kernel
theorem dX10_died_35 : decode cX10_died 35 = .ok (.ireturn, 1) := by decide +kernel
theorem dX10_died_36 : decode cX10_died 36 = .ok (.aload_n 3, 1) := by decide +kernel
theorem dX10_died_37 : decode cX10_died 37 = .ok (.iconst 1, 1) := by decide +kernel
theorem dX10_died_38 : decode cX10_died 38 = .ok (.putfield 166, 3) := by decide +kernel
theorem dX10_died_41 : decode cX10_died 41 = .ok (.aload_n 0, 1) := by decide +kernel
theorem dX10_died_42 : decode cX10_died 42 = .ok (.aload_n 3, 1) := by decide +kernel
theorem dX10_died_43 : decode cX10_died 43 = .ok (.iconst 2, 1) := by decide +kernel
theorem dX10_died_44 : decode cX10_died 44 = .ok (.iload_n 2, 1) := by decide +kernel
theorem dX10_died_45 : decode cX10_died 45 = .ok (.bipush (-9), 2) := by decide +kernel
theorem dX10_died_47 : decode cX10_died 47 = .ok (.bipush (-9), 2) := by decide +kernel
theorem dX10_died_49 : decode cX10_died 49 = .ok (.invokevirtual 162, 3) := by decide +kernel
theorem dX10_died_52 : decode cX10_died 52 = .ok (.ireturn, 1) := by decide +kernel
set_option maxRecDepth 100000 in
theorem ggX10_back_X10_agreementAt : GoodIn wsX10_back wsX10_agreementAt := goodIn_sub (mmC (mmI il_X10_back_1 4 rfl) (mmA (mmC (mmI il_X10_back_1 5 rfl) (mmC (mmI il_X10_back_1 6 rfl) mmN)) il_X10_back_3)) gw_X10_agreementAt
theorem gX10_back_X10_agreementAt : GoodIn wsX10_back (wsV RX10 154 RX10 yX10_agreementAt wsX10_agreementAt) := goodIn_app (goodIn_sub (mmC (mmI il_X10_back_1 0 rfl) (mmC (mmI il_X10_back_1 1 rfl) (mmC (mmI il_X10_back_1 2 rfl) (mmC (mmI il_X10_back_1 3 rfl) mmN)))) (by decide +kernel)) ggX10_back_X10_agreementAt
set_option maxRecDepth 100000 in
theorem ggX10_back_X10_refuse : GoodIn wsX10_back wsX10_refuse := goodIn_sub (mmC (mmI il_X10_back_1 10 rfl) (mmA (mmC (mmI il_X10_back_1 11 rfl) mmN) il_X10_back_3)) gw_X10_refuse
theorem gX10_back_X10_refuse : GoodIn wsX10_back (wsV RX10 69 RX10 yX10_refuse wsX10_refuse) := goodIn_app (goodIn_sub (mmC (mmI il_X10_back_1 7 rfl) (mmC (mmI il_X10_back_1 8 rfl) (mmC (mmI il_X10_back_1 9 rfl) (mmC (mmI il_X10_back_1 3 rfl) mmN)))) (by decide +kernel)) ggX10_back_X10_refuse
set_option maxRecDepth 100000 in
theorem ggX10_back_X10_tidingRefusal : GoodIn wsX10_back wsX10_tidingRefusal := goodIn_sub (mmC (mmI il_X10_back_1 15 rfl) (mmA (mmA (mmC (mmI il_X10_back_1 16 rfl) (mmC (mmI il_X10_back_1 17 rfl) (mmC (mmI il_X10_back_1 18 rfl) (mmC (mmI il_X10_back_1 19 rfl) (mmC (mmI il_X10_back_1 20 rfl) mmN))))) il_X10_back_4) il_X10_back_3)) gw_X10_tidingRefusal
theorem gX10_back_X10_tidingRefusal : GoodIn wsX10_back (wsV RX10 158 RX10 yX10_tidingRefusal wsX10_tidingRefusal) := goodIn_app (goodIn_sub (mmC (mmI il_X10_back_1 12 rfl) (mmC (mmI il_X10_back_1 13 rfl) (mmC (mmI il_X10_back_1 14 rfl) (mmC (mmI il_X10_back_1 3 rfl) mmN)))) (by decide +kernel)) ggX10_back_X10_tidingRefusal
set_option maxRecDepth 100000 in
theorem ggX10_back_X10_addTiding : GoodIn wsX10_back wsX10_addTiding := goodIn_sub (mmC (mmI il_X10_back_2 0 rfl) (mmA (mmA (mmA (mmC (mmI il_X10_back_2 1 rfl) (mmC (mmI il_X10_back_2 2 rfl) (mmC (mmI il_X10_back_2 3 rfl) (mmC (mmI il_X10_back_1 19 rfl) (mmC (mmI il_X10_back_2 4 rfl) (mmC (mmI il_X10_back_1 20 rfl) (mmC (mmI il_X10_back_2 5 rfl) (mmC (mmI il_X10_back_2 6 rfl) (mmC (mmI il_X10_back_2 7 rfl) (mmC (mmI il_X10_back_2 8 rfl) (mmC (mmI il_X10_back_2 9 rfl) (mmC (mmI il_X10_back_2 10 rfl) (mmC (mmI il_X10_back_2 11 rfl) (mmC (mmI il_X10_back_2 12 rfl) (mmC (mmI il_X10_back_2 13 rfl) (mmC (mmI il_X10_back_2 14 rfl) (mmC (mmI il_X10_back_2 15 rfl) (mmC (mmI il_X10_back_2 16 rfl) mmN)))))))))))))))))) il_X10_back_5) il_X10_back_3) il_X10_back_4)) gw_X10_addTiding
theorem gX10_back_X10_addTiding : GoodIn wsX10_back (wsV RX10 162 RX10 yX10_addTiding wsX10_addTiding) := goodIn_app (goodIn_sub (mmC (mmI il_X10_back_1 21 rfl) (mmC (mmI il_X10_back_1 22 rfl) (mmC (mmI il_X10_back_1 23 rfl) (mmC (mmI il_X10_back_1 3 rfl) mmN)))) (by decide +kernel)) ggX10_back_X10_addTiding
theorem dX10_back_0 : decode cX10_back 0 = .ok (.aload_n 0, 1) := by decide +kernel
theorem dX10_back_1 : decode cX10_back 1 = .ok (.iload_n 1, 1) := by decide +kernel
theorem dX10_back_2 : decode cX10_back 2 = .ok (.invokevirtual 154, 3) := by decide +kernel
theorem dX10_back_5 : decode cX10_back 5 = .ok (.astore_n 3, 1) := by decide +kernel
theorem dX10_back_6 : decode cX10_back 6 = .ok (.aload_n 3, 1) := by decide +kernel
theorem dX10_back_7 : decode cX10_back 7 = .ok (.ifnonnull 9, 3) := by decide +kernel
theorem dX10_back_10 : decode cX10_back 10 = .ok (.aload_n 0, 1) := by decide +kernel
theorem dX10_back_11 : decode cX10_back 11 = .ok (.iconst (-1), 1) := by decide +kernel
theorem dX10_back_12 : decode cX10_back 12 = .ok (.invokevirtual 69, 3) := by decide +kernel
theorem dX10_back_15 : decode cX10_back 15 = .ok (.ireturn, 1) := by decide +kernel
theorem dX10_back_16 : decode cX10_back 16 = .ok (.aload_n 0, 1) := by decide +kernel
theorem dX10_back_17 : decode cX10_back 17 = .ok (.aload_n 3, 1) := by decide +kernel
theorem dX10_back_18 : decode cX10_back 18 = .ok (.iload_n 2, 1) := by decide +kernel
theorem dX10_back_19 : decode cX10_back 19 = .ok (.invokevirtual 158, 3) := by decide +kernel
theorem dX10_back_22 : decode cX10_back 22 = .ok (.istore 4, 2) := by decide +kernel
theorem dX10_back_24 : decode cX10_back 24 = .ok (.iload 4, 2) := by decide +kernel
theorem dX10_back_26 : decode cX10_back 26 = .ok (.ifCond .eq 10, 3) := by decide +kernel
theorem dX10_back_29 : decode cX10_back 29 = .ok (.aload_n 0, 1) := by decide +kernel
theorem dX10_back_30 : decode cX10_back 30 = .ok (.iload 4, 2) := by decide +kernel
theorem dX10_back_32 : decode cX10_back 32 = .ok (.invokevirtual 69, 3) := by decide +kernel
theorem dX10_back_35 : decode cX10_back 35 = .ok (.ireturn, 1) := by decide +kernel
theorem dX10_back_36 : decode cX10_back 36 = .ok (.aload_n 0, 1) := by decide +kernel
theorem dX10_back_37 : decode cX10_back 37 = .ok (.aload_n 3, 1) := by decide +kernel
theorem dX10_back_38 : decode cX10_back 38 = .ok (.iconst 1, 1) := by decide +kernel
theorem dX10_back_39 : decode cX10_back 39 = .ok (.iload_n 2, 1) := by decide +kernel
theorem dX10_back_40 : decode cX10_back 40 = .ok (.bipush (-9), 2) := by decide +kernel
theorem dX10_back_42 : decode cX10_back 42 = .ok (.bipush (-9), 2) := by decide +kernel
theorem dX10_back_44 : decode cX10_back 44 = .ok (.invokevirtual 162, 3) := by decide +kernel
theorem dX10_back_47 : decode cX10_back 47 = .ok (.ireturn, 1) := by decide +kernel
set_option maxRecDepth 100000 in
theorem ggX10_sign_X10_manAt : GoodIn wsX10_sign wsX10_manAt := goodIn_sub (mmC (mmI il_X10_sign_1 14 rfl) (mmA (mmC (mmI il_X10_sign_1 15 rfl) (mmC (mmI il_X10_sign_1 16 rfl) mmN)) il_X10_sign_6)) gw_X10_manAt
theorem gX10_sign_X10_manAt : GoodIn wsX10_sign (wsV RX10 205 RX10 yX10_manAt wsX10_manAt) := goodIn_app (goodIn_sub (mmC (mmI il_X10_sign_1 10 rfl) (mmC (mmI il_X10_sign_1 11 rfl) (mmC (mmI il_X10_sign_1 12 rfl) (mmC (mmI il_X10_sign_1 13 rfl) mmN)))) (by decide +kernel)) ggX10_sign_X10_manAt
set_option maxRecDepth 100000 in
theorem ggX10_sign_X10_voyageAt : GoodIn wsX10_sign wsX10_voyageAt := goodIn_sub (mmC (mmI il_X10_sign_1 20 rfl) (mmA (mmC (mmI il_X10_sign_1 21 rfl) (mmC (mmI il_X10_sign_1 22 rfl) mmN)) il_X10_sign_6)) gw_X10_voyageAt
theorem gX10_sign_X10_voyageAt : GoodIn wsX10_sign (wsV RX10 103 RX10 yX10_voyageAt wsX10_voyageAt) := goodIn_app (goodIn_sub (mmC (mmI il_X10_sign_1 17 rfl) (mmC (mmI il_X10_sign_1 18 rfl) (mmC (mmI il_X10_sign_1 19 rfl) (mmC (mmI il_X10_sign_1 13 rfl) mmN)))) (by decide +kernel)) ggX10_sign_X10_voyageAt
set_option maxRecDepth 100000 in
theorem ggX10_sign_X10_agreementAt : GoodIn wsX10_sign wsX10_agreementAt := goodIn_sub (mmC (mmI il_X10_sign_2 2 rfl) (mmA (mmC (mmI il_X10_sign_1 0 rfl) (mmC (mmI il_X10_sign_1 9 rfl) mmN)) il_X10_sign_6)) gw_X10_agreementAt
theorem gX10_sign_X10_agreementAt : GoodIn wsX10_sign (wsV RX10 154 RX10 yX10_agreementAt wsX10_agreementAt) := goodIn_app (goodIn_sub (mmC (mmI il_X10_sign_1 23 rfl) (mmC (mmI il_X10_sign_2 0 rfl) (mmC (mmI il_X10_sign_2 1 rfl) (mmC (mmI il_X10_sign_1 13 rfl) mmN)))) (by decide +kernel)) ggX10_sign_X10_agreementAt
set_option maxRecDepth 100000 in
theorem ggX10_sign_X10_refuse : GoodIn wsX10_sign wsX10_refuse := goodIn_sub (mmC (mmI il_X10_sign_2 6 rfl) (mmA (mmC (mmI il_X10_sign_2 7 rfl) mmN) il_X10_sign_6)) gw_X10_refuse
theorem gX10_sign_X10_refuse : GoodIn wsX10_sign (wsV RX10 69 RX10 yX10_refuse wsX10_refuse) := goodIn_app (goodIn_sub (mmC (mmI il_X10_sign_2 3 rfl) (mmC (mmI il_X10_sign_2 4 rfl) (mmC (mmI il_X10_sign_2 5 rfl) (mmC (mmI il_X10_sign_1 13 rfl) mmN)))) (by decide +kernel)) ggX10_sign_X10_refuse
set_option maxRecDepth 100000 in
theorem ggX10_sign_X9_takesHands : GoodIn wsX10_sign wsX9_takesHands := goodIn_sub (mmC (mmI il_X10_sign_2 12 rfl) (mmA (mmC (mmI il_X10_sign_2 13 rfl) (mmC (mmI il_X10_sign_2 14 rfl) (mmC (mmI il_X10_sign_2 15 rfl) (mmC (mmI il_X10_sign_2 16 rfl) mmN)))) il_X10_sign_8)) gw_X9_takesHands
theorem gX10_sign_X9_takesHands : GoodIn wsX10_sign (wsV RX10 209 RX9 yX9_takesHands wsX9_takesHands) := goodIn_app (goodIn_sub (mmC (mmI il_X10_sign_2 8 rfl) (mmC (mmI il_X10_sign_2 9 rfl) (mmC (mmI il_X10_sign_2 10 rfl) (mmC (mmI il_X10_sign_2 11 rfl) mmN)))) (by decide +kernel)) ggX10_sign_X9_takesHands
set_option maxRecDepth 100000 in
theorem ggX10_sign_X10_isFree : GoodIn wsX10_sign wsX10_isFree := goodIn_sub (mmC (mmI il_X10_sign_2 20 rfl) (mmA (mmA (mmA (mmC (mmI il_X10_sign_1 0 rfl) (mmC (mmI il_X10_sign_1 9 rfl) (mmC (mmI il_X10_sign_2 21 rfl) (mmC (mmI il_X10_sign_2 22 rfl) (mmC (mmI il_X10_sign_2 23 rfl) (mmC (mmI il_X10_sign_3 0 rfl) (mmC (mmI il_X10_sign_1 5 rfl) (mmC (mmI il_X10_sign_3 1 rfl) (mmC (mmI il_X10_sign_3 2 rfl) (mmC (mmI il_X10_sign_3 3 rfl) (mmC (mmI il_X10_sign_3 4 rfl) (mmC (mmI il_X10_sign_3 5 rfl) (mmC (mmI il_X10_sign_3 6 rfl) mmN))))))))))))) il_X10_sign_6) il_X10_sign_7) il_X10_sign_8)) gw_X10_isFree
theorem gX10_sign_X10_isFree : GoodIn wsX10_sign (wsV RX10 212 RX10 yX10_isFree wsX10_isFree) := goodIn_app (goodIn_sub (mmC (mmI il_X10_sign_2 17 rfl) (mmC (mmI il_X10_sign_2 18 rfl) (mmC (mmI il_X10_sign_2 19 rfl) (mmC (mmI il_X10_sign_1 13 rfl) mmN)))) (by decide +kernel)) ggX10_sign_X10_isFree
set_option maxRecDepth 100000 in
theorem ggX10_sign_X10_signWorth : GoodIn wsX10_sign wsX10_signWorth := goodIn_sub (mmC (mmI il_X10_sign_3 10 rfl) (mmA (mmA (mmA (mmA (mmA (mmC (mmI il_X10_sign_3 11 rfl) (mmC (mmI il_X10_sign_1 6 rfl) (mmC (mmI il_X10_sign_3 12 rfl) (mmC (mmI il_X10_sign_3 13 rfl) (mmC (mmI il_X10_sign_3 14 rfl) (mmC (mmI il_X10_sign_3 15 rfl) (mmC (mmI il_X10_sign_3 16 rfl) (mmC (mmI il_X10_sign_3 17 rfl) (mmC (mmI il_X10_sign_3 18 rfl) (mmC (mmI il_X10_sign_3 19 rfl) (mmC (mmI il_X10_sign_3 20 rfl) (mmC (mmI il_X10_sign_3 21 rfl) (mmC (mmI il_X10_sign_3 22 rfl) (mmC (mmI il_X10_sign_3 23 rfl) (mmC (mmI il_X10_sign_4 0 rfl) (mmC (mmI il_X10_sign_4 1 rfl) (mmC (mmI il_X10_sign_4 2 rfl) (mmC (mmI il_X10_sign_4 3 rfl) (mmC (mmI il_X10_sign_4 4 rfl) (mmC (mmI il_X10_sign_4 5 rfl) (mmC (mmI il_X10_sign_4 6 rfl) (mmC (mmI il_X10_sign_4 7 rfl) (mmC (mmI il_X10_sign_4 8 rfl) (mmC (mmI il_X10_sign_4 9 rfl) mmN)))))))))))))))))))))))) (mmC (mmI il_X10_sign_4 10 rfl) (mmC (mmI il_X10_sign_4 11 rfl) (mmC (mmI il_X10_sign_4 12 rfl) (mmC (mmI il_X10_sign_4 13 rfl) (mmC (mmI il_X10_sign_4 14 rfl) (mmC (mmI il_X10_sign_4 15 rfl) (mmC (mmI il_X10_sign_4 16 rfl) (mmC (mmI il_X10_sign_4 17 rfl) (mmC (mmI il_X10_sign_4 18 rfl) (mmC (mmI il_X10_sign_4 19 rfl) (mmC (mmI il_X10_sign_4 20 rfl) (mmC (mmI il_X10_sign_4 21 rfl) (mmC (mmI il_X10_sign_4 22 rfl) (mmC (mmI il_X10_sign_4 23 rfl) (mmC (mmI il_X10_sign_5 0 rfl) (mmC (mmI il_X10_sign_5 1 rfl) mmN))))))))))))))))) il_X10_sign_6) il_X10_sign_9) il_X10_sign_10) il_X10_sign_11)) gw_X10_signWorth
theorem gX10_sign_X10_signWorth : GoodIn wsX10_sign (wsV RX10 216 RX10 yX10_signWorth wsX10_signWorth) := goodIn_app (goodIn_sub (mmC (mmI il_X10_sign_3 7 rfl) (mmC (mmI il_X10_sign_3 8 rfl) (mmC (mmI il_X10_sign_3 9 rfl) (mmC (mmI il_X10_sign_1 13 rfl) mmN)))) (by decide +kernel)) ggX10_sign_X10_signWorth
set_option maxRecDepth 100000 in
theorem ggX10_sign_X1_init : GoodIn wsX10_sign wsX1_init := goodIn_sub (mmC (mmI il_X10_sign_5 4 rfl) (mmA (mmC (mmI il_X10_sign_5 5 rfl) (mmC (mmI il_X10_sign_5 6 rfl) (mmC (mmI il_X10_sign_5 7 rfl) (mmC (mmI il_X10_sign_3 3 rfl) (mmC (mmI il_X10_sign_3 2 rfl) (mmC (mmI il_X10_sign_5 8 rfl) (mmC (mmI il_X10_sign_5 9 rfl) (mmC (mmI il_X10_sign_5 10 rfl) (mmC (mmI il_X10_sign_5 11 rfl) (mmC (mmI il_X10_sign_5 12 rfl) (mmC (mmI il_X10_sign_5 13 rfl) (mmC (mmI il_X10_sign_3 5 rfl) (mmC (mmI il_X10_sign_5 14 rfl) (mmC (mmI il_X10_sign_5 15 rfl) mmN)))))))))))))) il_X10_sign_7)) gw_X1_init
set_option maxRecDepth 20000 in
theorem gX10_sign_X1_init : GoodIn wsX10_sign (wsX1_init) := ggX10_sign_X1_init
theorem dX10_sign_0 : decode cX10_sign 0 = .ok (.aload_n 0, 1) := by decide +kernel
theorem dX10_sign_1 : decode cX10_sign 1 = .ok (.iload_n 1, 1) := by decide +kernel
theorem dX10_sign_2 : decode cX10_sign 2 = .ok (.invokevirtual 205, 3) := by decide +kernel
theorem dX10_sign_5 : decode cX10_sign 5 = .ok (.astore 6, 2) := by decide +kernel
theorem dX10_sign_7 : decode cX10_sign 7 = .ok (.aload_n 0, 1) := by decide +kernel
theorem dX10_sign_8 : decode cX10_sign 8 = .ok (.iload_n 2, 1) := by decide +kernel
theorem dX10_sign_9 : decode cX10_sign 9 = .ok (.invokevirtual 103, 3) := by decide +kernel
theorem dX10_sign_12 : decode cX10_sign 12 = .ok (.astore 7, 2) := by decide +kernel
theorem dX10_sign_14 : decode cX10_sign 14 = .ok (.aload_n 0, 1) := by decide +kernel
theorem dX10_sign_15 : decode cX10_sign 15 = .ok (.iload 5, 2) := by decide +kernel
theorem dX10_sign_17 : decode cX10_sign 17 = .ok (.invokevirtual 154, 3) := by decide +kernel
theorem dX10_sign_20 : decode cX10_sign 20 = .ok (.astore 8, 2) := by decide +kernel
theorem dX10_sign_22 : decode cX10_sign 22 = .ok (.aload 6, 2) := by decide +kernel
theorem dX10_sign_24 : decode cX10_sign 24 = .ok (.ifnull 19, 3) := by decide +kernel
theorem dX10_sign_27 : decode cX10_sign 27 = .ok (.aload 7, 2) := by decide +kernel
theorem dX10_sign_29 : decode cX10_sign 29 = .ok (.ifnull 14, 3) := by decide +kernel
theorem dX10_sign_32 : decode cX10_sign 32 = .ok (.aload 8, 2) := by decide +kernel
theorem dX10_sign_34 : decode cX10_sign 34 = .ok (.ifnonnull 15, 3) := by decide +kernel
theorem dX10_sign_37 : decode cX10_sign 37 = .ok (.iload 5, 2) := by decide +kernel
theorem dX10_sign_39 : decode cX10_sign 39 = .ok (.iconst (-1), 1) := by decide +kernel
theorem dX10_sign_40 : decode cX10_sign 40 = .ok (.if_icmp .eq 9, 3) := by decide +kernel
theorem dX10_sign_43 : decode cX10_sign 43 = .ok (.aload_n 0, 1) := by decide +kernel
theorem dX10_sign_44 : decode cX10_sign 44 = .ok (.iconst (-1), 1) := by decide +kernel
theorem dX10_sign_45 : decode cX10_sign 45 = .ok (.invokevirtual 69, 3) := by decide +kernel
theorem dX10_sign_48 : decode cX10_sign 48 = .ok (.ireturn, 1) := by decide +kernel
theorem dX10_sign_49 : decode cX10_sign 49 = .ok (.iload_n 3, 1) := by decide +kernel
theorem dX10_sign_50 : decode cX10_sign 50 = .ok (.iconst 1, 1) := by decide +kernel
theorem dX10_sign_51 : decode cX10_sign 51 = .ok (.if_icmp .lt 8, 3) := by decide +kernel
theorem dX10_sign_54 : decode cX10_sign 54 = .ok (.iload 4, 2) := by decide +kernel
theorem dX10_sign_56 : decode cX10_sign 56 = .ok (.ifCond .ge 10, 3) := by decide +kernel
theorem dX10_sign_59 : decode cX10_sign 59 = .ok (.aload_n 0, 1) := by decide +kernel
theorem dX10_sign_60 : decode cX10_sign 60 = .ok (.bipush (-4), 2) := by decide +kernel
theorem dX10_sign_62 : decode cX10_sign 62 = .ok (.invokevirtual 69, 3) := by decide +kernel
theorem dX10_sign_65 : decode cX10_sign 65 = .ok (.ireturn, 1) := by decide +kernel
theorem dX10_sign_66 : decode cX10_sign 66 = .ok (.iload_n 3, 1) := by decide +kernel
theorem dX10_sign_67 : decode cX10_sign 67 = .ok (.sipush 9999, 3) := by decide +kernel
theorem dX10_sign_70 : decode cX10_sign 70 = .ok (.if_icmp .gt 18, 3) := by decide +kernel
theorem dX10_sign_73 : decode cX10_sign 73 = .ok (.iload 4, 2) := by decide +kernel
theorem dX10_sign_75 : decode cX10_sign 75 = .ok (.iconst 4, 1) := by decide +kernel
theorem dX10_sign_76 : decode cX10_sign 76 = .ok (.if_icmp .ge 12, 3) := by decide +kernel
theorem dX10_sign_79 : decode cX10_sign 79 = .ok (.aload_n 0, 1) := by decide +kernel
theorem dX10_sign_80 : decode cX10_sign 80 = .ok (.getfield 115, 3) := by decide +kernel
theorem dX10_sign_83 : decode cX10_sign 83 = .ok (.bipush 60, 2) := by decide +kernel
theorem dX10_sign_85 : decode cX10_sign 85 = .ok (.if_icmp .lt 10, 3) := by decide +kernel
theorem dX10_sign_88 : decode cX10_sign 88 = .ok (.aload_n 0, 1) := by decide +kernel
theorem dX10_sign_89 : decode cX10_sign 89 = .ok (.bipush (-6), 2) := by decide +kernel
theorem dX10_sign_91 : decode cX10_sign 91 = .ok (.invokevirtual 69, 3) := by decide +kernel
theorem dX10_sign_94 : decode cX10_sign 94 = .ok (.ireturn, 1) := by decide +kernel
theorem dX10_sign_95 : decode cX10_sign 95 = .ok (.aload 8, 2) := by decide +kernel
theorem dX10_sign_97 : decode cX10_sign 97 = .ok (.ifnull 13, 3) := by decide +kernel
theorem dX10_sign_100 : decode cX10_sign 100 = .ok (.aload 8, 2) := by decide +kernel
theorem dX10_sign_102 : decode cX10_sign 102 = .ok (.getfield 126, 3) := by decide +kernel
theorem dX10_sign_105 : decode cX10_sign 105 = .ok (.ldc 114, 2) := by decide +kernel
theorem dX10_sign_107 : decode cX10_sign 107 = .ok (.if_icmp .eq 7, 3) := by decide +kernel
theorem dX10_sign_110 : decode cX10_sign 110 = .ok (.iconst 1, 1) := by decide +kernel
theorem dX10_sign_111 : decode cX10_sign 111 = .ok (.goto 4, 3) := by decide +kernel
theorem dX10_sign_114 : decode cX10_sign 114 = .ok (.iconst 0, 1) := by decide +kernel
theorem dX10_sign_115 : decode cX10_sign 115 = .ok (.istore 9, 2) := by decide +kernel
theorem dX10_sign_117 : decode cX10_sign 117 = .ok (.aload 7, 2) := by decide +kernel
theorem dX10_sign_119 : decode cX10_sign 119 = .ok (.invokevirtual 209, 3) := by decide +kernel
theorem dX10_sign_122 : decode cX10_sign 122 = .ok (.ifCond .eq 29, 3) := by decide +kernel
theorem dX10_sign_125 : decode cX10_sign 125 = .ok (.aload_n 0, 1) := by decide +kernel
theorem dX10_sign_126 : decode cX10_sign 126 = .ok (.aload 6, 2) := by decide +kernel
theorem dX10_sign_128 : decode cX10_sign 128 = .ok (.invokevirtual 212, 3) := by decide +kernel
theorem dX10_sign_131 : decode cX10_sign 131 = .ok (.ifCond .eq 20, 3) := by decide +kernel
theorem dX10_sign_134 : decode cX10_sign 134 = .ok (.iload 9, 2) := by decide +kernel
theorem dX10_sign_136 : decode cX10_sign 136 = .ok (.ifCond .eq 15, 3) := by decide +kernel
theorem dX10_sign_139 : decode cX10_sign 139 = .ok (.aload_n 0, 1) := by decide +kernel
theorem dX10_sign_140 : decode cX10_sign 140 = .ok (.aload 6, 2) := by decide +kernel
theorem dX10_sign_142 : decode cX10_sign 142 = .ok (.iload_n 3, 1) := by decide +kernel
theorem dX10_sign_143 : decode cX10_sign 143 = .ok (.iload 4, 2) := by decide +kernel
theorem dX10_sign_145 : decode cX10_sign 145 = .ok (.invokevirtual 216, 3) := by decide +kernel
theorem dX10_sign_148 : decode cX10_sign 148 = .ok (.ifCond .gt 10, 3) := by decide +kernel
theorem dX10_sign_151 : decode cX10_sign 151 = .ok (.aload_n 0, 1) := by decide +kernel
theorem dX10_sign_152 : decode cX10_sign 152 = .ok (.bipush (-3), 2) := by decide +kernel
theorem dX10_sign_154 : decode cX10_sign 154 = .ok (.invokevirtual 69, 3) := by decide +kernel
theorem dX10_sign_157 : decode cX10_sign 157 = .ok (.ireturn, 1) := by decide +kernel
theorem dX10_sign_158 : decode cX10_sign 158 = .ok (.new 21, 3) := by decide +kernel
theorem dX10_sign_161 : decode cX10_sign 161 = .ok (.dup, 1) := by decide +kernel
theorem dX10_sign_162 : decode cX10_sign 162 = .ok (.aload 6, 2) := by decide +kernel
theorem dX10_sign_164 : decode cX10_sign 164 = .ok (.aload 7, 2) := by decide +kernel
theorem dX10_sign_166 : decode cX10_sign 166 = .ok (.aload_n 0, 1) := by decide +kernel
theorem dX10_sign_167 : decode cX10_sign 167 = .ok (.getfield 73, 3) := by decide +kernel
theorem dX10_sign_170 : decode cX10_sign 170 = .ok (.aload 8, 2) := by decide +kernel
theorem dX10_sign_172 : decode cX10_sign 172 = .ok (.invokespecial 220, 3) := by decide +kernel
theorem dX10_sign_175 : decode cX10_sign 175 = .ok (.astore 10, 2) := by decide +kernel
theorem dX10_sign_177 : decode cX10_sign 177 = .ok (.aload 10, 2) := by decide +kernel
theorem dX10_sign_179 : decode cX10_sign 179 = .ok (.iload_n 3, 1) := by decide +kernel
theorem dX10_sign_180 : decode cX10_sign 180 = .ok (.putfield 223, 3) := by decide +kernel
theorem dX10_sign_183 : decode cX10_sign 183 = .ok (.aload 10, 2) := by decide +kernel
theorem dX10_sign_185 : decode cX10_sign 185 = .ok (.iload 4, 2) := by decide +kernel
theorem dX10_sign_187 : decode cX10_sign 187 = .ok (.putfield 226, 3) := by decide +kernel
theorem dX10_sign_190 : decode cX10_sign 190 = .ok (.aload_n 0, 1) := by decide +kernel
theorem dX10_sign_191 : decode cX10_sign 191 = .ok (.getfield 23, 3) := by decide +kernel
theorem dX10_sign_194 : decode cX10_sign 194 = .ok (.aload_n 0, 1) := by decide +kernel
theorem dX10_sign_195 : decode cX10_sign 195 = .ok (.getfield 115, 3) := by decide +kernel
theorem dX10_sign_198 : decode cX10_sign 198 = .ok (.aload 10, 2) := by decide +kernel
theorem dX10_sign_200 : decode cX10_sign 200 = .ok (.aastore, 1) := by decide +kernel
theorem dX10_sign_201 : decode cX10_sign 201 = .ok (.aload_n 0, 1) := by decide +kernel
theorem dX10_sign_202 : decode cX10_sign 202 = .ok (.dup, 1) := by decide +kernel
theorem dX10_sign_203 : decode cX10_sign 203 = .ok (.getfield 115, 3) := by decide +kernel
theorem dX10_sign_206 : decode cX10_sign 206 = .ok (.iconst 1, 1) := by decide +kernel
theorem dX10_sign_207 : decode cX10_sign 207 = .ok (.iadd, 1) := by decide +kernel
theorem dX10_sign_208 : decode cX10_sign 208 = .ok (.putfield 115, 3) := by decide +kernel
theorem dX10_sign_211 : decode cX10_sign 211 = .ok (.aload_n 0, 1) := by decide +kernel
theorem dX10_sign_212 : decode cX10_sign 212 = .ok (.getfield 115, 3) := by decide +kernel
theorem dX10_sign_215 : decode cX10_sign 215 = .ok (.iconst 1, 1) := by decide +kernel
theorem dX10_sign_216 : decode cX10_sign 216 = .ok (.isub, 1) := by decide +kernel
theorem dX10_sign_217 : decode cX10_sign 217 = .ok (.ireturn, 1) := by decide +kernel
set_option maxRecDepth 100000 in
theorem ggX10_fine_X10_agreementAt : GoodIn wsX10_fine wsX10_agreementAt := goodIn_sub (mmC (mmI il_X10_fine_1 13 rfl) (mmA (mmC (mmI il_X10_fine_1 14 rfl) (mmC (mmI il_X10_fine_1 15 rfl) mmN)) il_X10_fine_4)) gw_X10_agreementAt
theorem gX10_fine_X10_agreementAt : GoodIn wsX10_fine (wsV RX10 154 RX10 yX10_agreementAt wsX10_agreementAt) := goodIn_app (goodIn_sub (mmC (mmI il_X10_fine_1 9 rfl) (mmC (mmI il_X10_fine_1 10 rfl) (mmC (mmI il_X10_fine_1 11 rfl) (mmC (mmI il_X10_fine_1 12 rfl) mmN)))) (by decide +kernel)) ggX10_fine_X10_agreementAt
set_option maxRecDepth 100000 in
theorem ggX10_fine_X10_refuse : GoodIn wsX10_fine wsX10_refuse := goodIn_sub (mmC (mmI il_X10_fine_1 19 rfl) (mmA (mmC (mmI il_X10_fine_1 20 rfl) mmN) il_X10_fine_4)) gw_X10_refuse
theorem gX10_fine_X10_refuse : GoodIn wsX10_fine (wsV RX10 69 RX10 yX10_refuse wsX10_refuse) := goodIn_app (goodIn_sub (mmC (mmI il_X10_fine_1 16 rfl) (mmC (mmI il_X10_fine_1 17 rfl) (mmC (mmI il_X10_fine_1 18 rfl) (mmC (mmI il_X10_fine_1 12 rfl) mmN)))) (by decide +kernel)) ggX10_fine_X10_refuse
set_option maxRecDepth 100000 in
theorem ggX10_fine_X2_init : GoodIn wsX10_fine wsX2_init := goodIn_sub (mmC (mmI il_X10_fine_1 23 rfl) (mmA (mmC (mmI il_X10_fine_2 0 rfl) (mmC (mmI il_X10_fine_2 1 rfl) (mmC (mmI il_X10_fine_2 2 rfl) (mmC (mmI il_X10_fine_2 3 rfl) (mmC (mmI il_X10_fine_2 4 rfl) (mmC (mmI il_X10_fine_2 5 rfl) mmN)))))) il_X10_fine_5)) gw_X2_init
set_option maxRecDepth 20000 in
theorem gX10_fine_X2_init : GoodIn wsX10_fine (wsX2_init) := ggX10_fine_X2_init
theorem dX10_fine_0 : decode cX10_fine 0 = .ok (.aload_n 0, 1) := by decide +kernel
theorem dX10_fine_1 : decode cX10_fine 1 = .ok (.iload_n 1, 1) := by decide +kernel
theorem dX10_fine_2 : decode cX10_fine 2 = .ok (.invokevirtual 154, 3) := by decide +kernel
theorem dX10_fine_5 : decode cX10_fine 5 = .ok (.astore 5, 2) := by decide +kernel
theorem dX10_fine_7 : decode cX10_fine 7 = .ok (.aload 5, 2) := by decide +kernel
theorem dX10_fine_9 : decode cX10_fine 9 = .ok (.ifnonnull 9, 3) := by decide +kernel
theorem dX10_fine_12 : decode cX10_fine 12 = .ok (.aload_n 0, 1) := by decide +kernel
theorem dX10_fine_13 : decode cX10_fine 13 = .ok (.iconst (-1), 1) := by decide +kernel
theorem dX10_fine_14 : decode cX10_fine 14 = .ok (.invokevirtual 69, 3) := by decide +kernel
theorem dX10_fine_17 : decode cX10_fine 17 = .ok (.ireturn, 1) := by decide +kernel
theorem dX10_fine_18 : decode cX10_fine 18 = .ok (.aload 5, 2) := by decide +kernel
theorem dX10_fine_20 : decode cX10_fine 20 = .ok (.getfield 126, 3) := by decide +kernel
theorem dX10_fine_23 : decode cX10_fine 23 = .ok (.ldc 114, 2) := by decide +kernel
theorem dX10_fine_25 : decode cX10_fine 25 = .ok (.if_icmp .eq 10, 3) := by decide +kernel
theorem dX10_fine_28 : decode cX10_fine 28 = .ok (.aload_n 0, 1) := by decide +kernel
theorem dX10_fine_29 : decode cX10_fine 29 = .ok (.bipush (-3), 2) := by decide +kernel
theorem dX10_fine_31 : decode cX10_fine 31 = .ok (.invokevirtual 69, 3) := by decide +kernel
theorem dX10_fine_34 : decode cX10_fine 34 = .ok (.ireturn, 1) := by decide +kernel
theorem dX10_fine_35 : decode cX10_fine 35 = .ok (.iload_n 2, 1) := by decide +kernel
theorem dX10_fine_36 : decode cX10_fine 36 = .ok (.aload 5, 2) := by decide +kernel
theorem dX10_fine_38 : decode cX10_fine 38 = .ok (.getfield 255, 3) := by decide +kernel
theorem dX10_fine_41 : decode cX10_fine 41 = .ok (.if_icmp .lt 8, 3) := by decide +kernel
theorem dX10_fine_44 : decode cX10_fine 44 = .ok (.iload_n 3, 1) := by decide +kernel
theorem dX10_fine_45 : decode cX10_fine 45 = .ok (.iconst 1, 1) := by decide +kernel
theorem dX10_fine_46 : decode cX10_fine 46 = .ok (.if_icmp .ge 10, 3) := by decide +kernel
theorem dX10_fine_49 : decode cX10_fine 49 = .ok (.aload_n 0, 1) := by decide +kernel
theorem dX10_fine_50 : decode cX10_fine 50 = .ok (.bipush (-4), 2) := by decide +kernel
theorem dX10_fine_52 : decode cX10_fine 52 = .ok (.invokevirtual 69, 3) := by decide +kernel
theorem dX10_fine_55 : decode cX10_fine 55 = .ok (.ireturn, 1) := by decide +kernel
theorem dX10_fine_56 : decode cX10_fine 56 = .ok (.iload_n 2, 1) := by decide +kernel
theorem dX10_fine_57 : decode cX10_fine 57 = .ok (.aload_n 0, 1) := by decide +kernel
theorem dX10_fine_58 : decode cX10_fine 58 = .ok (.getfield 73, 3) := by decide +kernel
theorem dX10_fine_61 : decode cX10_fine 61 = .ok (.if_icmp .gt 20, 3) := by decide +kernel
theorem dX10_fine_64 : decode cX10_fine 64 = .ok (.iload_n 3, 1) := by decide +kernel
theorem dX10_fine_65 : decode cX10_fine 65 = .ok (.sipush 9999, 3) := by decide +kernel
theorem dX10_fine_68 : decode cX10_fine 68 = .ok (.if_icmp .gt 13, 3) := by decide +kernel
theorem dX10_fine_71 : decode cX10_fine 71 = .ok (.aload 5, 2) := by decide +kernel
theorem dX10_fine_73 : decode cX10_fine 73 = .ok (.getfield 258, 3) := by decide +kernel
theorem dX10_fine_76 : decode cX10_fine 76 = .ok (.bipush 6, 2) := by decide +kernel
theorem dX10_fine_78 : decode cX10_fine 78 = .ok (.if_icmp .lt 10, 3) := by decide +kernel
theorem dX10_fine_81 : decode cX10_fine 81 = .ok (.aload_n 0, 1) := by decide +kernel
theorem dX10_fine_82 : decode cX10_fine 82 = .ok (.bipush (-6), 2) := by decide +kernel
theorem dX10_fine_84 : decode cX10_fine 84 = .ok (.invokevirtual 69, 3) := by decide +kernel
theorem dX10_fine_87 : decode cX10_fine 87 = .ok (.ireturn, 1) := by decide +kernel
theorem dX10_fine_88 : decode cX10_fine 88 = .ok (.aload 5, 2) := by decide +kernel
theorem dX10_fine_90 : decode cX10_fine 90 = .ok (.getfield 261, 3) := by decide +kernel
theorem dX10_fine_93 : decode cX10_fine 93 = .ok (.aload 5, 2) := by decide +kernel
theorem dX10_fine_95 : decode cX10_fine 95 = .ok (.getfield 258, 3) := by decide +kernel
theorem dX10_fine_98 : decode cX10_fine 98 = .ok (.new 265, 3) := by decide +kernel
theorem dX10_fine_101 : decode cX10_fine 101 = .ok (.dup, 1) := by decide +kernel
theorem dX10_fine_102 : decode cX10_fine 102 = .ok (.iload_n 2, 1) := by decide +kernel
theorem dX10_fine_103 : decode cX10_fine 103 = .ok (.iload_n 3, 1) := by decide +kernel
theorem dX10_fine_104 : decode cX10_fine 104 = .ok (.iload 4, 2) := by decide +kernel
theorem dX10_fine_106 : decode cX10_fine 106 = .ok (.invokespecial 267, 3) := by decide +kernel
theorem dX10_fine_109 : decode cX10_fine 109 = .ok (.aastore, 1) := by decide +kernel
theorem dX10_fine_110 : decode cX10_fine 110 = .ok (.aload 5, 2) := by decide +kernel
theorem dX10_fine_112 : decode cX10_fine 112 = .ok (.dup, 1) := by decide +kernel
theorem dX10_fine_113 : decode cX10_fine 113 = .ok (.getfield 258, 3) := by decide +kernel
theorem dX10_fine_116 : decode cX10_fine 116 = .ok (.iconst 1, 1) := by decide +kernel
theorem dX10_fine_117 : decode cX10_fine 117 = .ok (.iadd, 1) := by decide +kernel
theorem dX10_fine_118 : decode cX10_fine 118 = .ok (.putfield 258, 3) := by decide +kernel
theorem dX10_fine_121 : decode cX10_fine 121 = .ok (.aload 5, 2) := by decide +kernel
theorem dX10_fine_123 : decode cX10_fine 123 = .ok (.getfield 258, 3) := by decide +kernel
theorem dX10_fine_126 : decode cX10_fine 126 = .ok (.ireturn, 1) := by decide +kernel
set_option maxRecDepth 100000 in
theorem ggX10_addTiding_X3_init : GoodIn wsX10_addTiding wsX3_init := goodIn_sub (mmC (mmI il_X10_addTiding_1 8 rfl) (mmA (mmC (mmI il_X10_addTiding_1 9 rfl) (mmC (mmI il_X10_addTiding_1 10 rfl) (mmC (mmI il_X10_addTiding_1 11 rfl) (mmC (mmI il_X10_addTiding_1 12 rfl) (mmC (mmI il_X10_addTiding_1 13 rfl) (mmC (mmI il_X10_addTiding_1 14 rfl) (mmC (mmI il_X10_addTiding_1 15 rfl) (mmC (mmI il_X10_addTiding_1 16 rfl) (mmC (mmI il_X10_addTiding_1 17 rfl) mmN))))))))) il_X10_addTiding_2)) gw_X3_init
set_option maxRecDepth 20000 in
theorem gX10_addTiding_X3_init : GoodIn wsX10_addTiding (wsX3_init) := ggX10_addTiding_X3_init
theorem dX10_addTiding_0 : decode cX10_addTiding 0 = .ok (.aload_n 1, 1) := by decide +kernel
theorem dX10_addTiding_1 : decode cX10_addTiding 1 = .ok (.new 142, 3) := by decide +kernel
theorem dX10_addTiding_4 : decode cX10_addTiding 4 = .ok (.dup, 1) := by decide +kernel
theorem dX10_addTiding_5 : decode cX10_addTiding 5 = .ok (.iload_n 2, 1) := by decide +kernel
theorem dX10_addTiding_6 : decode cX10_addTiding 6 = .ok (.iload_n 3, 1) := by decide +kernel
theorem dX10_addTiding_7 : decode cX10_addTiding 7 = .ok (.aload_n 0, 1) := by decide +kernel
theorem dX10_addTiding_8 : decode cX10_addTiding 8 = .ok (.getfield 73, 3) := by decide +kernel
theorem dX10_addTiding_11 : decode cX10_addTiding 11 = .ok (.iload 4, 2) := by decide +kernel
theorem dX10_addTiding_13 : decode cX10_addTiding 13 = .ok (.iload 5, 2) := by decide +kernel
theorem dX10_addTiding_15 : decode cX10_addTiding 15 = .ok (.aload_n 1, 1) := by decide +kernel
theorem dX10_addTiding_16 : decode cX10_addTiding 16 = .ok (.getfield 368, 3) := by decide +kernel
theorem dX10_addTiding_19 : decode cX10_addTiding 19 = .ok (.invokespecial 148, 3) := by decide +kernel
theorem dX10_addTiding_22 : decode cX10_addTiding 22 = .ok (.putfield 368, 3) := by decide +kernel
theorem dX10_addTiding_25 : decode cX10_addTiding 25 = .ok (.aload_n 0, 1) := by decide +kernel
theorem dX10_addTiding_26 : decode cX10_addTiding 26 = .ok (.dup, 1) := by decide +kernel
theorem dX10_addTiding_27 : decode cX10_addTiding 27 = .ok (.getfield 139, 3) := by decide +kernel
theorem dX10_addTiding_30 : decode cX10_addTiding 30 = .ok (.iconst 1, 1) := by decide +kernel
theorem dX10_addTiding_31 : decode cX10_addTiding 31 = .ok (.iadd, 1) := by decide +kernel
theorem dX10_addTiding_32 : decode cX10_addTiding 32 = .ok (.putfield 139, 3) := by decide +kernel
theorem dX10_addTiding_35 : decode cX10_addTiding 35 = .ok (.aload_n 0, 1) := by decide +kernel
theorem dX10_addTiding_36 : decode cX10_addTiding 36 = .ok (.getfield 139, 3) := by decide +kernel
theorem dX10_addTiding_39 : decode cX10_addTiding 39 = .ok (.ireturn, 1) := by decide +kernel
theorem in_wsX10_addTiding_X3 : ∀ w ∈ wsX30, w ∈ wsX10_addTiding := fun w h => List.mem_cons_of_mem _ (List.mem_append_left _ (List.mem_append_left _ (List.mem_append_right _ h)))
theorem in_wsX10_addTiding_X10 : ∀ w ∈ wsX100, w ∈ wsX10_addTiding := fun w h => List.mem_cons_of_mem _ (List.mem_append_left _ (List.mem_append_right _ h))
theorem in_wsX10_addTiding_X1 : ∀ w ∈ wsX10, w ∈ wsX10_addTiding := fun w h => List.mem_cons_of_mem _ (List.mem_append_right _ h)
theorem in_wsX10_died_X1 : ∀ w ∈ wsX10, w ∈ wsX10_died := fun w h => List.mem_cons_of_mem _ (List.mem_append_left _ (List.mem_append_left _ (List.mem_append_right _ h)))
theorem in_wsX10_heard_X3 : ∀ w ∈ wsX30, w ∈ wsX10_heard := fun w h => List.mem_cons_of_mem _ (List.mem_append_left _ (List.mem_append_left _ (List.mem_append_right _ h)))
theorem in_wsX10_heard_X10 : ∀ w ∈ wsX100, w ∈ wsX10_heard := fun w h => List.mem_cons_of_mem _ (List.mem_append_left _ (List.mem_append_right _ h))
theorem in_wsX10_heard_X9 : ∀ w ∈ wsX90, w ∈ wsX10_heard := fun w h => List.mem_cons_of_mem _ (List.mem_append_right _ h)
theorem in_wsX10_man_X10 : ∀ w ∈ wsX100, w ∈ wsX10_man := fun w h => List.mem_cons_of_mem _ (List.mem_append_left _ (List.mem_append_right _ h))
theorem in_wsX10_man_X6 : ∀ w ∈ wsX60, w ∈ wsX10_man := fun w h => List.mem_cons_of_mem _ (List.mem_append_right _ h)
theorem in_wsX10_voyage_X10 : ∀ w ∈ wsX100, w ∈ wsX10_voyage := fun w h => List.mem_cons_of_mem _ (List.mem_append_left _ (List.mem_append_right _ h))
theorem in_wsX10_voyage_X9 : ∀ w ∈ wsX90, w ∈ wsX10_voyage := fun w h => List.mem_cons_of_mem _ (List.mem_append_right _ h)
theorem in_wsX10_fine_X1 : ∀ w ∈ wsX10, w ∈ wsX10_fine := fun w h => List.mem_cons_of_mem _ (List.mem_append_left _ (List.mem_append_left _ (List.mem_append_right _ h)))
theorem in_wsX10_fine_X10 : ∀ w ∈ wsX100, w ∈ wsX10_fine := fun w h => List.mem_cons_of_mem _ (List.mem_append_left _ (List.mem_append_right _ h))
theorem in_wsX10_fine_X2 : ∀ w ∈ wsX20, w ∈ wsX10_fine := fun w h => List.mem_cons_of_mem _ (List.mem_append_right _ h)
theorem in_wsX10_sign_X10 : ∀ w ∈ wsX100, w ∈ wsX10_sign := fun w h => List.mem_cons_of_mem _ (List.mem_append_left _ (List.mem_append_left _ (List.mem_append_left _ (List.mem_append_left _ (List.mem_append_left _ (List.mem_append_right _ h))))))
theorem in_wsX10_sign_X1 : ∀ w ∈ wsX10, w ∈ wsX10_sign := fun w h => List.mem_cons_of_mem _ (List.mem_append_left _ (List.mem_append_left _ (List.mem_append_left _ (List.mem_append_left _ (List.mem_append_right _ h)))))

set_option maxHeartbeats 4000000 in
set_option maxRecDepth 100000 in
theorem c_X10_fine (l : Launch) (dC : Nat → ClassId) (dI : Nat → Nat → Nat) (sz : Nat) (cq : Nat → ClassId) (Z : oS) (gI : oInv Z) (o : Nat) (to : oty Z o 10) (x1 : Int32) (x2 : Int32) (x3 : Int32) (x4 : Int32) (hx4 : 0 ≤ x4.toInt ∧ x4.toInt ≤ 1) : Met l yX10_fine wsX10_fine ({ frames := 2, cells := 1, slots := 3, locals := 37 }) (va_Pc [.ref o, .int x1, .int x2, .int x3, .int x4] (pcW (dC, dI) (oT cq) (oW cq Z) sz)) (va_Qi (fun (r : Int32) (u : oS) => oInv u ∧ oX [113, 2017, 2107] Z u) (fun u t => va_P (dC, dI) vwCl (oW cq u) t.heap ∧ va_K (dC, dI) vwCl (oT cq) t ∧ va_D (va_A (oW cq Z) sz) (oW cq u)) (va_A (oW cq Z) sz)) 1 3 (va_A (oW cq Z) sz) := by
  refine Met.ofW (cc := cX10_fine) (maxL := 6) (ret := (some .int)) (by decide +kernel) rfl ?_
  intro p e s m args below meth c s₁ B hml hv
  obtain ⟨rfl, hsz, hP, hK, hD0⟩ := hv
  have hx := B.exec
  have hb := B.bytes
  have hr := B.returns
  have hts := atoms_spec (ws := wsX10_fine) B.pre
  have hown : s.vm.findClass RX10 = some m.cls := findClass_of_methodNamed B.named
  have hlocks := B.notSynchronized
  subst hsz
  have hD := hD0.self (sz := s.heap.size)
  generalize hAe : va_A (oW cq Z) s.heap.size = A at hD ⊢
  have hA : ∀ q : Nat, s.heap.size ≤ q → A q := fun q h => by rw [← hAe]; exact Or.inr h
  have hS : va_S A s.heap s.heap [] := va_S.rf
  have hP : va_P (dC, dI) vwCl (oW cq Z) s.heap := hP
  have hl := lv_entry ([.ref o, .int x1, .int x2, .int x3, .int x4]) (n := 6) (Nat.le_of_ble_eq_true rfl)
  rw [lg_entry_eq]
  generalize (lg_sl ([.ref o, .int x1, .int x2, .int x3, .int x4]) ++ List.replicate (6 - (lg_sl ([.ref o, .int x1, .int x2, .int x3, .int x4])).length) Slot.unset).toArray = ls at hl ⊢
  have hl : lv_has ls 6 [(0, .ref o), (1, .int x1), (2, .int x2), (3, .int x3), (4, .int x4)] := hl
  refine lv_aload_n hx hb dX10_fine_0 rfl (lv_at hl 0 rfl) ?_
  refine lv_iload_n hx hb dX10_fine_1 rfl (lv_at hl 1 rfl) ?_
  have hFc : ∀ q, va_A [] s.heap.size q → A q := pu_free hS hA
  obtain ⟨q_1, hq_1⟩ := og (cq := cq) to.1 (oE_10 to.2)
  refine va_callq (va_runV (As := [.int x1]) (rest := []) ⟨hx, hb, hml, hown, hts⟩ (c_X10_agreementAt l dC dI s.heap.size cq Z gI o to x1) (cwV 1 hts gX10_fine_X10_agreementAt rfl rfl rfl (by decide +kernel) ⟨(Nat.le_of_ble_eq_true rfl), (Nat.le_of_ble_eq_true rfl)⟩) (pr_V (r := (RX10, TX10, 16)) hP hK hD q_1 10 rfl hq_1) rfl rfl hl.1 rfl (lv_room (Nat.le_of_ble_eq_true rfl)) dX10_fine_2 ⟨(Nat.le_of_ble_eq_true rfl), (Nat.le_of_ble_eq_true rfl)⟩) hS (fun q _ h => hFc q h) hFc (fun r_3 u t H locs ht hvm w_2 hB hz1 hk1 hS => ?_)
  have hP := pu_keep hP hk1
  clear hk1 hz1 hvm hB ht hFc
  have hk_4 := w_2
  rcases r_3 with _ | b_5
  · refine W.eq (g2 := F0 m 5 ls [.null]) rfl ?_
    refine lv_astoreN (lv' := [(5, .null), (0, .ref o), (1, .int x1), (2, .int x2), (3, .int x3), (4, .int x4)]) hx hb dX10_fine_5 hl (by decide +kernel) rfl (fun ls hl => ?_)
    refine lv_aloadN hx hb dX10_fine_7 (lv_at hl 0 rfl) ?_
    refine lv_ifnonnullN hx hb dX10_fine_9 ?_
    refine lv_aload_n hx hb dX10_fine_12 rfl (lv_at hl 1 rfl) ?_
    refine lv_iconst (v := (-1)) hx hb dX10_fine_13 (by decide +kernel) ?_
    have hFc := o_free hD hS hA
    refine va_calli (va_runV (As := [.int (-1)]) (rest := []) ⟨hx, hb, hml, hown, hts⟩ (c_X10_refuse l dC dI H.size cq Z gI o to (-1) (by decide +kernel)) (cwV 1 hts gX10_fine_X10_refuse rfl rfl rfl (by decide +kernel) ⟨(Nat.le_of_ble_eq_true rfl), (Nat.le_of_ble_eq_true rfl)⟩) (pr_V (r := (RX10, TX10, 16)) hP hK hD q_1 10 rfl hq_1) rfl rfl hl.1 rfl (lv_room (Nat.le_of_ble_eq_true rfl)) dX10_fine_14 ⟨(Nat.le_of_ble_eq_true rfl), (Nat.le_of_ble_eq_true rfl)⟩) hS (fun q _ h => hFc q h) hFc (fun r_7 u t H locs ht hvm w_6 hB hz1 hk1 hS => ?_)
    obtain ⟨S_8, rfl⟩ : ∃ z, z = u := ⟨_, rfl⟩
    obtain ⟨hP1, hK1, hD1⟩ := hB
    rw [ht] at hP1
    have hP : va_P (dC, dI) vwCl (oW cq S_8) H := hP1
    have hD : va_D A (oW cq S_8) := hD1.weaken (fun _ _ _ h => hFc _ h)
    clear hP1 hK1 hD1 hk1 hz1 hvm ht hFc
    obtain ⟨hIS_8, XS_8, hb_9, hx_10⟩ := w_6
    have X_11 : oX [113, 2017, 2107] Z S_8 := oX.st oX.rf XS_8 (by decide +kernel)
    have rf_12 : r_7.toInt = -1 := by rw [hx_10]; decide
    refine W.widen (k := 1) (n := 3) (Nat.le_of_ble_eq_true rfl) (Nat.le_of_ble_eq_true rfl) ?_
    exact W.iret (v := r_7) hx hb hr (fun t ht hW => ⟨⟨r_7, S_8, rfl, ⟨hIS_8, X_11⟩, ⟨by rw [ht]; exact hP, va_K.moved hW.alike hK, hD⟩⟩, hS.F ht⟩) hS.2.2 dX10_fine_17
  · refine W.eq (g2 := F0 m 5 ls [.ref b_5]) rfl ?_
    have tb_5 : oty Z b_5 1 := hk_4 b_5 rfl
    refine lv_astore (lv' := [(5, .ref b_5), (0, .ref o), (1, .int x1), (2, .int x2), (3, .int x3), (4, .int x4)]) hx hb dX10_fine_5 hl (by decide +kernel) rfl (fun ls hl => ?_)
    refine lv_aload hx hb dX10_fine_7 (lv_at hl 0 rfl) ?_
    refine lv_ifnonnull (tgt := 18) hx hb dX10_fine_9 (by decide +kernel) ?_
    refine lv_aload hx hb dX10_fine_18 (lv_at hl 0 rfl) ?_
    obtain ⟨q_13, hq_13⟩ := og (cq := cq) tb_5.1 (oE_1 tb_5.2)
    refine va_get (D := (dC, dI)) (ci := 1) (v := .int (oI Z b_5 6)) (C := RX1) (T := TX1) (N := 18) hx hb hts in_wsX10_fine_X1 hown hK hP q_13 hq_13 rfl 6 (by decide +kernel) (hts (.fieldLink RX10 126 "ShipOffice$Agreement" "offDay" "I") iw_X10_fine_1) (fun _ h9 => h9) rfl dX10_fine_20 ?_
    refine lv_topi (fun x_14 ex_14 => ?_)
    have gx_14 : x_14.toInt = (oI Z b_5 6).toInt := iv_to ex_14
    clear ex_14
    refine lv_ldc (v := 1000000) hx hb hown (hts (.constant RX10 114 (1000000)) (by decide +kernel)) dX10_fine_23 ?_
    refine lv_icmp_eq (tgt := 35) hx hb dX10_fine_25 (by decide +kernel) (fun c_15 => ?_) (fun c_15 => ?_)
    · have dc_15 := c_eq (a := x_14.toInt) (b := 1000000) rfl (by decide +kernel) c_15
      refine lv_iload_n hx hb dX10_fine_35 rfl (lv_at hl 3 rfl) ?_
      refine lv_aload hx hb dX10_fine_36 (lv_at hl 0 rfl) ?_
      refine va_get (D := (dC, dI)) (ci := 1) (v := .int (oI Z b_5 2)) (C := RX1) (T := TX1) (N := 18) hx hb hts in_wsX10_fine_X1 hown hK hP q_13 hq_13 rfl 2 (by decide +kernel) (hts (.fieldLink RX10 255 "ShipOffice$Agreement" "signedOn" "I") iw_X10_fine_2) (fun _ h9 => h9) rfl dX10_fine_38 ?_
      refine lv_topi (fun x_16 ex_16 => ?_)
      clear ex_16
      refine lv_icmp_lt (tgt := 49) hx hb dX10_fine_41 (by decide +kernel) (fun c_17 => ?_) (fun c_17 => ?_)
      · have dc_17 := c_lt (a := x2.toInt) (b := x_16.toInt) rfl rfl c_17
        refine lv_aload_n hx hb dX10_fine_49 rfl (lv_at hl 1 rfl) ?_
        refine lv_bipush (v := (-4)) hx hb dX10_fine_50 (by decide +kernel) ?_
        have hFc := o_free hD hS hA
        refine va_calli (va_runV (As := [.int (-4)]) (rest := []) ⟨hx, hb, hml, hown, hts⟩ (c_X10_refuse l dC dI H.size cq Z gI o to (-4) (by decide +kernel)) (cwV 1 hts gX10_fine_X10_refuse rfl rfl rfl (by decide +kernel) ⟨(Nat.le_of_ble_eq_true rfl), (Nat.le_of_ble_eq_true rfl)⟩) (pr_V (r := (RX10, TX10, 16)) hP hK hD q_1 10 rfl hq_1) rfl rfl hl.1 rfl (lv_room (Nat.le_of_ble_eq_true rfl)) dX10_fine_52 ⟨(Nat.le_of_ble_eq_true rfl), (Nat.le_of_ble_eq_true rfl)⟩) hS (fun q _ h => hFc q h) hFc (fun r_19 u t H locs ht hvm w_18 hB hz1 hk1 hS => ?_)
        obtain ⟨S_20, rfl⟩ : ∃ z, z = u := ⟨_, rfl⟩
        obtain ⟨hP1, hK1, hD1⟩ := hB
        rw [ht] at hP1
        have hP : va_P (dC, dI) vwCl (oW cq S_20) H := hP1
        have hD : va_D A (oW cq S_20) := hD1.weaken (fun _ _ _ h => hFc _ h)
        clear hP1 hK1 hD1 hk1 hz1 hvm ht hFc
        obtain ⟨hIS_20, XS_20, hb_21, hx_22⟩ := w_18
        have X_23 : oX [113, 2017, 2107] Z S_20 := oX.st oX.rf XS_20 (by decide +kernel)
        have rf_24 : r_19.toInt = -4 := by rw [hx_22]; decide
        refine W.widen (k := 1) (n := 3) (Nat.le_of_ble_eq_true rfl) (Nat.le_of_ble_eq_true rfl) ?_
        exact W.iret (v := r_19) hx hb hr (fun t ht hW => ⟨⟨r_19, S_20, rfl, ⟨hIS_20, X_23⟩, ⟨by rw [ht]; exact hP, va_K.moved hW.alike hK, hD⟩⟩, hS.F ht⟩) hS.2.2 dX10_fine_55
      · have dc_17 := c_nlt (a := x2.toInt) (b := x_16.toInt) rfl rfl c_17
        refine lv_iload_n hx hb dX10_fine_44 rfl (lv_at hl 4 rfl) ?_
        refine lv_iconst (v := 1) hx hb dX10_fine_45 (by decide +kernel) ?_
        refine lv_icmp_ge (tgt := 56) hx hb dX10_fine_46 (by decide +kernel) (fun c_25 => ?_) (fun c_25 => ?_)
        · have dc_25 := c_le (a := 1) (b := x3.toInt) (by decide +kernel) rfl c_25
          refine lv_iload_n hx hb dX10_fine_56 rfl (lv_at hl 3 rfl) ?_
          refine lv_aload_n hx hb dX10_fine_57 rfl (lv_at hl 1 rfl) ?_
          refine va_get (D := (dC, dI)) (ci := 10) (v := .int (oI Z o 0)) (C := RX10) (T := TX10) (N := 16) hx hb hts in_wsX10_fine_X10 hown hK hP q_1 hq_1 rfl 0 (by decide +kernel) (hts (.fieldLink RX10 73 "ShipOffice" "now" "I") iw_X10_fine_3) (fun _ h9 => h9) rfl dX10_fine_58 ?_
          refine lv_topi (fun x_26 ex_26 => ?_)
          have hx_26 : 0 ≤ x_26.toInt ∧ x_26.toInt ≤ 3000 := iv_of ex_26 (oInv.iv gI to.2 rfl rfl)
          have gx_26 : x_26.toInt = (oI Z o 0).toInt := iv_to ex_26
          clear ex_26
          refine lv_icmp_gt (tgt := 81) hx hb dX10_fine_61 (by decide +kernel) (fun c_27 => ?_) (fun c_27 => ?_)
          · have dc_27 := c_lt (a := x_26.toInt) (b := x2.toInt) rfl rfl c_27
            refine lv_aload_n hx hb dX10_fine_81 rfl (lv_at hl 1 rfl) ?_
            refine lv_bipush (v := (-6)) hx hb dX10_fine_82 (by decide +kernel) ?_
            have hFc := o_free hD hS hA
            refine va_calli (va_runV (As := [.int (-6)]) (rest := []) ⟨hx, hb, hml, hown, hts⟩ (c_X10_refuse l dC dI H.size cq Z gI o to (-6) (by decide +kernel)) (cwV 1 hts gX10_fine_X10_refuse rfl rfl rfl (by decide +kernel) ⟨(Nat.le_of_ble_eq_true rfl), (Nat.le_of_ble_eq_true rfl)⟩) (pr_V (r := (RX10, TX10, 16)) hP hK hD q_1 10 rfl hq_1) rfl rfl hl.1 rfl (lv_room (Nat.le_of_ble_eq_true rfl)) dX10_fine_84 ⟨(Nat.le_of_ble_eq_true rfl), (Nat.le_of_ble_eq_true rfl)⟩) hS (fun q _ h => hFc q h) hFc (fun r_29 u t H locs ht hvm w_28 hB hz1 hk1 hS => ?_)
            obtain ⟨S_30, rfl⟩ : ∃ z, z = u := ⟨_, rfl⟩
            obtain ⟨hP1, hK1, hD1⟩ := hB
            rw [ht] at hP1
            have hP : va_P (dC, dI) vwCl (oW cq S_30) H := hP1
            have hD : va_D A (oW cq S_30) := hD1.weaken (fun _ _ _ h => hFc _ h)
            clear hP1 hK1 hD1 hk1 hz1 hvm ht hFc
            obtain ⟨hIS_30, XS_30, hb_31, hx_32⟩ := w_28
            have X_33 : oX [113, 2017, 2107] Z S_30 := oX.st oX.rf XS_30 (by decide +kernel)
            have rf_34 : r_29.toInt = -6 := by rw [hx_32]; decide
            refine W.widen (k := 1) (n := 3) (Nat.le_of_ble_eq_true rfl) (Nat.le_of_ble_eq_true rfl) ?_
            exact W.iret (v := r_29) hx hb hr (fun t ht hW => ⟨⟨r_29, S_30, rfl, ⟨hIS_30, X_33⟩, ⟨by rw [ht]; exact hP, va_K.moved hW.alike hK, hD⟩⟩, hS.F ht⟩) hS.2.2 dX10_fine_87
          · have dc_27 := c_nlt (a := x_26.toInt) (b := x2.toInt) rfl rfl c_27
            refine lv_iload_n hx hb dX10_fine_64 rfl (lv_at hl 4 rfl) ?_
            refine lv_sipush (v := 9999) hx hb dX10_fine_65 (by decide +kernel) ?_
            refine lv_icmp_gt (tgt := 81) hx hb dX10_fine_68 (by decide +kernel) (fun c_35 => ?_) (fun c_35 => ?_)
            · have dc_35 := c_lt (a := 9999) (b := x3.toInt) (by decide +kernel) rfl c_35
              refine lv_aload_n hx hb dX10_fine_81 rfl (lv_at hl 1 rfl) ?_
              refine lv_bipush (v := (-6)) hx hb dX10_fine_82 (by decide +kernel) ?_
              have hFc := o_free hD hS hA
              refine va_calli (va_runV (As := [.int (-6)]) (rest := []) ⟨hx, hb, hml, hown, hts⟩ (c_X10_refuse l dC dI H.size cq Z gI o to (-6) (by decide +kernel)) (cwV 1 hts gX10_fine_X10_refuse rfl rfl rfl (by decide +kernel) ⟨(Nat.le_of_ble_eq_true rfl), (Nat.le_of_ble_eq_true rfl)⟩) (pr_V (r := (RX10, TX10, 16)) hP hK hD q_1 10 rfl hq_1) rfl rfl hl.1 rfl (lv_room (Nat.le_of_ble_eq_true rfl)) dX10_fine_84 ⟨(Nat.le_of_ble_eq_true rfl), (Nat.le_of_ble_eq_true rfl)⟩) hS (fun q _ h => hFc q h) hFc (fun r_37 u t H locs ht hvm w_36 hB hz1 hk1 hS => ?_)
              obtain ⟨S_38, rfl⟩ : ∃ z, z = u := ⟨_, rfl⟩
              obtain ⟨hP1, hK1, hD1⟩ := hB
              rw [ht] at hP1
              have hP : va_P (dC, dI) vwCl (oW cq S_38) H := hP1
              have hD : va_D A (oW cq S_38) := hD1.weaken (fun _ _ _ h => hFc _ h)
              clear hP1 hK1 hD1 hk1 hz1 hvm ht hFc
              obtain ⟨hIS_38, XS_38, hb_39, hx_40⟩ := w_36
              have X_41 : oX [113, 2017, 2107] Z S_38 := oX.st oX.rf XS_38 (by decide +kernel)
              have rf_42 : r_37.toInt = -6 := by rw [hx_40]; decide
              refine W.widen (k := 1) (n := 3) (Nat.le_of_ble_eq_true rfl) (Nat.le_of_ble_eq_true rfl) ?_
              exact W.iret (v := r_37) hx hb hr (fun t ht hW => ⟨⟨r_37, S_38, rfl, ⟨hIS_38, X_41⟩, ⟨by rw [ht]; exact hP, va_K.moved hW.alike hK, hD⟩⟩, hS.F ht⟩) hS.2.2 dX10_fine_87
            · have dc_35 := c_nlt (a := 9999) (b := x3.toInt) (by decide +kernel) rfl c_35
              refine lv_aload hx hb dX10_fine_71 (lv_at hl 0 rfl) ?_
              refine va_get (D := (dC, dI)) (ci := 1) (v := .int (oI Z b_5 13)) (C := RX1) (T := TX1) (N := 18) hx hb hts in_wsX10_fine_X1 hown hK hP q_13 hq_13 rfl 13 (by decide +kernel) (hts (.fieldLink RX10 258 "ShipOffice$Agreement" "fineCount" "I") iw_X10_fine_4) (fun _ h9 => h9) rfl dX10_fine_73 ?_
              refine lv_topi (fun x_43 ex_43 => ?_)
              have hx_43 : 0 ≤ x_43.toInt ∧ x_43.toInt ≤ 6 := iv_of ex_43 (oInv.iv gI tb_5.2 rfl rfl)
              have gx_43 : x_43.toInt = (oI Z b_5 13).toInt := iv_to ex_43
              clear ex_43
              refine lv_bipush (v := 6) hx hb dX10_fine_76 (by decide +kernel) ?_
              refine lv_icmp_lt (tgt := 88) hx hb dX10_fine_78 (by decide +kernel) (fun c_44 => ?_) (fun c_44 => ?_)
              · have dc_44 := c_lt (a := x_43.toInt) (b := 6) rfl (by decide +kernel) c_44
                refine lv_aload hx hb dX10_fine_88 (lv_at hl 0 rfl) ?_
                obtain ⟨b_45, hb_45⟩ := oInv.nn (i := 12) gI tb_5 rfl
                refine va_get (D := (dC, dI)) (ci := 1) (v := .ref b_45) (C := RX1) (T := TX1) (N := 18) hx hb hts in_wsX10_fine_X1 hown hK hP q_13 hq_13 rfl 12 (by decide +kernel) (hts (.fieldLink RX10 261 "ShipOffice$Agreement" "fines" "[LShipOffice$Fine;") iw_X10_fine_5) (fun _ h9 => h9) (o_rd hb_45) dX10_fine_90 ?_
                have tb_45 : oty Z b_45 17 := oInv.rd gI tb_5.2 hb_45 rfl rfl
                refine lv_aload hx hb dX10_fine_93 (lv_at hl 0 rfl) ?_
                refine va_get (D := (dC, dI)) (ci := 1) (v := .int (oI Z b_5 13)) (C := RX1) (T := TX1) (N := 18) hx hb hts in_wsX10_fine_X1 hown hK hP q_13 hq_13 rfl 13 (by decide +kernel) (hts (.fieldLink RX10 258 "ShipOffice$Agreement" "fineCount" "I") iw_X10_fine_4) (fun _ h9 => h9) rfl dX10_fine_95 ?_
                refine lv_topi (fun x_46 ex_46 => ?_)
                have hx_46 : 0 ≤ x_46.toInt ∧ x_46.toInt ≤ 6 := iv_of ex_46 (oInv.iv gI tb_5.2 rfl rfl)
                have gx_46 : x_46.toInt = (oI Z b_5 13).toInt := iv_to ex_46
                clear ex_46
                refine va_new (ci := 2) (fs := [.int 0, .int 0, .int 0]) (C := RX2) (T := TX2) (N := 3) hx hb hts in_wsX10_fine_X2 tyX2 tyX2_ok hown (hts (.classLink RX10 265 RX2) iw_X10_fine_6) (hts (.instantiable RX2 3) iw_X10_fine_7) (hts (.initialized RX2) iw_X10_fine_8) hK hP hD hS hA rfl (fun j hj => by rcases (show j = 0 ∨ j = 1 ∨ j = 2 by omega) with rfl | rfl | rfl <;> rfl) (Nat.le_of_ble_eq_true rfl) (Nat.le_of_ble_eq_true rfl) dX10_fine_98 (fun q_47 H hP1 hD1 hS => ?_)
                have hnq_47 := add_q hD1
                obtain ⟨S_48, eS_48⟩ : ∃ zq, zq = addO Z q_47 32 := ⟨_, rfl⟩
                have hP : va_P (dC, dI) vwCl (oW cq S_48) H := by rw [eS_48]; exact cP (onew hD1 (by rw [oE_32 add_K, add_I])) hP1
                have hD : va_D A (oW cq S_48) := by rw [eS_48]; exact cD (onew hD1 (by rw [oE_32 add_K, add_I])) hD1
                clear hP1 hD1
                have hIS_48 : oInv S_48 := by rw [eS_48]; exact oInv.add gI hnq_47 (by decide +kernel)
                have XS_48 : oX [] Z S_48 := by rw [eS_48]; exact oX.add hnq_47
                have nzq_47 : q_47 ∉ oL Z := hnq_47
                have sr_49 : oP S_48 b_5 12 = some b_45 := by rw [eS_48, add_Pn hnq_47 tb_5.1]; exact hb_45
                have g_50 : (oI S_48 b_5 6).toInt = (oI Z b_5 6).toInt := by rw [eS_48, add_In hnq_47 tb_5.1]
                have g_51 : (oI S_48 b_5 13).toInt = (oI Z b_5 13).toInt := by rw [eS_48, add_In hnq_47 tb_5.1]
                have g_52 : (oI S_48 o 0).toInt = (oI Z o 0).toInt := by rw [eS_48, add_In hnq_47 to.1]
                have X_53 : oX [113, 2017, 2107] Z S_48 := oX.st oX.rf XS_48 (by decide +kernel)
                have tq_47 : oty S_48 q_47 32 := by rw [eS_48]; exact add_ty
                refine W.widen (k := 1) (n := 3) (Nat.le_of_ble_eq_true rfl) (Nat.le_of_ble_eq_true rfl) ?_
                refine lv_dup hx hb dX10_fine_101 rfl ?_
                refine lv_iload_n hx hb dX10_fine_102 rfl (lv_at hl 3 rfl) ?_
                refine lv_iload_n hx hb dX10_fine_103 rfl (lv_at hl 4 rfl) ?_
                refine lv_iload hx hb dX10_fine_104 (lv_at hl 5 rfl) ?_
                have hFc := o_free hD hS hA
                refine va_callv (va_runI (As := [.int x2, .int x3, .int x4]) (rest := [.ref q_47, .int x_46, .ref b_45]) ⟨hx, hb, hml, hown, hts⟩ (c_X2_init l dC dI H.size cq S_48 hIS_48 q_47 tq_47 x2 x3 x4 (by omega)) (cwI 3 hts gX10_fine_X2_init rfl rfl rfl (hts (.initialized RX2) iw_X10_fine_8) (hts (.methodLink RX10 267 yX2_init) iw_X10_fine_9) (hts (.instanceMethod yX2_init) iw_X10_fine_10) rfl (by decide +kernel) ⟨(Nat.le_of_ble_eq_true rfl), (Nat.le_of_ble_eq_true rfl)⟩) (pr_S hP hK hD) rfl rfl hl.1 rfl (lv_room (Nat.le_of_ble_eq_true rfl)) dX10_fine_106 ⟨(Nat.le_of_ble_eq_true rfl), (Nat.le_of_ble_eq_true rfl)⟩) hS (fun q _ h => hFc q h) hFc (fun u t H locs ht hvm w_54 hB hz1 hk1 hS => ?_)
                obtain ⟨S_56, rfl⟩ : ∃ z, z = u := ⟨_, rfl⟩
                obtain ⟨hP1, hK1, hD1⟩ := hB
                rw [ht] at hP1
                have hP : va_P (dC, dI) vwCl (oW cq S_56) H := hP1
                have hD : va_D A (oW cq S_56) := hD1.weaken (fun _ _ _ h => hFc _ h)
                clear hP1 hK1 hD1 hk1 hz1 hvm ht hFc
                obtain ⟨hIS_56, XS_56, hx_57⟩ := w_54
                have hxS_56 := hx_57
                have X_58 : oX [113, 2017, 2107] Z S_56 := oX.c X_53 XS_56 nzq_47 (by decide +kernel)
                have sr_59 : oP S_56 b_5 12 = some b_45 := by rw [oXc.p XS_56 (ty_ne (oX.ty XS_48 tb_5) tq_47 (by decide +kernel)) (oX.ty XS_48 tb_5) (by decide +kernel)]; exact sr_49
                have g_60 : (oI S_56 b_5 6).toInt = (oI S_48 b_5 6).toInt := by rw [oXc.i XS_56 (ty_ne (oX.ty XS_48 tb_5) tq_47 (by decide +kernel)) (oX.ty XS_48 tb_5) (by decide +kernel)]
                have g_61 : (oI S_56 b_5 13).toInt = (oI S_48 b_5 13).toInt := by rw [oXc.i XS_56 (ty_ne (oX.ty XS_48 tb_5) tq_47 (by decide +kernel)) (oX.ty XS_48 tb_5) (by decide +kernel)]
                have g_62 : (oI S_56 o 0).toInt = (oI S_48 o 0).toInt := by rw [oXc.i XS_56 (ty_ne (oX.ty XS_48 to) tq_47 (by decide +kernel)) (oX.ty XS_48 to) (by decide +kernel)]
                have t_63 : oty S_56 b_45 17 := (oXc.ty XS_56 (ty_ne (oX.ty XS_48 tb_45) tq_47 (by decide +kernel)) (oX.ty XS_48 tb_45))
                obtain ⟨q_64, hq_64⟩ := og (cq := cq) t_63.1 (oE_17 t_63.2)
                obtain ⟨q_65, hq_65⟩ := og (cq := cq) hxS_56.1 (oE_2 hxS_56.2)
                refine va_astq (r := (RX2, TX2, 3)) hx hb hK hP hD hS q_64 6 q_65 2 hq_64 rfl hq_65 rfl (vp_in_iff.mpr (by omega)) dX10_fine_109 (fun H locs hP1 hD1 hS => ?_)
                obtain ⟨S_66, eS_66⟩ : ∃ zq, zq = setP S_56 b_45 (x_46 : Int32).toNatClampNeg (some q_47) := ⟨_, rfl⟩
                have hP : va_P (dC, dI) vwCl (oW cq S_66) H := by rw [eS_66]; exact cP (oset t_63.1 hq_64 hD rfl (he_17 t_63.2) neP) hP1
                have hD : va_D A (oW cq S_66) := by rw [eS_66]; exact cD (oset t_63.1 hq_64 hD rfl (he_17 t_63.2) neP) hD1
                clear hP1 hD1
                have hIS_66 : oInv S_66 := by rw [eS_66]; exact oInv.P (k := 17) hIS_56 t_63.2 (by decide +kernel) rfl (fun h => absurd h.1 (by decide +kernel)) hxS_56 (show 2 ≤ 2 ∧ 2 ≤ 2 from ⟨Nat.le_refl _, Nat.le_refl _⟩)
                have XS_66 : oX [2017] S_56 S_66 := by rw [eS_66]; exact oX.P (k := 17) (key := 2017) t_63.2 rfl (List.mem_singleton.mpr rfl)
                have X_67 : oX [113, 2017, 2107] Z S_66 := oX.st X_58 XS_66 (by decide +kernel)
                have g_68 : (oI S_66 b_5 6).toInt = (oI S_56 b_5 6).toInt := by rw [eS_66]; rfl
                have g_69 : (oI S_66 b_5 13).toInt = (oI S_56 b_5 13).toInt := by rw [eS_66]; rfl
                have g_70 : (oI S_66 o 0).toInt = (oI S_56 o 0).toInt := by rw [eS_66]; rfl
                have helS_66 : oP S_66 b_45 (x_46 : Int32).toNatClampNeg = some q_47 := by rw [eS_66, setP_same]
                have hsrS_66 : oP S_66 b_5 12 = some b_45 := by rw [eS_66, setP_oth (ty_ne (oXc.ty XS_56 (ty_ne (oX.ty XS_48 tb_5) tq_47 (by decide +kernel)) (oX.ty XS_48 tb_5)) t_63 (by decide +kernel))]; exact sr_59
                refine lv_aload hx hb dX10_fine_110 (lv_at hl 0 rfl) ?_
                refine lv_dup hx hb dX10_fine_112 rfl ?_
                have t_71 : oty S_66 b_5 1 := (oX.ty XS_66 (oXc.ty XS_56 (ty_ne (oX.ty XS_48 tb_5) tq_47 (by decide +kernel)) (oX.ty XS_48 tb_5)))
                obtain ⟨q_72, hq_72⟩ := og (cq := cq) t_71.1 (oE_1 t_71.2)
                refine va_get (D := (dC, dI)) (ci := 1) (v := .int (oI S_66 b_5 13)) (C := RX1) (T := TX1) (N := 18) hx hb hts in_wsX10_fine_X1 hown hK hP q_72 hq_72 rfl 13 (by decide +kernel) (hts (.fieldLink RX10 258 "ShipOffice$Agreement" "fineCount" "I") iw_X10_fine_4) (fun _ h9 => h9) rfl dX10_fine_113 ?_
                refine lv_topi (fun x_73 ex_73 => ?_)
                have hx_73 : 0 ≤ x_73.toInt ∧ x_73.toInt ≤ 6 := iv_of ex_73 (oInv.iv hIS_66 t_71.2 rfl rfl)
                have gx_73 : x_73.toInt = (oI S_66 b_5 13).toInt := iv_to ex_73
                clear ex_73
                refine lv_iconst (v := 1) hx hb dX10_fine_116 (by decide +kernel) ?_
                refine lv_iadd hx hb dX10_fine_117 ?_
                refine lv_topi (fun x_74 ex_74 => ?_)
                have hx_74 : x_74.toInt = x_73.toInt + 1 := (iv_to ex_74).trans (ad_i rfl (by decide +kernel) (by omega) (by omega))
                clear ex_74
                refine va_put (D := (dC, dI)) (ci := 1) (v := .int x_74) (ty := .int) (C := RX1) (T := TX1) (N := 18) hx hb hts in_wsX10_fine_X1 tyX1 tyX1_ok nmX1 hown hK hP hD hS q_72 hq_72 rfl 13 (by decide +kernel) (hts (.fieldLink RX10 258 "ShipOffice$Agreement" "fineCount" "I") iw_X10_fine_4) (fun _ h9 => h9) rfl (by decide +kernel) rfl rfl (Nat.le_of_ble_eq_true rfl) dX10_fine_118 (fun H locs hP1 hD1 hS => ?_)
                obtain ⟨S_75, eS_75⟩ : ∃ zq, zq = setI S_66 b_5 13 x_74 := ⟨_, rfl⟩
                have hP : va_P (dC, dI) vwCl (oW cq S_75) H := by rw [eS_75]; exact cP (oset t_71.1 hq_72 hD rfl (he_1_13 t_71.2) neI) hP1
                have hD : va_D A (oW cq S_75) := by rw [eS_75]; exact cD (oset t_71.1 hq_72 hD rfl (he_1_13 t_71.2) neI) hD1
                clear hP1 hD1
                have hIS_75 : oInv S_75 := by rw [eS_75]; exact oInv.I (k := 1) (lo := 0) (hi := 6) hIS_66 t_71.2 (by decide +kernel) rfl rfl (by omega) (inv_cnt hIS_66 t_71 rfl hsrS_66 (by omega) (by omega) ⟨_, by rw [← cnt_at (x := x_46) (S := S_66) (a := b_5) (i := 13) (by omega)]; exact helS_66⟩)
                have XS_75 : oX [113] S_66 S_75 := by rw [eS_75]; exact oX.I (k := 1) (key := 113) t_71.2 rfl (List.mem_singleton.mpr rfl)
                have X_76 : oX [113, 2017, 2107] Z S_75 := oX.st X_67 XS_75 (by decide +kernel)
                have g_77 : (oI S_75 b_5 6).toInt = (oI S_66 b_5 6).toInt := by rw [eS_75, setI_ne (by decide +kernel)]
                have g_78 : (oI S_75 b_5 13).toInt = x_74.toInt := by rw [eS_75, setI_same]
                have g_79 : (oI S_75 o 0).toInt = (oI S_66 o 0).toInt := by rw [eS_75, setI_oth (ty_ne (oX.ty XS_66 (oXc.ty XS_56 (ty_ne (oX.ty XS_48 to) tq_47 (by decide +kernel)) (oX.ty XS_48 to))) t_71 (by decide +kernel))]
                refine lv_aload hx hb dX10_fine_121 (lv_at hl 0 rfl) ?_
                have t_80 : oty S_75 b_5 1 := (oX.ty XS_75 t_71)
                obtain ⟨q_81, hq_81⟩ := og (cq := cq) t_80.1 (oE_1 t_80.2)
                refine va_get (D := (dC, dI)) (ci := 1) (v := .int (oI S_75 b_5 13)) (C := RX1) (T := TX1) (N := 18) hx hb hts in_wsX10_fine_X1 hown hK hP q_81 hq_81 rfl 13 (by decide +kernel) (hts (.fieldLink RX10 258 "ShipOffice$Agreement" "fineCount" "I") iw_X10_fine_4) (fun _ h9 => h9) rfl dX10_fine_123 ?_
                refine lv_topi (fun x_82 ex_82 => ?_)
                have hx_82 : 0 ≤ x_82.toInt ∧ x_82.toInt ≤ 6 := iv_of ex_82 (oInv.iv hIS_75 t_80.2 rfl rfl)
                have gx_82 : x_82.toInt = (oI S_75 b_5 13).toInt := iv_to ex_82
                clear ex_82
                exact W.iret (v := x_82) hx hb hr (fun t ht hW => ⟨⟨x_82, S_75, rfl, ⟨hIS_75, X_76⟩, ⟨by rw [ht]; exact hP, va_K.moved hW.alike hK, hD⟩⟩, hS.F ht⟩) hS.2.2 dX10_fine_126
              · have dc_44 := c_nlt (a := x_43.toInt) (b := 6) rfl (by decide +kernel) c_44
                refine lv_aload_n hx hb dX10_fine_81 rfl (lv_at hl 1 rfl) ?_
                refine lv_bipush (v := (-6)) hx hb dX10_fine_82 (by decide +kernel) ?_
                have hFc := o_free hD hS hA
                refine va_calli (va_runV (As := [.int (-6)]) (rest := []) ⟨hx, hb, hml, hown, hts⟩ (c_X10_refuse l dC dI H.size cq Z gI o to (-6) (by decide +kernel)) (cwV 1 hts gX10_fine_X10_refuse rfl rfl rfl (by decide +kernel) ⟨(Nat.le_of_ble_eq_true rfl), (Nat.le_of_ble_eq_true rfl)⟩) (pr_V (r := (RX10, TX10, 16)) hP hK hD q_1 10 rfl hq_1) rfl rfl hl.1 rfl (lv_room (Nat.le_of_ble_eq_true rfl)) dX10_fine_84 ⟨(Nat.le_of_ble_eq_true rfl), (Nat.le_of_ble_eq_true rfl)⟩) hS (fun q _ h => hFc q h) hFc (fun r_84 u t H locs ht hvm w_83 hB hz1 hk1 hS => ?_)
                obtain ⟨S_85, rfl⟩ : ∃ z, z = u := ⟨_, rfl⟩
                obtain ⟨hP1, hK1, hD1⟩ := hB
                rw [ht] at hP1
                have hP : va_P (dC, dI) vwCl (oW cq S_85) H := hP1
                have hD : va_D A (oW cq S_85) := hD1.weaken (fun _ _ _ h => hFc _ h)
                clear hP1 hK1 hD1 hk1 hz1 hvm ht hFc
                obtain ⟨hIS_85, XS_85, hb_86, hx_87⟩ := w_83
                have X_88 : oX [113, 2017, 2107] Z S_85 := oX.st oX.rf XS_85 (by decide +kernel)
                have rf_89 : r_84.toInt = -6 := by rw [hx_87]; decide
                refine W.widen (k := 1) (n := 3) (Nat.le_of_ble_eq_true rfl) (Nat.le_of_ble_eq_true rfl) ?_
                exact W.iret (v := r_84) hx hb hr (fun t ht hW => ⟨⟨r_84, S_85, rfl, ⟨hIS_85, X_88⟩, ⟨by rw [ht]; exact hP, va_K.moved hW.alike hK, hD⟩⟩, hS.F ht⟩) hS.2.2 dX10_fine_87
        · have dc_25 := c_nle (a := 1) (b := x3.toInt) (by decide +kernel) rfl c_25
          refine lv_aload_n hx hb dX10_fine_49 rfl (lv_at hl 1 rfl) ?_
          refine lv_bipush (v := (-4)) hx hb dX10_fine_50 (by decide +kernel) ?_
          have hFc := o_free hD hS hA
          refine va_calli (va_runV (As := [.int (-4)]) (rest := []) ⟨hx, hb, hml, hown, hts⟩ (c_X10_refuse l dC dI H.size cq Z gI o to (-4) (by decide +kernel)) (cwV 1 hts gX10_fine_X10_refuse rfl rfl rfl (by decide +kernel) ⟨(Nat.le_of_ble_eq_true rfl), (Nat.le_of_ble_eq_true rfl)⟩) (pr_V (r := (RX10, TX10, 16)) hP hK hD q_1 10 rfl hq_1) rfl rfl hl.1 rfl (lv_room (Nat.le_of_ble_eq_true rfl)) dX10_fine_52 ⟨(Nat.le_of_ble_eq_true rfl), (Nat.le_of_ble_eq_true rfl)⟩) hS (fun q _ h => hFc q h) hFc (fun r_91 u t H locs ht hvm w_90 hB hz1 hk1 hS => ?_)
          obtain ⟨S_92, rfl⟩ : ∃ z, z = u := ⟨_, rfl⟩
          obtain ⟨hP1, hK1, hD1⟩ := hB
          rw [ht] at hP1
          have hP : va_P (dC, dI) vwCl (oW cq S_92) H := hP1
          have hD : va_D A (oW cq S_92) := hD1.weaken (fun _ _ _ h => hFc _ h)
          clear hP1 hK1 hD1 hk1 hz1 hvm ht hFc
          obtain ⟨hIS_92, XS_92, hb_93, hx_94⟩ := w_90
          have X_95 : oX [113, 2017, 2107] Z S_92 := oX.st oX.rf XS_92 (by decide +kernel)
          have rf_96 : r_91.toInt = -4 := by rw [hx_94]; decide
          refine W.widen (k := 1) (n := 3) (Nat.le_of_ble_eq_true rfl) (Nat.le_of_ble_eq_true rfl) ?_
          exact W.iret (v := r_91) hx hb hr (fun t ht hW => ⟨⟨r_91, S_92, rfl, ⟨hIS_92, X_95⟩, ⟨by rw [ht]; exact hP, va_K.moved hW.alike hK, hD⟩⟩, hS.F ht⟩) hS.2.2 dX10_fine_55
    · have dc_15 := c_ne (a := x_14.toInt) (b := 1000000) rfl (by decide +kernel) c_15
      refine lv_aload_n hx hb dX10_fine_28 rfl (lv_at hl 1 rfl) ?_
      refine lv_bipush (v := (-3)) hx hb dX10_fine_29 (by decide +kernel) ?_
      have hFc := o_free hD hS hA
      refine va_calli (va_runV (As := [.int (-3)]) (rest := []) ⟨hx, hb, hml, hown, hts⟩ (c_X10_refuse l dC dI H.size cq Z gI o to (-3) (by decide +kernel)) (cwV 1 hts gX10_fine_X10_refuse rfl rfl rfl (by decide +kernel) ⟨(Nat.le_of_ble_eq_true rfl), (Nat.le_of_ble_eq_true rfl)⟩) (pr_V (r := (RX10, TX10, 16)) hP hK hD q_1 10 rfl hq_1) rfl rfl hl.1 rfl (lv_room (Nat.le_of_ble_eq_true rfl)) dX10_fine_31 ⟨(Nat.le_of_ble_eq_true rfl), (Nat.le_of_ble_eq_true rfl)⟩) hS (fun q _ h => hFc q h) hFc (fun r_98 u t H locs ht hvm w_97 hB hz1 hk1 hS => ?_)
      obtain ⟨S_99, rfl⟩ : ∃ z, z = u := ⟨_, rfl⟩
      obtain ⟨hP1, hK1, hD1⟩ := hB
      rw [ht] at hP1
      have hP : va_P (dC, dI) vwCl (oW cq S_99) H := hP1
      have hD : va_D A (oW cq S_99) := hD1.weaken (fun _ _ _ h => hFc _ h)
      clear hP1 hK1 hD1 hk1 hz1 hvm ht hFc
      obtain ⟨hIS_99, XS_99, hb_100, hx_101⟩ := w_97
      have X_102 : oX [113, 2017, 2107] Z S_99 := oX.st oX.rf XS_99 (by decide +kernel)
      have rf_103 : r_98.toInt = -3 := by rw [hx_101]; decide
      refine W.widen (k := 1) (n := 3) (Nat.le_of_ble_eq_true rfl) (Nat.le_of_ble_eq_true rfl) ?_
      exact W.iret (v := r_98) hx hb hr (fun t ht hW => ⟨⟨r_98, S_99, rfl, ⟨hIS_99, X_102⟩, ⟨by rw [ht]; exact hP, va_K.moved hW.alike hK, hD⟩⟩, hS.F ht⟩) hS.2.2 dX10_fine_34